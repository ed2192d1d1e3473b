/-! from 95.u27 -/
/-! AGES, the class (written by wip/tools/gen15y.py) -/
theorem g_3_82_sy_0 {X : Nat × (Nat → Int32)} {d w : Nat} {S : ma_S} {Q : Option ma_V ⊕ Nat → ma_S → Prop} (z : Int32) (hd : 5 ≤ d) (hw : 180 ≤ w) (hS : zT S) (h : if z ≤ ((mI S 82 2) / (2 : Int32)) then (if ((mI S 82 7) + (mI S 82 2)) < ((mI S 82 8) + z) then (ma_wp X (d - 1) (w - 21) 11 0 [(0, .inr (.inr (some 82)))] [] S (zi (fun v2 S1 => zT S1 ∧ (if ((mI S1 82 7) + (mI S1 82 2)) < ((mI S1 82 8) + z) then (ma_wp X (d - 1) (w - 21) 5 0 [(0, .inr (.inr (some 82)))] [] S1 (zi (fun v4 S3 => zT S3 ∧ (ma_wp X (d - 1) (w - 21) 11 0 [(0, .inr (.inr (some 82)))] [] S3 (zi (fun v6 S5 => zT S5 ∧ (if ((mI S5 82 7) + (mI S5 82 2)) < ((mI S5 82 8) + z) then (Q (.inl (some (.inl (-1 : Int32)))) S5) else (Q (.inl (some (.inl (mI S5 82 8)))) S5))) (fun x S9 => Q (.inr x) S9)))) (fun x S9 => Q (.inr x) S9))) else (if ((mI S1 82 7) + (mI S1 82 2)) < ((mI S1 82 8) + z) then (Q (.inl (some (.inl (-1 : Int32)))) S1) else (Q (.inl (some (.inl (mI S1 82 8)))) S1)))) (fun x S9 => Q (.inr x) S9))) else (if ((mI S 82 7) + (mI S 82 2)) < ((mI S 82 8) + z) then (ma_wp X (d - 1) (w - 21) 5 0 [(0, .inr (.inr (some 82)))] [] S (zi (fun v8 S7 => zT S7 ∧ (ma_wp X (d - 1) (w - 21) 11 0 [(0, .inr (.inr (some 82)))] [] S7 (zi (fun v10 S9 => zT S9 ∧ (if ((mI S9 82 7) + (mI S9 82 2)) < ((mI S9 82 8) + z) then (Q (.inl (some (.inl (-1 : Int32)))) S9) else (Q (.inl (some (.inl (mI S9 82 8)))) S9))) (fun x S9 => Q (.inr x) S9)))) (fun x S9 => Q (.inr x) S9))) else (if ((mI S 82 7) + (mI S 82 2)) < ((mI S 82 8) + z) then (Q (.inl (some (.inl (-1 : Int32)))) S) else (Q (.inl (some (.inl (mI S 82 8)))) S)))) else (ma_wp X (d - 1) (w - 21) 4 0 [(0, .inr (.inr (some 82))), (1, .inl z)] [] S (zi (fun v12 S11 => zT S11 ∧ (Q (.inl (some (.inl v12))) S11)) (fun x S9 => Q (.inr x) S9)))) : ma_wp X d w 3 0 [(0, .inr (.inr (some 82))), (1, .inl z)] [] S Q := by
  refine zw_push hm_3 dX0_findRoom_0 (v := .inl z) rfl ?_
  refine zw_push hm_3 dX0_findRoom_1 (v := .inr (.inr (some 82))) rfl ?_
  refine zw_gf hm_3 dX0_findRoom_2 (v := .inl (mI S 82 2)) (zT_is hS s_82) (zT_t hS s_82) rfl f_1_15_1 rfl ?_
  refine zw_push hm_3 dX0_findRoom_5 (v := .inl (2 : Int32)) rfl ?_
  refine zw_stk hm_3 dX0_findRoom_6 (st₉ := [.inl ((mI S 82 2) / (2 : Int32)), .inl z]) rfl rfl ?_
  refine zw_if2 hm_3 dX0_findRoom_7 (t := 16) rfl zc2_le ?_ ?_
  · intro hc
    rw [if_pos hc] at h
    refine zw_push hm_3 dX0_findRoom_16 (v := .inr (.inr (some 82))) rfl ?_
    refine zw_push hm_3 dX0_findRoom_17 (v := .inl z) rfl ?_
    refine zw_cv hm_3 dX0_findRoom_18 v_1_47_1 hm_10 [.inl z] [] rfl (zT_rt hS s_82 rfl) ⟨by omega, by omega⟩ rfl ?_
    show ma_wp X (d - 1) (w - 21) 10 0 [(0, .inr (.inr (some 82))), (1, .inl z)] [] S _
    refine zw_push hm_10 dX0_hasYoungRoom_0 (v := .inr (.inr (some 82))) rfl ?_
    refine zw_gf hm_10 dX0_hasYoungRoom_1 (v := .inl (mI S 82 8)) (zT_is hS s_82) (zT_t hS s_82) rfl f_1_34_1 rfl ?_
    refine zw_push hm_10 dX0_hasYoungRoom_4 (v := .inl z) rfl ?_
    refine zw_stk hm_10 dX0_hasYoungRoom_5 (st₉ := [.inl ((mI S 82 8) + z)]) rfl rfl ?_
    refine zw_push hm_10 dX0_hasYoungRoom_6 (v := .inr (.inr (some 82))) rfl ?_
    refine zw_gf hm_10 dX0_hasYoungRoom_7 (v := .inl (mI S 82 7)) (zT_is hS s_82) (zT_t hS s_82) rfl f_1_31_1 rfl ?_
    refine zw_push hm_10 dX0_hasYoungRoom_10 (v := .inr (.inr (some 82))) rfl ?_
    refine zw_gf hm_10 dX0_hasYoungRoom_11 (v := .inl (mI S 82 2)) (zT_is hS s_82) (zT_t hS s_82) rfl f_1_15_1 rfl ?_
    refine zw_stk hm_10 dX0_hasYoungRoom_14 (st₉ := [.inl ((mI S 82 7) + (mI S 82 2)), .inl ((mI S 82 8) + z)]) rfl rfl ?_
    refine zw_if2 hm_10 dX0_hasYoungRoom_15 (t := 22) rfl zc2_gt ?_ ?_
    · intro hc
      rw [if_pos hc] at h
      refine zw_push hm_10 dX0_hasYoungRoom_22 (v := .inl (0 : Int32)) rfl ?_
      refine zw_bret hm_10 dX0_hasYoungRoom_23 (by decide) ?_
      show ma_wp X d w 3 21 [(0, .inr (.inr (some 82))), (1, .inl z)] [.inl (0 : Int32)] S _
      refine zw_if0 hm_3 dX0_findRoom_21 (t := 29) rfl zc0_ne (fun hc => absurd hc (by decide)) (fun _ => ?_)
      refine zw_push hm_3 dX0_findRoom_24 (v := .inr (.inr (some 82))) rfl ?_
      refine zw_cv hm_3 dX0_findRoom_25 v_1_51_1 hm_11 [] [] rfl (zT_rt hS s_82 rfl) ⟨by omega, by omega⟩ rfl (zw_mono h (zi_go ?_ ?_))
      · intro v2 S1 hv
        obtain ⟨hS1, h⟩ := hv
        refine zw_stk hm_3 dX0_findRoom_28 (st₉ := []) rfl rfl ?_
        refine zw_push hm_3 dX0_findRoom_29 (v := .inr (.inr (some 82))) rfl ?_
        refine zw_push hm_3 dX0_findRoom_30 (v := .inl z) rfl ?_
        refine zw_cv hm_3 dX0_findRoom_31 v_1_47_1 hm_10 [.inl z] [] rfl (zT_rt hS1 s_82 rfl) ⟨by omega, by omega⟩ rfl ?_
        show ma_wp X (d - 1) (w - 21) 10 0 [(0, .inr (.inr (some 82))), (1, .inl z)] [] S1 _
        refine zw_push hm_10 dX0_hasYoungRoom_0 (v := .inr (.inr (some 82))) rfl ?_
        refine zw_gf hm_10 dX0_hasYoungRoom_1 (v := .inl (mI S1 82 8)) (zT_is hS1 s_82) (zT_t hS1 s_82) rfl f_1_34_1 rfl ?_
        refine zw_push hm_10 dX0_hasYoungRoom_4 (v := .inl z) rfl ?_
        refine zw_stk hm_10 dX0_hasYoungRoom_5 (st₉ := [.inl ((mI S1 82 8) + z)]) rfl rfl ?_
        refine zw_push hm_10 dX0_hasYoungRoom_6 (v := .inr (.inr (some 82))) rfl ?_
        refine zw_gf hm_10 dX0_hasYoungRoom_7 (v := .inl (mI S1 82 7)) (zT_is hS1 s_82) (zT_t hS1 s_82) rfl f_1_31_1 rfl ?_
        refine zw_push hm_10 dX0_hasYoungRoom_10 (v := .inr (.inr (some 82))) rfl ?_
        refine zw_gf hm_10 dX0_hasYoungRoom_11 (v := .inl (mI S1 82 2)) (zT_is hS1 s_82) (zT_t hS1 s_82) rfl f_1_15_1 rfl ?_
        refine zw_stk hm_10 dX0_hasYoungRoom_14 (st₉ := [.inl ((mI S1 82 7) + (mI S1 82 2)), .inl ((mI S1 82 8) + z)]) rfl rfl ?_
        refine zw_if2 hm_10 dX0_hasYoungRoom_15 (t := 22) rfl zc2_gt ?_ ?_
        · intro hc
          rw [if_pos hc] at h
          refine zw_push hm_10 dX0_hasYoungRoom_22 (v := .inl (0 : Int32)) rfl ?_
          refine zw_bret hm_10 dX0_hasYoungRoom_23 (by decide) ?_
          show ma_wp X d w 3 34 [(0, .inr (.inr (some 82))), (1, .inl z)] [.inl (0 : Int32)] S1 _
          refine zw_if0 hm_3 dX0_findRoom_34 (t := 47) rfl zc0_ne (fun hc => absurd hc (by decide)) (fun _ => ?_)
          refine zw_push hm_3 dX0_findRoom_37 (v := .inr (.inr (some 82))) rfl ?_
          refine zw_cv hm_3 dX0_findRoom_38 v_1_55_1 hm_5 [] [] rfl (zT_rt hS1 s_82 rfl) ⟨by omega, by omega⟩ rfl (zw_mono h (zi_go ?_ ?_))
          · intro v4 S3 hv
            obtain ⟨hS3, h⟩ := hv
            refine zw_stk hm_3 dX0_findRoom_41 (st₉ := []) rfl rfl ?_
            refine zw_push hm_3 dX0_findRoom_42 (v := .inr (.inr (some 82))) rfl ?_
            refine zw_cv hm_3 dX0_findRoom_43 v_1_51_1 hm_11 [] [] rfl (zT_rt hS3 s_82 rfl) ⟨by omega, by omega⟩ rfl (zw_mono h (zi_go ?_ ?_))
            · intro v6 S5 hv
              obtain ⟨hS5, h⟩ := hv
              refine zw_stk hm_3 dX0_findRoom_46 (st₉ := []) rfl rfl ?_
              refine zw_push hm_3 dX0_findRoom_47 (v := .inr (.inr (some 82))) rfl ?_
              refine zw_push hm_3 dX0_findRoom_48 (v := .inl z) rfl ?_
              refine zw_cv hm_3 dX0_findRoom_49 v_1_47_1 hm_10 [.inl z] [] rfl (zT_rt hS5 s_82 rfl) ⟨by omega, by omega⟩ rfl ?_
              show ma_wp X (d - 1) (w - 21) 10 0 [(0, .inr (.inr (some 82))), (1, .inl z)] [] S5 _
              refine zw_push hm_10 dX0_hasYoungRoom_0 (v := .inr (.inr (some 82))) rfl ?_
              refine zw_gf hm_10 dX0_hasYoungRoom_1 (v := .inl (mI S5 82 8)) (zT_is hS5 s_82) (zT_t hS5 s_82) rfl f_1_34_1 rfl ?_
              refine zw_push hm_10 dX0_hasYoungRoom_4 (v := .inl z) rfl ?_
              refine zw_stk hm_10 dX0_hasYoungRoom_5 (st₉ := [.inl ((mI S5 82 8) + z)]) rfl rfl ?_
              refine zw_push hm_10 dX0_hasYoungRoom_6 (v := .inr (.inr (some 82))) rfl ?_
              refine zw_gf hm_10 dX0_hasYoungRoom_7 (v := .inl (mI S5 82 7)) (zT_is hS5 s_82) (zT_t hS5 s_82) rfl f_1_31_1 rfl ?_
              refine zw_push hm_10 dX0_hasYoungRoom_10 (v := .inr (.inr (some 82))) rfl ?_
              refine zw_gf hm_10 dX0_hasYoungRoom_11 (v := .inl (mI S5 82 2)) (zT_is hS5 s_82) (zT_t hS5 s_82) rfl f_1_15_1 rfl ?_
              refine zw_stk hm_10 dX0_hasYoungRoom_14 (st₉ := [.inl ((mI S5 82 7) + (mI S5 82 2)), .inl ((mI S5 82 8) + z)]) rfl rfl ?_
              refine zw_if2 hm_10 dX0_hasYoungRoom_15 (t := 22) rfl zc2_gt ?_ ?_
              · intro hc
                rw [if_pos hc] at h
                refine zw_push hm_10 dX0_hasYoungRoom_22 (v := .inl (0 : Int32)) rfl ?_
                refine zw_bret hm_10 dX0_hasYoungRoom_23 (by decide) ?_
                show ma_wp X d w 3 52 [(0, .inr (.inr (some 82))), (1, .inl z)] [.inl (0 : Int32)] S5 _
                refine zw_if0 hm_3 dX0_findRoom_52 (t := 62) rfl zc0_eq (fun _ => ?_) (fun hc => absurd (by decide) hc)
                refine zw_push hm_3 dX0_findRoom_62 (v := .inl (-1 : Int32)) rfl ?_
                exact zw_iret hm_3 dX0_findRoom_63 h
              · intro hc
                rw [if_neg hc] at h
                refine zw_push hm_10 dX0_hasYoungRoom_18 (v := .inl (1 : Int32)) rfl ?_
                refine zw_goto hm_10 dX0_hasYoungRoom_19 (t := 23) rfl ?_
                refine zw_bret hm_10 dX0_hasYoungRoom_23 (by decide) ?_
                show ma_wp X d w 3 52 [(0, .inr (.inr (some 82))), (1, .inl z)] [.inl (1 : Int32)] S5 _
                refine zw_if0 hm_3 dX0_findRoom_52 (t := 62) rfl zc0_eq (fun hc => absurd hc (by decide)) (fun _ => ?_)
                refine zw_push hm_3 dX0_findRoom_55 (v := .inr (.inr (some 82))) rfl ?_
                refine zw_gf hm_3 dX0_findRoom_56 (v := .inl (mI S5 82 8)) (zT_is hS5 s_82) (zT_t hS5 s_82) rfl f_1_34_1 rfl ?_
                refine zw_goto hm_3 dX0_findRoom_59 (t := 63) rfl ?_
                exact zw_iret hm_3 dX0_findRoom_63 h
            · intro x S9 hx
              exact ⟨by decide, hx⟩
          · intro x S9 hx
            exact ⟨by decide, hx⟩
        · intro hc
          rw [if_neg hc] at h
          refine zw_push hm_10 dX0_hasYoungRoom_18 (v := .inl (1 : Int32)) rfl ?_
          refine zw_goto hm_10 dX0_hasYoungRoom_19 (t := 23) rfl ?_
          refine zw_bret hm_10 dX0_hasYoungRoom_23 (by decide) ?_
          show ma_wp X d w 3 34 [(0, .inr (.inr (some 82))), (1, .inl z)] [.inl (1 : Int32)] S1 _
          refine zw_if0 hm_3 dX0_findRoom_34 (t := 47) rfl zc0_ne (fun _ => ?_) (fun hc => absurd (by decide) hc)
          refine zw_push hm_3 dX0_findRoom_47 (v := .inr (.inr (some 82))) rfl ?_
          refine zw_push hm_3 dX0_findRoom_48 (v := .inl z) rfl ?_
          refine zw_cv hm_3 dX0_findRoom_49 v_1_47_1 hm_10 [.inl z] [] rfl (zT_rt hS1 s_82 rfl) ⟨by omega, by omega⟩ rfl ?_
          show ma_wp X (d - 1) (w - 21) 10 0 [(0, .inr (.inr (some 82))), (1, .inl z)] [] S1 _
          refine zw_push hm_10 dX0_hasYoungRoom_0 (v := .inr (.inr (some 82))) rfl ?_
          refine zw_gf hm_10 dX0_hasYoungRoom_1 (v := .inl (mI S1 82 8)) (zT_is hS1 s_82) (zT_t hS1 s_82) rfl f_1_34_1 rfl ?_
          refine zw_push hm_10 dX0_hasYoungRoom_4 (v := .inl z) rfl ?_
          refine zw_stk hm_10 dX0_hasYoungRoom_5 (st₉ := [.inl ((mI S1 82 8) + z)]) rfl rfl ?_
          refine zw_push hm_10 dX0_hasYoungRoom_6 (v := .inr (.inr (some 82))) rfl ?_
          refine zw_gf hm_10 dX0_hasYoungRoom_7 (v := .inl (mI S1 82 7)) (zT_is hS1 s_82) (zT_t hS1 s_82) rfl f_1_31_1 rfl ?_
          refine zw_push hm_10 dX0_hasYoungRoom_10 (v := .inr (.inr (some 82))) rfl ?_
          refine zw_gf hm_10 dX0_hasYoungRoom_11 (v := .inl (mI S1 82 2)) (zT_is hS1 s_82) (zT_t hS1 s_82) rfl f_1_15_1 rfl ?_
          refine zw_stk hm_10 dX0_hasYoungRoom_14 (st₉ := [.inl ((mI S1 82 7) + (mI S1 82 2)), .inl ((mI S1 82 8) + z)]) rfl rfl ?_
          refine zw_if2 hm_10 dX0_hasYoungRoom_15 (t := 22) rfl zc2_gt ?_ ?_
          · intro hc
            rw [if_pos hc] at h
            refine zw_push hm_10 dX0_hasYoungRoom_22 (v := .inl (0 : Int32)) rfl ?_
            refine zw_bret hm_10 dX0_hasYoungRoom_23 (by decide) ?_
            show ma_wp X d w 3 52 [(0, .inr (.inr (some 82))), (1, .inl z)] [.inl (0 : Int32)] S1 _
            refine zw_if0 hm_3 dX0_findRoom_52 (t := 62) rfl zc0_eq (fun _ => ?_) (fun hc => absurd (by decide) hc)
            refine zw_push hm_3 dX0_findRoom_62 (v := .inl (-1 : Int32)) rfl ?_
            exact zw_iret hm_3 dX0_findRoom_63 h
          · intro hc
            rw [if_neg hc] at h
            refine zw_push hm_10 dX0_hasYoungRoom_18 (v := .inl (1 : Int32)) rfl ?_
            refine zw_goto hm_10 dX0_hasYoungRoom_19 (t := 23) rfl ?_
            refine zw_bret hm_10 dX0_hasYoungRoom_23 (by decide) ?_
            show ma_wp X d w 3 52 [(0, .inr (.inr (some 82))), (1, .inl z)] [.inl (1 : Int32)] S1 _
            refine zw_if0 hm_3 dX0_findRoom_52 (t := 62) rfl zc0_eq (fun hc => absurd hc (by decide)) (fun _ => ?_)
            refine zw_push hm_3 dX0_findRoom_55 (v := .inr (.inr (some 82))) rfl ?_
            refine zw_gf hm_3 dX0_findRoom_56 (v := .inl (mI S1 82 8)) (zT_is hS1 s_82) (zT_t hS1 s_82) rfl f_1_34_1 rfl ?_
            refine zw_goto hm_3 dX0_findRoom_59 (t := 63) rfl ?_
            exact zw_iret hm_3 dX0_findRoom_63 h
      · intro x S9 hx
        exact ⟨by decide, hx⟩
    · intro hc
      rw [if_neg hc] at h
      refine zw_push hm_10 dX0_hasYoungRoom_18 (v := .inl (1 : Int32)) rfl ?_
      refine zw_goto hm_10 dX0_hasYoungRoom_19 (t := 23) rfl ?_
      refine zw_bret hm_10 dX0_hasYoungRoom_23 (by decide) ?_
      show ma_wp X d w 3 21 [(0, .inr (.inr (some 82))), (1, .inl z)] [.inl (1 : Int32)] S _
      refine zw_if0 hm_3 dX0_findRoom_21 (t := 29) rfl zc0_ne (fun _ => ?_) (fun hc => absurd (by decide) hc)
      refine zw_push hm_3 dX0_findRoom_29 (v := .inr (.inr (some 82))) rfl ?_
      refine zw_push hm_3 dX0_findRoom_30 (v := .inl z) rfl ?_
      refine zw_cv hm_3 dX0_findRoom_31 v_1_47_1 hm_10 [.inl z] [] rfl (zT_rt hS s_82 rfl) ⟨by omega, by omega⟩ rfl ?_
      show ma_wp X (d - 1) (w - 21) 10 0 [(0, .inr (.inr (some 82))), (1, .inl z)] [] S _
      refine zw_push hm_10 dX0_hasYoungRoom_0 (v := .inr (.inr (some 82))) rfl ?_
      refine zw_gf hm_10 dX0_hasYoungRoom_1 (v := .inl (mI S 82 8)) (zT_is hS s_82) (zT_t hS s_82) rfl f_1_34_1 rfl ?_
      refine zw_push hm_10 dX0_hasYoungRoom_4 (v := .inl z) rfl ?_
      refine zw_stk hm_10 dX0_hasYoungRoom_5 (st₉ := [.inl ((mI S 82 8) + z)]) rfl rfl ?_
      refine zw_push hm_10 dX0_hasYoungRoom_6 (v := .inr (.inr (some 82))) rfl ?_
      refine zw_gf hm_10 dX0_hasYoungRoom_7 (v := .inl (mI S 82 7)) (zT_is hS s_82) (zT_t hS s_82) rfl f_1_31_1 rfl ?_
      refine zw_push hm_10 dX0_hasYoungRoom_10 (v := .inr (.inr (some 82))) rfl ?_
      refine zw_gf hm_10 dX0_hasYoungRoom_11 (v := .inl (mI S 82 2)) (zT_is hS s_82) (zT_t hS s_82) rfl f_1_15_1 rfl ?_
      refine zw_stk hm_10 dX0_hasYoungRoom_14 (st₉ := [.inl ((mI S 82 7) + (mI S 82 2)), .inl ((mI S 82 8) + z)]) rfl rfl ?_
      refine zw_if2 hm_10 dX0_hasYoungRoom_15 (t := 22) rfl zc2_gt ?_ ?_
      · intro hc
        rw [if_pos hc] at h
        refine zw_push hm_10 dX0_hasYoungRoom_22 (v := .inl (0 : Int32)) rfl ?_
        refine zw_bret hm_10 dX0_hasYoungRoom_23 (by decide) ?_
        show ma_wp X d w 3 34 [(0, .inr (.inr (some 82))), (1, .inl z)] [.inl (0 : Int32)] S _
        refine zw_if0 hm_3 dX0_findRoom_34 (t := 47) rfl zc0_ne (fun hc => absurd hc (by decide)) (fun _ => ?_)
        refine zw_push hm_3 dX0_findRoom_37 (v := .inr (.inr (some 82))) rfl ?_
        refine zw_cv hm_3 dX0_findRoom_38 v_1_55_1 hm_5 [] [] rfl (zT_rt hS s_82 rfl) ⟨by omega, by omega⟩ rfl (zw_mono h (zi_go ?_ ?_))
        · intro v8 S7 hv
          obtain ⟨hS7, h⟩ := hv
          refine zw_stk hm_3 dX0_findRoom_41 (st₉ := []) rfl rfl ?_
          refine zw_push hm_3 dX0_findRoom_42 (v := .inr (.inr (some 82))) rfl ?_
          refine zw_cv hm_3 dX0_findRoom_43 v_1_51_1 hm_11 [] [] rfl (zT_rt hS7 s_82 rfl) ⟨by omega, by omega⟩ rfl (zw_mono h (zi_go ?_ ?_))
          · intro v10 S9 hv
            obtain ⟨hS9, h⟩ := hv
            refine zw_stk hm_3 dX0_findRoom_46 (st₉ := []) rfl rfl ?_
            refine zw_push hm_3 dX0_findRoom_47 (v := .inr (.inr (some 82))) rfl ?_
            refine zw_push hm_3 dX0_findRoom_48 (v := .inl z) rfl ?_
            refine zw_cv hm_3 dX0_findRoom_49 v_1_47_1 hm_10 [.inl z] [] rfl (zT_rt hS9 s_82 rfl) ⟨by omega, by omega⟩ rfl ?_
            show ma_wp X (d - 1) (w - 21) 10 0 [(0, .inr (.inr (some 82))), (1, .inl z)] [] S9 _
            refine zw_push hm_10 dX0_hasYoungRoom_0 (v := .inr (.inr (some 82))) rfl ?_
            refine zw_gf hm_10 dX0_hasYoungRoom_1 (v := .inl (mI S9 82 8)) (zT_is hS9 s_82) (zT_t hS9 s_82) rfl f_1_34_1 rfl ?_
            refine zw_push hm_10 dX0_hasYoungRoom_4 (v := .inl z) rfl ?_
            refine zw_stk hm_10 dX0_hasYoungRoom_5 (st₉ := [.inl ((mI S9 82 8) + z)]) rfl rfl ?_
            refine zw_push hm_10 dX0_hasYoungRoom_6 (v := .inr (.inr (some 82))) rfl ?_
            refine zw_gf hm_10 dX0_hasYoungRoom_7 (v := .inl (mI S9 82 7)) (zT_is hS9 s_82) (zT_t hS9 s_82) rfl f_1_31_1 rfl ?_
            refine zw_push hm_10 dX0_hasYoungRoom_10 (v := .inr (.inr (some 82))) rfl ?_
            refine zw_gf hm_10 dX0_hasYoungRoom_11 (v := .inl (mI S9 82 2)) (zT_is hS9 s_82) (zT_t hS9 s_82) rfl f_1_15_1 rfl ?_
            refine zw_stk hm_10 dX0_hasYoungRoom_14 (st₉ := [.inl ((mI S9 82 7) + (mI S9 82 2)), .inl ((mI S9 82 8) + z)]) rfl rfl ?_
            refine zw_if2 hm_10 dX0_hasYoungRoom_15 (t := 22) rfl zc2_gt ?_ ?_
            · intro hc
              rw [if_pos hc] at h
              refine zw_push hm_10 dX0_hasYoungRoom_22 (v := .inl (0 : Int32)) rfl ?_
              refine zw_bret hm_10 dX0_hasYoungRoom_23 (by decide) ?_
              show ma_wp X d w 3 52 [(0, .inr (.inr (some 82))), (1, .inl z)] [.inl (0 : Int32)] S9 _
              refine zw_if0 hm_3 dX0_findRoom_52 (t := 62) rfl zc0_eq (fun _ => ?_) (fun hc => absurd (by decide) hc)
              refine zw_push hm_3 dX0_findRoom_62 (v := .inl (-1 : Int32)) rfl ?_
              exact zw_iret hm_3 dX0_findRoom_63 h
            · intro hc
              rw [if_neg hc] at h
              refine zw_push hm_10 dX0_hasYoungRoom_18 (v := .inl (1 : Int32)) rfl ?_
              refine zw_goto hm_10 dX0_hasYoungRoom_19 (t := 23) rfl ?_
              refine zw_bret hm_10 dX0_hasYoungRoom_23 (by decide) ?_
              show ma_wp X d w 3 52 [(0, .inr (.inr (some 82))), (1, .inl z)] [.inl (1 : Int32)] S9 _
              refine zw_if0 hm_3 dX0_findRoom_52 (t := 62) rfl zc0_eq (fun hc => absurd hc (by decide)) (fun _ => ?_)
              refine zw_push hm_3 dX0_findRoom_55 (v := .inr (.inr (some 82))) rfl ?_
              refine zw_gf hm_3 dX0_findRoom_56 (v := .inl (mI S9 82 8)) (zT_is hS9 s_82) (zT_t hS9 s_82) rfl f_1_34_1 rfl ?_
              refine zw_goto hm_3 dX0_findRoom_59 (t := 63) rfl ?_
              exact zw_iret hm_3 dX0_findRoom_63 h
          · intro x S9 hx
            exact ⟨by decide, hx⟩
        · intro x S9 hx
          exact ⟨by decide, hx⟩
      · intro hc
        rw [if_neg hc] at h
        refine zw_push hm_10 dX0_hasYoungRoom_18 (v := .inl (1 : Int32)) rfl ?_
        refine zw_goto hm_10 dX0_hasYoungRoom_19 (t := 23) rfl ?_
        refine zw_bret hm_10 dX0_hasYoungRoom_23 (by decide) ?_
        show ma_wp X d w 3 34 [(0, .inr (.inr (some 82))), (1, .inl z)] [.inl (1 : Int32)] S _
        refine zw_if0 hm_3 dX0_findRoom_34 (t := 47) rfl zc0_ne (fun _ => ?_) (fun hc => absurd (by decide) hc)
        refine zw_push hm_3 dX0_findRoom_47 (v := .inr (.inr (some 82))) rfl ?_
        refine zw_push hm_3 dX0_findRoom_48 (v := .inl z) rfl ?_
        refine zw_cv hm_3 dX0_findRoom_49 v_1_47_1 hm_10 [.inl z] [] rfl (zT_rt hS s_82 rfl) ⟨by omega, by omega⟩ rfl ?_
        show ma_wp X (d - 1) (w - 21) 10 0 [(0, .inr (.inr (some 82))), (1, .inl z)] [] S _
        refine zw_push hm_10 dX0_hasYoungRoom_0 (v := .inr (.inr (some 82))) rfl ?_
        refine zw_gf hm_10 dX0_hasYoungRoom_1 (v := .inl (mI S 82 8)) (zT_is hS s_82) (zT_t hS s_82) rfl f_1_34_1 rfl ?_
        refine zw_push hm_10 dX0_hasYoungRoom_4 (v := .inl z) rfl ?_
        refine zw_stk hm_10 dX0_hasYoungRoom_5 (st₉ := [.inl ((mI S 82 8) + z)]) rfl rfl ?_
        refine zw_push hm_10 dX0_hasYoungRoom_6 (v := .inr (.inr (some 82))) rfl ?_
        refine zw_gf hm_10 dX0_hasYoungRoom_7 (v := .inl (mI S 82 7)) (zT_is hS s_82) (zT_t hS s_82) rfl f_1_31_1 rfl ?_
        refine zw_push hm_10 dX0_hasYoungRoom_10 (v := .inr (.inr (some 82))) rfl ?_
        refine zw_gf hm_10 dX0_hasYoungRoom_11 (v := .inl (mI S 82 2)) (zT_is hS s_82) (zT_t hS s_82) rfl f_1_15_1 rfl ?_
        refine zw_stk hm_10 dX0_hasYoungRoom_14 (st₉ := [.inl ((mI S 82 7) + (mI S 82 2)), .inl ((mI S 82 8) + z)]) rfl rfl ?_
        refine zw_if2 hm_10 dX0_hasYoungRoom_15 (t := 22) rfl zc2_gt ?_ ?_
        · intro hc
          rw [if_pos hc] at h
          refine zw_push hm_10 dX0_hasYoungRoom_22 (v := .inl (0 : Int32)) rfl ?_
          refine zw_bret hm_10 dX0_hasYoungRoom_23 (by decide) ?_
          show ma_wp X d w 3 52 [(0, .inr (.inr (some 82))), (1, .inl z)] [.inl (0 : Int32)] S _
          refine zw_if0 hm_3 dX0_findRoom_52 (t := 62) rfl zc0_eq (fun _ => ?_) (fun hc => absurd (by decide) hc)
          refine zw_push hm_3 dX0_findRoom_62 (v := .inl (-1 : Int32)) rfl ?_
          exact zw_iret hm_3 dX0_findRoom_63 h
        · intro hc
          rw [if_neg hc] at h
          refine zw_push hm_10 dX0_hasYoungRoom_18 (v := .inl (1 : Int32)) rfl ?_
          refine zw_goto hm_10 dX0_hasYoungRoom_19 (t := 23) rfl ?_
          refine zw_bret hm_10 dX0_hasYoungRoom_23 (by decide) ?_
          show ma_wp X d w 3 52 [(0, .inr (.inr (some 82))), (1, .inl z)] [.inl (1 : Int32)] S _
          refine zw_if0 hm_3 dX0_findRoom_52 (t := 62) rfl zc0_eq (fun hc => absurd hc (by decide)) (fun _ => ?_)
          refine zw_push hm_3 dX0_findRoom_55 (v := .inr (.inr (some 82))) rfl ?_
          refine zw_gf hm_3 dX0_findRoom_56 (v := .inl (mI S 82 8)) (zT_is hS s_82) (zT_t hS s_82) rfl f_1_34_1 rfl ?_
          refine zw_goto hm_3 dX0_findRoom_59 (t := 63) rfl ?_
          exact zw_iret hm_3 dX0_findRoom_63 h
  · intro hc
    rw [if_neg hc] at h
    refine zw_push hm_3 dX0_findRoom_10 (v := .inr (.inr (some 82))) rfl ?_
    refine zw_push hm_3 dX0_findRoom_11 (v := .inl z) rfl ?_
    refine zw_cv hm_3 dX0_findRoom_12 v_1_43_1 hm_4 [.inl z] [] rfl (zT_rt hS s_82 rfl) ⟨by omega, by omega⟩ rfl (zw_mono h (zi_go ?_ ?_))
    · intro v12 S11 hv
      obtain ⟨hS11, h⟩ := hv
      exact zw_iret hm_3 dX0_findRoom_15 h
    · intro x S9 hx
      exact ⟨by decide, hx⟩
theorem sp_3_82_sy {X : Nat × (Nat → Int32)} {d w : Nat} {f : Nat → Nat → Int32} {r : Nat → Nat → Option Nat} {C Z N : Nat} {Q : Option ma_V ⊕ Nat → ma_S → Prop} {ab : Nat→Nat→Int32} {S : ma_S} (z : Int32) (hd : 5 ≤ d) (hw : 180 ≤ w) (hI : zJ82 f r C Z N S) (hpre0 : xB S (mR S 70)) (hpre1 : aG S = ab) (hpre2 : qAv ab) (hpre3 : 1 ≤ z.toInt) (hpre4 : z.toInt ≤ 61) (K : ∀ v S₉, zJ82 f r C Z N S₉ → (-1 ≤ v.toInt ∧ v.toInt ≤ 4500) → (xB S₉ (mR S₉ 70)) → (aG S₉ = gRs ab z.toInt ∧ v.toInt = gRp ab z.toInt) → Q (.inl (some (.inl v))) S₉) : ma_wp X d w 3 0 [(0, .inr (.inr (some 82))), (1, .inl z)] [] S Q := by
  refine g_3_82_sy_0 z (by omega) (by omega) (zG_T hI) ?_
  have b1 := i_bd z
  have x2 : (mI S 82 3).toInt ≤ (mI S 82 7).toInt ∧ (mI S 82 7).toInt ≤ (mI S 82 3).toInt + (mI S 82 2).toInt := zG_x hI
  have f3 := zG_s hI (0) (1500) (c := 82) (k := 2) (by decide)
  have li4 : (2 : Int32).toInt = 2 := rfl
  first | have f5 := i_div (x := (mI S 82 2)) (y := (2 : Int32)) (by omega) (by omega) | have b6 := i_bd ((mI S 82 2) / (2 : Int32))
  refine zd (fun h7 => ?_) (fun h7 => ?_)
  · skip
    have g8 := i_le h7
    have f9 := zG_s hI (0) (3000) (c := 82) (k := 7) (by decide)
    first | have e10 : ((mI S 82 7) + (mI S 82 2)).toInt = (mI S 82 7).toInt + (mI S 82 2).toInt := i_add (by omega) (by omega) | have b11 := i_bd ((mI S 82 7) + (mI S 82 2))
    have f12 := zG_s hI (0) (400000) (c := 82) (k := 8) (by decide)
    first | have e13 : ((mI S 82 8) + z).toInt = (mI S 82 8).toInt + z.toInt := i_add (by omega) (by omega) | have b14 := i_bd ((mI S 82 8) + z)
    refine zd (fun h15 => ?_) (fun h15 => ?_)
    · skip
      have g16 := i_lt h15
      refine sp_11_82_sy (ab := (aG S)) (by omega) (by omega) hI (show xB S (mR S 70) from by first | (exact xB_x (xC_o (W := 75) hpre0).2)) (show aG S = (aG S) from by first | (exact rfl)) (show qAv (aG S) from by first | (rw [hpre1]; exact hpre2)) (fun v2 S1 hI_S1 hp_v2 rp0_S1 rp1_S1 => zi_n ⟨zG_T hI_S1, ?_⟩)
      have rp0_S1 : xB S1 (mR S1 70) := rp0_S1
      have rp1_S1 : aG S1 = gMi (aG S) ∧ v2 = gVi (aG S) := rp1_S1
      have x17 : (mI S1 82 3).toInt ≤ (mI S1 82 7).toInt ∧ (mI S1 82 7).toInt ≤ (mI S1 82 3).toInt + (mI S1 82 2).toInt := zG_x hI_S1
      have f18 := zG_s hI_S1 (0) (3000) (c := 82) (k := 7) (by decide)
      have f19 := zG_s hI_S1 (0) (1500) (c := 82) (k := 2) (by decide)
      first | have e20 : ((mI S1 82 7) + (mI S1 82 2)).toInt = (mI S1 82 7).toInt + (mI S1 82 2).toInt := i_add (by omega) (by omega) | have b21 := i_bd ((mI S1 82 7) + (mI S1 82 2))
      have f22 := zG_s hI_S1 (0) (400000) (c := 82) (k := 8) (by decide)
      first | have e23 : ((mI S1 82 8) + z).toInt = (mI S1 82 8).toInt + z.toInt := i_add (by omega) (by omega) | have b24 := i_bd ((mI S1 82 8) + z)
      refine zd (fun h25 => ?_) (fun h25 => ?_)
      · skip
        have g26 := i_lt h25
        refine sp_5_82_sy (ab := (aG S1)) (by omega) (by omega) hI_S1 (show xB S1 (mR S1 70) from by first | (exact xB_x (xC_o (W := 75) rp0_S1).2)) (show aG S1 = (aG S1) from by first | (exact rfl)) (show qAv (aG S1) from by first | (rw [(rp1_S1.1.trans (congrArg gMi hpre1))]; exact (Av_mi hpre2))) (fun v4 S3 hI_S3 hp_v4 rp0_S3 rp1_S3 => zi_n ⟨zG_T hI_S3, ?_⟩)
        have rp0_S3 : xB S3 (mR S3 70) := rp0_S3
        have rp1_S3 : aG S3 = gMa (aG S1) ∧ v4 = aSv (aG S1) := rp1_S3
        refine sp_11_82_sy (ab := (aG S3)) (by omega) (by omega) hI_S3 (show xB S3 (mR S3 70) from by first | (exact xB_x (xC_o (W := 75) rp0_S3).2)) (show aG S3 = (aG S3) from by first | (exact rfl)) (show qAv (aG S3) from by first | (rw [(rp1_S3.1.trans (congrArg gMa (rp1_S1.1.trans (congrArg gMi hpre1))))]; exact (Av_ma (Av_mi hpre2)))) (fun v6 S5 hI_S5 hp_v6 rp0_S5 rp1_S5 => zi_n ⟨zG_T hI_S5, ?_⟩)
        have rp0_S5 : xB S5 (mR S5 70) := rp0_S5
        have rp1_S5 : aG S5 = gMi (aG S3) ∧ v6 = gVi (aG S3) := rp1_S5
        have x27 : (mI S5 82 3).toInt ≤ (mI S5 82 7).toInt ∧ (mI S5 82 7).toInt ≤ (mI S5 82 3).toInt + (mI S5 82 2).toInt := zG_x hI_S5
        have f28 := zG_s hI_S5 (0) (3000) (c := 82) (k := 7) (by decide)
        have f29 := zG_s hI_S5 (0) (1500) (c := 82) (k := 2) (by decide)
        first | have e30 : ((mI S5 82 7) + (mI S5 82 2)).toInt = (mI S5 82 7).toInt + (mI S5 82 2).toInt := i_add (by omega) (by omega) | have b31 := i_bd ((mI S5 82 7) + (mI S5 82 2))
        have f32 := zG_s hI_S5 (0) (400000) (c := 82) (k := 8) (by decide)
        first | have e33 : ((mI S5 82 8) + z).toInt = (mI S5 82 8).toInt + z.toInt := i_add (by omega) (by omega) | have b34 := i_bd ((mI S5 82 8) + z)
        refine zd (fun h35 => ?_) (fun h35 => ?_)
        · skip
          have g36 := i_lt h35
          have li37 : (-1 : Int32).toInt = -1 := rfl
          exact K ((-1 : Int32)) _ hI_S5 (by omega) (show xB S5 (mR S5 70) from by first | (exact xB_x (xC_o (W := 75) rp0_S5).2)) (show aG S5 = gRs ab z.toInt ∧ (-1 : Int32).toInt = gRp ab z.toInt from by first | (have h0 : aG S = ab := hpre1; have n0_9 : (ab 87 9).toInt = (mI S 82 3).toInt := (by rw [← h0]; rfl); have n0_10 : (ab 87 10).toInt = (mI S 82 6).toInt := (by rw [← h0]; rfl); have n0_4 : (ab 87 4).toInt = (mI S 82 8).toInt := (by rw [← h0]; rfl); have n0_3 : (ab 87 3).toInt = (mI S 82 7).toInt := (by rw [← h0]; rfl); have n0_5 : (ab 87 5).toInt = (mI S 82 2).toInt := (by rw [← h0]; rfl); have h1 : aG S1 = gMi ab := rp1_S1.1.trans (congrArg gMi h0); have n1_9 : ((gMi ab) 87 9).toInt = (mI S1 82 3).toInt := (by rw [← h1]; rfl); have n1_10 : ((gMi ab) 87 10).toInt = (mI S1 82 6).toInt := (by rw [← h1]; rfl); have n1_4 : ((gMi ab) 87 4).toInt = (mI S1 82 8).toInt := (by rw [← h1]; rfl); have n1_3 : ((gMi ab) 87 3).toInt = (mI S1 82 7).toInt := (by rw [← h1]; rfl); have n1_5 : ((gMi ab) 87 5).toInt = (mI S1 82 2).toInt := (by rw [← h1]; rfl); have h2 : aG S3 = gMa (gMi ab) := rp1_S3.1.trans (congrArg gMa h1); have n2_9 : ((gMa (gMi ab)) 87 9).toInt = (mI S3 82 3).toInt := (by rw [← h2]; rfl); have n2_10 : ((gMa (gMi ab)) 87 10).toInt = (mI S3 82 6).toInt := (by rw [← h2]; rfl); have n2_4 : ((gMa (gMi ab)) 87 4).toInt = (mI S3 82 8).toInt := (by rw [← h2]; rfl); have n2_3 : ((gMa (gMi ab)) 87 3).toInt = (mI S3 82 7).toInt := (by rw [← h2]; rfl); have n2_5 : ((gMa (gMi ab)) 87 5).toInt = (mI S3 82 2).toInt := (by rw [← h2]; rfl); have h3 : aG S5 = gMi (gMa (gMi ab)) := rp1_S5.1.trans (congrArg gMi h2); have n3_9 : ((gMi (gMa (gMi ab))) 87 9).toInt = (mI S5 82 3).toInt := (by rw [← h3]; rfl); have n3_10 : ((gMi (gMa (gMi ab))) 87 10).toInt = (mI S5 82 6).toInt := (by rw [← h3]; rfl); have n3_4 : ((gMi (gMa (gMi ab))) 87 4).toInt = (mI S5 82 8).toInt := (by rw [← h3]; rfl); have n3_3 : ((gMi (gMa (gMi ab))) 87 3).toInt = (mI S5 82 7).toInt := (by rw [← h3]; rfl); have n3_5 : ((gMi (gMa (gMi ab))) 87 5).toInt = (mI S5 82 2).toInt := (by rw [← h3]; rfl); have d2 := (i_div (x := mI S 82 2) (y := (2 : Int32)) (by omega) (by decide)).2.2.1; have t2 : (2 : Int32).toInt = 2 := rfl; rw [t2] at d2; have E := Rs_gy (a := ab) (z := z.toInt) (by rw [n0_5, ← d2]; omega) (R1_gn (by unfold gHs; omega)) (R2_gn (by unfold gHs; omega)); refine ⟨h3.trans E.1.symm, ?_⟩; rw [E.2.1 (by unfold gHs; omega)]; omega) | (have h0 : aG S = ab := hpre1; have n0_9 : (ab 87 9).toInt = (mI S 82 3).toInt := (by rw [← h0]; rfl); have n0_10 : (ab 87 10).toInt = (mI S 82 6).toInt := (by rw [← h0]; rfl); have n0_4 : (ab 87 4).toInt = (mI S 82 8).toInt := (by rw [← h0]; rfl); have n0_3 : (ab 87 3).toInt = (mI S 82 7).toInt := (by rw [← h0]; rfl); have n0_5 : (ab 87 5).toInt = (mI S 82 2).toInt := (by rw [← h0]; rfl); have h1 : aG S1 = gMi ab := rp1_S1.1.trans (congrArg gMi h0); have n1_9 : ((gMi ab) 87 9).toInt = (mI S1 82 3).toInt := (by rw [← h1]; rfl); have n1_10 : ((gMi ab) 87 10).toInt = (mI S1 82 6).toInt := (by rw [← h1]; rfl); have n1_4 : ((gMi ab) 87 4).toInt = (mI S1 82 8).toInt := (by rw [← h1]; rfl); have n1_3 : ((gMi ab) 87 3).toInt = (mI S1 82 7).toInt := (by rw [← h1]; rfl); have n1_5 : ((gMi ab) 87 5).toInt = (mI S1 82 2).toInt := (by rw [← h1]; rfl); have h2 : aG S3 = gMa (gMi ab) := rp1_S3.1.trans (congrArg gMa h1); have n2_9 : ((gMa (gMi ab)) 87 9).toInt = (mI S3 82 3).toInt := (by rw [← h2]; rfl); have n2_10 : ((gMa (gMi ab)) 87 10).toInt = (mI S3 82 6).toInt := (by rw [← h2]; rfl); have n2_4 : ((gMa (gMi ab)) 87 4).toInt = (mI S3 82 8).toInt := (by rw [← h2]; rfl); have n2_3 : ((gMa (gMi ab)) 87 3).toInt = (mI S3 82 7).toInt := (by rw [← h2]; rfl); have n2_5 : ((gMa (gMi ab)) 87 5).toInt = (mI S3 82 2).toInt := (by rw [← h2]; rfl); have h3 : aG S5 = gMi (gMa (gMi ab)) := rp1_S5.1.trans (congrArg gMi h2); have n3_9 : ((gMi (gMa (gMi ab))) 87 9).toInt = (mI S5 82 3).toInt := (by rw [← h3]; rfl); have n3_10 : ((gMi (gMa (gMi ab))) 87 10).toInt = (mI S5 82 6).toInt := (by rw [← h3]; rfl); have n3_4 : ((gMi (gMa (gMi ab))) 87 4).toInt = (mI S5 82 8).toInt := (by rw [← h3]; rfl); have n3_3 : ((gMi (gMa (gMi ab))) 87 3).toInt = (mI S5 82 7).toInt := (by rw [← h3]; rfl); have n3_5 : ((gMi (gMa (gMi ab))) 87 5).toInt = (mI S5 82 2).toInt := (by rw [← h3]; rfl); have d2 := (i_div (x := mI S 82 2) (y := (2 : Int32)) (by omega) (by decide)).2.2.1; have t2 : (2 : Int32).toInt = 2 := rfl; rw [t2] at d2; have E := Rs_gy (a := ab) (z := z.toInt) (by rw [n0_5, ← d2]; omega) (R1_gn (by unfold gHs; omega)) (R2_gn (by unfold gHs; omega)); refine ⟨h3.trans E.1.symm, ?_⟩; rw [E.2.2 (by unfold gHs; omega)]; rfl) | (have h0 : aG S = ab := hpre1; have n0_9 : (ab 87 9).toInt = (mI S 82 3).toInt := (by rw [← h0]; rfl); have n0_10 : (ab 87 10).toInt = (mI S 82 6).toInt := (by rw [← h0]; rfl); have n0_4 : (ab 87 4).toInt = (mI S 82 8).toInt := (by rw [← h0]; rfl); have n0_3 : (ab 87 3).toInt = (mI S 82 7).toInt := (by rw [← h0]; rfl); have n0_5 : (ab 87 5).toInt = (mI S 82 2).toInt := (by rw [← h0]; rfl); have h1 : aG S1 = gMi ab := rp1_S1.1.trans (congrArg gMi h0); have n1_9 : ((gMi ab) 87 9).toInt = (mI S1 82 3).toInt := (by rw [← h1]; rfl); have n1_10 : ((gMi ab) 87 10).toInt = (mI S1 82 6).toInt := (by rw [← h1]; rfl); have n1_4 : ((gMi ab) 87 4).toInt = (mI S1 82 8).toInt := (by rw [← h1]; rfl); have n1_3 : ((gMi ab) 87 3).toInt = (mI S1 82 7).toInt := (by rw [← h1]; rfl); have n1_5 : ((gMi ab) 87 5).toInt = (mI S1 82 2).toInt := (by rw [← h1]; rfl); have h2 : aG S3 = gMa (gMi ab) := rp1_S3.1.trans (congrArg gMa h1); have n2_9 : ((gMa (gMi ab)) 87 9).toInt = (mI S3 82 3).toInt := (by rw [← h2]; rfl); have n2_10 : ((gMa (gMi ab)) 87 10).toInt = (mI S3 82 6).toInt := (by rw [← h2]; rfl); have n2_4 : ((gMa (gMi ab)) 87 4).toInt = (mI S3 82 8).toInt := (by rw [← h2]; rfl); have n2_3 : ((gMa (gMi ab)) 87 3).toInt = (mI S3 82 7).toInt := (by rw [← h2]; rfl); have n2_5 : ((gMa (gMi ab)) 87 5).toInt = (mI S3 82 2).toInt := (by rw [← h2]; rfl); have h3 : aG S5 = gMi (gMa (gMi ab)) := rp1_S5.1.trans (congrArg gMi h2); have n3_9 : ((gMi (gMa (gMi ab))) 87 9).toInt = (mI S5 82 3).toInt := (by rw [← h3]; rfl); have n3_10 : ((gMi (gMa (gMi ab))) 87 10).toInt = (mI S5 82 6).toInt := (by rw [← h3]; rfl); have n3_4 : ((gMi (gMa (gMi ab))) 87 4).toInt = (mI S5 82 8).toInt := (by rw [← h3]; rfl); have n3_3 : ((gMi (gMa (gMi ab))) 87 3).toInt = (mI S5 82 7).toInt := (by rw [← h3]; rfl); have n3_5 : ((gMi (gMa (gMi ab))) 87 5).toInt = (mI S5 82 2).toInt := (by rw [← h3]; rfl); exfalso; omega))
        · skip
          have g38 := i_nlt h35
          exact K ((mI S5 82 8)) _ hI_S5 (by omega) (show xB S5 (mR S5 70) from by first | (exact xB_x (xC_o (W := 75) rp0_S5).2)) (show aG S5 = gRs ab z.toInt ∧ (mI S5 82 8).toInt = gRp ab z.toInt from by first | (have h0 : aG S = ab := hpre1; have n0_9 : (ab 87 9).toInt = (mI S 82 3).toInt := (by rw [← h0]; rfl); have n0_10 : (ab 87 10).toInt = (mI S 82 6).toInt := (by rw [← h0]; rfl); have n0_4 : (ab 87 4).toInt = (mI S 82 8).toInt := (by rw [← h0]; rfl); have n0_3 : (ab 87 3).toInt = (mI S 82 7).toInt := (by rw [← h0]; rfl); have n0_5 : (ab 87 5).toInt = (mI S 82 2).toInt := (by rw [← h0]; rfl); have h1 : aG S1 = gMi ab := rp1_S1.1.trans (congrArg gMi h0); have n1_9 : ((gMi ab) 87 9).toInt = (mI S1 82 3).toInt := (by rw [← h1]; rfl); have n1_10 : ((gMi ab) 87 10).toInt = (mI S1 82 6).toInt := (by rw [← h1]; rfl); have n1_4 : ((gMi ab) 87 4).toInt = (mI S1 82 8).toInt := (by rw [← h1]; rfl); have n1_3 : ((gMi ab) 87 3).toInt = (mI S1 82 7).toInt := (by rw [← h1]; rfl); have n1_5 : ((gMi ab) 87 5).toInt = (mI S1 82 2).toInt := (by rw [← h1]; rfl); have h2 : aG S3 = gMa (gMi ab) := rp1_S3.1.trans (congrArg gMa h1); have n2_9 : ((gMa (gMi ab)) 87 9).toInt = (mI S3 82 3).toInt := (by rw [← h2]; rfl); have n2_10 : ((gMa (gMi ab)) 87 10).toInt = (mI S3 82 6).toInt := (by rw [← h2]; rfl); have n2_4 : ((gMa (gMi ab)) 87 4).toInt = (mI S3 82 8).toInt := (by rw [← h2]; rfl); have n2_3 : ((gMa (gMi ab)) 87 3).toInt = (mI S3 82 7).toInt := (by rw [← h2]; rfl); have n2_5 : ((gMa (gMi ab)) 87 5).toInt = (mI S3 82 2).toInt := (by rw [← h2]; rfl); have h3 : aG S5 = gMi (gMa (gMi ab)) := rp1_S5.1.trans (congrArg gMi h2); have n3_9 : ((gMi (gMa (gMi ab))) 87 9).toInt = (mI S5 82 3).toInt := (by rw [← h3]; rfl); have n3_10 : ((gMi (gMa (gMi ab))) 87 10).toInt = (mI S5 82 6).toInt := (by rw [← h3]; rfl); have n3_4 : ((gMi (gMa (gMi ab))) 87 4).toInt = (mI S5 82 8).toInt := (by rw [← h3]; rfl); have n3_3 : ((gMi (gMa (gMi ab))) 87 3).toInt = (mI S5 82 7).toInt := (by rw [← h3]; rfl); have n3_5 : ((gMi (gMa (gMi ab))) 87 5).toInt = (mI S5 82 2).toInt := (by rw [← h3]; rfl); have d2 := (i_div (x := mI S 82 2) (y := (2 : Int32)) (by omega) (by decide)).2.2.1; have t2 : (2 : Int32).toInt = 2 := rfl; rw [t2] at d2; have E := Rs_gy (a := ab) (z := z.toInt) (by rw [n0_5, ← d2]; omega) (R1_gn (by unfold gHs; omega)) (R2_gn (by unfold gHs; omega)); refine ⟨h3.trans E.1.symm, ?_⟩; rw [E.2.1 (by unfold gHs; omega)]; omega) | (have h0 : aG S = ab := hpre1; have n0_9 : (ab 87 9).toInt = (mI S 82 3).toInt := (by rw [← h0]; rfl); have n0_10 : (ab 87 10).toInt = (mI S 82 6).toInt := (by rw [← h0]; rfl); have n0_4 : (ab 87 4).toInt = (mI S 82 8).toInt := (by rw [← h0]; rfl); have n0_3 : (ab 87 3).toInt = (mI S 82 7).toInt := (by rw [← h0]; rfl); have n0_5 : (ab 87 5).toInt = (mI S 82 2).toInt := (by rw [← h0]; rfl); have h1 : aG S1 = gMi ab := rp1_S1.1.trans (congrArg gMi h0); have n1_9 : ((gMi ab) 87 9).toInt = (mI S1 82 3).toInt := (by rw [← h1]; rfl); have n1_10 : ((gMi ab) 87 10).toInt = (mI S1 82 6).toInt := (by rw [← h1]; rfl); have n1_4 : ((gMi ab) 87 4).toInt = (mI S1 82 8).toInt := (by rw [← h1]; rfl); have n1_3 : ((gMi ab) 87 3).toInt = (mI S1 82 7).toInt := (by rw [← h1]; rfl); have n1_5 : ((gMi ab) 87 5).toInt = (mI S1 82 2).toInt := (by rw [← h1]; rfl); have h2 : aG S3 = gMa (gMi ab) := rp1_S3.1.trans (congrArg gMa h1); have n2_9 : ((gMa (gMi ab)) 87 9).toInt = (mI S3 82 3).toInt := (by rw [← h2]; rfl); have n2_10 : ((gMa (gMi ab)) 87 10).toInt = (mI S3 82 6).toInt := (by rw [← h2]; rfl); have n2_4 : ((gMa (gMi ab)) 87 4).toInt = (mI S3 82 8).toInt := (by rw [← h2]; rfl); have n2_3 : ((gMa (gMi ab)) 87 3).toInt = (mI S3 82 7).toInt := (by rw [← h2]; rfl); have n2_5 : ((gMa (gMi ab)) 87 5).toInt = (mI S3 82 2).toInt := (by rw [← h2]; rfl); have h3 : aG S5 = gMi (gMa (gMi ab)) := rp1_S5.1.trans (congrArg gMi h2); have n3_9 : ((gMi (gMa (gMi ab))) 87 9).toInt = (mI S5 82 3).toInt := (by rw [← h3]; rfl); have n3_10 : ((gMi (gMa (gMi ab))) 87 10).toInt = (mI S5 82 6).toInt := (by rw [← h3]; rfl); have n3_4 : ((gMi (gMa (gMi ab))) 87 4).toInt = (mI S5 82 8).toInt := (by rw [← h3]; rfl); have n3_3 : ((gMi (gMa (gMi ab))) 87 3).toInt = (mI S5 82 7).toInt := (by rw [← h3]; rfl); have n3_5 : ((gMi (gMa (gMi ab))) 87 5).toInt = (mI S5 82 2).toInt := (by rw [← h3]; rfl); have d2 := (i_div (x := mI S 82 2) (y := (2 : Int32)) (by omega) (by decide)).2.2.1; have t2 : (2 : Int32).toInt = 2 := rfl; rw [t2] at d2; have E := Rs_gy (a := ab) (z := z.toInt) (by rw [n0_5, ← d2]; omega) (R1_gn (by unfold gHs; omega)) (R2_gn (by unfold gHs; omega)); refine ⟨h3.trans E.1.symm, ?_⟩; rw [E.2.2 (by unfold gHs; omega)]; rfl) | (have h0 : aG S = ab := hpre1; have n0_9 : (ab 87 9).toInt = (mI S 82 3).toInt := (by rw [← h0]; rfl); have n0_10 : (ab 87 10).toInt = (mI S 82 6).toInt := (by rw [← h0]; rfl); have n0_4 : (ab 87 4).toInt = (mI S 82 8).toInt := (by rw [← h0]; rfl); have n0_3 : (ab 87 3).toInt = (mI S 82 7).toInt := (by rw [← h0]; rfl); have n0_5 : (ab 87 5).toInt = (mI S 82 2).toInt := (by rw [← h0]; rfl); have h1 : aG S1 = gMi ab := rp1_S1.1.trans (congrArg gMi h0); have n1_9 : ((gMi ab) 87 9).toInt = (mI S1 82 3).toInt := (by rw [← h1]; rfl); have n1_10 : ((gMi ab) 87 10).toInt = (mI S1 82 6).toInt := (by rw [← h1]; rfl); have n1_4 : ((gMi ab) 87 4).toInt = (mI S1 82 8).toInt := (by rw [← h1]; rfl); have n1_3 : ((gMi ab) 87 3).toInt = (mI S1 82 7).toInt := (by rw [← h1]; rfl); have n1_5 : ((gMi ab) 87 5).toInt = (mI S1 82 2).toInt := (by rw [← h1]; rfl); have h2 : aG S3 = gMa (gMi ab) := rp1_S3.1.trans (congrArg gMa h1); have n2_9 : ((gMa (gMi ab)) 87 9).toInt = (mI S3 82 3).toInt := (by rw [← h2]; rfl); have n2_10 : ((gMa (gMi ab)) 87 10).toInt = (mI S3 82 6).toInt := (by rw [← h2]; rfl); have n2_4 : ((gMa (gMi ab)) 87 4).toInt = (mI S3 82 8).toInt := (by rw [← h2]; rfl); have n2_3 : ((gMa (gMi ab)) 87 3).toInt = (mI S3 82 7).toInt := (by rw [← h2]; rfl); have n2_5 : ((gMa (gMi ab)) 87 5).toInt = (mI S3 82 2).toInt := (by rw [← h2]; rfl); have h3 : aG S5 = gMi (gMa (gMi ab)) := rp1_S5.1.trans (congrArg gMi h2); have n3_9 : ((gMi (gMa (gMi ab))) 87 9).toInt = (mI S5 82 3).toInt := (by rw [← h3]; rfl); have n3_10 : ((gMi (gMa (gMi ab))) 87 10).toInt = (mI S5 82 6).toInt := (by rw [← h3]; rfl); have n3_4 : ((gMi (gMa (gMi ab))) 87 4).toInt = (mI S5 82 8).toInt := (by rw [← h3]; rfl); have n3_3 : ((gMi (gMa (gMi ab))) 87 3).toInt = (mI S5 82 7).toInt := (by rw [← h3]; rfl); have n3_5 : ((gMi (gMa (gMi ab))) 87 5).toInt = (mI S5 82 2).toInt := (by rw [← h3]; rfl); exfalso; omega))
      · skip
        have g39 := i_nlt h25
        refine zd (fun h40 => ?_) (fun h40 => ?_)
        · skip
          have g41 := i_lt h40
          have li42 : (-1 : Int32).toInt = -1 := rfl
          exact K ((-1 : Int32)) _ hI_S1 (by omega) (show xB S1 (mR S1 70) from by first | (exact xB_x (xC_o (W := 75) rp0_S1).2)) (show aG S1 = gRs ab z.toInt ∧ (-1 : Int32).toInt = gRp ab z.toInt from by first | (have h0 : aG S = ab := hpre1; have n0_9 : (ab 87 9).toInt = (mI S 82 3).toInt := (by rw [← h0]; rfl); have n0_10 : (ab 87 10).toInt = (mI S 82 6).toInt := (by rw [← h0]; rfl); have n0_4 : (ab 87 4).toInt = (mI S 82 8).toInt := (by rw [← h0]; rfl); have n0_3 : (ab 87 3).toInt = (mI S 82 7).toInt := (by rw [← h0]; rfl); have n0_5 : (ab 87 5).toInt = (mI S 82 2).toInt := (by rw [← h0]; rfl); have h1 : aG S1 = gMi ab := rp1_S1.1.trans (congrArg gMi h0); have n1_9 : ((gMi ab) 87 9).toInt = (mI S1 82 3).toInt := (by rw [← h1]; rfl); have n1_10 : ((gMi ab) 87 10).toInt = (mI S1 82 6).toInt := (by rw [← h1]; rfl); have n1_4 : ((gMi ab) 87 4).toInt = (mI S1 82 8).toInt := (by rw [← h1]; rfl); have n1_3 : ((gMi ab) 87 3).toInt = (mI S1 82 7).toInt := (by rw [← h1]; rfl); have n1_5 : ((gMi ab) 87 5).toInt = (mI S1 82 2).toInt := (by rw [← h1]; rfl); have d2 := (i_div (x := mI S 82 2) (y := (2 : Int32)) (by omega) (by decide)).2.2.1; have t2 : (2 : Int32).toInt = 2 := rfl; rw [t2] at d2; have E := Rs_gy (a := ab) (z := z.toInt) (by rw [n0_5, ← d2]; omega) (R1_gn (by unfold gHs; omega)) (R2_gy (by unfold gHs; omega)); refine ⟨h1.trans E.1.symm, ?_⟩; rw [E.2.1 (by unfold gHs; omega)]; omega) | (have h0 : aG S = ab := hpre1; have n0_9 : (ab 87 9).toInt = (mI S 82 3).toInt := (by rw [← h0]; rfl); have n0_10 : (ab 87 10).toInt = (mI S 82 6).toInt := (by rw [← h0]; rfl); have n0_4 : (ab 87 4).toInt = (mI S 82 8).toInt := (by rw [← h0]; rfl); have n0_3 : (ab 87 3).toInt = (mI S 82 7).toInt := (by rw [← h0]; rfl); have n0_5 : (ab 87 5).toInt = (mI S 82 2).toInt := (by rw [← h0]; rfl); have h1 : aG S1 = gMi ab := rp1_S1.1.trans (congrArg gMi h0); have n1_9 : ((gMi ab) 87 9).toInt = (mI S1 82 3).toInt := (by rw [← h1]; rfl); have n1_10 : ((gMi ab) 87 10).toInt = (mI S1 82 6).toInt := (by rw [← h1]; rfl); have n1_4 : ((gMi ab) 87 4).toInt = (mI S1 82 8).toInt := (by rw [← h1]; rfl); have n1_3 : ((gMi ab) 87 3).toInt = (mI S1 82 7).toInt := (by rw [← h1]; rfl); have n1_5 : ((gMi ab) 87 5).toInt = (mI S1 82 2).toInt := (by rw [← h1]; rfl); have d2 := (i_div (x := mI S 82 2) (y := (2 : Int32)) (by omega) (by decide)).2.2.1; have t2 : (2 : Int32).toInt = 2 := rfl; rw [t2] at d2; have E := Rs_gy (a := ab) (z := z.toInt) (by rw [n0_5, ← d2]; omega) (R1_gn (by unfold gHs; omega)) (R2_gy (by unfold gHs; omega)); refine ⟨h1.trans E.1.symm, ?_⟩; rw [E.2.2 (by unfold gHs; omega)]; rfl) | (have h0 : aG S = ab := hpre1; have n0_9 : (ab 87 9).toInt = (mI S 82 3).toInt := (by rw [← h0]; rfl); have n0_10 : (ab 87 10).toInt = (mI S 82 6).toInt := (by rw [← h0]; rfl); have n0_4 : (ab 87 4).toInt = (mI S 82 8).toInt := (by rw [← h0]; rfl); have n0_3 : (ab 87 3).toInt = (mI S 82 7).toInt := (by rw [← h0]; rfl); have n0_5 : (ab 87 5).toInt = (mI S 82 2).toInt := (by rw [← h0]; rfl); have h1 : aG S1 = gMi ab := rp1_S1.1.trans (congrArg gMi h0); have n1_9 : ((gMi ab) 87 9).toInt = (mI S1 82 3).toInt := (by rw [← h1]; rfl); have n1_10 : ((gMi ab) 87 10).toInt = (mI S1 82 6).toInt := (by rw [← h1]; rfl); have n1_4 : ((gMi ab) 87 4).toInt = (mI S1 82 8).toInt := (by rw [← h1]; rfl); have n1_3 : ((gMi ab) 87 3).toInt = (mI S1 82 7).toInt := (by rw [← h1]; rfl); have n1_5 : ((gMi ab) 87 5).toInt = (mI S1 82 2).toInt := (by rw [← h1]; rfl); exfalso; omega))
        · skip
          have g43 := i_nlt h40
          exact K ((mI S1 82 8)) _ hI_S1 (by omega) (show xB S1 (mR S1 70) from by first | (exact xB_x (xC_o (W := 75) rp0_S1).2)) (show aG S1 = gRs ab z.toInt ∧ (mI S1 82 8).toInt = gRp ab z.toInt from by first | (have h0 : aG S = ab := hpre1; have n0_9 : (ab 87 9).toInt = (mI S 82 3).toInt := (by rw [← h0]; rfl); have n0_10 : (ab 87 10).toInt = (mI S 82 6).toInt := (by rw [← h0]; rfl); have n0_4 : (ab 87 4).toInt = (mI S 82 8).toInt := (by rw [← h0]; rfl); have n0_3 : (ab 87 3).toInt = (mI S 82 7).toInt := (by rw [← h0]; rfl); have n0_5 : (ab 87 5).toInt = (mI S 82 2).toInt := (by rw [← h0]; rfl); have h1 : aG S1 = gMi ab := rp1_S1.1.trans (congrArg gMi h0); have n1_9 : ((gMi ab) 87 9).toInt = (mI S1 82 3).toInt := (by rw [← h1]; rfl); have n1_10 : ((gMi ab) 87 10).toInt = (mI S1 82 6).toInt := (by rw [← h1]; rfl); have n1_4 : ((gMi ab) 87 4).toInt = (mI S1 82 8).toInt := (by rw [← h1]; rfl); have n1_3 : ((gMi ab) 87 3).toInt = (mI S1 82 7).toInt := (by rw [← h1]; rfl); have n1_5 : ((gMi ab) 87 5).toInt = (mI S1 82 2).toInt := (by rw [← h1]; rfl); have d2 := (i_div (x := mI S 82 2) (y := (2 : Int32)) (by omega) (by decide)).2.2.1; have t2 : (2 : Int32).toInt = 2 := rfl; rw [t2] at d2; have E := Rs_gy (a := ab) (z := z.toInt) (by rw [n0_5, ← d2]; omega) (R1_gn (by unfold gHs; omega)) (R2_gy (by unfold gHs; omega)); refine ⟨h1.trans E.1.symm, ?_⟩; rw [E.2.1 (by unfold gHs; omega)]; omega) | (have h0 : aG S = ab := hpre1; have n0_9 : (ab 87 9).toInt = (mI S 82 3).toInt := (by rw [← h0]; rfl); have n0_10 : (ab 87 10).toInt = (mI S 82 6).toInt := (by rw [← h0]; rfl); have n0_4 : (ab 87 4).toInt = (mI S 82 8).toInt := (by rw [← h0]; rfl); have n0_3 : (ab 87 3).toInt = (mI S 82 7).toInt := (by rw [← h0]; rfl); have n0_5 : (ab 87 5).toInt = (mI S 82 2).toInt := (by rw [← h0]; rfl); have h1 : aG S1 = gMi ab := rp1_S1.1.trans (congrArg gMi h0); have n1_9 : ((gMi ab) 87 9).toInt = (mI S1 82 3).toInt := (by rw [← h1]; rfl); have n1_10 : ((gMi ab) 87 10).toInt = (mI S1 82 6).toInt := (by rw [← h1]; rfl); have n1_4 : ((gMi ab) 87 4).toInt = (mI S1 82 8).toInt := (by rw [← h1]; rfl); have n1_3 : ((gMi ab) 87 3).toInt = (mI S1 82 7).toInt := (by rw [← h1]; rfl); have n1_5 : ((gMi ab) 87 5).toInt = (mI S1 82 2).toInt := (by rw [← h1]; rfl); have d2 := (i_div (x := mI S 82 2) (y := (2 : Int32)) (by omega) (by decide)).2.2.1; have t2 : (2 : Int32).toInt = 2 := rfl; rw [t2] at d2; have E := Rs_gy (a := ab) (z := z.toInt) (by rw [n0_5, ← d2]; omega) (R1_gn (by unfold gHs; omega)) (R2_gy (by unfold gHs; omega)); refine ⟨h1.trans E.1.symm, ?_⟩; rw [E.2.2 (by unfold gHs; omega)]; rfl) | (have h0 : aG S = ab := hpre1; have n0_9 : (ab 87 9).toInt = (mI S 82 3).toInt := (by rw [← h0]; rfl); have n0_10 : (ab 87 10).toInt = (mI S 82 6).toInt := (by rw [← h0]; rfl); have n0_4 : (ab 87 4).toInt = (mI S 82 8).toInt := (by rw [← h0]; rfl); have n0_3 : (ab 87 3).toInt = (mI S 82 7).toInt := (by rw [← h0]; rfl); have n0_5 : (ab 87 5).toInt = (mI S 82 2).toInt := (by rw [← h0]; rfl); have h1 : aG S1 = gMi ab := rp1_S1.1.trans (congrArg gMi h0); have n1_9 : ((gMi ab) 87 9).toInt = (mI S1 82 3).toInt := (by rw [← h1]; rfl); have n1_10 : ((gMi ab) 87 10).toInt = (mI S1 82 6).toInt := (by rw [← h1]; rfl); have n1_4 : ((gMi ab) 87 4).toInt = (mI S1 82 8).toInt := (by rw [← h1]; rfl); have n1_3 : ((gMi ab) 87 3).toInt = (mI S1 82 7).toInt := (by rw [← h1]; rfl); have n1_5 : ((gMi ab) 87 5).toInt = (mI S1 82 2).toInt := (by rw [← h1]; rfl); exfalso; omega))
    · skip
      have g44 := i_nlt h15
      refine zd (fun h45 => ?_) (fun h45 => ?_)
      · skip
        have g46 := i_lt h45
        refine sp_5_82_sy (ab := (aG S)) (by omega) (by omega) hI (show xB S (mR S 70) from by first | (exact xB_x (xC_o (W := 75) hpre0).2)) (show aG S = (aG S) from by first | (exact rfl)) (show qAv (aG S) from by first | (rw [hpre1]; exact hpre2)) (fun v8 S7 hI_S7 hp_v8 rp0_S7 rp1_S7 => zi_n ⟨zG_T hI_S7, ?_⟩)
        have rp0_S7 : xB S7 (mR S7 70) := rp0_S7
        have rp1_S7 : aG S7 = gMa (aG S) ∧ v8 = aSv (aG S) := rp1_S7
        refine sp_11_82_sy (ab := (aG S7)) (by omega) (by omega) hI_S7 (show xB S7 (mR S7 70) from by first | (exact xB_x (xC_o (W := 75) rp0_S7).2)) (show aG S7 = (aG S7) from by first | (exact rfl)) (show qAv (aG S7) from by first | (rw [(rp1_S7.1.trans (congrArg gMa hpre1))]; exact (Av_ma hpre2))) (fun v10 S9 hI_S9 hp_v10 rp0_S9 rp1_S9 => zi_n ⟨zG_T hI_S9, ?_⟩)
        have rp0_S9 : xB S9 (mR S9 70) := rp0_S9
        have rp1_S9 : aG S9 = gMi (aG S7) ∧ v10 = gVi (aG S7) := rp1_S9
        have x47 : (mI S9 82 3).toInt ≤ (mI S9 82 7).toInt ∧ (mI S9 82 7).toInt ≤ (mI S9 82 3).toInt + (mI S9 82 2).toInt := zG_x hI_S9
        have f48 := zG_s hI_S9 (0) (3000) (c := 82) (k := 7) (by decide)
        have f49 := zG_s hI_S9 (0) (1500) (c := 82) (k := 2) (by decide)
        first | have e50 : ((mI S9 82 7) + (mI S9 82 2)).toInt = (mI S9 82 7).toInt + (mI S9 82 2).toInt := i_add (by omega) (by omega) | have b51 := i_bd ((mI S9 82 7) + (mI S9 82 2))
        have f52 := zG_s hI_S9 (0) (400000) (c := 82) (k := 8) (by decide)
        first | have e53 : ((mI S9 82 8) + z).toInt = (mI S9 82 8).toInt + z.toInt := i_add (by omega) (by omega) | have b54 := i_bd ((mI S9 82 8) + z)
        refine zd (fun h55 => ?_) (fun h55 => ?_)
        · skip
          have g56 := i_lt h55
          have li57 : (-1 : Int32).toInt = -1 := rfl
          exact K ((-1 : Int32)) _ hI_S9 (by omega) (show xB S9 (mR S9 70) from by first | (exact xB_x (xC_o (W := 75) rp0_S9).2)) (show aG S9 = gRs ab z.toInt ∧ (-1 : Int32).toInt = gRp ab z.toInt from by first | (have h0 : aG S = ab := hpre1; have n0_9 : (ab 87 9).toInt = (mI S 82 3).toInt := (by rw [← h0]; rfl); have n0_10 : (ab 87 10).toInt = (mI S 82 6).toInt := (by rw [← h0]; rfl); have n0_4 : (ab 87 4).toInt = (mI S 82 8).toInt := (by rw [← h0]; rfl); have n0_3 : (ab 87 3).toInt = (mI S 82 7).toInt := (by rw [← h0]; rfl); have n0_5 : (ab 87 5).toInt = (mI S 82 2).toInt := (by rw [← h0]; rfl); have h1 : aG S7 = gMa ab := rp1_S7.1.trans (congrArg gMa h0); have n1_9 : ((gMa ab) 87 9).toInt = (mI S7 82 3).toInt := (by rw [← h1]; rfl); have n1_10 : ((gMa ab) 87 10).toInt = (mI S7 82 6).toInt := (by rw [← h1]; rfl); have n1_4 : ((gMa ab) 87 4).toInt = (mI S7 82 8).toInt := (by rw [← h1]; rfl); have n1_3 : ((gMa ab) 87 3).toInt = (mI S7 82 7).toInt := (by rw [← h1]; rfl); have n1_5 : ((gMa ab) 87 5).toInt = (mI S7 82 2).toInt := (by rw [← h1]; rfl); have h2 : aG S9 = gMi (gMa ab) := rp1_S9.1.trans (congrArg gMi h1); have n2_9 : ((gMi (gMa ab)) 87 9).toInt = (mI S9 82 3).toInt := (by rw [← h2]; rfl); have n2_10 : ((gMi (gMa ab)) 87 10).toInt = (mI S9 82 6).toInt := (by rw [← h2]; rfl); have n2_4 : ((gMi (gMa ab)) 87 4).toInt = (mI S9 82 8).toInt := (by rw [← h2]; rfl); have n2_3 : ((gMi (gMa ab)) 87 3).toInt = (mI S9 82 7).toInt := (by rw [← h2]; rfl); have n2_5 : ((gMi (gMa ab)) 87 5).toInt = (mI S9 82 2).toInt := (by rw [← h2]; rfl); have d2 := (i_div (x := mI S 82 2) (y := (2 : Int32)) (by omega) (by decide)).2.2.1; have t2 : (2 : Int32).toInt = 2 := rfl; rw [t2] at d2; have E := Rs_gy (a := ab) (z := z.toInt) (by rw [n0_5, ← d2]; omega) (R1_gn (by unfold gHs; omega)) (R2_gy (by unfold gHs; omega)); refine ⟨h2.trans E.1.symm, ?_⟩; rw [E.2.1 (by unfold gHs; omega)]; omega) | (have h0 : aG S = ab := hpre1; have n0_9 : (ab 87 9).toInt = (mI S 82 3).toInt := (by rw [← h0]; rfl); have n0_10 : (ab 87 10).toInt = (mI S 82 6).toInt := (by rw [← h0]; rfl); have n0_4 : (ab 87 4).toInt = (mI S 82 8).toInt := (by rw [← h0]; rfl); have n0_3 : (ab 87 3).toInt = (mI S 82 7).toInt := (by rw [← h0]; rfl); have n0_5 : (ab 87 5).toInt = (mI S 82 2).toInt := (by rw [← h0]; rfl); have h1 : aG S7 = gMa ab := rp1_S7.1.trans (congrArg gMa h0); have n1_9 : ((gMa ab) 87 9).toInt = (mI S7 82 3).toInt := (by rw [← h1]; rfl); have n1_10 : ((gMa ab) 87 10).toInt = (mI S7 82 6).toInt := (by rw [← h1]; rfl); have n1_4 : ((gMa ab) 87 4).toInt = (mI S7 82 8).toInt := (by rw [← h1]; rfl); have n1_3 : ((gMa ab) 87 3).toInt = (mI S7 82 7).toInt := (by rw [← h1]; rfl); have n1_5 : ((gMa ab) 87 5).toInt = (mI S7 82 2).toInt := (by rw [← h1]; rfl); have h2 : aG S9 = gMi (gMa ab) := rp1_S9.1.trans (congrArg gMi h1); have n2_9 : ((gMi (gMa ab)) 87 9).toInt = (mI S9 82 3).toInt := (by rw [← h2]; rfl); have n2_10 : ((gMi (gMa ab)) 87 10).toInt = (mI S9 82 6).toInt := (by rw [← h2]; rfl); have n2_4 : ((gMi (gMa ab)) 87 4).toInt = (mI S9 82 8).toInt := (by rw [← h2]; rfl); have n2_3 : ((gMi (gMa ab)) 87 3).toInt = (mI S9 82 7).toInt := (by rw [← h2]; rfl); have n2_5 : ((gMi (gMa ab)) 87 5).toInt = (mI S9 82 2).toInt := (by rw [← h2]; rfl); have d2 := (i_div (x := mI S 82 2) (y := (2 : Int32)) (by omega) (by decide)).2.2.1; have t2 : (2 : Int32).toInt = 2 := rfl; rw [t2] at d2; have E := Rs_gy (a := ab) (z := z.toInt) (by rw [n0_5, ← d2]; omega) (R1_gn (by unfold gHs; omega)) (R2_gy (by unfold gHs; omega)); refine ⟨h2.trans E.1.symm, ?_⟩; rw [E.2.2 (by unfold gHs; omega)]; rfl) | (have h0 : aG S = ab := hpre1; have n0_9 : (ab 87 9).toInt = (mI S 82 3).toInt := (by rw [← h0]; rfl); have n0_10 : (ab 87 10).toInt = (mI S 82 6).toInt := (by rw [← h0]; rfl); have n0_4 : (ab 87 4).toInt = (mI S 82 8).toInt := (by rw [← h0]; rfl); have n0_3 : (ab 87 3).toInt = (mI S 82 7).toInt := (by rw [← h0]; rfl); have n0_5 : (ab 87 5).toInt = (mI S 82 2).toInt := (by rw [← h0]; rfl); have h1 : aG S7 = gMa ab := rp1_S7.1.trans (congrArg gMa h0); have n1_9 : ((gMa ab) 87 9).toInt = (mI S7 82 3).toInt := (by rw [← h1]; rfl); have n1_10 : ((gMa ab) 87 10).toInt = (mI S7 82 6).toInt := (by rw [← h1]; rfl); have n1_4 : ((gMa ab) 87 4).toInt = (mI S7 82 8).toInt := (by rw [← h1]; rfl); have n1_3 : ((gMa ab) 87 3).toInt = (mI S7 82 7).toInt := (by rw [← h1]; rfl); have n1_5 : ((gMa ab) 87 5).toInt = (mI S7 82 2).toInt := (by rw [← h1]; rfl); have h2 : aG S9 = gMi (gMa ab) := rp1_S9.1.trans (congrArg gMi h1); have n2_9 : ((gMi (gMa ab)) 87 9).toInt = (mI S9 82 3).toInt := (by rw [← h2]; rfl); have n2_10 : ((gMi (gMa ab)) 87 10).toInt = (mI S9 82 6).toInt := (by rw [← h2]; rfl); have n2_4 : ((gMi (gMa ab)) 87 4).toInt = (mI S9 82 8).toInt := (by rw [← h2]; rfl); have n2_3 : ((gMi (gMa ab)) 87 3).toInt = (mI S9 82 7).toInt := (by rw [← h2]; rfl); have n2_5 : ((gMi (gMa ab)) 87 5).toInt = (mI S9 82 2).toInt := (by rw [← h2]; rfl); exfalso; omega))
        · skip
          have g58 := i_nlt h55
          exact K ((mI S9 82 8)) _ hI_S9 (by omega) (show xB S9 (mR S9 70) from by first | (exact xB_x (xC_o (W := 75) rp0_S9).2)) (show aG S9 = gRs ab z.toInt ∧ (mI S9 82 8).toInt = gRp ab z.toInt from by first | (have h0 : aG S = ab := hpre1; have n0_9 : (ab 87 9).toInt = (mI S 82 3).toInt := (by rw [← h0]; rfl); have n0_10 : (ab 87 10).toInt = (mI S 82 6).toInt := (by rw [← h0]; rfl); have n0_4 : (ab 87 4).toInt = (mI S 82 8).toInt := (by rw [← h0]; rfl); have n0_3 : (ab 87 3).toInt = (mI S 82 7).toInt := (by rw [← h0]; rfl); have n0_5 : (ab 87 5).toInt = (mI S 82 2).toInt := (by rw [← h0]; rfl); have h1 : aG S7 = gMa ab := rp1_S7.1.trans (congrArg gMa h0); have n1_9 : ((gMa ab) 87 9).toInt = (mI S7 82 3).toInt := (by rw [← h1]; rfl); have n1_10 : ((gMa ab) 87 10).toInt = (mI S7 82 6).toInt := (by rw [← h1]; rfl); have n1_4 : ((gMa ab) 87 4).toInt = (mI S7 82 8).toInt := (by rw [← h1]; rfl); have n1_3 : ((gMa ab) 87 3).toInt = (mI S7 82 7).toInt := (by rw [← h1]; rfl); have n1_5 : ((gMa ab) 87 5).toInt = (mI S7 82 2).toInt := (by rw [← h1]; rfl); have h2 : aG S9 = gMi (gMa ab) := rp1_S9.1.trans (congrArg gMi h1); have n2_9 : ((gMi (gMa ab)) 87 9).toInt = (mI S9 82 3).toInt := (by rw [← h2]; rfl); have n2_10 : ((gMi (gMa ab)) 87 10).toInt = (mI S9 82 6).toInt := (by rw [← h2]; rfl); have n2_4 : ((gMi (gMa ab)) 87 4).toInt = (mI S9 82 8).toInt := (by rw [← h2]; rfl); have n2_3 : ((gMi (gMa ab)) 87 3).toInt = (mI S9 82 7).toInt := (by rw [← h2]; rfl); have n2_5 : ((gMi (gMa ab)) 87 5).toInt = (mI S9 82 2).toInt := (by rw [← h2]; rfl); have d2 := (i_div (x := mI S 82 2) (y := (2 : Int32)) (by omega) (by decide)).2.2.1; have t2 : (2 : Int32).toInt = 2 := rfl; rw [t2] at d2; have E := Rs_gy (a := ab) (z := z.toInt) (by rw [n0_5, ← d2]; omega) (R1_gn (by unfold gHs; omega)) (R2_gy (by unfold gHs; omega)); refine ⟨h2.trans E.1.symm, ?_⟩; rw [E.2.1 (by unfold gHs; omega)]; omega) | (have h0 : aG S = ab := hpre1; have n0_9 : (ab 87 9).toInt = (mI S 82 3).toInt := (by rw [← h0]; rfl); have n0_10 : (ab 87 10).toInt = (mI S 82 6).toInt := (by rw [← h0]; rfl); have n0_4 : (ab 87 4).toInt = (mI S 82 8).toInt := (by rw [← h0]; rfl); have n0_3 : (ab 87 3).toInt = (mI S 82 7).toInt := (by rw [← h0]; rfl); have n0_5 : (ab 87 5).toInt = (mI S 82 2).toInt := (by rw [← h0]; rfl); have h1 : aG S7 = gMa ab := rp1_S7.1.trans (congrArg gMa h0); have n1_9 : ((gMa ab) 87 9).toInt = (mI S7 82 3).toInt := (by rw [← h1]; rfl); have n1_10 : ((gMa ab) 87 10).toInt = (mI S7 82 6).toInt := (by rw [← h1]; rfl); have n1_4 : ((gMa ab) 87 4).toInt = (mI S7 82 8).toInt := (by rw [← h1]; rfl); have n1_3 : ((gMa ab) 87 3).toInt = (mI S7 82 7).toInt := (by rw [← h1]; rfl); have n1_5 : ((gMa ab) 87 5).toInt = (mI S7 82 2).toInt := (by rw [← h1]; rfl); have h2 : aG S9 = gMi (gMa ab) := rp1_S9.1.trans (congrArg gMi h1); have n2_9 : ((gMi (gMa ab)) 87 9).toInt = (mI S9 82 3).toInt := (by rw [← h2]; rfl); have n2_10 : ((gMi (gMa ab)) 87 10).toInt = (mI S9 82 6).toInt := (by rw [← h2]; rfl); have n2_4 : ((gMi (gMa ab)) 87 4).toInt = (mI S9 82 8).toInt := (by rw [← h2]; rfl); have n2_3 : ((gMi (gMa ab)) 87 3).toInt = (mI S9 82 7).toInt := (by rw [← h2]; rfl); have n2_5 : ((gMi (gMa ab)) 87 5).toInt = (mI S9 82 2).toInt := (by rw [← h2]; rfl); have d2 := (i_div (x := mI S 82 2) (y := (2 : Int32)) (by omega) (by decide)).2.2.1; have t2 : (2 : Int32).toInt = 2 := rfl; rw [t2] at d2; have E := Rs_gy (a := ab) (z := z.toInt) (by rw [n0_5, ← d2]; omega) (R1_gn (by unfold gHs; omega)) (R2_gy (by unfold gHs; omega)); refine ⟨h2.trans E.1.symm, ?_⟩; rw [E.2.2 (by unfold gHs; omega)]; rfl) | (have h0 : aG S = ab := hpre1; have n0_9 : (ab 87 9).toInt = (mI S 82 3).toInt := (by rw [← h0]; rfl); have n0_10 : (ab 87 10).toInt = (mI S 82 6).toInt := (by rw [← h0]; rfl); have n0_4 : (ab 87 4).toInt = (mI S 82 8).toInt := (by rw [← h0]; rfl); have n0_3 : (ab 87 3).toInt = (mI S 82 7).toInt := (by rw [← h0]; rfl); have n0_5 : (ab 87 5).toInt = (mI S 82 2).toInt := (by rw [← h0]; rfl); have h1 : aG S7 = gMa ab := rp1_S7.1.trans (congrArg gMa h0); have n1_9 : ((gMa ab) 87 9).toInt = (mI S7 82 3).toInt := (by rw [← h1]; rfl); have n1_10 : ((gMa ab) 87 10).toInt = (mI S7 82 6).toInt := (by rw [← h1]; rfl); have n1_4 : ((gMa ab) 87 4).toInt = (mI S7 82 8).toInt := (by rw [← h1]; rfl); have n1_3 : ((gMa ab) 87 3).toInt = (mI S7 82 7).toInt := (by rw [← h1]; rfl); have n1_5 : ((gMa ab) 87 5).toInt = (mI S7 82 2).toInt := (by rw [← h1]; rfl); have h2 : aG S9 = gMi (gMa ab) := rp1_S9.1.trans (congrArg gMi h1); have n2_9 : ((gMi (gMa ab)) 87 9).toInt = (mI S9 82 3).toInt := (by rw [← h2]; rfl); have n2_10 : ((gMi (gMa ab)) 87 10).toInt = (mI S9 82 6).toInt := (by rw [← h2]; rfl); have n2_4 : ((gMi (gMa ab)) 87 4).toInt = (mI S9 82 8).toInt := (by rw [← h2]; rfl); have n2_3 : ((gMi (gMa ab)) 87 3).toInt = (mI S9 82 7).toInt := (by rw [← h2]; rfl); have n2_5 : ((gMi (gMa ab)) 87 5).toInt = (mI S9 82 2).toInt := (by rw [← h2]; rfl); exfalso; omega))
      · skip
        have g59 := i_nlt h45
        refine zd (fun h60 => ?_) (fun h60 => ?_)
        · skip
          have g61 := i_lt h60
          have li62 : (-1 : Int32).toInt = -1 := rfl
          exact K ((-1 : Int32)) _ hI (by omega) (show xB S (mR S 70) from by first | (exact xB_x (xC_o (W := 75) hpre0).2)) (show aG S = gRs ab z.toInt ∧ (-1 : Int32).toInt = gRp ab z.toInt from by first | (have h0 : aG S = ab := hpre1; have n0_9 : (ab 87 9).toInt = (mI S 82 3).toInt := (by rw [← h0]; rfl); have n0_10 : (ab 87 10).toInt = (mI S 82 6).toInt := (by rw [← h0]; rfl); have n0_4 : (ab 87 4).toInt = (mI S 82 8).toInt := (by rw [← h0]; rfl); have n0_3 : (ab 87 3).toInt = (mI S 82 7).toInt := (by rw [← h0]; rfl); have n0_5 : (ab 87 5).toInt = (mI S 82 2).toInt := (by rw [← h0]; rfl); have d2 := (i_div (x := mI S 82 2) (y := (2 : Int32)) (by omega) (by decide)).2.2.1; have t2 : (2 : Int32).toInt = 2 := rfl; rw [t2] at d2; have E := Rs_gy (a := ab) (z := z.toInt) (by rw [n0_5, ← d2]; omega) (R1_gy (by unfold gHs; omega)) (R2_gy (by unfold gHs; omega)); refine ⟨h0.trans E.1.symm, ?_⟩; rw [E.2.1 (by unfold gHs; omega)]; omega) | (have h0 : aG S = ab := hpre1; have n0_9 : (ab 87 9).toInt = (mI S 82 3).toInt := (by rw [← h0]; rfl); have n0_10 : (ab 87 10).toInt = (mI S 82 6).toInt := (by rw [← h0]; rfl); have n0_4 : (ab 87 4).toInt = (mI S 82 8).toInt := (by rw [← h0]; rfl); have n0_3 : (ab 87 3).toInt = (mI S 82 7).toInt := (by rw [← h0]; rfl); have n0_5 : (ab 87 5).toInt = (mI S 82 2).toInt := (by rw [← h0]; rfl); have d2 := (i_div (x := mI S 82 2) (y := (2 : Int32)) (by omega) (by decide)).2.2.1; have t2 : (2 : Int32).toInt = 2 := rfl; rw [t2] at d2; have E := Rs_gy (a := ab) (z := z.toInt) (by rw [n0_5, ← d2]; omega) (R1_gy (by unfold gHs; omega)) (R2_gy (by unfold gHs; omega)); refine ⟨h0.trans E.1.symm, ?_⟩; rw [E.2.2 (by unfold gHs; omega)]; rfl) | (have h0 : aG S = ab := hpre1; have n0_9 : (ab 87 9).toInt = (mI S 82 3).toInt := (by rw [← h0]; rfl); have n0_10 : (ab 87 10).toInt = (mI S 82 6).toInt := (by rw [← h0]; rfl); have n0_4 : (ab 87 4).toInt = (mI S 82 8).toInt := (by rw [← h0]; rfl); have n0_3 : (ab 87 3).toInt = (mI S 82 7).toInt := (by rw [← h0]; rfl); have n0_5 : (ab 87 5).toInt = (mI S 82 2).toInt := (by rw [← h0]; rfl); exfalso; omega))
        · skip
          have g63 := i_nlt h60
          exact K ((mI S 82 8)) _ hI (by omega) (show xB S (mR S 70) from by first | (exact xB_x (xC_o (W := 75) hpre0).2)) (show aG S = gRs ab z.toInt ∧ (mI S 82 8).toInt = gRp ab z.toInt from by first | (have h0 : aG S = ab := hpre1; have n0_9 : (ab 87 9).toInt = (mI S 82 3).toInt := (by rw [← h0]; rfl); have n0_10 : (ab 87 10).toInt = (mI S 82 6).toInt := (by rw [← h0]; rfl); have n0_4 : (ab 87 4).toInt = (mI S 82 8).toInt := (by rw [← h0]; rfl); have n0_3 : (ab 87 3).toInt = (mI S 82 7).toInt := (by rw [← h0]; rfl); have n0_5 : (ab 87 5).toInt = (mI S 82 2).toInt := (by rw [← h0]; rfl); have d2 := (i_div (x := mI S 82 2) (y := (2 : Int32)) (by omega) (by decide)).2.2.1; have t2 : (2 : Int32).toInt = 2 := rfl; rw [t2] at d2; have E := Rs_gy (a := ab) (z := z.toInt) (by rw [n0_5, ← d2]; omega) (R1_gy (by unfold gHs; omega)) (R2_gy (by unfold gHs; omega)); refine ⟨h0.trans E.1.symm, ?_⟩; rw [E.2.1 (by unfold gHs; omega)]; omega) | (have h0 : aG S = ab := hpre1; have n0_9 : (ab 87 9).toInt = (mI S 82 3).toInt := (by rw [← h0]; rfl); have n0_10 : (ab 87 10).toInt = (mI S 82 6).toInt := (by rw [← h0]; rfl); have n0_4 : (ab 87 4).toInt = (mI S 82 8).toInt := (by rw [← h0]; rfl); have n0_3 : (ab 87 3).toInt = (mI S 82 7).toInt := (by rw [← h0]; rfl); have n0_5 : (ab 87 5).toInt = (mI S 82 2).toInt := (by rw [← h0]; rfl); have d2 := (i_div (x := mI S 82 2) (y := (2 : Int32)) (by omega) (by decide)).2.2.1; have t2 : (2 : Int32).toInt = 2 := rfl; rw [t2] at d2; have E := Rs_gy (a := ab) (z := z.toInt) (by rw [n0_5, ← d2]; omega) (R1_gy (by unfold gHs; omega)) (R2_gy (by unfold gHs; omega)); refine ⟨h0.trans E.1.symm, ?_⟩; rw [E.2.2 (by unfold gHs; omega)]; rfl) | (have h0 : aG S = ab := hpre1; have n0_9 : (ab 87 9).toInt = (mI S 82 3).toInt := (by rw [← h0]; rfl); have n0_10 : (ab 87 10).toInt = (mI S 82 6).toInt := (by rw [← h0]; rfl); have n0_4 : (ab 87 4).toInt = (mI S 82 8).toInt := (by rw [← h0]; rfl); have n0_3 : (ab 87 3).toInt = (mI S 82 7).toInt := (by rw [← h0]; rfl); have n0_5 : (ab 87 5).toInt = (mI S 82 2).toInt := (by rw [← h0]; rfl); exfalso; omega))
  · skip
    have g64 := i_nle h7
    refine sp_4_82_sy (ab := (aG S)) (z) (by omega) (by omega) hI (show xB S (mR S 70) from by first | (exact xB_x (xC_o (W := 75) hpre0).2)) (show aG S = (aG S) from by first | (exact rfl)) (show qAv (aG S) from by first | (rw [hpre1]; exact hpre2)) (show ((aG S) 87 5).toInt / 2 < z.toInt from by first | (have n5 : (ab 87 5).toInt = (mI S 82 2).toInt := (by rw [← hpre1]; rfl); rw [hpre1, n5]; have d2 := (i_div (x := mI S 82 2) (y := (2 : Int32)) (by omega) (by decide)).2.2.1; have t2 : (2 : Int32).toInt = 2 := rfl; rw [t2] at d2; omega)) (by omega) (by omega) (fun v12 S11 hI_S11 hp_v12 rp0_S11 rp1_S11 => zi_n ⟨zG_T hI_S11, ?_⟩)
    have rp0_S11 : xB S11 (mR S11 70) := rp0_S11
    have rp1_S11 : aG S11 = gRs (aG S) z.toInt ∧ v12.toInt = gRp (aG S) z.toInt := rp1_S11
    have b65 := i_bd v12
    exact K (v12) _ hI_S11 (by omega) (show xB S11 (mR S11 70) from by first | (exact xB_x (xC_o (W := 75) rp0_S11).2)) (show aG S11 = gRs ab z.toInt ∧ v12.toInt = gRp ab z.toInt from by first | (have q := rp1_S11; rw [hpre1] at q; exact q))

