/-! from 95.s22 -/
/-! REGIONS, the class (written by wip/tools/gen15z.py) -/
theorem g_40_91_sz_0 {X : Nat × (Nat → Int32)} {d w : Nat} {S : ma_S} {Q : Option ma_V ⊕ Nat → ma_S → Prop} (z : Int32) (hd : 5 ≤ d) (hw : 183 ≤ w) (hS : zT S) (h : if z ≤ (mI S 91 2) then (if (mI S 91 5) < 0 then (ma_wp X (d - 1) (w - 22) 42 0 [(0, .inr (.inr (some 91)))] [] S (zi (fun v2 S1 => zT S1 ∧ (if (2 : Int32) ≤ v2 then (ma_wp X d w 40 35 [(0, .inr (.inr (some 91))), (1, .inl z)] [] S1 Q) else (ma_wp X (d - 1) (w - 23) 43 0 [(0, .inr (.inr (some 91)))] [] S1 (zi (fun v4 S3 => zT S3 ∧ (ma_wp X d w 40 35 [(0, .inr (.inr (some 91))), (1, .inl z)] [] S3 Q)) (fun x S9 => Q (.inr x) S9))))) (fun x S9 => Q (.inr x) S9))) else (if (93 : Int32) ≤ (mI S 91 5) then (ma_wp X (d - 1) (w - 22) 42 0 [(0, .inr (.inr (some 91)))] [] S (zi (fun v6 S5 => zT S5 ∧ (if (2 : Int32) ≤ v6 then (ma_wp X d w 40 35 [(0, .inr (.inr (some 91))), (1, .inl z)] [] S5 Q) else (ma_wp X (d - 1) (w - 23) 43 0 [(0, .inr (.inr (some 91)))] [] S5 (zi (fun v8 S7 => zT S7 ∧ (ma_wp X d w 40 35 [(0, .inr (.inr (some 91))), (1, .inl z)] [] S7 Q)) (fun x S9 => Q (.inr x) S9))))) (fun x S9 => Q (.inr x) S9))) else ((0 ≤ (mI S 91 5) ∧ (mI S 91 5).toNatClampNeg < 93) ∧ (if (mI S 91 2) < ((mI S 92 (mI S 91 5).toNatClampNeg) + z) then (ma_wp X (d - 1) (w - 22) 42 0 [(0, .inr (.inr (some 91)))] [] S (zi (fun v10 S9 => zT S9 ∧ (if (2 : Int32) ≤ v10 then (ma_wp X d w 40 35 [(0, .inr (.inr (some 91))), (1, .inl z)] [] S9 Q) else (ma_wp X (d - 1) (w - 23) 43 0 [(0, .inr (.inr (some 91)))] [] S9 (zi (fun v12 S11 => zT S11 ∧ (ma_wp X d w 40 35 [(0, .inr (.inr (some 91))), (1, .inl z)] [] S11 Q)) (fun x S9 => Q (.inr x) S9))))) (fun x S9 => Q (.inr x) S9))) else (ma_wp X d w 40 35 [(0, .inr (.inr (some 91))), (1, .inl z)] [] S Q))))) else (Q (.inl (some (.inl (-1 : Int32)))) S)) : ma_wp X d w 40 0 [(0, .inr (.inr (some 91))), (1, .inl z)] [] S Q := by
  refine zw_push hm_40 dX4_findRoom_0 (v := .inl z) rfl ?_
  refine zw_push hm_40 dX4_findRoom_1 (v := .inr (.inr (some 91))) rfl ?_
  refine zw_gf hm_40 dX4_findRoom_2 (v := .inl (mI S 91 2)) (zT_is hS s_91) (zT_t hS s_91) rfl f_4_18_4 rfl ?_
  refine zw_if2 hm_40 dX4_findRoom_5 (t := 10) rfl zc2_le ?_ ?_
  · intro hc
    rw [if_pos hc] at h
    refine zw_push hm_40 dX4_findRoom_10 (v := .inr (.inr (some 91))) rfl ?_
    refine zw_push hm_40 dX4_findRoom_11 (v := .inr (.inr (some 91))) rfl ?_
    refine zw_gf hm_40 dX4_findRoom_12 (v := .inl (mI S 91 5)) (zT_is hS s_91) (zT_t hS s_91) rfl f_4_34_4 rfl ?_
    refine zw_push hm_40 dX4_findRoom_15 (v := .inl z) rfl ?_
    refine zw_cv hm_40 dX4_findRoom_16 v_4_43_4 hm_41 [.inl z, .inl (mI S 91 5)] [] rfl (zT_rt hS s_91 rfl) ⟨by omega, by omega⟩ rfl ?_
    show ma_wp X (d - 1) (w - 22) 41 0 [(0, .inr (.inr (some 91))), (1, .inl (mI S 91 5)), (2, .inl z)] [] S _
    refine zw_push hm_41 dX4_fits_0 (v := .inl (mI S 91 5)) rfl ?_
    refine zw_if0 hm_41 dX4_fits_1 (t := 29) rfl zc0_lt ?_ ?_
    · intro hc
      rw [if_pos hc] at h
      refine zw_push hm_41 dX4_fits_29 (v := .inl (0 : Int32)) rfl ?_
      refine zw_bret hm_41 dX4_fits_30 (by decide) ?_
      show ma_wp X d w 40 19 [(0, .inr (.inr (some 91))), (1, .inl z)] [.inl (0 : Int32)] S _
      refine zw_if0 hm_40 dX4_findRoom_19 (t := 35) rfl zc0_ne (fun hc => absurd hc (by decide)) (fun _ => ?_)
      refine zw_push hm_40 dX4_findRoom_22 (v := .inr (.inr (some 91))) rfl ?_
      refine zw_cv hm_40 dX4_findRoom_23 v_4_47_4 hm_42 [] [] rfl (zT_rt hS s_91 rfl) ⟨by omega, by omega⟩ rfl (zw_mono h (zi_go ?_ ?_))
      · intro v2 S1 hv
        obtain ⟨hS1, h⟩ := hv
        refine zw_push hm_40 dX4_findRoom_26 (v := .inl (2 : Int32)) rfl ?_
        refine zw_if2 hm_40 dX4_findRoom_27 (t := 35) rfl zc2_ge ?_ ?_
        · intro hc
          rw [if_pos hc] at h
          exact h
        · intro hc
          rw [if_neg hc] at h
          refine zw_push hm_40 dX4_findRoom_30 (v := .inr (.inr (some 91))) rfl ?_
          refine zw_cv hm_40 dX4_findRoom_31 v_4_51_4 hm_43 [] [] rfl (zT_rt hS1 s_91 rfl) ⟨by omega, by omega⟩ rfl (zw_mono h (zi_go ?_ ?_))
          · intro v4 S3 hv
            obtain ⟨hS3, h⟩ := hv
            refine zw_stk hm_40 dX4_findRoom_34 (st₉ := []) rfl rfl ?_
            exact h
          · intro x S9 hx
            exact ⟨by decide, hx⟩
      · intro x S9 hx
        exact ⟨by decide, hx⟩
    · intro hc
      rw [if_neg hc] at h
      refine zw_push hm_41 dX4_fits_4 (v := .inl (mI S 91 5)) rfl ?_
      refine zw_push hm_41 dX4_fits_5 (v := .inl (93 : Int32)) rfl ?_
      refine zw_if2 hm_41 dX4_fits_7 (t := 29) rfl zc2_ge ?_ ?_
      · intro hc
        rw [if_pos hc] at h
        refine zw_push hm_41 dX4_fits_29 (v := .inl (0 : Int32)) rfl ?_
        refine zw_bret hm_41 dX4_fits_30 (by decide) ?_
        show ma_wp X d w 40 19 [(0, .inr (.inr (some 91))), (1, .inl z)] [.inl (0 : Int32)] S _
        refine zw_if0 hm_40 dX4_findRoom_19 (t := 35) rfl zc0_ne (fun hc => absurd hc (by decide)) (fun _ => ?_)
        refine zw_push hm_40 dX4_findRoom_22 (v := .inr (.inr (some 91))) rfl ?_
        refine zw_cv hm_40 dX4_findRoom_23 v_4_47_4 hm_42 [] [] rfl (zT_rt hS s_91 rfl) ⟨by omega, by omega⟩ rfl (zw_mono h (zi_go ?_ ?_))
        · intro v6 S5 hv
          obtain ⟨hS5, h⟩ := hv
          refine zw_push hm_40 dX4_findRoom_26 (v := .inl (2 : Int32)) rfl ?_
          refine zw_if2 hm_40 dX4_findRoom_27 (t := 35) rfl zc2_ge ?_ ?_
          · intro hc
            rw [if_pos hc] at h
            exact h
          · intro hc
            rw [if_neg hc] at h
            refine zw_push hm_40 dX4_findRoom_30 (v := .inr (.inr (some 91))) rfl ?_
            refine zw_cv hm_40 dX4_findRoom_31 v_4_51_4 hm_43 [] [] rfl (zT_rt hS5 s_91 rfl) ⟨by omega, by omega⟩ rfl (zw_mono h (zi_go ?_ ?_))
            · intro v8 S7 hv
              obtain ⟨hS7, h⟩ := hv
              refine zw_stk hm_40 dX4_findRoom_34 (st₉ := []) rfl rfl ?_
              exact h
            · intro x S9 hx
              exact ⟨by decide, hx⟩
        · intro x S9 hx
          exact ⟨by decide, hx⟩
      · intro hc
        rw [if_neg hc] at h
        refine zw_push hm_41 dX4_fits_10 (v := .inr (.inr (some 91))) rfl ?_
        refine zw_gf hm_41 dX4_fits_11 (v := .inr (.inr (some 92))) (zT_is hS s_91) (zT_t hS s_91) rfl f_4_9_4 (zT_f hS r_91_7) ?_
        refine zw_push hm_41 dX4_fits_14 (v := .inl (mI S 91 5)) rfl ?_
        obtain ⟨hg, h⟩ := h
        refine zw_ia hm_41 dX4_fits_15 (zT_is hS s_92) (zT_h hS s_92) rfl hg ?_
        show ma_wp X (d - 1) (w - 22) 41 16 [(0, .inr (.inr (some 91))), (1, .inl (mI S 91 5)), (2, .inl z)] [.inl (mI S 92 (mI S 91 5).toNatClampNeg)] S _
        refine zw_push hm_41 dX4_fits_16 (v := .inl z) rfl ?_
        refine zw_stk hm_41 dX4_fits_17 (st₉ := [.inl ((mI S 92 (mI S 91 5).toNatClampNeg) + z)]) rfl rfl ?_
        refine zw_push hm_41 dX4_fits_18 (v := .inr (.inr (some 91))) rfl ?_
        refine zw_gf hm_41 dX4_fits_19 (v := .inl (mI S 91 2)) (zT_is hS s_91) (zT_t hS s_91) rfl f_4_18_4 rfl ?_
        refine zw_if2 hm_41 dX4_fits_22 (t := 29) rfl zc2_gt ?_ ?_
        · intro hc
          rw [if_pos hc] at h
          refine zw_push hm_41 dX4_fits_29 (v := .inl (0 : Int32)) rfl ?_
          refine zw_bret hm_41 dX4_fits_30 (by decide) ?_
          show ma_wp X d w 40 19 [(0, .inr (.inr (some 91))), (1, .inl z)] [.inl (0 : Int32)] S _
          refine zw_if0 hm_40 dX4_findRoom_19 (t := 35) rfl zc0_ne (fun hc => absurd hc (by decide)) (fun _ => ?_)
          refine zw_push hm_40 dX4_findRoom_22 (v := .inr (.inr (some 91))) rfl ?_
          refine zw_cv hm_40 dX4_findRoom_23 v_4_47_4 hm_42 [] [] rfl (zT_rt hS s_91 rfl) ⟨by omega, by omega⟩ rfl (zw_mono h (zi_go ?_ ?_))
          · intro v10 S9 hv
            obtain ⟨hS9, h⟩ := hv
            refine zw_push hm_40 dX4_findRoom_26 (v := .inl (2 : Int32)) rfl ?_
            refine zw_if2 hm_40 dX4_findRoom_27 (t := 35) rfl zc2_ge ?_ ?_
            · intro hc
              rw [if_pos hc] at h
              exact h
            · intro hc
              rw [if_neg hc] at h
              refine zw_push hm_40 dX4_findRoom_30 (v := .inr (.inr (some 91))) rfl ?_
              refine zw_cv hm_40 dX4_findRoom_31 v_4_51_4 hm_43 [] [] rfl (zT_rt hS9 s_91 rfl) ⟨by omega, by omega⟩ rfl (zw_mono h (zi_go ?_ ?_))
              · intro v12 S11 hv
                obtain ⟨hS11, h⟩ := hv
                refine zw_stk hm_40 dX4_findRoom_34 (st₉ := []) rfl rfl ?_
                exact h
              · intro x S9 hx
                exact ⟨by decide, hx⟩
          · intro x S9 hx
            exact ⟨by decide, hx⟩
        · intro hc
          rw [if_neg hc] at h
          refine zw_push hm_41 dX4_fits_25 (v := .inl (1 : Int32)) rfl ?_
          refine zw_goto hm_41 dX4_fits_26 (t := 30) rfl ?_
          refine zw_bret hm_41 dX4_fits_30 (by decide) ?_
          show ma_wp X d w 40 19 [(0, .inr (.inr (some 91))), (1, .inl z)] [.inl (1 : Int32)] S _
          refine zw_if0 hm_40 dX4_findRoom_19 (t := 35) rfl zc0_ne (fun _ => ?_) (fun hc => absurd (by decide) hc)
          exact h
  · intro hc
    rw [if_neg hc] at h
    refine zw_push hm_40 dX4_findRoom_8 (v := .inl (-1 : Int32)) rfl ?_
    exact zw_iret hm_40 dX4_findRoom_9 h
theorem g_40_91_sz_35 {X : Nat × (Nat → Int32)} {d w : Nat} {S : ma_S} {Q : Option ma_V ⊕ Nat → ma_S → Prop} (l1 : Int32) (hd : 5 ≤ d) (hw : 183 ≤ w) (hS : zT S) (h : if (mI S 91 5) < 0 then (ma_wp X (d - 1) (w - 21) 52 0 [(0, .inr (.inr (some 91)))] [] S (zi (fun v2 S1 => zT S1 ∧ (if v2 = (-1 : Int32) then (ma_wp X d w 40 62 [(0, .inr (.inr (some 91))), (1, .inl l1)] [] (ma_put S1 91 5 (.inl (mI S1 91 5))) Q) else (ma_wp X d w 40 62 [(0, .inr (.inr (some 91))), (1, .inl l1)] [] (ma_put S1 91 5 (.inl v2)) Q))) (fun x S9 => Q (.inr x) S9))) else (if (93 : Int32) ≤ (mI S 91 5) then (ma_wp X (d - 1) (w - 21) 52 0 [(0, .inr (.inr (some 91)))] [] S (zi (fun v4 S3 => zT S3 ∧ (if v4 = (-1 : Int32) then (ma_wp X d w 40 62 [(0, .inr (.inr (some 91))), (1, .inl l1)] [] (ma_put S3 91 5 (.inl (mI S3 91 5))) Q) else (ma_wp X d w 40 62 [(0, .inr (.inr (some 91))), (1, .inl l1)] [] (ma_put S3 91 5 (.inl v4)) Q))) (fun x S9 => Q (.inr x) S9))) else ((0 ≤ (mI S 91 5) ∧ (mI S 91 5).toNatClampNeg < 93) ∧ (if (mI S 91 2) < ((mI S 92 (mI S 91 5).toNatClampNeg) + l1) then (ma_wp X (d - 1) (w - 21) 52 0 [(0, .inr (.inr (some 91)))] [] S (zi (fun v6 S5 => zT S5 ∧ (if v6 = (-1 : Int32) then (ma_wp X d w 40 62 [(0, .inr (.inr (some 91))), (1, .inl l1)] [] (ma_put S5 91 5 (.inl (mI S5 91 5))) Q) else (ma_wp X d w 40 62 [(0, .inr (.inr (some 91))), (1, .inl l1)] [] (ma_put S5 91 5 (.inl v6)) Q))) (fun x S9 => Q (.inr x) S9))) else (ma_wp X d w 40 62 [(0, .inr (.inr (some 91))), (1, .inl l1)] [] S Q))))) : ma_wp X d w 40 35 [(0, .inr (.inr (some 91))), (1, .inl l1)] [] S Q := by
  refine zw_push hm_40 dX4_findRoom_35 (v := .inr (.inr (some 91))) rfl ?_
  refine zw_push hm_40 dX4_findRoom_36 (v := .inr (.inr (some 91))) rfl ?_
  refine zw_gf hm_40 dX4_findRoom_37 (v := .inl (mI S 91 5)) (zT_is hS s_91) (zT_t hS s_91) rfl f_4_34_4 rfl ?_
  refine zw_push hm_40 dX4_findRoom_40 (v := .inl l1) rfl ?_
  refine zw_cv hm_40 dX4_findRoom_41 v_4_43_4 hm_41 [.inl l1, .inl (mI S 91 5)] [] rfl (zT_rt hS s_91 rfl) ⟨by omega, by omega⟩ rfl ?_
  show ma_wp X (d - 1) (w - 22) 41 0 [(0, .inr (.inr (some 91))), (1, .inl (mI S 91 5)), (2, .inl l1)] [] S _
  refine zw_push hm_41 dX4_fits_0 (v := .inl (mI S 91 5)) rfl ?_
  refine zw_if0 hm_41 dX4_fits_1 (t := 29) rfl zc0_lt ?_ ?_
  · intro hc
    rw [if_pos hc] at h
    refine zw_push hm_41 dX4_fits_29 (v := .inl (0 : Int32)) rfl ?_
    refine zw_bret hm_41 dX4_fits_30 (by decide) ?_
    show ma_wp X d w 40 44 [(0, .inr (.inr (some 91))), (1, .inl l1)] [.inl (0 : Int32)] S _
    refine zw_if0 hm_40 dX4_findRoom_44 (t := 62) rfl zc0_ne (fun hc => absurd hc (by decide)) (fun _ => ?_)
    refine zw_push hm_40 dX4_findRoom_47 (v := .inr (.inr (some 91))) rfl ?_
    refine zw_push hm_40 dX4_findRoom_48 (v := .inr (.inr (some 91))) rfl ?_
    refine zw_cv hm_40 dX4_findRoom_49 v_4_54_4 hm_52 [] [.inr (.inr (some 91))] rfl (zT_rt hS s_91 rfl) ⟨by omega, by omega⟩ rfl (zw_mono h (zi_go ?_ ?_))
    · intro v2 S1 hv
      obtain ⟨hS1, h⟩ := hv
      refine zw_push hm_40 dX4_findRoom_52 (v := .inr (.inr (some 91))) rfl ?_
      refine zw_gf hm_40 dX4_findRoom_53 (v := .inl (mI S1 91 5)) (zT_is hS1 s_91) (zT_t hS1 s_91) rfl f_4_34_4 rfl ?_
      refine zw_cs hm_40 dX4_findRoom_56 pn_4_57 sl_4_57 hm_54 [.inl (mI S1 91 5), .inl v2] [.inr (.inr (some 91))] rfl ⟨by omega, by omega⟩ rfl ?_
      show ma_wp X (d - 1) (w - 21) 54 0 [(0, .inl v2), (1, .inl (mI S1 91 5))] [] S1 _
      refine zw_push hm_54 dX4_orElse_0 (v := .inl v2) rfl ?_
      refine zw_push hm_54 dX4_orElse_1 (v := .inl (-1 : Int32)) rfl ?_
      refine zw_if2 hm_54 dX4_orElse_2 (t := 9) rfl zc2_ne ?_ ?_
      · intro hc
        rw [if_neg hc] at h
        refine zw_push hm_54 dX4_orElse_9 (v := .inl v2) rfl ?_
        refine zw_iret hm_54 dX4_orElse_10 ?_
        show ma_wp X d w 40 59 [(0, .inr (.inr (some 91))), (1, .inl l1)] [.inl v2, .inr (.inr (some 91))] S1 _
        refine zw_pf hm_40 dX4_findRoom_59 (zT_is hS1 s_91) (zT_t hS1 s_91) p_4_34_4 zk_int ?_
        exact h
      · intro hc
        rw [if_pos (Classical.not_not.mp hc)] at h
        refine zw_push hm_54 dX4_orElse_5 (v := .inl (mI S1 91 5)) rfl ?_
        refine zw_goto hm_54 dX4_orElse_6 (t := 10) rfl ?_
        refine zw_iret hm_54 dX4_orElse_10 ?_
        show ma_wp X d w 40 59 [(0, .inr (.inr (some 91))), (1, .inl l1)] [.inl (mI S1 91 5), .inr (.inr (some 91))] S1 _
        refine zw_pf hm_40 dX4_findRoom_59 (zT_is hS1 s_91) (zT_t hS1 s_91) p_4_34_4 zk_int ?_
        exact h
    · intro x S9 hx
      exact ⟨by decide, hx⟩
  · intro hc
    rw [if_neg hc] at h
    refine zw_push hm_41 dX4_fits_4 (v := .inl (mI S 91 5)) rfl ?_
    refine zw_push hm_41 dX4_fits_5 (v := .inl (93 : Int32)) rfl ?_
    refine zw_if2 hm_41 dX4_fits_7 (t := 29) rfl zc2_ge ?_ ?_
    · intro hc
      rw [if_pos hc] at h
      refine zw_push hm_41 dX4_fits_29 (v := .inl (0 : Int32)) rfl ?_
      refine zw_bret hm_41 dX4_fits_30 (by decide) ?_
      show ma_wp X d w 40 44 [(0, .inr (.inr (some 91))), (1, .inl l1)] [.inl (0 : Int32)] S _
      refine zw_if0 hm_40 dX4_findRoom_44 (t := 62) rfl zc0_ne (fun hc => absurd hc (by decide)) (fun _ => ?_)
      refine zw_push hm_40 dX4_findRoom_47 (v := .inr (.inr (some 91))) rfl ?_
      refine zw_push hm_40 dX4_findRoom_48 (v := .inr (.inr (some 91))) rfl ?_
      refine zw_cv hm_40 dX4_findRoom_49 v_4_54_4 hm_52 [] [.inr (.inr (some 91))] rfl (zT_rt hS s_91 rfl) ⟨by omega, by omega⟩ rfl (zw_mono h (zi_go ?_ ?_))
      · intro v4 S3 hv
        obtain ⟨hS3, h⟩ := hv
        refine zw_push hm_40 dX4_findRoom_52 (v := .inr (.inr (some 91))) rfl ?_
        refine zw_gf hm_40 dX4_findRoom_53 (v := .inl (mI S3 91 5)) (zT_is hS3 s_91) (zT_t hS3 s_91) rfl f_4_34_4 rfl ?_
        refine zw_cs hm_40 dX4_findRoom_56 pn_4_57 sl_4_57 hm_54 [.inl (mI S3 91 5), .inl v4] [.inr (.inr (some 91))] rfl ⟨by omega, by omega⟩ rfl ?_
        show ma_wp X (d - 1) (w - 21) 54 0 [(0, .inl v4), (1, .inl (mI S3 91 5))] [] S3 _
        refine zw_push hm_54 dX4_orElse_0 (v := .inl v4) rfl ?_
        refine zw_push hm_54 dX4_orElse_1 (v := .inl (-1 : Int32)) rfl ?_
        refine zw_if2 hm_54 dX4_orElse_2 (t := 9) rfl zc2_ne ?_ ?_
        · intro hc
          rw [if_neg hc] at h
          refine zw_push hm_54 dX4_orElse_9 (v := .inl v4) rfl ?_
          refine zw_iret hm_54 dX4_orElse_10 ?_
          show ma_wp X d w 40 59 [(0, .inr (.inr (some 91))), (1, .inl l1)] [.inl v4, .inr (.inr (some 91))] S3 _
          refine zw_pf hm_40 dX4_findRoom_59 (zT_is hS3 s_91) (zT_t hS3 s_91) p_4_34_4 zk_int ?_
          exact h
        · intro hc
          rw [if_pos (Classical.not_not.mp hc)] at h
          refine zw_push hm_54 dX4_orElse_5 (v := .inl (mI S3 91 5)) rfl ?_
          refine zw_goto hm_54 dX4_orElse_6 (t := 10) rfl ?_
          refine zw_iret hm_54 dX4_orElse_10 ?_
          show ma_wp X d w 40 59 [(0, .inr (.inr (some 91))), (1, .inl l1)] [.inl (mI S3 91 5), .inr (.inr (some 91))] S3 _
          refine zw_pf hm_40 dX4_findRoom_59 (zT_is hS3 s_91) (zT_t hS3 s_91) p_4_34_4 zk_int ?_
          exact h
      · intro x S9 hx
        exact ⟨by decide, hx⟩
    · intro hc
      rw [if_neg hc] at h
      refine zw_push hm_41 dX4_fits_10 (v := .inr (.inr (some 91))) rfl ?_
      refine zw_gf hm_41 dX4_fits_11 (v := .inr (.inr (some 92))) (zT_is hS s_91) (zT_t hS s_91) rfl f_4_9_4 (zT_f hS r_91_7) ?_
      refine zw_push hm_41 dX4_fits_14 (v := .inl (mI S 91 5)) rfl ?_
      obtain ⟨hg, h⟩ := h
      refine zw_ia hm_41 dX4_fits_15 (zT_is hS s_92) (zT_h hS s_92) rfl hg ?_
      show ma_wp X (d - 1) (w - 22) 41 16 [(0, .inr (.inr (some 91))), (1, .inl (mI S 91 5)), (2, .inl l1)] [.inl (mI S 92 (mI S 91 5).toNatClampNeg)] S _
      refine zw_push hm_41 dX4_fits_16 (v := .inl l1) rfl ?_
      refine zw_stk hm_41 dX4_fits_17 (st₉ := [.inl ((mI S 92 (mI S 91 5).toNatClampNeg) + l1)]) rfl rfl ?_
      refine zw_push hm_41 dX4_fits_18 (v := .inr (.inr (some 91))) rfl ?_
      refine zw_gf hm_41 dX4_fits_19 (v := .inl (mI S 91 2)) (zT_is hS s_91) (zT_t hS s_91) rfl f_4_18_4 rfl ?_
      refine zw_if2 hm_41 dX4_fits_22 (t := 29) rfl zc2_gt ?_ ?_
      · intro hc
        rw [if_pos hc] at h
        refine zw_push hm_41 dX4_fits_29 (v := .inl (0 : Int32)) rfl ?_
        refine zw_bret hm_41 dX4_fits_30 (by decide) ?_
        show ma_wp X d w 40 44 [(0, .inr (.inr (some 91))), (1, .inl l1)] [.inl (0 : Int32)] S _
        refine zw_if0 hm_40 dX4_findRoom_44 (t := 62) rfl zc0_ne (fun hc => absurd hc (by decide)) (fun _ => ?_)
        refine zw_push hm_40 dX4_findRoom_47 (v := .inr (.inr (some 91))) rfl ?_
        refine zw_push hm_40 dX4_findRoom_48 (v := .inr (.inr (some 91))) rfl ?_
        refine zw_cv hm_40 dX4_findRoom_49 v_4_54_4 hm_52 [] [.inr (.inr (some 91))] rfl (zT_rt hS s_91 rfl) ⟨by omega, by omega⟩ rfl (zw_mono h (zi_go ?_ ?_))
        · intro v6 S5 hv
          obtain ⟨hS5, h⟩ := hv
          refine zw_push hm_40 dX4_findRoom_52 (v := .inr (.inr (some 91))) rfl ?_
          refine zw_gf hm_40 dX4_findRoom_53 (v := .inl (mI S5 91 5)) (zT_is hS5 s_91) (zT_t hS5 s_91) rfl f_4_34_4 rfl ?_
          refine zw_cs hm_40 dX4_findRoom_56 pn_4_57 sl_4_57 hm_54 [.inl (mI S5 91 5), .inl v6] [.inr (.inr (some 91))] rfl ⟨by omega, by omega⟩ rfl ?_
          show ma_wp X (d - 1) (w - 21) 54 0 [(0, .inl v6), (1, .inl (mI S5 91 5))] [] S5 _
          refine zw_push hm_54 dX4_orElse_0 (v := .inl v6) rfl ?_
          refine zw_push hm_54 dX4_orElse_1 (v := .inl (-1 : Int32)) rfl ?_
          refine zw_if2 hm_54 dX4_orElse_2 (t := 9) rfl zc2_ne ?_ ?_
          · intro hc
            rw [if_neg hc] at h
            refine zw_push hm_54 dX4_orElse_9 (v := .inl v6) rfl ?_
            refine zw_iret hm_54 dX4_orElse_10 ?_
            show ma_wp X d w 40 59 [(0, .inr (.inr (some 91))), (1, .inl l1)] [.inl v6, .inr (.inr (some 91))] S5 _
            refine zw_pf hm_40 dX4_findRoom_59 (zT_is hS5 s_91) (zT_t hS5 s_91) p_4_34_4 zk_int ?_
            exact h
          · intro hc
            rw [if_pos (Classical.not_not.mp hc)] at h
            refine zw_push hm_54 dX4_orElse_5 (v := .inl (mI S5 91 5)) rfl ?_
            refine zw_goto hm_54 dX4_orElse_6 (t := 10) rfl ?_
            refine zw_iret hm_54 dX4_orElse_10 ?_
            show ma_wp X d w 40 59 [(0, .inr (.inr (some 91))), (1, .inl l1)] [.inl (mI S5 91 5), .inr (.inr (some 91))] S5 _
            refine zw_pf hm_40 dX4_findRoom_59 (zT_is hS5 s_91) (zT_t hS5 s_91) p_4_34_4 zk_int ?_
            exact h
        · intro x S9 hx
          exact ⟨by decide, hx⟩
      · intro hc
        rw [if_neg hc] at h
        refine zw_push hm_41 dX4_fits_25 (v := .inl (1 : Int32)) rfl ?_
        refine zw_goto hm_41 dX4_fits_26 (t := 30) rfl ?_
        refine zw_bret hm_41 dX4_fits_30 (by decide) ?_
        show ma_wp X d w 40 44 [(0, .inr (.inr (some 91))), (1, .inl l1)] [.inl (1 : Int32)] S _
        refine zw_if0 hm_40 dX4_findRoom_44 (t := 62) rfl zc0_ne (fun _ => ?_) (fun hc => absurd (by decide) hc)
        exact h
theorem g_40_91_sz_62 {X : Nat × (Nat → Int32)} {d w : Nat} {S : ma_S} {Q : Option ma_V ⊕ Nat → ma_S → Prop} (l1 : Int32) (hd : 5 ≤ d) (hw : 183 ≤ w) (hS : zT S) (h : if (mI S 91 5) < 0 then (Q (.inl (some (.inl (-1 : Int32)))) S) else (if (93 : Int32) ≤ (mI S 91 5) then (Q (.inl (some (.inl (-1 : Int32)))) S) else ((0 ≤ (mI S 91 5) ∧ (mI S 91 5).toNatClampNeg < 93) ∧ (if (mI S 91 2) < ((mI S 92 (mI S 91 5).toNatClampNeg) + l1) then (Q (.inl (some (.inl (-1 : Int32)))) S) else (if (mI S 91 5) < 0 then (Q (.inl (some (.inl (((mI S 91 5) * (mI S 91 2)) + (0 : Int32))))) S) else (if (93 : Int32) ≤ (mI S 91 5) then (Q (.inl (some (.inl (((mI S 91 5) * (mI S 91 2)) + (0 : Int32))))) S) else ((0 ≤ (mI S 91 5) ∧ (mI S 91 5).toNatClampNeg < 93) ∧ (Q (.inl (some (.inl (((mI S 91 5) * (mI S 91 2)) + (mI S 92 (mI S 91 5).toNatClampNeg))))) S)))))))) : ma_wp X d w 40 62 [(0, .inr (.inr (some 91))), (1, .inl l1)] [] S Q := by
  refine zw_push hm_40 dX4_findRoom_62 (v := .inr (.inr (some 91))) rfl ?_
  refine zw_push hm_40 dX4_findRoom_63 (v := .inr (.inr (some 91))) rfl ?_
  refine zw_gf hm_40 dX4_findRoom_64 (v := .inl (mI S 91 5)) (zT_is hS s_91) (zT_t hS s_91) rfl f_4_34_4 rfl ?_
  refine zw_push hm_40 dX4_findRoom_67 (v := .inl l1) rfl ?_
  refine zw_cv hm_40 dX4_findRoom_68 v_4_43_4 hm_41 [.inl l1, .inl (mI S 91 5)] [] rfl (zT_rt hS s_91 rfl) ⟨by omega, by omega⟩ rfl ?_
  show ma_wp X (d - 1) (w - 22) 41 0 [(0, .inr (.inr (some 91))), (1, .inl (mI S 91 5)), (2, .inl l1)] [] S _
  refine zw_push hm_41 dX4_fits_0 (v := .inl (mI S 91 5)) rfl ?_
  refine zw_if0 hm_41 dX4_fits_1 (t := 29) rfl zc0_lt ?_ ?_
  · intro hc
    rw [if_pos hc] at h
    refine zw_push hm_41 dX4_fits_29 (v := .inl (0 : Int32)) rfl ?_
    refine zw_bret hm_41 dX4_fits_30 (by decide) ?_
    show ma_wp X d w 40 71 [(0, .inr (.inr (some 91))), (1, .inl l1)] [.inl (0 : Int32)] S _
    refine zw_if0 hm_40 dX4_findRoom_71 (t := 81) rfl zc0_eq (fun _ => ?_) (fun hc => absurd (by decide) hc)
    refine zw_push hm_40 dX4_findRoom_81 (v := .inl (-1 : Int32)) rfl ?_
    exact zw_iret hm_40 dX4_findRoom_82 h
  · intro hc
    rw [if_neg hc] at h
    refine zw_push hm_41 dX4_fits_4 (v := .inl (mI S 91 5)) rfl ?_
    refine zw_push hm_41 dX4_fits_5 (v := .inl (93 : Int32)) rfl ?_
    refine zw_if2 hm_41 dX4_fits_7 (t := 29) rfl zc2_ge ?_ ?_
    · intro hc
      rw [if_pos hc] at h
      refine zw_push hm_41 dX4_fits_29 (v := .inl (0 : Int32)) rfl ?_
      refine zw_bret hm_41 dX4_fits_30 (by decide) ?_
      show ma_wp X d w 40 71 [(0, .inr (.inr (some 91))), (1, .inl l1)] [.inl (0 : Int32)] S _
      refine zw_if0 hm_40 dX4_findRoom_71 (t := 81) rfl zc0_eq (fun _ => ?_) (fun hc => absurd (by decide) hc)
      refine zw_push hm_40 dX4_findRoom_81 (v := .inl (-1 : Int32)) rfl ?_
      exact zw_iret hm_40 dX4_findRoom_82 h
    · intro hc
      rw [if_neg hc] at h
      refine zw_push hm_41 dX4_fits_10 (v := .inr (.inr (some 91))) rfl ?_
      refine zw_gf hm_41 dX4_fits_11 (v := .inr (.inr (some 92))) (zT_is hS s_91) (zT_t hS s_91) rfl f_4_9_4 (zT_f hS r_91_7) ?_
      refine zw_push hm_41 dX4_fits_14 (v := .inl (mI S 91 5)) rfl ?_
      obtain ⟨hg, h⟩ := h
      refine zw_ia hm_41 dX4_fits_15 (zT_is hS s_92) (zT_h hS s_92) rfl hg ?_
      show ma_wp X (d - 1) (w - 22) 41 16 [(0, .inr (.inr (some 91))), (1, .inl (mI S 91 5)), (2, .inl l1)] [.inl (mI S 92 (mI S 91 5).toNatClampNeg)] S _
      refine zw_push hm_41 dX4_fits_16 (v := .inl l1) rfl ?_
      refine zw_stk hm_41 dX4_fits_17 (st₉ := [.inl ((mI S 92 (mI S 91 5).toNatClampNeg) + l1)]) rfl rfl ?_
      refine zw_push hm_41 dX4_fits_18 (v := .inr (.inr (some 91))) rfl ?_
      refine zw_gf hm_41 dX4_fits_19 (v := .inl (mI S 91 2)) (zT_is hS s_91) (zT_t hS s_91) rfl f_4_18_4 rfl ?_
      refine zw_if2 hm_41 dX4_fits_22 (t := 29) rfl zc2_gt ?_ ?_
      · intro hc
        rw [if_pos hc] at h
        refine zw_push hm_41 dX4_fits_29 (v := .inl (0 : Int32)) rfl ?_
        refine zw_bret hm_41 dX4_fits_30 (by decide) ?_
        show ma_wp X d w 40 71 [(0, .inr (.inr (some 91))), (1, .inl l1)] [.inl (0 : Int32)] S _
        refine zw_if0 hm_40 dX4_findRoom_71 (t := 81) rfl zc0_eq (fun _ => ?_) (fun hc => absurd (by decide) hc)
        refine zw_push hm_40 dX4_findRoom_81 (v := .inl (-1 : Int32)) rfl ?_
        exact zw_iret hm_40 dX4_findRoom_82 h
      · intro hc
        rw [if_neg hc] at h
        refine zw_push hm_41 dX4_fits_25 (v := .inl (1 : Int32)) rfl ?_
        refine zw_goto hm_41 dX4_fits_26 (t := 30) rfl ?_
        refine zw_bret hm_41 dX4_fits_30 (by decide) ?_
        show ma_wp X d w 40 71 [(0, .inr (.inr (some 91))), (1, .inl l1)] [.inl (1 : Int32)] S _
        refine zw_if0 hm_40 dX4_findRoom_71 (t := 81) rfl zc0_eq (fun hc => absurd hc (by decide)) (fun _ => ?_)
        refine zw_push hm_40 dX4_findRoom_74 (v := .inr (.inr (some 91))) rfl ?_
        refine zw_cv hm_40 dX4_findRoom_75 v_4_60_4 hm_55 [] [] rfl (zT_rt hS s_91 rfl) ⟨by omega, by omega⟩ rfl ?_
        show ma_wp X (d - 1) (w - 20) 55 0 [(0, .inr (.inr (some 91)))] [] S _
        refine zw_push hm_55 dX4_topPlace_0 (v := .inr (.inr (some 91))) rfl ?_
        refine zw_gf hm_55 dX4_topPlace_1 (v := .inl (mI S 91 5)) (zT_is hS s_91) (zT_t hS s_91) rfl f_4_34_4 rfl ?_
        refine zw_push hm_55 dX4_topPlace_4 (v := .inr (.inr (some 91))) rfl ?_
        refine zw_gf hm_55 dX4_topPlace_5 (v := .inl (mI S 91 2)) (zT_is hS s_91) (zT_t hS s_91) rfl f_4_18_4 rfl ?_
        refine zw_stk hm_55 dX4_topPlace_8 (st₉ := [.inl ((mI S 91 5) * (mI S 91 2))]) rfl rfl ?_
        refine zw_push hm_55 dX4_topPlace_9 (v := .inr (.inr (some 91))) rfl ?_
        refine zw_push hm_55 dX4_topPlace_10 (v := .inr (.inr (some 91))) rfl ?_
        refine zw_gf hm_55 dX4_topPlace_11 (v := .inl (mI S 91 5)) (zT_is hS s_91) (zT_t hS s_91) rfl f_4_34_4 rfl ?_
        refine zw_cv hm_55 dX4_topPlace_14 v_4_93_4 hm_50 [.inl (mI S 91 5)] [.inl ((mI S 91 5) * (mI S 91 2))] rfl (zT_rt hS s_91 rfl) ⟨by omega, by omega⟩ rfl ?_
        show ma_wp X ((d - 1) - 1) ((w - 20) - 21) 50 0 [(0, .inr (.inr (some 91))), (1, .inl (mI S 91 5))] [] S _
        refine zw_push hm_50 dX4_topOf_0 (v := .inl (mI S 91 5)) rfl ?_
        refine zw_if0 hm_50 dX4_topOf_1 (t := 19) rfl zc0_lt ?_ ?_
        · intro hc
          rw [if_pos hc] at h
          refine zw_push hm_50 dX4_topOf_19 (v := .inl (0 : Int32)) rfl ?_
          refine zw_iret hm_50 dX4_topOf_20 ?_
          show ma_wp X (d - 1) (w - 20) 55 17 [(0, .inr (.inr (some 91)))] [.inl (0 : Int32), .inl ((mI S 91 5) * (mI S 91 2))] S _
          refine zw_stk hm_55 dX4_topPlace_17 (st₉ := [.inl (((mI S 91 5) * (mI S 91 2)) + (0 : Int32))]) rfl rfl ?_
          refine zw_iret hm_55 dX4_topPlace_18 ?_
          show ma_wp X d w 40 78 [(0, .inr (.inr (some 91))), (1, .inl l1)] [.inl (((mI S 91 5) * (mI S 91 2)) + (0 : Int32))] S _
          refine zw_goto hm_40 dX4_findRoom_78 (t := 82) rfl ?_
          exact zw_iret hm_40 dX4_findRoom_82 h
        · intro hc
          rw [if_neg hc] at h
          refine zw_push hm_50 dX4_topOf_4 (v := .inl (mI S 91 5)) rfl ?_
          refine zw_push hm_50 dX4_topOf_5 (v := .inl (93 : Int32)) rfl ?_
          refine zw_if2 hm_50 dX4_topOf_7 (t := 19) rfl zc2_ge ?_ ?_
          · intro hc
            rw [if_pos hc] at h
            refine zw_push hm_50 dX4_topOf_19 (v := .inl (0 : Int32)) rfl ?_
            refine zw_iret hm_50 dX4_topOf_20 ?_
            show ma_wp X (d - 1) (w - 20) 55 17 [(0, .inr (.inr (some 91)))] [.inl (0 : Int32), .inl ((mI S 91 5) * (mI S 91 2))] S _
            refine zw_stk hm_55 dX4_topPlace_17 (st₉ := [.inl (((mI S 91 5) * (mI S 91 2)) + (0 : Int32))]) rfl rfl ?_
            refine zw_iret hm_55 dX4_topPlace_18 ?_
            show ma_wp X d w 40 78 [(0, .inr (.inr (some 91))), (1, .inl l1)] [.inl (((mI S 91 5) * (mI S 91 2)) + (0 : Int32))] S _
            refine zw_goto hm_40 dX4_findRoom_78 (t := 82) rfl ?_
            exact zw_iret hm_40 dX4_findRoom_82 h
          · intro hc
            rw [if_neg hc] at h
            refine zw_push hm_50 dX4_topOf_10 (v := .inr (.inr (some 91))) rfl ?_
            refine zw_gf hm_50 dX4_topOf_11 (v := .inr (.inr (some 92))) (zT_is hS s_91) (zT_t hS s_91) rfl f_4_9_4 (zT_f hS r_91_7) ?_
            refine zw_push hm_50 dX4_topOf_14 (v := .inl (mI S 91 5)) rfl ?_
            obtain ⟨hg, h⟩ := h
            refine zw_ia hm_50 dX4_topOf_15 (zT_is hS s_92) (zT_h hS s_92) rfl hg ?_
            show ma_wp X ((d - 1) - 1) ((w - 20) - 21) 50 16 [(0, .inr (.inr (some 91))), (1, .inl (mI S 91 5))] [.inl (mI S 92 (mI S 91 5).toNatClampNeg)] S _
            refine zw_goto hm_50 dX4_topOf_16 (t := 20) rfl ?_
            refine zw_iret hm_50 dX4_topOf_20 ?_
            show ma_wp X (d - 1) (w - 20) 55 17 [(0, .inr (.inr (some 91)))] [.inl (mI S 92 (mI S 91 5).toNatClampNeg), .inl ((mI S 91 5) * (mI S 91 2))] S _
            refine zw_stk hm_55 dX4_topPlace_17 (st₉ := [.inl (((mI S 91 5) * (mI S 91 2)) + (mI S 92 (mI S 91 5).toNatClampNeg))]) rfl rfl ?_
            refine zw_iret hm_55 dX4_topPlace_18 ?_
            show ma_wp X d w 40 78 [(0, .inr (.inr (some 91))), (1, .inl l1)] [.inl (((mI S 91 5) * (mI S 91 2)) + (mI S 92 (mI S 91 5).toNatClampNeg))] S _
            refine zw_goto hm_40 dX4_findRoom_78 (t := 82) rfl ?_
            exact zw_iret hm_40 dX4_findRoom_82 h
theorem lp_40_91_sz_62 {X : Nat × (Nat → Int32)} {d w : Nat} {f : Nat → Nat → Int32} {r : Nat → Nat → Option Nat} {C Z N : Nat} {Q : Option ma_V ⊕ Nat → ma_S → Prop} {ab : Nat→Nat→Int32} {z : Int32} (hd : 5 ≤ d) (hw : 183 ≤ w) (K : ∀ v S₉, zL91 f r C Z N S₉ → (-1 ≤ v.toInt ∧ v.toInt ≤ 300000 ∧ (v.toInt < 0 ∨ (mI S₉ 92 (mI S₉ 91 5).toNatClampNeg).toInt ≤ 1500)) → (xB S₉ (mR S₉ 70)) → (aZ S₉ = rRs ab z.toInt ∧ v.toInt = rRp ab z.toInt) → (v.toInt = -1 ∨ (0 ≤ v.toInt ∧ v.toInt + z.toInt ≤ 1500)) → (qRv (aZ S₉)) → Q (.inl (some (.inl v))) S₉) : ∀ (n : Nat) (S : ma_S) (l1 : Int32), ((0 : Int)).toNat = n → zL91 f r C Z N S → (1 ≤ l1.toInt) → (l1.toInt ≤ 61) → (xB S (mR S 70)) → (l1 = z) → (¬ (ab 87 3).toInt < l1.toInt) → (qRv (aZ S)) → (aZ S = rR2 (rR1 ab l1.toInt) l1.toInt) → ma_wp X d w 40 62 [(0, .inr (.inr (some 91))), (1, .inl l1)] [] S Q := by
  intro n
  induction n using Nat.strongRecOn with
  | _ n IH =>
    intro S l1 hmu hI  hi0 hi1 hi2 hi3 hi4 hi5 hi6
    refine g_40_91_sz_62 l1 (by omega) (by omega) (zG_T hI) ?_
    have f1 := zG_s hI (0) (92) (c := 91) (k := 5) (by decide)
    have li2 : (0 : Int32).toInt = 0 := rfl
    refine zd (fun h3 => ?_) (fun h3 => ?_)
    · skip
      have g4 := i_lt h3
      have li5 : (-1 : Int32).toInt = -1 := rfl
      first | have f6 := zG_a hI 93 (0) (3000) (c := 92) (k := (mI S 91 5).toNatClampNeg) (by decide) (i_ix (n := 93) (by omega) (by omega)).2 | have b7 := i_bd (mI S 92 (mI S 91 5).toNatClampNeg)
      exact K ((-1 : Int32)) _ hI (show -1 ≤ (-1 : Int32).toInt ∧ (-1 : Int32).toInt ≤ 300000 ∧ ((-1 : Int32).toInt < 0 ∨ (mI S 92 (mI S 91 5).toNatClampNeg).toInt ≤ 1500) from by omega) (show xB S (mR S 70) from by first | (exact xB_x (xC_o (W := 75) hi2).2)) (show aZ S = rRs ab z.toInt ∧ (-1 : Int32).toInt = rRp ab z.toInt from by first | (have p3 := congrArg Int32.toInt (show aZ S 87 3 = mI S 91 2 from rfl); have p9 := congrArg Int32.toInt (show aZ S 87 9 = mI S 91 5 from rfl); have p92 : (aZ S 92 (aZ S 87 9).toNatClampNeg).toInt = (mI S 92 (mI S 91 5).toNatClampNeg).toInt := congrArg Int32.toInt (aZ_9 (Or.inl rfl)); have h39 := hi5.2.2.1.2.2.1; have h38 := hi5.2.2.1.2.1; exfalso; omega) | (have p3 := congrArg Int32.toInt (show aZ S 87 3 = mI S 91 2 from rfl); have p9 := congrArg Int32.toInt (show aZ S 87 9 = mI S 91 5 from rfl); have p92 : (aZ S 92 (aZ S 87 9).toNatClampNeg).toInt = (mI S 92 (mI S 91 5).toNatClampNeg).toInt := congrArg Int32.toInt (aZ_9 (Or.inl rfl)); have h39 := hi5.2.2.1.2.2.1; have h38 := hi5.2.2.1.2.1; have g := Rs_g hi4 rfl rfl; rw [← hi6] at g; rw [← hi3]; refine ⟨g.1.symm, ?_⟩; rw [g.2.2 (by unfold rFi; omega)]; rfl) | (have p3 := congrArg Int32.toInt (show aZ S 87 3 = mI S 91 2 from rfl); have p9 := congrArg Int32.toInt (show aZ S 87 9 = mI S 91 5 from rfl); have p92 : (aZ S 92 (aZ S 87 9).toNatClampNeg).toInt = (mI S 92 (mI S 91 5).toNatClampNeg).toInt := congrArg Int32.toInt (aZ_9 (Or.inl rfl)); have h39 := hi5.2.2.1.2.2.1; have h38 := hi5.2.2.1.2.1; have g := Rs_g hi4 rfl rfl; rw [← hi6] at g; rw [← hi3]; refine ⟨g.1.symm, ?_⟩; have fi : rFi (aZ S) l1.toInt := (by unfold rFi; omega); have bd := Rp_bd hi5 (by omega) fi; have mm := i_muln (x := mI S 91 5) (y := mI S 91 2) (by omega) (by omega) (by omega) (by omega); rw [g.2.1 fi, i_add (by omega) (by omega), mm.2.2, p3, p9, p92]) | (have p3 := congrArg Int32.toInt (show aZ S 87 3 = mI S 91 2 from rfl); have p9 := congrArg Int32.toInt (show aZ S 87 9 = mI S 91 5 from rfl); have p92 : (aZ S 92 (aZ S 87 9).toNatClampNeg).toInt = (mI S 92 (mI S 91 5).toNatClampNeg).toInt := congrArg Int32.toInt (aZ_9 (Or.inl rfl)); have h39 := hi5.2.2.1.2.2.1; have h38 := hi5.2.2.1.2.1; exfalso; omega)) (show (-1 : Int32).toInt = -1 ∨ (0 ≤ (-1 : Int32).toInt ∧ (-1 : Int32).toInt + z.toInt ≤ 1500) from by first | (exact Or.inl rfl) | (have p3 := congrArg Int32.toInt (show aZ S 87 3 = mI S 91 2 from rfl); have p9 := congrArg Int32.toInt (show aZ S 87 9 = mI S 91 5 from rfl); have p92 : (aZ S 92 (aZ S 87 9).toNatClampNeg).toInt = (mI S 92 (mI S 91 5).toNatClampNeg).toInt := congrArg Int32.toInt (aZ_9 (Or.inl rfl)); have h39 := hi5.2.2.1.2.2.1; have h38 := hi5.2.2.1.2.1; exfalso; omega) | (have p3 := congrArg Int32.toInt (show aZ S 87 3 = mI S 91 2 from rfl); have p9 := congrArg Int32.toInt (show aZ S 87 9 = mI S 91 5 from rfl); have p92 : (aZ S 92 (aZ S 87 9).toNatClampNeg).toInt = (mI S 92 (mI S 91 5).toNatClampNeg).toInt := congrArg Int32.toInt (aZ_9 (Or.inl rfl)); have h39 := hi5.2.2.1.2.2.1; have h38 := hi5.2.2.1.2.1; have fi : rFi (aZ S) l1.toInt := (by unfold rFi; omega); have bd := Rp_bd hi5 (by omega) fi; have mm := i_muln (x := mI S 91 5) (y := mI S 91 2) (by omega) (by omega) (by omega) (by omega); rw [← hi3, i_add (by omega) (by omega), mm.2.2, ← p3, ← p9, ← p92]; exact Or.inr bd) | (have p3 := congrArg Int32.toInt (show aZ S 87 3 = mI S 91 2 from rfl); have p9 := congrArg Int32.toInt (show aZ S 87 9 = mI S 91 5 from rfl); have p92 : (aZ S 92 (aZ S 87 9).toNatClampNeg).toInt = (mI S 92 (mI S 91 5).toNatClampNeg).toInt := congrArg Int32.toInt (aZ_9 (Or.inl rfl)); have h39 := hi5.2.2.1.2.2.1; have h38 := hi5.2.2.1.2.1; exfalso; omega)) (show qRv (aZ S) from by first | (exact hi5))
    · skip
      have g8 := i_nlt h3
      have li9 : (93 : Int32).toInt = 93 := rfl
      refine zd (fun h10 => ?_) (fun h10 => ?_)
      · skip
        have g11 := i_le h10
        have li12 : (-1 : Int32).toInt = -1 := rfl
        first | have f13 := zG_a hI 93 (0) (3000) (c := 92) (k := (mI S 91 5).toNatClampNeg) (by decide) (i_ix (n := 93) (by omega) (by omega)).2 | have b14 := i_bd (mI S 92 (mI S 91 5).toNatClampNeg)
        exact K ((-1 : Int32)) _ hI (show -1 ≤ (-1 : Int32).toInt ∧ (-1 : Int32).toInt ≤ 300000 ∧ ((-1 : Int32).toInt < 0 ∨ (mI S 92 (mI S 91 5).toNatClampNeg).toInt ≤ 1500) from by omega) (show xB S (mR S 70) from by first | (exact xB_x (xC_o (W := 75) hi2).2)) (show aZ S = rRs ab z.toInt ∧ (-1 : Int32).toInt = rRp ab z.toInt from by first | (have p3 := congrArg Int32.toInt (show aZ S 87 3 = mI S 91 2 from rfl); have p9 := congrArg Int32.toInt (show aZ S 87 9 = mI S 91 5 from rfl); have p92 : (aZ S 92 (aZ S 87 9).toNatClampNeg).toInt = (mI S 92 (mI S 91 5).toNatClampNeg).toInt := congrArg Int32.toInt (aZ_9 (Or.inl rfl)); have h39 := hi5.2.2.1.2.2.1; have h38 := hi5.2.2.1.2.1; exfalso; omega) | (have p3 := congrArg Int32.toInt (show aZ S 87 3 = mI S 91 2 from rfl); have p9 := congrArg Int32.toInt (show aZ S 87 9 = mI S 91 5 from rfl); have p92 : (aZ S 92 (aZ S 87 9).toNatClampNeg).toInt = (mI S 92 (mI S 91 5).toNatClampNeg).toInt := congrArg Int32.toInt (aZ_9 (Or.inl rfl)); have h39 := hi5.2.2.1.2.2.1; have h38 := hi5.2.2.1.2.1; have g := Rs_g hi4 rfl rfl; rw [← hi6] at g; rw [← hi3]; refine ⟨g.1.symm, ?_⟩; rw [g.2.2 (by unfold rFi; omega)]; rfl) | (have p3 := congrArg Int32.toInt (show aZ S 87 3 = mI S 91 2 from rfl); have p9 := congrArg Int32.toInt (show aZ S 87 9 = mI S 91 5 from rfl); have p92 : (aZ S 92 (aZ S 87 9).toNatClampNeg).toInt = (mI S 92 (mI S 91 5).toNatClampNeg).toInt := congrArg Int32.toInt (aZ_9 (Or.inl rfl)); have h39 := hi5.2.2.1.2.2.1; have h38 := hi5.2.2.1.2.1; have g := Rs_g hi4 rfl rfl; rw [← hi6] at g; rw [← hi3]; refine ⟨g.1.symm, ?_⟩; have fi : rFi (aZ S) l1.toInt := (by unfold rFi; omega); have bd := Rp_bd hi5 (by omega) fi; have mm := i_muln (x := mI S 91 5) (y := mI S 91 2) (by omega) (by omega) (by omega) (by omega); rw [g.2.1 fi, i_add (by omega) (by omega), mm.2.2, p3, p9, p92]) | (have p3 := congrArg Int32.toInt (show aZ S 87 3 = mI S 91 2 from rfl); have p9 := congrArg Int32.toInt (show aZ S 87 9 = mI S 91 5 from rfl); have p92 : (aZ S 92 (aZ S 87 9).toNatClampNeg).toInt = (mI S 92 (mI S 91 5).toNatClampNeg).toInt := congrArg Int32.toInt (aZ_9 (Or.inl rfl)); have h39 := hi5.2.2.1.2.2.1; have h38 := hi5.2.2.1.2.1; exfalso; omega)) (show (-1 : Int32).toInt = -1 ∨ (0 ≤ (-1 : Int32).toInt ∧ (-1 : Int32).toInt + z.toInt ≤ 1500) from by first | (exact Or.inl rfl) | (have p3 := congrArg Int32.toInt (show aZ S 87 3 = mI S 91 2 from rfl); have p9 := congrArg Int32.toInt (show aZ S 87 9 = mI S 91 5 from rfl); have p92 : (aZ S 92 (aZ S 87 9).toNatClampNeg).toInt = (mI S 92 (mI S 91 5).toNatClampNeg).toInt := congrArg Int32.toInt (aZ_9 (Or.inl rfl)); have h39 := hi5.2.2.1.2.2.1; have h38 := hi5.2.2.1.2.1; exfalso; omega) | (have p3 := congrArg Int32.toInt (show aZ S 87 3 = mI S 91 2 from rfl); have p9 := congrArg Int32.toInt (show aZ S 87 9 = mI S 91 5 from rfl); have p92 : (aZ S 92 (aZ S 87 9).toNatClampNeg).toInt = (mI S 92 (mI S 91 5).toNatClampNeg).toInt := congrArg Int32.toInt (aZ_9 (Or.inl rfl)); have h39 := hi5.2.2.1.2.2.1; have h38 := hi5.2.2.1.2.1; have fi : rFi (aZ S) l1.toInt := (by unfold rFi; omega); have bd := Rp_bd hi5 (by omega) fi; have mm := i_muln (x := mI S 91 5) (y := mI S 91 2) (by omega) (by omega) (by omega) (by omega); rw [← hi3, i_add (by omega) (by omega), mm.2.2, ← p3, ← p9, ← p92]; exact Or.inr bd) | (have p3 := congrArg Int32.toInt (show aZ S 87 3 = mI S 91 2 from rfl); have p9 := congrArg Int32.toInt (show aZ S 87 9 = mI S 91 5 from rfl); have p92 : (aZ S 92 (aZ S 87 9).toNatClampNeg).toInt = (mI S 92 (mI S 91 5).toNatClampNeg).toInt := congrArg Int32.toInt (aZ_9 (Or.inl rfl)); have h39 := hi5.2.2.1.2.2.1; have h38 := hi5.2.2.1.2.1; exfalso; omega)) (show qRv (aZ S) from by first | (exact hi5))
      · skip
        have g15 := i_nle h10
        refine ⟨i_ix (by omega) (by omega), ?_⟩
        have f16 := zG_s hI (0) (1500) (c := 91) (k := 2) (by decide)
        first | have f17 := zG_a hI 93 (0) (3000) (c := 92) (k := (mI S 91 5).toNatClampNeg) (by decide) (i_ix (n := 93) (by omega) (by omega)).2 | have b18 := i_bd (mI S 92 (mI S 91 5).toNatClampNeg)
        have b19 := i_bd l1
        first | have e20 : ((mI S 92 (mI S 91 5).toNatClampNeg) + l1).toInt = (mI S 92 (mI S 91 5).toNatClampNeg).toInt + l1.toInt := i_add (by omega) (by omega) | have b21 := i_bd ((mI S 92 (mI S 91 5).toNatClampNeg) + l1)
        refine zd (fun h22 => ?_) (fun h22 => ?_)
        · skip
          have g23 := i_lt h22
          have li24 : (-1 : Int32).toInt = -1 := rfl
          exact K ((-1 : Int32)) _ hI (show -1 ≤ (-1 : Int32).toInt ∧ (-1 : Int32).toInt ≤ 300000 ∧ ((-1 : Int32).toInt < 0 ∨ (mI S 92 (mI S 91 5).toNatClampNeg).toInt ≤ 1500) from by omega) (show xB S (mR S 70) from by first | (exact xB_x (xC_o (W := 75) hi2).2)) (show aZ S = rRs ab z.toInt ∧ (-1 : Int32).toInt = rRp ab z.toInt from by first | (have p3 := congrArg Int32.toInt (show aZ S 87 3 = mI S 91 2 from rfl); have p9 := congrArg Int32.toInt (show aZ S 87 9 = mI S 91 5 from rfl); have p92 : (aZ S 92 (aZ S 87 9).toNatClampNeg).toInt = (mI S 92 (mI S 91 5).toNatClampNeg).toInt := congrArg Int32.toInt (aZ_9 (Or.inl rfl)); have h39 := hi5.2.2.1.2.2.1; have h38 := hi5.2.2.1.2.1; exfalso; omega) | (have p3 := congrArg Int32.toInt (show aZ S 87 3 = mI S 91 2 from rfl); have p9 := congrArg Int32.toInt (show aZ S 87 9 = mI S 91 5 from rfl); have p92 : (aZ S 92 (aZ S 87 9).toNatClampNeg).toInt = (mI S 92 (mI S 91 5).toNatClampNeg).toInt := congrArg Int32.toInt (aZ_9 (Or.inl rfl)); have h39 := hi5.2.2.1.2.2.1; have h38 := hi5.2.2.1.2.1; have g := Rs_g hi4 rfl rfl; rw [← hi6] at g; rw [← hi3]; refine ⟨g.1.symm, ?_⟩; rw [g.2.2 (by unfold rFi; omega)]; rfl) | (have p3 := congrArg Int32.toInt (show aZ S 87 3 = mI S 91 2 from rfl); have p9 := congrArg Int32.toInt (show aZ S 87 9 = mI S 91 5 from rfl); have p92 : (aZ S 92 (aZ S 87 9).toNatClampNeg).toInt = (mI S 92 (mI S 91 5).toNatClampNeg).toInt := congrArg Int32.toInt (aZ_9 (Or.inl rfl)); have h39 := hi5.2.2.1.2.2.1; have h38 := hi5.2.2.1.2.1; have g := Rs_g hi4 rfl rfl; rw [← hi6] at g; rw [← hi3]; refine ⟨g.1.symm, ?_⟩; have fi : rFi (aZ S) l1.toInt := (by unfold rFi; omega); have bd := Rp_bd hi5 (by omega) fi; have mm := i_muln (x := mI S 91 5) (y := mI S 91 2) (by omega) (by omega) (by omega) (by omega); rw [g.2.1 fi, i_add (by omega) (by omega), mm.2.2, p3, p9, p92]) | (have p3 := congrArg Int32.toInt (show aZ S 87 3 = mI S 91 2 from rfl); have p9 := congrArg Int32.toInt (show aZ S 87 9 = mI S 91 5 from rfl); have p92 : (aZ S 92 (aZ S 87 9).toNatClampNeg).toInt = (mI S 92 (mI S 91 5).toNatClampNeg).toInt := congrArg Int32.toInt (aZ_9 (Or.inl rfl)); have h39 := hi5.2.2.1.2.2.1; have h38 := hi5.2.2.1.2.1; exfalso; omega)) (show (-1 : Int32).toInt = -1 ∨ (0 ≤ (-1 : Int32).toInt ∧ (-1 : Int32).toInt + z.toInt ≤ 1500) from by first | (exact Or.inl rfl) | (have p3 := congrArg Int32.toInt (show aZ S 87 3 = mI S 91 2 from rfl); have p9 := congrArg Int32.toInt (show aZ S 87 9 = mI S 91 5 from rfl); have p92 : (aZ S 92 (aZ S 87 9).toNatClampNeg).toInt = (mI S 92 (mI S 91 5).toNatClampNeg).toInt := congrArg Int32.toInt (aZ_9 (Or.inl rfl)); have h39 := hi5.2.2.1.2.2.1; have h38 := hi5.2.2.1.2.1; exfalso; omega) | (have p3 := congrArg Int32.toInt (show aZ S 87 3 = mI S 91 2 from rfl); have p9 := congrArg Int32.toInt (show aZ S 87 9 = mI S 91 5 from rfl); have p92 : (aZ S 92 (aZ S 87 9).toNatClampNeg).toInt = (mI S 92 (mI S 91 5).toNatClampNeg).toInt := congrArg Int32.toInt (aZ_9 (Or.inl rfl)); have h39 := hi5.2.2.1.2.2.1; have h38 := hi5.2.2.1.2.1; have fi : rFi (aZ S) l1.toInt := (by unfold rFi; omega); have bd := Rp_bd hi5 (by omega) fi; have mm := i_muln (x := mI S 91 5) (y := mI S 91 2) (by omega) (by omega) (by omega) (by omega); rw [← hi3, i_add (by omega) (by omega), mm.2.2, ← p3, ← p9, ← p92]; exact Or.inr bd) | (have p3 := congrArg Int32.toInt (show aZ S 87 3 = mI S 91 2 from rfl); have p9 := congrArg Int32.toInt (show aZ S 87 9 = mI S 91 5 from rfl); have p92 : (aZ S 92 (aZ S 87 9).toNatClampNeg).toInt = (mI S 92 (mI S 91 5).toNatClampNeg).toInt := congrArg Int32.toInt (aZ_9 (Or.inl rfl)); have h39 := hi5.2.2.1.2.2.1; have h38 := hi5.2.2.1.2.1; exfalso; omega)) (show qRv (aZ S) from by first | (exact hi5))
        · skip
          have g25 := i_nlt h22
          refine zd (fun h26 => ?_) (fun h26 => ?_)
          · skip
            have g27 := i_lt h26
            first | have f28 := i_muln (x := (mI S 91 5)) (y := (mI S 91 2)) (by omega) (by omega) (by omega) (by omega) | have b29 := i_bd ((mI S 91 5) * (mI S 91 2))
            first | have e30 : (((mI S 91 5) * (mI S 91 2)) + (0 : Int32)).toInt = ((mI S 91 5) * (mI S 91 2)).toInt + (0) := i_addk rfl (by omega) (by omega) | have b31 := i_bd (((mI S 91 5) * (mI S 91 2)) + (0 : Int32))
            exact K ((((mI S 91 5) * (mI S 91 2)) + (0 : Int32))) _ hI (show -1 ≤ (((mI S 91 5) * (mI S 91 2)) + (0 : Int32)).toInt ∧ (((mI S 91 5) * (mI S 91 2)) + (0 : Int32)).toInt ≤ 300000 ∧ ((((mI S 91 5) * (mI S 91 2)) + (0 : Int32)).toInt < 0 ∨ (mI S 92 (mI S 91 5).toNatClampNeg).toInt ≤ 1500) from by omega) (show xB S (mR S 70) from by first | (exact xB_x (xC_o (W := 75) hi2).2)) (show aZ S = rRs ab z.toInt ∧ (((mI S 91 5) * (mI S 91 2)) + (0 : Int32)).toInt = rRp ab z.toInt from by first | (have p3 := congrArg Int32.toInt (show aZ S 87 3 = mI S 91 2 from rfl); have p9 := congrArg Int32.toInt (show aZ S 87 9 = mI S 91 5 from rfl); have p92 : (aZ S 92 (aZ S 87 9).toNatClampNeg).toInt = (mI S 92 (mI S 91 5).toNatClampNeg).toInt := congrArg Int32.toInt (aZ_9 (Or.inl rfl)); have h39 := hi5.2.2.1.2.2.1; have h38 := hi5.2.2.1.2.1; exfalso; omega) | (have p3 := congrArg Int32.toInt (show aZ S 87 3 = mI S 91 2 from rfl); have p9 := congrArg Int32.toInt (show aZ S 87 9 = mI S 91 5 from rfl); have p92 : (aZ S 92 (aZ S 87 9).toNatClampNeg).toInt = (mI S 92 (mI S 91 5).toNatClampNeg).toInt := congrArg Int32.toInt (aZ_9 (Or.inl rfl)); have h39 := hi5.2.2.1.2.2.1; have h38 := hi5.2.2.1.2.1; have g := Rs_g hi4 rfl rfl; rw [← hi6] at g; rw [← hi3]; refine ⟨g.1.symm, ?_⟩; rw [g.2.2 (by unfold rFi; omega)]; rfl) | (have p3 := congrArg Int32.toInt (show aZ S 87 3 = mI S 91 2 from rfl); have p9 := congrArg Int32.toInt (show aZ S 87 9 = mI S 91 5 from rfl); have p92 : (aZ S 92 (aZ S 87 9).toNatClampNeg).toInt = (mI S 92 (mI S 91 5).toNatClampNeg).toInt := congrArg Int32.toInt (aZ_9 (Or.inl rfl)); have h39 := hi5.2.2.1.2.2.1; have h38 := hi5.2.2.1.2.1; have g := Rs_g hi4 rfl rfl; rw [← hi6] at g; rw [← hi3]; refine ⟨g.1.symm, ?_⟩; have fi : rFi (aZ S) l1.toInt := (by unfold rFi; omega); have bd := Rp_bd hi5 (by omega) fi; have mm := i_muln (x := mI S 91 5) (y := mI S 91 2) (by omega) (by omega) (by omega) (by omega); rw [g.2.1 fi, i_add (by omega) (by omega), mm.2.2, p3, p9, p92]) | (have p3 := congrArg Int32.toInt (show aZ S 87 3 = mI S 91 2 from rfl); have p9 := congrArg Int32.toInt (show aZ S 87 9 = mI S 91 5 from rfl); have p92 : (aZ S 92 (aZ S 87 9).toNatClampNeg).toInt = (mI S 92 (mI S 91 5).toNatClampNeg).toInt := congrArg Int32.toInt (aZ_9 (Or.inl rfl)); have h39 := hi5.2.2.1.2.2.1; have h38 := hi5.2.2.1.2.1; exfalso; omega)) (show (((mI S 91 5) * (mI S 91 2)) + (0 : Int32)).toInt = -1 ∨ (0 ≤ (((mI S 91 5) * (mI S 91 2)) + (0 : Int32)).toInt ∧ (((mI S 91 5) * (mI S 91 2)) + (0 : Int32)).toInt + z.toInt ≤ 1500) from by first | (exact Or.inl rfl) | (have p3 := congrArg Int32.toInt (show aZ S 87 3 = mI S 91 2 from rfl); have p9 := congrArg Int32.toInt (show aZ S 87 9 = mI S 91 5 from rfl); have p92 : (aZ S 92 (aZ S 87 9).toNatClampNeg).toInt = (mI S 92 (mI S 91 5).toNatClampNeg).toInt := congrArg Int32.toInt (aZ_9 (Or.inl rfl)); have h39 := hi5.2.2.1.2.2.1; have h38 := hi5.2.2.1.2.1; exfalso; omega) | (have p3 := congrArg Int32.toInt (show aZ S 87 3 = mI S 91 2 from rfl); have p9 := congrArg Int32.toInt (show aZ S 87 9 = mI S 91 5 from rfl); have p92 : (aZ S 92 (aZ S 87 9).toNatClampNeg).toInt = (mI S 92 (mI S 91 5).toNatClampNeg).toInt := congrArg Int32.toInt (aZ_9 (Or.inl rfl)); have h39 := hi5.2.2.1.2.2.1; have h38 := hi5.2.2.1.2.1; have fi : rFi (aZ S) l1.toInt := (by unfold rFi; omega); have bd := Rp_bd hi5 (by omega) fi; have mm := i_muln (x := mI S 91 5) (y := mI S 91 2) (by omega) (by omega) (by omega) (by omega); rw [← hi3, i_add (by omega) (by omega), mm.2.2, ← p3, ← p9, ← p92]; exact Or.inr bd) | (have p3 := congrArg Int32.toInt (show aZ S 87 3 = mI S 91 2 from rfl); have p9 := congrArg Int32.toInt (show aZ S 87 9 = mI S 91 5 from rfl); have p92 : (aZ S 92 (aZ S 87 9).toNatClampNeg).toInt = (mI S 92 (mI S 91 5).toNatClampNeg).toInt := congrArg Int32.toInt (aZ_9 (Or.inl rfl)); have h39 := hi5.2.2.1.2.2.1; have h38 := hi5.2.2.1.2.1; exfalso; omega)) (show qRv (aZ S) from by first | (exact hi5))
          · skip
            have g32 := i_nlt h26
            refine zd (fun h33 => ?_) (fun h33 => ?_)
            · skip
              have g34 := i_le h33
              first | have f35 := i_muln (x := (mI S 91 5)) (y := (mI S 91 2)) (by omega) (by omega) (by omega) (by omega) | have b36 := i_bd ((mI S 91 5) * (mI S 91 2))
              first | have e37 : (((mI S 91 5) * (mI S 91 2)) + (0 : Int32)).toInt = ((mI S 91 5) * (mI S 91 2)).toInt + (0) := i_addk rfl (by omega) (by omega) | have b38 := i_bd (((mI S 91 5) * (mI S 91 2)) + (0 : Int32))
              exact K ((((mI S 91 5) * (mI S 91 2)) + (0 : Int32))) _ hI (show -1 ≤ (((mI S 91 5) * (mI S 91 2)) + (0 : Int32)).toInt ∧ (((mI S 91 5) * (mI S 91 2)) + (0 : Int32)).toInt ≤ 300000 ∧ ((((mI S 91 5) * (mI S 91 2)) + (0 : Int32)).toInt < 0 ∨ (mI S 92 (mI S 91 5).toNatClampNeg).toInt ≤ 1500) from by omega) (show xB S (mR S 70) from by first | (exact xB_x (xC_o (W := 75) hi2).2)) (show aZ S = rRs ab z.toInt ∧ (((mI S 91 5) * (mI S 91 2)) + (0 : Int32)).toInt = rRp ab z.toInt from by first | (have p3 := congrArg Int32.toInt (show aZ S 87 3 = mI S 91 2 from rfl); have p9 := congrArg Int32.toInt (show aZ S 87 9 = mI S 91 5 from rfl); have p92 : (aZ S 92 (aZ S 87 9).toNatClampNeg).toInt = (mI S 92 (mI S 91 5).toNatClampNeg).toInt := congrArg Int32.toInt (aZ_9 (Or.inl rfl)); have h39 := hi5.2.2.1.2.2.1; have h38 := hi5.2.2.1.2.1; exfalso; omega) | (have p3 := congrArg Int32.toInt (show aZ S 87 3 = mI S 91 2 from rfl); have p9 := congrArg Int32.toInt (show aZ S 87 9 = mI S 91 5 from rfl); have p92 : (aZ S 92 (aZ S 87 9).toNatClampNeg).toInt = (mI S 92 (mI S 91 5).toNatClampNeg).toInt := congrArg Int32.toInt (aZ_9 (Or.inl rfl)); have h39 := hi5.2.2.1.2.2.1; have h38 := hi5.2.2.1.2.1; have g := Rs_g hi4 rfl rfl; rw [← hi6] at g; rw [← hi3]; refine ⟨g.1.symm, ?_⟩; rw [g.2.2 (by unfold rFi; omega)]; rfl) | (have p3 := congrArg Int32.toInt (show aZ S 87 3 = mI S 91 2 from rfl); have p9 := congrArg Int32.toInt (show aZ S 87 9 = mI S 91 5 from rfl); have p92 : (aZ S 92 (aZ S 87 9).toNatClampNeg).toInt = (mI S 92 (mI S 91 5).toNatClampNeg).toInt := congrArg Int32.toInt (aZ_9 (Or.inl rfl)); have h39 := hi5.2.2.1.2.2.1; have h38 := hi5.2.2.1.2.1; have g := Rs_g hi4 rfl rfl; rw [← hi6] at g; rw [← hi3]; refine ⟨g.1.symm, ?_⟩; have fi : rFi (aZ S) l1.toInt := (by unfold rFi; omega); have bd := Rp_bd hi5 (by omega) fi; have mm := i_muln (x := mI S 91 5) (y := mI S 91 2) (by omega) (by omega) (by omega) (by omega); rw [g.2.1 fi, i_add (by omega) (by omega), mm.2.2, p3, p9, p92]) | (have p3 := congrArg Int32.toInt (show aZ S 87 3 = mI S 91 2 from rfl); have p9 := congrArg Int32.toInt (show aZ S 87 9 = mI S 91 5 from rfl); have p92 : (aZ S 92 (aZ S 87 9).toNatClampNeg).toInt = (mI S 92 (mI S 91 5).toNatClampNeg).toInt := congrArg Int32.toInt (aZ_9 (Or.inl rfl)); have h39 := hi5.2.2.1.2.2.1; have h38 := hi5.2.2.1.2.1; exfalso; omega)) (show (((mI S 91 5) * (mI S 91 2)) + (0 : Int32)).toInt = -1 ∨ (0 ≤ (((mI S 91 5) * (mI S 91 2)) + (0 : Int32)).toInt ∧ (((mI S 91 5) * (mI S 91 2)) + (0 : Int32)).toInt + z.toInt ≤ 1500) from by first | (exact Or.inl rfl) | (have p3 := congrArg Int32.toInt (show aZ S 87 3 = mI S 91 2 from rfl); have p9 := congrArg Int32.toInt (show aZ S 87 9 = mI S 91 5 from rfl); have p92 : (aZ S 92 (aZ S 87 9).toNatClampNeg).toInt = (mI S 92 (mI S 91 5).toNatClampNeg).toInt := congrArg Int32.toInt (aZ_9 (Or.inl rfl)); have h39 := hi5.2.2.1.2.2.1; have h38 := hi5.2.2.1.2.1; exfalso; omega) | (have p3 := congrArg Int32.toInt (show aZ S 87 3 = mI S 91 2 from rfl); have p9 := congrArg Int32.toInt (show aZ S 87 9 = mI S 91 5 from rfl); have p92 : (aZ S 92 (aZ S 87 9).toNatClampNeg).toInt = (mI S 92 (mI S 91 5).toNatClampNeg).toInt := congrArg Int32.toInt (aZ_9 (Or.inl rfl)); have h39 := hi5.2.2.1.2.2.1; have h38 := hi5.2.2.1.2.1; have fi : rFi (aZ S) l1.toInt := (by unfold rFi; omega); have bd := Rp_bd hi5 (by omega) fi; have mm := i_muln (x := mI S 91 5) (y := mI S 91 2) (by omega) (by omega) (by omega) (by omega); rw [← hi3, i_add (by omega) (by omega), mm.2.2, ← p3, ← p9, ← p92]; exact Or.inr bd) | (have p3 := congrArg Int32.toInt (show aZ S 87 3 = mI S 91 2 from rfl); have p9 := congrArg Int32.toInt (show aZ S 87 9 = mI S 91 5 from rfl); have p92 : (aZ S 92 (aZ S 87 9).toNatClampNeg).toInt = (mI S 92 (mI S 91 5).toNatClampNeg).toInt := congrArg Int32.toInt (aZ_9 (Or.inl rfl)); have h39 := hi5.2.2.1.2.2.1; have h38 := hi5.2.2.1.2.1; exfalso; omega)) (show qRv (aZ S) from by first | (exact hi5))
            · skip
              have g39 := i_nle h33
              refine ⟨i_ix (by omega) (by omega), ?_⟩
              first | have f40 := i_muln (x := (mI S 91 5)) (y := (mI S 91 2)) (by omega) (by omega) (by omega) (by omega) | have b41 := i_bd ((mI S 91 5) * (mI S 91 2))
              first | have e42 : (((mI S 91 5) * (mI S 91 2)) + (mI S 92 (mI S 91 5).toNatClampNeg)).toInt = ((mI S 91 5) * (mI S 91 2)).toInt + (mI S 92 (mI S 91 5).toNatClampNeg).toInt := i_add (by omega) (by omega) | have b43 := i_bd (((mI S 91 5) * (mI S 91 2)) + (mI S 92 (mI S 91 5).toNatClampNeg))
              exact K ((((mI S 91 5) * (mI S 91 2)) + (mI S 92 (mI S 91 5).toNatClampNeg))) _ hI (show -1 ≤ (((mI S 91 5) * (mI S 91 2)) + (mI S 92 (mI S 91 5).toNatClampNeg)).toInt ∧ (((mI S 91 5) * (mI S 91 2)) + (mI S 92 (mI S 91 5).toNatClampNeg)).toInt ≤ 300000 ∧ ((((mI S 91 5) * (mI S 91 2)) + (mI S 92 (mI S 91 5).toNatClampNeg)).toInt < 0 ∨ (mI S 92 (mI S 91 5).toNatClampNeg).toInt ≤ 1500) from by omega) (show xB S (mR S 70) from by first | (exact xB_x (xC_o (W := 75) hi2).2)) (show aZ S = rRs ab z.toInt ∧ (((mI S 91 5) * (mI S 91 2)) + (mI S 92 (mI S 91 5).toNatClampNeg)).toInt = rRp ab z.toInt from by first | (have p3 := congrArg Int32.toInt (show aZ S 87 3 = mI S 91 2 from rfl); have p9 := congrArg Int32.toInt (show aZ S 87 9 = mI S 91 5 from rfl); have p92 : (aZ S 92 (aZ S 87 9).toNatClampNeg).toInt = (mI S 92 (mI S 91 5).toNatClampNeg).toInt := congrArg Int32.toInt (aZ_9 (Or.inl rfl)); have h39 := hi5.2.2.1.2.2.1; have h38 := hi5.2.2.1.2.1; exfalso; omega) | (have p3 := congrArg Int32.toInt (show aZ S 87 3 = mI S 91 2 from rfl); have p9 := congrArg Int32.toInt (show aZ S 87 9 = mI S 91 5 from rfl); have p92 : (aZ S 92 (aZ S 87 9).toNatClampNeg).toInt = (mI S 92 (mI S 91 5).toNatClampNeg).toInt := congrArg Int32.toInt (aZ_9 (Or.inl rfl)); have h39 := hi5.2.2.1.2.2.1; have h38 := hi5.2.2.1.2.1; have g := Rs_g hi4 rfl rfl; rw [← hi6] at g; rw [← hi3]; refine ⟨g.1.symm, ?_⟩; rw [g.2.2 (by unfold rFi; omega)]; rfl) | (have p3 := congrArg Int32.toInt (show aZ S 87 3 = mI S 91 2 from rfl); have p9 := congrArg Int32.toInt (show aZ S 87 9 = mI S 91 5 from rfl); have p92 : (aZ S 92 (aZ S 87 9).toNatClampNeg).toInt = (mI S 92 (mI S 91 5).toNatClampNeg).toInt := congrArg Int32.toInt (aZ_9 (Or.inl rfl)); have h39 := hi5.2.2.1.2.2.1; have h38 := hi5.2.2.1.2.1; have g := Rs_g hi4 rfl rfl; rw [← hi6] at g; rw [← hi3]; refine ⟨g.1.symm, ?_⟩; have fi : rFi (aZ S) l1.toInt := (by unfold rFi; omega); have bd := Rp_bd hi5 (by omega) fi; have mm := i_muln (x := mI S 91 5) (y := mI S 91 2) (by omega) (by omega) (by omega) (by omega); rw [g.2.1 fi, i_add (by omega) (by omega), mm.2.2, p3, p9, p92]) | (have p3 := congrArg Int32.toInt (show aZ S 87 3 = mI S 91 2 from rfl); have p9 := congrArg Int32.toInt (show aZ S 87 9 = mI S 91 5 from rfl); have p92 : (aZ S 92 (aZ S 87 9).toNatClampNeg).toInt = (mI S 92 (mI S 91 5).toNatClampNeg).toInt := congrArg Int32.toInt (aZ_9 (Or.inl rfl)); have h39 := hi5.2.2.1.2.2.1; have h38 := hi5.2.2.1.2.1; exfalso; omega)) (show (((mI S 91 5) * (mI S 91 2)) + (mI S 92 (mI S 91 5).toNatClampNeg)).toInt = -1 ∨ (0 ≤ (((mI S 91 5) * (mI S 91 2)) + (mI S 92 (mI S 91 5).toNatClampNeg)).toInt ∧ (((mI S 91 5) * (mI S 91 2)) + (mI S 92 (mI S 91 5).toNatClampNeg)).toInt + z.toInt ≤ 1500) from by first | (exact Or.inl rfl) | (have p3 := congrArg Int32.toInt (show aZ S 87 3 = mI S 91 2 from rfl); have p9 := congrArg Int32.toInt (show aZ S 87 9 = mI S 91 5 from rfl); have p92 : (aZ S 92 (aZ S 87 9).toNatClampNeg).toInt = (mI S 92 (mI S 91 5).toNatClampNeg).toInt := congrArg Int32.toInt (aZ_9 (Or.inl rfl)); have h39 := hi5.2.2.1.2.2.1; have h38 := hi5.2.2.1.2.1; exfalso; omega) | (have p3 := congrArg Int32.toInt (show aZ S 87 3 = mI S 91 2 from rfl); have p9 := congrArg Int32.toInt (show aZ S 87 9 = mI S 91 5 from rfl); have p92 : (aZ S 92 (aZ S 87 9).toNatClampNeg).toInt = (mI S 92 (mI S 91 5).toNatClampNeg).toInt := congrArg Int32.toInt (aZ_9 (Or.inl rfl)); have h39 := hi5.2.2.1.2.2.1; have h38 := hi5.2.2.1.2.1; have fi : rFi (aZ S) l1.toInt := (by unfold rFi; omega); have bd := Rp_bd hi5 (by omega) fi; have mm := i_muln (x := mI S 91 5) (y := mI S 91 2) (by omega) (by omega) (by omega) (by omega); rw [← hi3, i_add (by omega) (by omega), mm.2.2, ← p3, ← p9, ← p92]; exact Or.inr bd) | (have p3 := congrArg Int32.toInt (show aZ S 87 3 = mI S 91 2 from rfl); have p9 := congrArg Int32.toInt (show aZ S 87 9 = mI S 91 5 from rfl); have p92 : (aZ S 92 (aZ S 87 9).toNatClampNeg).toInt = (mI S 92 (mI S 91 5).toNatClampNeg).toInt := congrArg Int32.toInt (aZ_9 (Or.inl rfl)); have h39 := hi5.2.2.1.2.2.1; have h38 := hi5.2.2.1.2.1; exfalso; omega)) (show qRv (aZ S) from by first | (exact hi5))
theorem lp_40_91_sz_35 {X : Nat × (Nat → Int32)} {d w : Nat} {f : Nat → Nat → Int32} {r : Nat → Nat → Option Nat} {C Z N : Nat} {Q : Option ma_V ⊕ Nat → ma_S → Prop} {ab : Nat→Nat→Int32} {z : Int32} (hd : 5 ≤ d) (hw : 183 ≤ w) (K : ∀ v S₉, zL91 f r C Z N S₉ → (-1 ≤ v.toInt ∧ v.toInt ≤ 300000 ∧ (v.toInt < 0 ∨ (mI S₉ 92 (mI S₉ 91 5).toNatClampNeg).toInt ≤ 1500)) → (xB S₉ (mR S₉ 70)) → (aZ S₉ = rRs ab z.toInt ∧ v.toInt = rRp ab z.toInt) → (v.toInt = -1 ∨ (0 ≤ v.toInt ∧ v.toInt + z.toInt ≤ 1500)) → (qRv (aZ S₉)) → Q (.inl (some (.inl v))) S₉) : ∀ (n : Nat) (S : ma_S) (l1 : Int32), ((0 : Int)).toNat = n → zL91 f r C Z N S → (1 ≤ l1.toInt) → (l1.toInt ≤ 61) → (xB S (mR S 70)) → (l1 = z) → (¬ (ab 87 3).toInt < l1.toInt) → (qRv (aZ S)) → (aZ S = rR1 ab l1.toInt) → ma_wp X d w 40 35 [(0, .inr (.inr (some 91))), (1, .inl l1)] [] S Q := by
  intro n
  induction n using Nat.strongRecOn with
  | _ n IH =>
    intro S l1 hmu hI  hi0 hi1 hi2 hi3 hi4 hi5 hi6
    refine g_40_91_sz_35 l1 (by omega) (by omega) (zG_T hI) ?_
    have f1 := zG_s hI (0) (92) (c := 91) (k := 5) (by decide)
    have li2 : (0 : Int32).toInt = 0 := rfl
    refine zd (fun h3 => ?_) (fun h3 => ?_)
    · skip
      have g4 := i_lt h3
      refine sp_52_91_sz  (by omega) (by omega) hI  (fun v2 S1 eS_S1 hp_v2 rp0_S1 => zi_n ⟨(by rw [eS_S1]; exact zG_T hI), ?_⟩)
      replace eS_S1 := eS_S1.symm; subst eS_S1
      have rp0_S1 : v2.toInt = rLe (aZ S) := rp0_S1
      have b5 := i_bd v2
      have li6 : (-1 : Int32).toInt = -1 := rfl
      refine zd (fun h7 => ?_) (fun h7 => ?_)
      · skip
        have g8 := i_eq h7
        have hI9 : zL91 f r C Z N (ma_put S 91 5 (.inl (mI S 91 5))) := zG_sp hI (0) (92) rfl (by decide) (by decide) (by decide) trivial (by omega) (by omega)
        have b10 := i_bd l1
        exact lp_40_91_sz_62 (by omega) (by omega) K _ _ (l1) rfl hI9 (by omega) (by omega) (show xB (ma_put S 91 5 (.inl (mI S 91 5))) (mR (ma_put S 91 5 (.inl (mI S 91 5))) 70) from by first | (exact xB_x (xC_n (c := 91) (k := 5) (x := (mI S 91 5)) (xC_o (W := 75) hi2) ⟨by decide, Or.inl ⟨rfl, rfl⟩⟩).2)) (show (l1) = z from by first | (exact rfl) | (exact hi3)) (show ¬ (ab 87 3).toInt < (l1).toInt from by first | (exact hi4)) (show qRv (aZ (ma_put S 91 5 (.inl (mI S 91 5)))) from by first | (have p3 := congrArg Int32.toInt (show aZ S 87 3 = mI S 91 2 from rfl); have p9 := congrArg Int32.toInt (show aZ S 87 9 = mI S 91 5 from rfl); have p92 : (aZ S 92 (aZ S 87 9).toNatClampNeg).toInt = (mI S 92 (mI S 91 5).toNatClampNeg).toInt := congrArg Int32.toInt (aZ_9 (Or.inl rfl)); have h39 := hi5.2.2.1.2.2.1; have h38 := hi5.2.2.1.2.1; have lz := rp0_S1; have ly := Le_y (a := aZ S) (by omega); rw [((Z_p5 (x := (mI S 91 5)) (xC_o (W := 75) hi2).2).trans (congrArg (fun q => ma_u q 87 9 (mI S 91 5)) (show aZ S = aZ S from rfl)))]; exact Rv_9 hi5 (by omega) (by omega)) | (have p3 := congrArg Int32.toInt (show aZ S 87 3 = mI S 91 2 from rfl); have p9 := congrArg Int32.toInt (show aZ S 87 9 = mI S 91 5 from rfl); have p92 : (aZ S 92 (aZ S 87 9).toNatClampNeg).toInt = (mI S 92 (mI S 91 5).toNatClampNeg).toInt := congrArg Int32.toInt (aZ_9 (Or.inl rfl)); have h39 := hi5.2.2.1.2.2.1; have h38 := hi5.2.2.1.2.1; rw [((Z_p5 (x := (mI S 91 5)) (xC_o (W := 75) hi2).2).trans (congrArg (fun q => ma_u q 87 9 (mI S 91 5)) (show aZ S = aZ S from rfl)))]; exact Rv_9 hi5 (by omega) (by omega))) (show aZ (ma_put S 91 5 (.inl (mI S 91 5))) = rR2 (rR1 ab (l1).toInt) (l1).toInt from by first | (have p3 := congrArg Int32.toInt (show aZ S 87 3 = mI S 91 2 from rfl); have p9 := congrArg Int32.toInt (show aZ S 87 9 = mI S 91 5 from rfl); have p92 : (aZ S 92 (aZ S 87 9).toNatClampNeg).toInt = (mI S 92 (mI S 91 5).toNatClampNeg).toInt := congrArg Int32.toInt (aZ_9 (Or.inl rfl)); have h39 := hi5.2.2.1.2.2.1; have h38 := hi5.2.2.1.2.1; have lz := rp0_S1; rw [((Z_p5 (x := (mI S 91 5)) (xC_o (W := 75) hi2).2).trans (congrArg (fun q => ma_u q 87 9 (mI S 91 5)) (show aZ S = aZ S from rfl))), ← hi6]; exact (R2_l (x := v2) (by unfold rFi; omega) lz (by omega)).symm) | (have p3 := congrArg Int32.toInt (show aZ S 87 3 = mI S 91 2 from rfl); have p9 := congrArg Int32.toInt (show aZ S 87 9 = mI S 91 5 from rfl); have p92 : (aZ S 92 (aZ S 87 9).toNatClampNeg).toInt = (mI S 92 (mI S 91 5).toNatClampNeg).toInt := congrArg Int32.toInt (aZ_9 (Or.inl rfl)); have h39 := hi5.2.2.1.2.2.1; have h38 := hi5.2.2.1.2.1; have lz := rp0_S1; rw [((Z_p5 (x := (mI S 91 5)) (xC_o (W := 75) hi2).2).trans (congrArg (fun q => ma_u q 87 9 (mI S 91 5)) (show aZ S = aZ S from rfl))), ← hi6, R2_n (by unfold rFi; omega) (by omega)]; exact u_sm9 (a := aZ S) (c := 87) (k := 9)) | (have p3 := congrArg Int32.toInt (show aZ S 87 3 = mI S 91 2 from rfl); have p9 := congrArg Int32.toInt (show aZ S 87 9 = mI S 91 5 from rfl); have p92 : (aZ S 92 (aZ S 87 9).toNatClampNeg).toInt = (mI S 92 (mI S 91 5).toNatClampNeg).toInt := congrArg Int32.toInt (aZ_9 (Or.inl rfl)); have h39 := hi5.2.2.1.2.2.1; have h38 := hi5.2.2.1.2.1; exfalso; omega))
      · skip
        have g11 := i_ne h7
        have hI12 : zL91 f r C Z N (ma_put S 91 5 (.inl v2)) := zG_sp hI (0) (92) rfl (by decide) (by decide) (by decide) trivial (by omega) (by omega)
        have b13 := i_bd l1
        exact lp_40_91_sz_62 (by omega) (by omega) K _ _ (l1) rfl hI12 (by omega) (by omega) (show xB (ma_put S 91 5 (.inl v2)) (mR (ma_put S 91 5 (.inl v2)) 70) from by first | (exact xB_x (xC_n (c := 91) (k := 5) (x := v2) (xC_o (W := 75) hi2) ⟨by decide, Or.inl ⟨rfl, rfl⟩⟩).2)) (show (l1) = z from by first | (exact rfl) | (exact hi3)) (show ¬ (ab 87 3).toInt < (l1).toInt from by first | (exact hi4)) (show qRv (aZ (ma_put S 91 5 (.inl v2))) from by first | (have p3 := congrArg Int32.toInt (show aZ S 87 3 = mI S 91 2 from rfl); have p9 := congrArg Int32.toInt (show aZ S 87 9 = mI S 91 5 from rfl); have p92 : (aZ S 92 (aZ S 87 9).toNatClampNeg).toInt = (mI S 92 (mI S 91 5).toNatClampNeg).toInt := congrArg Int32.toInt (aZ_9 (Or.inl rfl)); have h39 := hi5.2.2.1.2.2.1; have h38 := hi5.2.2.1.2.1; have lz := rp0_S1; have ly := Le_y (a := aZ S) (by omega); rw [((Z_p5 (x := v2) (xC_o (W := 75) hi2).2).trans (congrArg (fun q => ma_u q 87 9 v2) (show aZ S = aZ S from rfl)))]; exact Rv_9 hi5 (by omega) (by omega)) | (have p3 := congrArg Int32.toInt (show aZ S 87 3 = mI S 91 2 from rfl); have p9 := congrArg Int32.toInt (show aZ S 87 9 = mI S 91 5 from rfl); have p92 : (aZ S 92 (aZ S 87 9).toNatClampNeg).toInt = (mI S 92 (mI S 91 5).toNatClampNeg).toInt := congrArg Int32.toInt (aZ_9 (Or.inl rfl)); have h39 := hi5.2.2.1.2.2.1; have h38 := hi5.2.2.1.2.1; rw [((Z_p5 (x := v2) (xC_o (W := 75) hi2).2).trans (congrArg (fun q => ma_u q 87 9 v2) (show aZ S = aZ S from rfl)))]; exact Rv_9 hi5 (by omega) (by omega))) (show aZ (ma_put S 91 5 (.inl v2)) = rR2 (rR1 ab (l1).toInt) (l1).toInt from by first | (have p3 := congrArg Int32.toInt (show aZ S 87 3 = mI S 91 2 from rfl); have p9 := congrArg Int32.toInt (show aZ S 87 9 = mI S 91 5 from rfl); have p92 : (aZ S 92 (aZ S 87 9).toNatClampNeg).toInt = (mI S 92 (mI S 91 5).toNatClampNeg).toInt := congrArg Int32.toInt (aZ_9 (Or.inl rfl)); have h39 := hi5.2.2.1.2.2.1; have h38 := hi5.2.2.1.2.1; have lz := rp0_S1; rw [((Z_p5 (x := v2) (xC_o (W := 75) hi2).2).trans (congrArg (fun q => ma_u q 87 9 v2) (show aZ S = aZ S from rfl))), ← hi6]; exact (R2_l (x := v2) (by unfold rFi; omega) lz (by omega)).symm) | (have p3 := congrArg Int32.toInt (show aZ S 87 3 = mI S 91 2 from rfl); have p9 := congrArg Int32.toInt (show aZ S 87 9 = mI S 91 5 from rfl); have p92 : (aZ S 92 (aZ S 87 9).toNatClampNeg).toInt = (mI S 92 (mI S 91 5).toNatClampNeg).toInt := congrArg Int32.toInt (aZ_9 (Or.inl rfl)); have h39 := hi5.2.2.1.2.2.1; have h38 := hi5.2.2.1.2.1; have lz := rp0_S1; rw [((Z_p5 (x := v2) (xC_o (W := 75) hi2).2).trans (congrArg (fun q => ma_u q 87 9 v2) (show aZ S = aZ S from rfl))), ← hi6, R2_n (by unfold rFi; omega) (by omega)]; exact u_sm9 (a := aZ S) (c := 87) (k := 9)) | (have p3 := congrArg Int32.toInt (show aZ S 87 3 = mI S 91 2 from rfl); have p9 := congrArg Int32.toInt (show aZ S 87 9 = mI S 91 5 from rfl); have p92 : (aZ S 92 (aZ S 87 9).toNatClampNeg).toInt = (mI S 92 (mI S 91 5).toNatClampNeg).toInt := congrArg Int32.toInt (aZ_9 (Or.inl rfl)); have h39 := hi5.2.2.1.2.2.1; have h38 := hi5.2.2.1.2.1; exfalso; omega))
    · skip
      have g14 := i_nlt h3
      have li15 : (93 : Int32).toInt = 93 := rfl
      refine zd (fun h16 => ?_) (fun h16 => ?_)
      · skip
        have g17 := i_le h16
        refine sp_52_91_sz  (by omega) (by omega) hI  (fun v4 S3 eS_S3 hp_v4 rp0_S3 => zi_n ⟨(by rw [eS_S3]; exact zG_T hI), ?_⟩)
        replace eS_S3 := eS_S3.symm; subst eS_S3
        have rp0_S3 : v4.toInt = rLe (aZ S) := rp0_S3
        have b18 := i_bd v4
        have li19 : (-1 : Int32).toInt = -1 := rfl
        refine zd (fun h20 => ?_) (fun h20 => ?_)
        · skip
          have g21 := i_eq h20
          have hI22 : zL91 f r C Z N (ma_put S 91 5 (.inl (mI S 91 5))) := zG_sp hI (0) (92) rfl (by decide) (by decide) (by decide) trivial (by omega) (by omega)
          have b23 := i_bd l1
          exact lp_40_91_sz_62 (by omega) (by omega) K _ _ (l1) rfl hI22 (by omega) (by omega) (show xB (ma_put S 91 5 (.inl (mI S 91 5))) (mR (ma_put S 91 5 (.inl (mI S 91 5))) 70) from by first | (exact xB_x (xC_n (c := 91) (k := 5) (x := (mI S 91 5)) (xC_o (W := 75) hi2) ⟨by decide, Or.inl ⟨rfl, rfl⟩⟩).2)) (show (l1) = z from by first | (exact rfl) | (exact hi3)) (show ¬ (ab 87 3).toInt < (l1).toInt from by first | (exact hi4)) (show qRv (aZ (ma_put S 91 5 (.inl (mI S 91 5)))) from by first | (have p3 := congrArg Int32.toInt (show aZ S 87 3 = mI S 91 2 from rfl); have p9 := congrArg Int32.toInt (show aZ S 87 9 = mI S 91 5 from rfl); have p92 : (aZ S 92 (aZ S 87 9).toNatClampNeg).toInt = (mI S 92 (mI S 91 5).toNatClampNeg).toInt := congrArg Int32.toInt (aZ_9 (Or.inl rfl)); have h39 := hi5.2.2.1.2.2.1; have h38 := hi5.2.2.1.2.1; have lz := rp0_S3; have ly := Le_y (a := aZ S) (by omega); rw [((Z_p5 (x := (mI S 91 5)) (xC_o (W := 75) hi2).2).trans (congrArg (fun q => ma_u q 87 9 (mI S 91 5)) (show aZ S = aZ S from rfl)))]; exact Rv_9 hi5 (by omega) (by omega)) | (have p3 := congrArg Int32.toInt (show aZ S 87 3 = mI S 91 2 from rfl); have p9 := congrArg Int32.toInt (show aZ S 87 9 = mI S 91 5 from rfl); have p92 : (aZ S 92 (aZ S 87 9).toNatClampNeg).toInt = (mI S 92 (mI S 91 5).toNatClampNeg).toInt := congrArg Int32.toInt (aZ_9 (Or.inl rfl)); have h39 := hi5.2.2.1.2.2.1; have h38 := hi5.2.2.1.2.1; rw [((Z_p5 (x := (mI S 91 5)) (xC_o (W := 75) hi2).2).trans (congrArg (fun q => ma_u q 87 9 (mI S 91 5)) (show aZ S = aZ S from rfl)))]; exact Rv_9 hi5 (by omega) (by omega))) (show aZ (ma_put S 91 5 (.inl (mI S 91 5))) = rR2 (rR1 ab (l1).toInt) (l1).toInt from by first | (have p3 := congrArg Int32.toInt (show aZ S 87 3 = mI S 91 2 from rfl); have p9 := congrArg Int32.toInt (show aZ S 87 9 = mI S 91 5 from rfl); have p92 : (aZ S 92 (aZ S 87 9).toNatClampNeg).toInt = (mI S 92 (mI S 91 5).toNatClampNeg).toInt := congrArg Int32.toInt (aZ_9 (Or.inl rfl)); have h39 := hi5.2.2.1.2.2.1; have h38 := hi5.2.2.1.2.1; have lz := rp0_S3; rw [((Z_p5 (x := (mI S 91 5)) (xC_o (W := 75) hi2).2).trans (congrArg (fun q => ma_u q 87 9 (mI S 91 5)) (show aZ S = aZ S from rfl))), ← hi6]; exact (R2_l (x := v4) (by unfold rFi; omega) lz (by omega)).symm) | (have p3 := congrArg Int32.toInt (show aZ S 87 3 = mI S 91 2 from rfl); have p9 := congrArg Int32.toInt (show aZ S 87 9 = mI S 91 5 from rfl); have p92 : (aZ S 92 (aZ S 87 9).toNatClampNeg).toInt = (mI S 92 (mI S 91 5).toNatClampNeg).toInt := congrArg Int32.toInt (aZ_9 (Or.inl rfl)); have h39 := hi5.2.2.1.2.2.1; have h38 := hi5.2.2.1.2.1; have lz := rp0_S3; rw [((Z_p5 (x := (mI S 91 5)) (xC_o (W := 75) hi2).2).trans (congrArg (fun q => ma_u q 87 9 (mI S 91 5)) (show aZ S = aZ S from rfl))), ← hi6, R2_n (by unfold rFi; omega) (by omega)]; exact u_sm9 (a := aZ S) (c := 87) (k := 9)) | (have p3 := congrArg Int32.toInt (show aZ S 87 3 = mI S 91 2 from rfl); have p9 := congrArg Int32.toInt (show aZ S 87 9 = mI S 91 5 from rfl); have p92 : (aZ S 92 (aZ S 87 9).toNatClampNeg).toInt = (mI S 92 (mI S 91 5).toNatClampNeg).toInt := congrArg Int32.toInt (aZ_9 (Or.inl rfl)); have h39 := hi5.2.2.1.2.2.1; have h38 := hi5.2.2.1.2.1; exfalso; omega))
        · skip
          have g24 := i_ne h20
          have hI25 : zL91 f r C Z N (ma_put S 91 5 (.inl v4)) := zG_sp hI (0) (92) rfl (by decide) (by decide) (by decide) trivial (by omega) (by omega)
          have b26 := i_bd l1
          exact lp_40_91_sz_62 (by omega) (by omega) K _ _ (l1) rfl hI25 (by omega) (by omega) (show xB (ma_put S 91 5 (.inl v4)) (mR (ma_put S 91 5 (.inl v4)) 70) from by first | (exact xB_x (xC_n (c := 91) (k := 5) (x := v4) (xC_o (W := 75) hi2) ⟨by decide, Or.inl ⟨rfl, rfl⟩⟩).2)) (show (l1) = z from by first | (exact rfl) | (exact hi3)) (show ¬ (ab 87 3).toInt < (l1).toInt from by first | (exact hi4)) (show qRv (aZ (ma_put S 91 5 (.inl v4))) from by first | (have p3 := congrArg Int32.toInt (show aZ S 87 3 = mI S 91 2 from rfl); have p9 := congrArg Int32.toInt (show aZ S 87 9 = mI S 91 5 from rfl); have p92 : (aZ S 92 (aZ S 87 9).toNatClampNeg).toInt = (mI S 92 (mI S 91 5).toNatClampNeg).toInt := congrArg Int32.toInt (aZ_9 (Or.inl rfl)); have h39 := hi5.2.2.1.2.2.1; have h38 := hi5.2.2.1.2.1; have lz := rp0_S3; have ly := Le_y (a := aZ S) (by omega); rw [((Z_p5 (x := v4) (xC_o (W := 75) hi2).2).trans (congrArg (fun q => ma_u q 87 9 v4) (show aZ S = aZ S from rfl)))]; exact Rv_9 hi5 (by omega) (by omega)) | (have p3 := congrArg Int32.toInt (show aZ S 87 3 = mI S 91 2 from rfl); have p9 := congrArg Int32.toInt (show aZ S 87 9 = mI S 91 5 from rfl); have p92 : (aZ S 92 (aZ S 87 9).toNatClampNeg).toInt = (mI S 92 (mI S 91 5).toNatClampNeg).toInt := congrArg Int32.toInt (aZ_9 (Or.inl rfl)); have h39 := hi5.2.2.1.2.2.1; have h38 := hi5.2.2.1.2.1; rw [((Z_p5 (x := v4) (xC_o (W := 75) hi2).2).trans (congrArg (fun q => ma_u q 87 9 v4) (show aZ S = aZ S from rfl)))]; exact Rv_9 hi5 (by omega) (by omega))) (show aZ (ma_put S 91 5 (.inl v4)) = rR2 (rR1 ab (l1).toInt) (l1).toInt from by first | (have p3 := congrArg Int32.toInt (show aZ S 87 3 = mI S 91 2 from rfl); have p9 := congrArg Int32.toInt (show aZ S 87 9 = mI S 91 5 from rfl); have p92 : (aZ S 92 (aZ S 87 9).toNatClampNeg).toInt = (mI S 92 (mI S 91 5).toNatClampNeg).toInt := congrArg Int32.toInt (aZ_9 (Or.inl rfl)); have h39 := hi5.2.2.1.2.2.1; have h38 := hi5.2.2.1.2.1; have lz := rp0_S3; rw [((Z_p5 (x := v4) (xC_o (W := 75) hi2).2).trans (congrArg (fun q => ma_u q 87 9 v4) (show aZ S = aZ S from rfl))), ← hi6]; exact (R2_l (x := v4) (by unfold rFi; omega) lz (by omega)).symm) | (have p3 := congrArg Int32.toInt (show aZ S 87 3 = mI S 91 2 from rfl); have p9 := congrArg Int32.toInt (show aZ S 87 9 = mI S 91 5 from rfl); have p92 : (aZ S 92 (aZ S 87 9).toNatClampNeg).toInt = (mI S 92 (mI S 91 5).toNatClampNeg).toInt := congrArg Int32.toInt (aZ_9 (Or.inl rfl)); have h39 := hi5.2.2.1.2.2.1; have h38 := hi5.2.2.1.2.1; have lz := rp0_S3; rw [((Z_p5 (x := v4) (xC_o (W := 75) hi2).2).trans (congrArg (fun q => ma_u q 87 9 v4) (show aZ S = aZ S from rfl))), ← hi6, R2_n (by unfold rFi; omega) (by omega)]; exact u_sm9 (a := aZ S) (c := 87) (k := 9)) | (have p3 := congrArg Int32.toInt (show aZ S 87 3 = mI S 91 2 from rfl); have p9 := congrArg Int32.toInt (show aZ S 87 9 = mI S 91 5 from rfl); have p92 : (aZ S 92 (aZ S 87 9).toNatClampNeg).toInt = (mI S 92 (mI S 91 5).toNatClampNeg).toInt := congrArg Int32.toInt (aZ_9 (Or.inl rfl)); have h39 := hi5.2.2.1.2.2.1; have h38 := hi5.2.2.1.2.1; exfalso; omega))
      · skip
        have g27 := i_nle h16
        refine ⟨i_ix (by omega) (by omega), ?_⟩
        have f28 := zG_s hI (0) (1500) (c := 91) (k := 2) (by decide)
        first | have f29 := zG_a hI 93 (0) (3000) (c := 92) (k := (mI S 91 5).toNatClampNeg) (by decide) (i_ix (n := 93) (by omega) (by omega)).2 | have b30 := i_bd (mI S 92 (mI S 91 5).toNatClampNeg)
        have b31 := i_bd l1
        first | have e32 : ((mI S 92 (mI S 91 5).toNatClampNeg) + l1).toInt = (mI S 92 (mI S 91 5).toNatClampNeg).toInt + l1.toInt := i_add (by omega) (by omega) | have b33 := i_bd ((mI S 92 (mI S 91 5).toNatClampNeg) + l1)
        refine zd (fun h34 => ?_) (fun h34 => ?_)
        · skip
          have g35 := i_lt h34
          refine sp_52_91_sz  (by omega) (by omega) hI  (fun v6 S5 eS_S5 hp_v6 rp0_S5 => zi_n ⟨(by rw [eS_S5]; exact zG_T hI), ?_⟩)
          replace eS_S5 := eS_S5.symm; subst eS_S5
          have rp0_S5 : v6.toInt = rLe (aZ S) := rp0_S5
          have b36 := i_bd v6
          have li37 : (-1 : Int32).toInt = -1 := rfl
          refine zd (fun h38 => ?_) (fun h38 => ?_)
          · skip
            have g39 := i_eq h38
            have hI40 : zL91 f r C Z N (ma_put S 91 5 (.inl (mI S 91 5))) := zG_sp hI (0) (92) rfl (by decide) (by decide) (by decide) trivial (by omega) (by omega)
            exact lp_40_91_sz_62 (by omega) (by omega) K _ _ (l1) rfl hI40 (by omega) (by omega) (show xB (ma_put S 91 5 (.inl (mI S 91 5))) (mR (ma_put S 91 5 (.inl (mI S 91 5))) 70) from by first | (exact xB_x (xC_n (c := 91) (k := 5) (x := (mI S 91 5)) (xC_o (W := 75) hi2) ⟨by decide, Or.inl ⟨rfl, rfl⟩⟩).2)) (show (l1) = z from by first | (exact rfl) | (exact hi3)) (show ¬ (ab 87 3).toInt < (l1).toInt from by first | (exact hi4)) (show qRv (aZ (ma_put S 91 5 (.inl (mI S 91 5)))) from by first | (have p3 := congrArg Int32.toInt (show aZ S 87 3 = mI S 91 2 from rfl); have p9 := congrArg Int32.toInt (show aZ S 87 9 = mI S 91 5 from rfl); have p92 : (aZ S 92 (aZ S 87 9).toNatClampNeg).toInt = (mI S 92 (mI S 91 5).toNatClampNeg).toInt := congrArg Int32.toInt (aZ_9 (Or.inl rfl)); have h39 := hi5.2.2.1.2.2.1; have h38 := hi5.2.2.1.2.1; have lz := rp0_S5; have ly := Le_y (a := aZ S) (by omega); rw [((Z_p5 (x := (mI S 91 5)) (xC_o (W := 75) hi2).2).trans (congrArg (fun q => ma_u q 87 9 (mI S 91 5)) (show aZ S = aZ S from rfl)))]; exact Rv_9 hi5 (by omega) (by omega)) | (have p3 := congrArg Int32.toInt (show aZ S 87 3 = mI S 91 2 from rfl); have p9 := congrArg Int32.toInt (show aZ S 87 9 = mI S 91 5 from rfl); have p92 : (aZ S 92 (aZ S 87 9).toNatClampNeg).toInt = (mI S 92 (mI S 91 5).toNatClampNeg).toInt := congrArg Int32.toInt (aZ_9 (Or.inl rfl)); have h39 := hi5.2.2.1.2.2.1; have h38 := hi5.2.2.1.2.1; rw [((Z_p5 (x := (mI S 91 5)) (xC_o (W := 75) hi2).2).trans (congrArg (fun q => ma_u q 87 9 (mI S 91 5)) (show aZ S = aZ S from rfl)))]; exact Rv_9 hi5 (by omega) (by omega))) (show aZ (ma_put S 91 5 (.inl (mI S 91 5))) = rR2 (rR1 ab (l1).toInt) (l1).toInt from by first | (have p3 := congrArg Int32.toInt (show aZ S 87 3 = mI S 91 2 from rfl); have p9 := congrArg Int32.toInt (show aZ S 87 9 = mI S 91 5 from rfl); have p92 : (aZ S 92 (aZ S 87 9).toNatClampNeg).toInt = (mI S 92 (mI S 91 5).toNatClampNeg).toInt := congrArg Int32.toInt (aZ_9 (Or.inl rfl)); have h39 := hi5.2.2.1.2.2.1; have h38 := hi5.2.2.1.2.1; have lz := rp0_S5; rw [((Z_p5 (x := (mI S 91 5)) (xC_o (W := 75) hi2).2).trans (congrArg (fun q => ma_u q 87 9 (mI S 91 5)) (show aZ S = aZ S from rfl))), ← hi6]; exact (R2_l (x := v6) (by unfold rFi; omega) lz (by omega)).symm) | (have p3 := congrArg Int32.toInt (show aZ S 87 3 = mI S 91 2 from rfl); have p9 := congrArg Int32.toInt (show aZ S 87 9 = mI S 91 5 from rfl); have p92 : (aZ S 92 (aZ S 87 9).toNatClampNeg).toInt = (mI S 92 (mI S 91 5).toNatClampNeg).toInt := congrArg Int32.toInt (aZ_9 (Or.inl rfl)); have h39 := hi5.2.2.1.2.2.1; have h38 := hi5.2.2.1.2.1; have lz := rp0_S5; rw [((Z_p5 (x := (mI S 91 5)) (xC_o (W := 75) hi2).2).trans (congrArg (fun q => ma_u q 87 9 (mI S 91 5)) (show aZ S = aZ S from rfl))), ← hi6, R2_n (by unfold rFi; omega) (by omega)]; exact u_sm9 (a := aZ S) (c := 87) (k := 9)) | (have p3 := congrArg Int32.toInt (show aZ S 87 3 = mI S 91 2 from rfl); have p9 := congrArg Int32.toInt (show aZ S 87 9 = mI S 91 5 from rfl); have p92 : (aZ S 92 (aZ S 87 9).toNatClampNeg).toInt = (mI S 92 (mI S 91 5).toNatClampNeg).toInt := congrArg Int32.toInt (aZ_9 (Or.inl rfl)); have h39 := hi5.2.2.1.2.2.1; have h38 := hi5.2.2.1.2.1; exfalso; omega))
          · skip
            have g41 := i_ne h38
            have hI42 : zL91 f r C Z N (ma_put S 91 5 (.inl v6)) := zG_sp hI (0) (92) rfl (by decide) (by decide) (by decide) trivial (by omega) (by omega)
            exact lp_40_91_sz_62 (by omega) (by omega) K _ _ (l1) rfl hI42 (by omega) (by omega) (show xB (ma_put S 91 5 (.inl v6)) (mR (ma_put S 91 5 (.inl v6)) 70) from by first | (exact xB_x (xC_n (c := 91) (k := 5) (x := v6) (xC_o (W := 75) hi2) ⟨by decide, Or.inl ⟨rfl, rfl⟩⟩).2)) (show (l1) = z from by first | (exact rfl) | (exact hi3)) (show ¬ (ab 87 3).toInt < (l1).toInt from by first | (exact hi4)) (show qRv (aZ (ma_put S 91 5 (.inl v6))) from by first | (have p3 := congrArg Int32.toInt (show aZ S 87 3 = mI S 91 2 from rfl); have p9 := congrArg Int32.toInt (show aZ S 87 9 = mI S 91 5 from rfl); have p92 : (aZ S 92 (aZ S 87 9).toNatClampNeg).toInt = (mI S 92 (mI S 91 5).toNatClampNeg).toInt := congrArg Int32.toInt (aZ_9 (Or.inl rfl)); have h39 := hi5.2.2.1.2.2.1; have h38 := hi5.2.2.1.2.1; have lz := rp0_S5; have ly := Le_y (a := aZ S) (by omega); rw [((Z_p5 (x := v6) (xC_o (W := 75) hi2).2).trans (congrArg (fun q => ma_u q 87 9 v6) (show aZ S = aZ S from rfl)))]; exact Rv_9 hi5 (by omega) (by omega)) | (have p3 := congrArg Int32.toInt (show aZ S 87 3 = mI S 91 2 from rfl); have p9 := congrArg Int32.toInt (show aZ S 87 9 = mI S 91 5 from rfl); have p92 : (aZ S 92 (aZ S 87 9).toNatClampNeg).toInt = (mI S 92 (mI S 91 5).toNatClampNeg).toInt := congrArg Int32.toInt (aZ_9 (Or.inl rfl)); have h39 := hi5.2.2.1.2.2.1; have h38 := hi5.2.2.1.2.1; rw [((Z_p5 (x := v6) (xC_o (W := 75) hi2).2).trans (congrArg (fun q => ma_u q 87 9 v6) (show aZ S = aZ S from rfl)))]; exact Rv_9 hi5 (by omega) (by omega))) (show aZ (ma_put S 91 5 (.inl v6)) = rR2 (rR1 ab (l1).toInt) (l1).toInt from by first | (have p3 := congrArg Int32.toInt (show aZ S 87 3 = mI S 91 2 from rfl); have p9 := congrArg Int32.toInt (show aZ S 87 9 = mI S 91 5 from rfl); have p92 : (aZ S 92 (aZ S 87 9).toNatClampNeg).toInt = (mI S 92 (mI S 91 5).toNatClampNeg).toInt := congrArg Int32.toInt (aZ_9 (Or.inl rfl)); have h39 := hi5.2.2.1.2.2.1; have h38 := hi5.2.2.1.2.1; have lz := rp0_S5; rw [((Z_p5 (x := v6) (xC_o (W := 75) hi2).2).trans (congrArg (fun q => ma_u q 87 9 v6) (show aZ S = aZ S from rfl))), ← hi6]; exact (R2_l (x := v6) (by unfold rFi; omega) lz (by omega)).symm) | (have p3 := congrArg Int32.toInt (show aZ S 87 3 = mI S 91 2 from rfl); have p9 := congrArg Int32.toInt (show aZ S 87 9 = mI S 91 5 from rfl); have p92 : (aZ S 92 (aZ S 87 9).toNatClampNeg).toInt = (mI S 92 (mI S 91 5).toNatClampNeg).toInt := congrArg Int32.toInt (aZ_9 (Or.inl rfl)); have h39 := hi5.2.2.1.2.2.1; have h38 := hi5.2.2.1.2.1; have lz := rp0_S5; rw [((Z_p5 (x := v6) (xC_o (W := 75) hi2).2).trans (congrArg (fun q => ma_u q 87 9 v6) (show aZ S = aZ S from rfl))), ← hi6, R2_n (by unfold rFi; omega) (by omega)]; exact u_sm9 (a := aZ S) (c := 87) (k := 9)) | (have p3 := congrArg Int32.toInt (show aZ S 87 3 = mI S 91 2 from rfl); have p9 := congrArg Int32.toInt (show aZ S 87 9 = mI S 91 5 from rfl); have p92 : (aZ S 92 (aZ S 87 9).toNatClampNeg).toInt = (mI S 92 (mI S 91 5).toNatClampNeg).toInt := congrArg Int32.toInt (aZ_9 (Or.inl rfl)); have h39 := hi5.2.2.1.2.2.1; have h38 := hi5.2.2.1.2.1; exfalso; omega))
        · skip
          have g43 := i_nlt h34
          exact lp_40_91_sz_62 (by omega) (by omega) K _ _ (l1) rfl hI (by omega) (by omega) (show xB S (mR S 70) from by first | (exact xB_x (xC_o (W := 75) hi2).2)) (show (l1) = z from by first | (exact rfl) | (exact hi3)) (show ¬ (ab 87 3).toInt < (l1).toInt from by first | (exact hi4)) (show qRv (aZ S) from by first | (exact hi5) | (have p3 := congrArg Int32.toInt (show aZ S 87 3 = mI S 91 2 from rfl); have p9 := congrArg Int32.toInt (show aZ S 87 9 = mI S 91 5 from rfl); have p92 : (aZ S 92 (aZ S 87 9).toNatClampNeg).toInt = (mI S 92 (mI S 91 5).toNatClampNeg).toInt := congrArg Int32.toInt (aZ_9 (Or.inl rfl)); have h39 := hi5.2.2.1.2.2.1; have h38 := hi5.2.2.1.2.1; exfalso; omega)) (show aZ S = rR2 (rR1 ab (l1).toInt) (l1).toInt from by first | (have p3 := congrArg Int32.toInt (show aZ S 87 3 = mI S 91 2 from rfl); have p9 := congrArg Int32.toInt (show aZ S 87 9 = mI S 91 5 from rfl); have p92 : (aZ S 92 (aZ S 87 9).toNatClampNeg).toInt = (mI S 92 (mI S 91 5).toNatClampNeg).toInt := congrArg Int32.toInt (aZ_9 (Or.inl rfl)); have h39 := hi5.2.2.1.2.2.1; have h38 := hi5.2.2.1.2.1; rw [← hi6, R2_y (by unfold rFi; omega)]) | (have p3 := congrArg Int32.toInt (show aZ S 87 3 = mI S 91 2 from rfl); have p9 := congrArg Int32.toInt (show aZ S 87 9 = mI S 91 5 from rfl); have p92 : (aZ S 92 (aZ S 87 9).toNatClampNeg).toInt = (mI S 92 (mI S 91 5).toNatClampNeg).toInt := congrArg Int32.toInt (aZ_9 (Or.inl rfl)); have h39 := hi5.2.2.1.2.2.1; have h38 := hi5.2.2.1.2.1; exfalso; omega))
theorem sp_40_91_sz {X : Nat × (Nat → Int32)} {d w : Nat} {f : Nat → Nat → Int32} {r : Nat → Nat → Option Nat} {C Z N : Nat} {Q : Option ma_V ⊕ Nat → ma_S → Prop} {ab : Nat→Nat→Int32} {S : ma_S} (z : Int32) (hd : 5 ≤ d) (hw : 183 ≤ w) (hI : zL91 f r C Z N S) (hpre0 : xB S (mR S 70)) (hpre1 : aZ S = ab) (hpre2 : qRv ab) (hpre3 : 1 ≤ z.toInt) (hpre4 : z.toInt ≤ 61) (K : ∀ v S₉, zL91 f r C Z N S₉ → (-1 ≤ v.toInt ∧ v.toInt ≤ 300000 ∧ (v.toInt < 0 ∨ (mI S₉ 92 (mI S₉ 91 5).toNatClampNeg).toInt ≤ 1500)) → (xB S₉ (mR S₉ 70)) → (aZ S₉ = rRs ab z.toInt ∧ v.toInt = rRp ab z.toInt) → (v.toInt = -1 ∨ (0 ≤ v.toInt ∧ v.toInt + z.toInt ≤ 1500)) → (qRv (aZ S₉)) → Q (.inl (some (.inl v))) S₉) : ma_wp X d w 40 0 [(0, .inr (.inr (some 91))), (1, .inl z)] [] S Q := by
  refine g_40_91_sz_0 z (by omega) (by omega) (zG_T hI) ?_
  have b1 := i_bd z
  have f2 := zG_s hI (0) (1500) (c := 91) (k := 2) (by decide)
  refine zd (fun h3 => ?_) (fun h3 => ?_)
  · skip
    have g4 := i_le h3
    have f5 := zG_s hI (0) (92) (c := 91) (k := 5) (by decide)
    have li6 : (0 : Int32).toInt = 0 := rfl
    refine zd (fun h7 => ?_) (fun h7 => ?_)
    · skip
      have g8 := i_lt h7
      refine sp_42_91_sz  (by omega) (by omega) hI  (fun v2 S1 eS_S1 hp_v2 rp0_S1 => zi_n ⟨(by rw [eS_S1]; exact zG_T hI), ?_⟩)
      replace eS_S1 := eS_S1.symm; subst eS_S1
      have rp0_S1 : v2.toInt = rEf (aZ S) 93 := rp0_S1
      have li9 : (2 : Int32).toInt = 2 := rfl
      have b10 := i_bd v2
      refine zd (fun h11 => ?_) (fun h11 => ?_)
      · skip
        have g12 := i_le h11
        exact lp_40_91_sz_35 (by omega) (by omega) K _ _ (z) rfl hI (by omega) (by omega) (show xB S (mR S 70) from by first | (exact xB_x (xC_o (W := 75) hpre0).2)) (show (z) = z from by first | (exact rfl)) (show ¬ (ab 87 3).toInt < (z).toInt from by first | (have p3 := congrArg Int32.toInt (show ab 87 3 = mI S 91 2 from by rw [← hpre1]; rfl); have p9 := congrArg Int32.toInt (show ab 87 9 = mI S 91 5 from by rw [← hpre1]; rfl); have p92 : (ab 92 (ab 87 9).toNatClampNeg).toInt = (mI S 92 (mI S 91 5).toNatClampNeg).toInt := (by rw [← hpre1]; exact congrArg Int32.toInt (aZ_9 (Or.inl rfl))); have h39 := hpre2.2.2.1.2.2.1; have h38 := hpre2.2.2.1.2.1; omega)) (show qRv (aZ S) from by first | (rw [hpre1]; exact hpre2)) (show aZ S = rR1 ab (z).toInt from by first | (have p3 := congrArg Int32.toInt (show ab 87 3 = mI S 91 2 from by rw [← hpre1]; rfl); have p9 := congrArg Int32.toInt (show ab 87 9 = mI S 91 5 from by rw [← hpre1]; rfl); have p92 : (ab 92 (ab 87 9).toNatClampNeg).toInt = (mI S 92 (mI S 91 5).toNatClampNeg).toInt := (by rw [← hpre1]; exact congrArg Int32.toInt (aZ_9 (Or.inl rfl))); have h39 := hpre2.2.2.1.2.2.1; have h38 := hpre2.2.2.1.2.1; have ef := rp0_S1; rw [hpre1] at ef; rw [R1_n (by unfold rFi; omega) (by omega)]; exact hpre1) | (have p3 := congrArg Int32.toInt (show ab 87 3 = mI S 91 2 from by rw [← hpre1]; rfl); have p9 := congrArg Int32.toInt (show ab 87 9 = mI S 91 5 from by rw [← hpre1]; rfl); have p92 : (ab 92 (ab 87 9).toNatClampNeg).toInt = (mI S 92 (mI S 91 5).toNatClampNeg).toInt := (by rw [← hpre1]; exact congrArg Int32.toInt (aZ_9 (Or.inl rfl))); have h39 := hpre2.2.2.1.2.2.1; have h38 := hpre2.2.2.1.2.1; exfalso; omega))
      · skip
        have g13 := i_nle h11
        refine sp_43_91_sz (ab := (aZ S)) (by omega) (by omega) hI (show xB S (mR S 70) from by first | (exact xB_x (xC_o (W := 75) hpre0).2)) (show aZ S = (aZ S) from by first | (exact rfl)) (show qRv (aZ S) from by first | (rw [hpre1]; exact hpre2) | (rw [hpre1]; exact hpre2) | (exact hpre2)) (fun v4 S3 hI_S3 hp_v4 rp0_S3 rp1_S3 => zi_n ⟨zG_T hI_S3, ?_⟩)
        have rp0_S3 : xB S3 (mR S3 70) := rp0_S3
        have rp1_S3 : aZ S3 = rCl (aZ S) ∧ v4 = aSv (aZ S) ∧ qRv (aZ S3) := rp1_S3
        exact lp_40_91_sz_35 (by omega) (by omega) K _ _ (z) rfl hI_S3 (by omega) (by omega) (show xB S3 (mR S3 70) from by first | (exact xB_x (xC_o (W := 75) rp0_S3).2)) (show (z) = z from by first | (exact rfl)) (show ¬ (ab 87 3).toInt < (z).toInt from by first | (have p3 := congrArg Int32.toInt (show ab 87 3 = mI S 91 2 from by rw [← hpre1]; rfl); have p9 := congrArg Int32.toInt (show ab 87 9 = mI S 91 5 from by rw [← hpre1]; rfl); have p92 : (ab 92 (ab 87 9).toNatClampNeg).toInt = (mI S 92 (mI S 91 5).toNatClampNeg).toInt := (by rw [← hpre1]; exact congrArg Int32.toInt (aZ_9 (Or.inl rfl))); have h39 := hpre2.2.2.1.2.2.1; have h38 := hpre2.2.2.1.2.1; omega)) (show qRv (aZ S3) from by first | (exact rp1_S3.2.2)) (show aZ S3 = rR1 ab (z).toInt from by first | (have p3 := congrArg Int32.toInt (show ab 87 3 = mI S 91 2 from by rw [← hpre1]; rfl); have p9 := congrArg Int32.toInt (show ab 87 9 = mI S 91 5 from by rw [← hpre1]; rfl); have p92 : (ab 92 (ab 87 9).toNatClampNeg).toInt = (mI S 92 (mI S 91 5).toNatClampNeg).toInt := (by rw [← hpre1]; exact congrArg Int32.toInt (aZ_9 (Or.inl rfl))); have h39 := hpre2.2.2.1.2.2.1; have h38 := hpre2.2.2.1.2.1; have ef := rp0_S1; rw [hpre1] at ef; rw [R1_c (by unfold rFi; omega) (by omega)]; have zc := rp1_S3.1; rw [hpre1] at zc; exact zc) | (have p3 := congrArg Int32.toInt (show ab 87 3 = mI S 91 2 from by rw [← hpre1]; rfl); have p9 := congrArg Int32.toInt (show ab 87 9 = mI S 91 5 from by rw [← hpre1]; rfl); have p92 : (ab 92 (ab 87 9).toNatClampNeg).toInt = (mI S 92 (mI S 91 5).toNatClampNeg).toInt := (by rw [← hpre1]; exact congrArg Int32.toInt (aZ_9 (Or.inl rfl))); have h39 := hpre2.2.2.1.2.2.1; have h38 := hpre2.2.2.1.2.1; exfalso; omega))
    · skip
      have g14 := i_nlt h7
      have li15 : (93 : Int32).toInt = 93 := rfl
      refine zd (fun h16 => ?_) (fun h16 => ?_)
      · skip
        have g17 := i_le h16
        refine sp_42_91_sz  (by omega) (by omega) hI  (fun v6 S5 eS_S5 hp_v6 rp0_S5 => zi_n ⟨(by rw [eS_S5]; exact zG_T hI), ?_⟩)
        replace eS_S5 := eS_S5.symm; subst eS_S5
        have rp0_S5 : v6.toInt = rEf (aZ S) 93 := rp0_S5
        have li18 : (2 : Int32).toInt = 2 := rfl
        have b19 := i_bd v6
        refine zd (fun h20 => ?_) (fun h20 => ?_)
        · skip
          have g21 := i_le h20
          exact lp_40_91_sz_35 (by omega) (by omega) K _ _ (z) rfl hI (by omega) (by omega) (show xB S (mR S 70) from by first | (exact xB_x (xC_o (W := 75) hpre0).2)) (show (z) = z from by first | (exact rfl)) (show ¬ (ab 87 3).toInt < (z).toInt from by first | (have p3 := congrArg Int32.toInt (show ab 87 3 = mI S 91 2 from by rw [← hpre1]; rfl); have p9 := congrArg Int32.toInt (show ab 87 9 = mI S 91 5 from by rw [← hpre1]; rfl); have p92 : (ab 92 (ab 87 9).toNatClampNeg).toInt = (mI S 92 (mI S 91 5).toNatClampNeg).toInt := (by rw [← hpre1]; exact congrArg Int32.toInt (aZ_9 (Or.inl rfl))); have h39 := hpre2.2.2.1.2.2.1; have h38 := hpre2.2.2.1.2.1; omega)) (show qRv (aZ S) from by first | (rw [hpre1]; exact hpre2)) (show aZ S = rR1 ab (z).toInt from by first | (have p3 := congrArg Int32.toInt (show ab 87 3 = mI S 91 2 from by rw [← hpre1]; rfl); have p9 := congrArg Int32.toInt (show ab 87 9 = mI S 91 5 from by rw [← hpre1]; rfl); have p92 : (ab 92 (ab 87 9).toNatClampNeg).toInt = (mI S 92 (mI S 91 5).toNatClampNeg).toInt := (by rw [← hpre1]; exact congrArg Int32.toInt (aZ_9 (Or.inl rfl))); have h39 := hpre2.2.2.1.2.2.1; have h38 := hpre2.2.2.1.2.1; have ef := rp0_S5; rw [hpre1] at ef; rw [R1_n (by unfold rFi; omega) (by omega)]; exact hpre1) | (have p3 := congrArg Int32.toInt (show ab 87 3 = mI S 91 2 from by rw [← hpre1]; rfl); have p9 := congrArg Int32.toInt (show ab 87 9 = mI S 91 5 from by rw [← hpre1]; rfl); have p92 : (ab 92 (ab 87 9).toNatClampNeg).toInt = (mI S 92 (mI S 91 5).toNatClampNeg).toInt := (by rw [← hpre1]; exact congrArg Int32.toInt (aZ_9 (Or.inl rfl))); have h39 := hpre2.2.2.1.2.2.1; have h38 := hpre2.2.2.1.2.1; exfalso; omega))
        · skip
          have g22 := i_nle h20
          refine sp_43_91_sz (ab := (aZ S)) (by omega) (by omega) hI (show xB S (mR S 70) from by first | (exact xB_x (xC_o (W := 75) hpre0).2)) (show aZ S = (aZ S) from by first | (exact rfl)) (show qRv (aZ S) from by first | (rw [hpre1]; exact hpre2) | (rw [hpre1]; exact hpre2) | (exact hpre2)) (fun v8 S7 hI_S7 hp_v8 rp0_S7 rp1_S7 => zi_n ⟨zG_T hI_S7, ?_⟩)
          have rp0_S7 : xB S7 (mR S7 70) := rp0_S7
          have rp1_S7 : aZ S7 = rCl (aZ S) ∧ v8 = aSv (aZ S) ∧ qRv (aZ S7) := rp1_S7
          exact lp_40_91_sz_35 (by omega) (by omega) K _ _ (z) rfl hI_S7 (by omega) (by omega) (show xB S7 (mR S7 70) from by first | (exact xB_x (xC_o (W := 75) rp0_S7).2)) (show (z) = z from by first | (exact rfl)) (show ¬ (ab 87 3).toInt < (z).toInt from by first | (have p3 := congrArg Int32.toInt (show ab 87 3 = mI S 91 2 from by rw [← hpre1]; rfl); have p9 := congrArg Int32.toInt (show ab 87 9 = mI S 91 5 from by rw [← hpre1]; rfl); have p92 : (ab 92 (ab 87 9).toNatClampNeg).toInt = (mI S 92 (mI S 91 5).toNatClampNeg).toInt := (by rw [← hpre1]; exact congrArg Int32.toInt (aZ_9 (Or.inl rfl))); have h39 := hpre2.2.2.1.2.2.1; have h38 := hpre2.2.2.1.2.1; omega)) (show qRv (aZ S7) from by first | (exact rp1_S7.2.2)) (show aZ S7 = rR1 ab (z).toInt from by first | (have p3 := congrArg Int32.toInt (show ab 87 3 = mI S 91 2 from by rw [← hpre1]; rfl); have p9 := congrArg Int32.toInt (show ab 87 9 = mI S 91 5 from by rw [← hpre1]; rfl); have p92 : (ab 92 (ab 87 9).toNatClampNeg).toInt = (mI S 92 (mI S 91 5).toNatClampNeg).toInt := (by rw [← hpre1]; exact congrArg Int32.toInt (aZ_9 (Or.inl rfl))); have h39 := hpre2.2.2.1.2.2.1; have h38 := hpre2.2.2.1.2.1; have ef := rp0_S5; rw [hpre1] at ef; rw [R1_c (by unfold rFi; omega) (by omega)]; have zc := rp1_S7.1; rw [hpre1] at zc; exact zc) | (have p3 := congrArg Int32.toInt (show ab 87 3 = mI S 91 2 from by rw [← hpre1]; rfl); have p9 := congrArg Int32.toInt (show ab 87 9 = mI S 91 5 from by rw [← hpre1]; rfl); have p92 : (ab 92 (ab 87 9).toNatClampNeg).toInt = (mI S 92 (mI S 91 5).toNatClampNeg).toInt := (by rw [← hpre1]; exact congrArg Int32.toInt (aZ_9 (Or.inl rfl))); have h39 := hpre2.2.2.1.2.2.1; have h38 := hpre2.2.2.1.2.1; exfalso; omega))
      · skip
        have g23 := i_nle h16
        refine ⟨i_ix (by omega) (by omega), ?_⟩
        first | have f24 := zG_a hI 93 (0) (3000) (c := 92) (k := (mI S 91 5).toNatClampNeg) (by decide) (i_ix (n := 93) (by omega) (by omega)).2 | have b25 := i_bd (mI S 92 (mI S 91 5).toNatClampNeg)
        first | have e26 : ((mI S 92 (mI S 91 5).toNatClampNeg) + z).toInt = (mI S 92 (mI S 91 5).toNatClampNeg).toInt + z.toInt := i_add (by omega) (by omega) | have b27 := i_bd ((mI S 92 (mI S 91 5).toNatClampNeg) + z)
        refine zd (fun h28 => ?_) (fun h28 => ?_)
        · skip
          have g29 := i_lt h28
          refine sp_42_91_sz  (by omega) (by omega) hI  (fun v10 S9 eS_S9 hp_v10 rp0_S9 => zi_n ⟨(by rw [eS_S9]; exact zG_T hI), ?_⟩)
          replace eS_S9 := eS_S9.symm; subst eS_S9
          have rp0_S9 : v10.toInt = rEf (aZ S) 93 := rp0_S9
          have li30 : (2 : Int32).toInt = 2 := rfl
          have b31 := i_bd v10
          refine zd (fun h32 => ?_) (fun h32 => ?_)
          · skip
            have g33 := i_le h32
            exact lp_40_91_sz_35 (by omega) (by omega) K _ _ (z) rfl hI (by omega) (by omega) (show xB S (mR S 70) from by first | (exact xB_x (xC_o (W := 75) hpre0).2)) (show (z) = z from by first | (exact rfl)) (show ¬ (ab 87 3).toInt < (z).toInt from by first | (have p3 := congrArg Int32.toInt (show ab 87 3 = mI S 91 2 from by rw [← hpre1]; rfl); have p9 := congrArg Int32.toInt (show ab 87 9 = mI S 91 5 from by rw [← hpre1]; rfl); have p92 : (ab 92 (ab 87 9).toNatClampNeg).toInt = (mI S 92 (mI S 91 5).toNatClampNeg).toInt := (by rw [← hpre1]; exact congrArg Int32.toInt (aZ_9 (Or.inl rfl))); have h39 := hpre2.2.2.1.2.2.1; have h38 := hpre2.2.2.1.2.1; omega)) (show qRv (aZ S) from by first | (rw [hpre1]; exact hpre2)) (show aZ S = rR1 ab (z).toInt from by first | (have p3 := congrArg Int32.toInt (show ab 87 3 = mI S 91 2 from by rw [← hpre1]; rfl); have p9 := congrArg Int32.toInt (show ab 87 9 = mI S 91 5 from by rw [← hpre1]; rfl); have p92 : (ab 92 (ab 87 9).toNatClampNeg).toInt = (mI S 92 (mI S 91 5).toNatClampNeg).toInt := (by rw [← hpre1]; exact congrArg Int32.toInt (aZ_9 (Or.inl rfl))); have h39 := hpre2.2.2.1.2.2.1; have h38 := hpre2.2.2.1.2.1; have ef := rp0_S9; rw [hpre1] at ef; rw [R1_n (by unfold rFi; omega) (by omega)]; exact hpre1) | (have p3 := congrArg Int32.toInt (show ab 87 3 = mI S 91 2 from by rw [← hpre1]; rfl); have p9 := congrArg Int32.toInt (show ab 87 9 = mI S 91 5 from by rw [← hpre1]; rfl); have p92 : (ab 92 (ab 87 9).toNatClampNeg).toInt = (mI S 92 (mI S 91 5).toNatClampNeg).toInt := (by rw [← hpre1]; exact congrArg Int32.toInt (aZ_9 (Or.inl rfl))); have h39 := hpre2.2.2.1.2.2.1; have h38 := hpre2.2.2.1.2.1; exfalso; omega))
          · skip
            have g34 := i_nle h32
            refine sp_43_91_sz (ab := (aZ S)) (by omega) (by omega) hI (show xB S (mR S 70) from by first | (exact xB_x (xC_o (W := 75) hpre0).2)) (show aZ S = (aZ S) from by first | (exact rfl)) (show qRv (aZ S) from by first | (rw [hpre1]; exact hpre2) | (rw [hpre1]; exact hpre2) | (exact hpre2)) (fun v12 S11 hI_S11 hp_v12 rp0_S11 rp1_S11 => zi_n ⟨zG_T hI_S11, ?_⟩)
            have rp0_S11 : xB S11 (mR S11 70) := rp0_S11
            have rp1_S11 : aZ S11 = rCl (aZ S) ∧ v12 = aSv (aZ S) ∧ qRv (aZ S11) := rp1_S11
            exact lp_40_91_sz_35 (by omega) (by omega) K _ _ (z) rfl hI_S11 (by omega) (by omega) (show xB S11 (mR S11 70) from by first | (exact xB_x (xC_o (W := 75) rp0_S11).2)) (show (z) = z from by first | (exact rfl)) (show ¬ (ab 87 3).toInt < (z).toInt from by first | (have p3 := congrArg Int32.toInt (show ab 87 3 = mI S 91 2 from by rw [← hpre1]; rfl); have p9 := congrArg Int32.toInt (show ab 87 9 = mI S 91 5 from by rw [← hpre1]; rfl); have p92 : (ab 92 (ab 87 9).toNatClampNeg).toInt = (mI S 92 (mI S 91 5).toNatClampNeg).toInt := (by rw [← hpre1]; exact congrArg Int32.toInt (aZ_9 (Or.inl rfl))); have h39 := hpre2.2.2.1.2.2.1; have h38 := hpre2.2.2.1.2.1; omega)) (show qRv (aZ S11) from by first | (exact rp1_S11.2.2)) (show aZ S11 = rR1 ab (z).toInt from by first | (have p3 := congrArg Int32.toInt (show ab 87 3 = mI S 91 2 from by rw [← hpre1]; rfl); have p9 := congrArg Int32.toInt (show ab 87 9 = mI S 91 5 from by rw [← hpre1]; rfl); have p92 : (ab 92 (ab 87 9).toNatClampNeg).toInt = (mI S 92 (mI S 91 5).toNatClampNeg).toInt := (by rw [← hpre1]; exact congrArg Int32.toInt (aZ_9 (Or.inl rfl))); have h39 := hpre2.2.2.1.2.2.1; have h38 := hpre2.2.2.1.2.1; have ef := rp0_S9; rw [hpre1] at ef; rw [R1_c (by unfold rFi; omega) (by omega)]; have zc := rp1_S11.1; rw [hpre1] at zc; exact zc) | (have p3 := congrArg Int32.toInt (show ab 87 3 = mI S 91 2 from by rw [← hpre1]; rfl); have p9 := congrArg Int32.toInt (show ab 87 9 = mI S 91 5 from by rw [← hpre1]; rfl); have p92 : (ab 92 (ab 87 9).toNatClampNeg).toInt = (mI S 92 (mI S 91 5).toNatClampNeg).toInt := (by rw [← hpre1]; exact congrArg Int32.toInt (aZ_9 (Or.inl rfl))); have h39 := hpre2.2.2.1.2.2.1; have h38 := hpre2.2.2.1.2.1; exfalso; omega))
        · skip
          have g35 := i_nlt h28
          exact lp_40_91_sz_35 (by omega) (by omega) K _ _ (z) rfl hI (by omega) (by omega) (show xB S (mR S 70) from by first | (exact xB_x (xC_o (W := 75) hpre0).2)) (show (z) = z from by first | (exact rfl)) (show ¬ (ab 87 3).toInt < (z).toInt from by first | (have p3 := congrArg Int32.toInt (show ab 87 3 = mI S 91 2 from by rw [← hpre1]; rfl); have p9 := congrArg Int32.toInt (show ab 87 9 = mI S 91 5 from by rw [← hpre1]; rfl); have p92 : (ab 92 (ab 87 9).toNatClampNeg).toInt = (mI S 92 (mI S 91 5).toNatClampNeg).toInt := (by rw [← hpre1]; exact congrArg Int32.toInt (aZ_9 (Or.inl rfl))); have h39 := hpre2.2.2.1.2.2.1; have h38 := hpre2.2.2.1.2.1; omega)) (show qRv (aZ S) from by first | (rw [hpre1]; exact hpre2)) (show aZ S = rR1 ab (z).toInt from by first | (have p3 := congrArg Int32.toInt (show ab 87 3 = mI S 91 2 from by rw [← hpre1]; rfl); have p9 := congrArg Int32.toInt (show ab 87 9 = mI S 91 5 from by rw [← hpre1]; rfl); have p92 : (ab 92 (ab 87 9).toNatClampNeg).toInt = (mI S 92 (mI S 91 5).toNatClampNeg).toInt := (by rw [← hpre1]; exact congrArg Int32.toInt (aZ_9 (Or.inl rfl))); have h39 := hpre2.2.2.1.2.2.1; have h38 := hpre2.2.2.1.2.1; rw [R1_y (by unfold rFi; omega)]; exact hpre1) | (have p3 := congrArg Int32.toInt (show ab 87 3 = mI S 91 2 from by rw [← hpre1]; rfl); have p9 := congrArg Int32.toInt (show ab 87 9 = mI S 91 5 from by rw [← hpre1]; rfl); have p92 : (ab 92 (ab 87 9).toNatClampNeg).toInt = (mI S 92 (mI S 91 5).toNatClampNeg).toInt := (by rw [← hpre1]; exact congrArg Int32.toInt (aZ_9 (Or.inl rfl))); have h39 := hpre2.2.2.1.2.2.1; have h38 := hpre2.2.2.1.2.1; exfalso; omega))
  · skip
    have g36 := i_nle h3
    have li37 : (-1 : Int32).toInt = -1 := rfl
    have f38 := zG_s hI (0) (92) (c := 91) (k := 5) (by decide)
    first | have f39 := zG_a hI 93 (0) (3000) (c := 92) (k := (mI S 91 5).toNatClampNeg) (by decide) (i_ix (n := 93) (by omega) (by omega)).2 | have b40 := i_bd (mI S 92 (mI S 91 5).toNatClampNeg)
    exact K ((-1 : Int32)) _ hI (show -1 ≤ (-1 : Int32).toInt ∧ (-1 : Int32).toInt ≤ 300000 ∧ ((-1 : Int32).toInt < 0 ∨ (mI S 92 (mI S 91 5).toNatClampNeg).toInt ≤ 1500) from by omega) (show xB S (mR S 70) from by first | (exact xB_x (xC_o (W := 75) hpre0).2)) (show aZ S = rRs ab z.toInt ∧ (-1 : Int32).toInt = rRp ab z.toInt from by first | (have p3 := congrArg Int32.toInt (show ab 87 3 = mI S 91 2 from by rw [← hpre1]; rfl); have p9 := congrArg Int32.toInt (show ab 87 9 = mI S 91 5 from by rw [← hpre1]; rfl); have p92 : (ab 92 (ab 87 9).toNatClampNeg).toInt = (mI S 92 (mI S 91 5).toNatClampNeg).toInt := (by rw [← hpre1]; exact congrArg Int32.toInt (aZ_9 (Or.inl rfl))); have h39 := hpre2.2.2.1.2.2.1; have h38 := hpre2.2.2.1.2.1; have s := Rs_s (a := ab) (z := z.toInt) (by omega); exact ⟨hpre1.trans s.1.symm, by rw [s.2]; rfl⟩)) (show (-1 : Int32).toInt = -1 ∨ (0 ≤ (-1 : Int32).toInt ∧ (-1 : Int32).toInt + z.toInt ≤ 1500) from by first | (exact Or.inl rfl)) (show qRv (aZ S) from by first | (rw [hpre1]; exact hpre2))

/-! from 95.s23 -/
/-! REGIONS, the class (written by wip/tools/gen15z.py) -/
theorem g_145_64_91_sz_0 {X : Nat × (Nat → Int32)} {d w : Nat} {S : ma_S} {Q : Option ma_V ⊕ Nat → ma_S → Prop} (i : Int32) (x : Option Nat) (hd : 5 ≤ d) (hw : 110 ≤ w) (hS : zT S) (h : ma_wp X (d - 1) (w - 23) 92 0 [(0, .inr (.inr (some 69))), (1, .inl i), (2, .inr (.inr x))] [] S (zo (fun v2 S1 => zT S1 ∧ (Q (.inl (some (.inr (.inr v2)))) S1)) (fun x S9 => Q (.inr x) S9))) : ma_wp X d w 145 0 [(0, .inr (.inr (some 64))), (1, .inr (.inr (some 91))), (2, .inl i), (3, .inr (.inr x))] [] S Q := by
  refine zw_push hm_145 dX11_changeRoot_0 (v := .inr (.inr (some 64))) rfl ?_
  refine zw_gf hm_145 dX11_changeRoot_1 (v := .inr (.inr (some 69))) (zT_is hS s_64) (zT_t hS s_64) rfl f_11_26_11 (zT_f hS r_64_8) ?_
  refine zw_push hm_145 dX11_changeRoot_4 (v := .inl i) rfl ?_
  refine zw_push hm_145 dX11_changeRoot_5 (v := .inr (.inr x)) rfl ?_
  refine zw_cv hm_145 dX11_changeRoot_6 v_11_379_7 hm_92 [.inr (.inr x), .inl i] [] rfl (zT_rt hS s_69 rfl) ⟨by omega, by omega⟩ rfl (zw_mono h (zo_go ?_ ?_))
  · intro v2 S1 hv
    obtain ⟨hS1, h⟩ := hv
    refine zw_sto hm_145 dX11_changeRoot_9 [(4, .inr (.inr v2)), (0, .inr (.inr (some 64))), (1, .inr (.inr (some 91))), (2, .inl i), (3, .inr (.inr x))] rfl rfl rfl ?_
    refine zw_push hm_145 dX11_changeRoot_11 (v := .inr (.inr (some 91))) rfl ?_
    refine zw_push hm_145 dX11_changeRoot_12 (v := .inr (.inr v2)) rfl ?_
    refine zw_push hm_145 dX11_changeRoot_14 (v := .inr (.inr x)) rfl ?_
    refine zw_cv hm_145 dX11_changeRoot_15 v_11_153_4 hm_265 [.inr (.inr x), .inr (.inr v2)] [] rfl (zT_rt hS1 s_91 rfl) ⟨by omega, by omega⟩ rfl ?_
    show ma_wp X (d - 1) (w - 22) 265 0 [(0, .inr (.inr (some 91))), (1, .inr (.inr v2)), (2, .inr (.inr x))] [] S1 _
    refine zw_vret hm_265 dX1_noteChange_0 ?_
    show ma_wp X d w 145 18 [(4, .inr (.inr v2)), (0, .inr (.inr (some 64))), (1, .inr (.inr (some 91))), (2, .inl i), (3, .inr (.inr x))] [] S1 _
    refine zw_push hm_145 dX11_changeRoot_18 (v := .inr (.inr (some 91))) rfl ?_
    refine zw_push hm_145 dX11_changeRoot_19 (v := .inr (.inr v2)) rfl ?_
    refine zw_cv hm_145 dX11_changeRoot_21 v_11_157_4 hm_266 [.inr (.inr v2)] [] rfl (zT_rt hS1 s_91 rfl) ⟨by omega, by omega⟩ rfl ?_
    show ma_wp X (d - 1) (w - 21) 266 0 [(0, .inr (.inr (some 91))), (1, .inr (.inr v2))] [] S1 _
    refine zw_vret hm_266 dX1_noteFewer_0 ?_
    show ma_wp X d w 145 24 [(4, .inr (.inr v2)), (0, .inr (.inr (some 64))), (1, .inr (.inr (some 91))), (2, .inl i), (3, .inr (.inr x))] [] S1 _
    refine zw_push hm_145 dX11_changeRoot_24 (v := .inr (.inr v2)) rfl ?_
    exact zw_aret hm_145 dX11_changeRoot_26 h
  · intro x S9 hx
    exact ⟨by decide, hx⟩
theorem sp_145_64_91_sz {X : Nat × (Nat → Int32)} {d w : Nat} {f : Nat → Nat → Int32} {r : Nat → Nat → Option Nat} {C Z N : Nat} {Q : Option ma_V ⊕ Nat → ma_S → Prop} {ab : Nat→Nat→Int32} {R : zRT} {y : Int32} {fp91 : Nat→Int32} {fp92 : Nat→Int32} {fp93 : Nat→Int32} {S : ma_S} (i : Int32) (x : Option Nat) (hd : 5 ≤ d) (hw : 110 ≤ w) (hI : zL91 f r C Z N S) (hq_x : ∀ c, x = some c → 126 ≤ c ∧ c < N) (hpre0 : xB S R) (hpre1 : aS 75 S = ab) (hpre2 : x = zTa R y) (hpre3 : 0 ≤ i.toInt) (hpre4 : i.toInt ≤ 15) (hpre5 : (mI S 91) = fp91) (hpre6 : (mI S 92) = fp92) (hpre7 : (mI S 93) = fp93) (K : ∀ v S₉, zL91 f r C Z N S₉ → (∀ c, v = some c → 126 ≤ c ∧ c < N) → (xB S₉ R) → (aS 75 S₉ = aR0 ab i y) → ((mI S₉ 91) = fp91) → ((mI S₉ 92) = fp92) → ((mI S₉ 93) = fp93) → Q (.inl (some (.inr (.inr v)))) S₉) : ma_wp X d w 145 0 [(0, .inr (.inr (some 64))), (1, .inr (.inr (some 91))), (2, .inl i), (3, .inr (.inr x))] [] S Q := by
  refine g_145_64_91_sz_0 i x (by omega) (by omega) (zG_T hI) ?_
  have b1 := i_bd i
  refine sp_92_69_s (ab := (aS 75 S)) (R := R) (W := 75) (y := (y)) (i) (x) (by omega) (by omega) (zL91_dn hI) hq_x (show xB S R from by first | (exact (xC_o (W := 75) hpre0).2)) (show aS 75 S = (aS 75 S) from by first | (exact rfl)) (show xW 75 from by first | (exact xW88) | (exact xW75)) (show x = zTa R (y) from by first | (exact hpre2)) (by omega) (by omega) (fun v2 S1 hL_S1 hq_v2 rp0_S1 rp1_S1 rp2_S1 => zo_n ⟨zG_T hL_S1, ?_⟩)
  have hI_S1 := zL91_up hI hL_S1
  have rp0_S1 : xB S1 R := by
    have z := rp0_S1
    (try rw [show mI S 65 = f 65 from funext (fun k => zG_z hI rfl)] at z)
    (try rw [show mI S 64 1 = f 64 1 from zG_z hI rfl] at z)
    exact z
  have rp1_S1 : aS 75 S1 = ma_u (aS 75 S) 72 i.toNatClampNeg (aNm (aS 75 S) (y)) := by
    have z := rp1_S1
    (try rw [show mI S 65 = f 65 from funext (fun k => zG_z hI rfl)] at z)
    (try rw [show mI S 64 1 = f 64 1 from zG_z hI rfl] at z)
    exact z
  have rp2_S1 : v2 = zTa R ((aS 75 S) 72 i.toNatClampNeg) := by
    have z := rp2_S1
    (try rw [show mI S 65 = f 65 from funext (fun k => zG_z hI rfl)] at z)
    (try rw [show mI S 64 1 = f 64 1 from zG_z hI rfl] at z)
    exact z
  exact K (v2) _ hI_S1 hq_v2 (show xB S1 R from by first | (exact (xC_o (W := 75) rp0_S1).2)) (show aS 75 S1 = aR0 ab i y from by first | (rw [rp1_S1, hpre1]; rfl)) (show (mI S1 91) = fp91 from by first | (exact ((show mI S1 91 = mI S 91 from funext (fun _ => zG_z hL_S1 rfl)).trans hpre5))) (show (mI S1 92) = fp92 from by first | (exact ((show mI S1 92 = mI S 92 from funext (fun _ => zG_z hL_S1 rfl)).trans hpre6))) (show (mI S1 93) = fp93 from by first | (exact ((show mI S1 93 = mI S 93 from funext (fun _ => zG_z hL_S1 rfl)).trans hpre7)))
theorem g_56_91_sz_0 {X : Nat × (Nat → Int32)} {d w : Nat} {S : ma_S} {Q : Option ma_V ⊕ Nat → ma_S → Prop} (t : Nat) (hd : 1 ≤ d) (hw : 22 ≤ w) (hS : zT S) (h : (126 ≤ t ∧ t < mN S) ∧ (if (mI S 91 5) < 0 then (Q (.inl none) S) else (if (93 : Int32) ≤ (mI S 91 5) then (Q (.inl none) S) else ((0 ≤ (mI S 91 5) ∧ (mI S 91 5).toNatClampNeg < 93) ∧ ((0 ≤ (mI S 91 5) ∧ (mI S 91 5).toNatClampNeg < 93) ∧ (Q (.inl none) (ma_put S 92 (mI S 91 5).toNatClampNeg (.inl ((mI S 92 (mI S 91 5).toNatClampNeg) + (mI S t 2)))))))))) : ma_wp X d w 56 0 [(0, .inr (.inr (some 91))), (1, .inr (.inr (some t)))] [] S Q := by
  refine zw_push hm_56 dX4_noteMade_0 (v := .inr (.inr (some 91))) rfl ?_
  refine zw_push hm_56 dX4_noteMade_1 (v := .inr (.inr (some 91))) rfl ?_
  refine zw_gf hm_56 dX4_noteMade_2 (v := .inl (mI S 91 5)) (zT_is hS s_91) (zT_t hS s_91) rfl f_4_34_4 rfl ?_
  refine zw_push hm_56 dX4_noteMade_5 (v := .inr (.inr (some t))) rfl ?_
  obtain ⟨hg, h⟩ := h
  refine zw_gf hm_56 dX4_noteMade_6 (v := .inl (mI S t 2)) (zT_tis hS hg) (zT_tt hS hg) rfl f_4_63_9 rfl ?_
  refine zw_cv hm_56 dX4_noteMade_9 v_4_66_4 hm_53 [.inl (mI S t 2), .inl (mI S 91 5)] [] rfl (zT_rt hS s_91 rfl) ⟨by omega, by omega⟩ rfl ?_
  show ma_wp X (d - 1) (w - 22) 53 0 [(0, .inr (.inr (some 91))), (1, .inl (mI S 91 5)), (2, .inl (mI S t 2))] [] S _
  refine zw_push hm_53 dX4_raiseTop_0 (v := .inl (mI S 91 5)) rfl ?_
  refine zw_if0 hm_53 dX4_raiseTop_1 (t := 20) rfl zc0_lt ?_ ?_
  · intro hc
    rw [if_pos hc] at h
    refine zw_vret hm_53 dX4_raiseTop_20 ?_
    show ma_wp X d w 56 12 [(0, .inr (.inr (some 91))), (1, .inr (.inr (some t)))] [] S _
    exact zw_vret hm_56 dX4_noteMade_12 h
  · intro hc
    rw [if_neg hc] at h
    refine zw_push hm_53 dX4_raiseTop_4 (v := .inl (mI S 91 5)) rfl ?_
    refine zw_push hm_53 dX4_raiseTop_5 (v := .inl (93 : Int32)) rfl ?_
    refine zw_if2 hm_53 dX4_raiseTop_7 (t := 20) rfl zc2_ge ?_ ?_
    · intro hc
      rw [if_pos hc] at h
      refine zw_vret hm_53 dX4_raiseTop_20 ?_
      show ma_wp X d w 56 12 [(0, .inr (.inr (some 91))), (1, .inr (.inr (some t)))] [] S _
      exact zw_vret hm_56 dX4_noteMade_12 h
    · intro hc
      rw [if_neg hc] at h
      refine zw_push hm_53 dX4_raiseTop_10 (v := .inr (.inr (some 91))) rfl ?_
      refine zw_gf hm_53 dX4_raiseTop_11 (v := .inr (.inr (some 92))) (zT_is hS s_91) (zT_t hS s_91) rfl f_4_9_4 (zT_f hS r_91_7) ?_
      refine zw_push hm_53 dX4_raiseTop_14 (v := .inl (mI S 91 5)) rfl ?_
      refine zw_stk hm_53 dX4_raiseTop_15 (st₉ := [.inl (mI S 91 5), .inr (.inr (some 92)), .inl (mI S 91 5), .inr (.inr (some 92))]) rfl rfl ?_
      obtain ⟨hg, h⟩ := h
      refine zw_ia hm_53 dX4_raiseTop_16 (zT_is hS s_92) (zT_h hS s_92) rfl hg ?_
      show ma_wp X (d - 1) (w - 22) 53 17 [(0, .inr (.inr (some 91))), (1, .inl (mI S 91 5)), (2, .inl (mI S t 2))] [.inl (mI S 92 (mI S 91 5).toNatClampNeg), .inl (mI S 91 5), .inr (.inr (some 92))] S _
      refine zw_push hm_53 dX4_raiseTop_17 (v := .inl (mI S t 2)) rfl ?_
      refine zw_stk hm_53 dX4_raiseTop_18 (st₉ := [.inl ((mI S 92 (mI S 91 5).toNatClampNeg) + (mI S t 2)), .inl (mI S 91 5), .inr (.inr (some 92))]) rfl rfl ?_
      obtain ⟨hg, h⟩ := h
      refine zw_ias hm_53 dX4_raiseTop_19 (zT_is hS s_92) (zT_h hS s_92) rfl hg ?_
      refine zw_vret hm_53 dX4_raiseTop_20 ?_
      show ma_wp X d w 56 12 [(0, .inr (.inr (some 91))), (1, .inr (.inr (some t)))] [] (ma_put S 92 (mI S 91 5).toNatClampNeg (.inl ((mI S 92 (mI S 91 5).toNatClampNeg) + (mI S t 2)))) _
      exact zw_vret hm_56 dX4_noteMade_12 h
theorem sp_56_91_sz {X : Nat × (Nat → Int32)} {d w : Nat} {f : Nat → Nat → Int32} {r : Nat → Nat → Option Nat} {C Z N : Nat} {Q : Option ma_V ⊕ Nat → ma_S → Prop} {ab : Nat→Nat→Int32} {R : zRT} {y : Int32} {S : ma_S} (t : Nat) (hd : 1 ≤ d) (hw : 22 ≤ w) (hI : zL91 f r C Z N S) (th_t : 126 ≤ t ∧ t < N) (hpre0 : xB S R) (hpre1 : aZ S = ab) (hpre2 : zTa R y = some t) (hpre3 : (mI S 92 (mI S 91 5).toNatClampNeg).toInt ≤ 1500) (K : ∀ S₉, zL91 f r C Z N S₉ → (xB S₉ R) → (aZ S₉ = rMd ab y) → Q (.inl none) S₉) : ma_wp X d w 56 0 [(0, .inr (.inr (some 91))), (1, .inr (.inr (some t)))] [] S Q := by
  refine g_56_91_sz_0 t (by omega) (by omega) (zG_T hI) ?_
  refine ⟨zG_n hI th_t, ?_⟩
  have f1 := zG_s hI (0) (92) (c := 91) (k := 5) (by decide)
  have li2 : (0 : Int32).toInt = 0 := rfl
  refine zd (fun h3 => ?_) (fun h3 => ?_)
  · skip
    have g4 := i_lt h3
    exact K _ hI (show xB S R from by first | (exact (xC_o (W := 75) hpre0).2)) (show aZ S = rMd ab y from by first | (exact Md_no hpre1 (by omega)))
  · skip
    have g5 := i_nlt h3
    have li6 : (93 : Int32).toInt = 93 := rfl
    refine zd (fun h7 => ?_) (fun h7 => ?_)
    · skip
      have g8 := i_le h7
      exact K _ hI (show xB S R from by first | (exact (xC_o (W := 75) hpre0).2)) (show aZ S = rMd ab y from by first | (exact Md_no hpre1 (by omega)))
    · skip
      have g9 := i_nle h7
      refine ⟨i_ix (by omega) (by omega), ?_⟩
      refine ⟨i_ix (by omega) (by omega), ?_⟩
      first | have f11 := zG_a hI 93 (0) (3000) (c := 92) (k := (mI S 91 5).toNatClampNeg) (by decide) (i_ix (n := 93) (by omega) (by omega)).2 | have b12 := i_bd (mI S 92 (mI S 91 5).toNatClampNeg)
      have f13 := zG_th hI th_t
      first | have e14 : ((mI S 92 (mI S 91 5).toNatClampNeg) + (mI S t 2)).toInt = (mI S 92 (mI S 91 5).toNatClampNeg).toInt + (mI S t 2).toInt := i_add (by omega) (by omega) | have b15 := i_bd ((mI S 92 (mI S 91 5).toNatClampNeg) + (mI S t 2))
      have hI10 : zL91 f r C Z N (ma_put S 92 (mI S 91 5).toNatClampNeg (.inl ((mI S 92 (mI S 91 5).toNatClampNeg) + (mI S t 2)))) := zG_sa hI (0) (3000) rfl (by decide) (by decide) (by decide) trivial (by omega) (by omega)
      exact K _ hI10 (show xB (ma_put S 92 (mI S 91 5).toNatClampNeg (.inl ((mI S 92 (mI S 91 5).toNatClampNeg) + (mI S t 2)))) R from by first | (exact (xC_n (c := 92) (k := (mI S 91 5).toNatClampNeg) (x := ((mI S 92 (mI S 91 5).toNatClampNeg) + (mI S t 2))) (xC_o (W := 75) hpre0) ⟨by decide, Or.inl ⟨rfl, rfl⟩⟩).2)) (show aZ (ma_put S 92 (mI S 91 5).toNatClampNeg (.inl ((mI S 92 (mI S 91 5).toNatClampNeg) + (mI S t 2)))) = rMd ab y from by first | (have ty := xB_th (W := 75) hpre0 hpre2; have f2 : mI S t 2 = ab 128 y.toNatClampNeg := (by rw [← hpre1, aZ_o (by decide) (by decide) (by decide)]; exact ty.2.2.2.2.1); rw [((Z_p9 (c := 92) (n := (mI S 91 5).toNatClampNeg) (x := ((mI S 92 (mI S 91 5).toNatClampNeg) + (mI S t 2))) (xC_o (W := 75) hpre0).2 (by decide)).trans (congrArg (fun q => ma_u q 92 (mI S 91 5).toNatClampNeg ((mI S 92 (mI S 91 5).toNatClampNeg) + (mI S t 2))) (show aZ S = aZ S from rfl)))]; exact Md_y9 hpre1 f2 (by omega) (by omega)))
theorem g_143_64_sz_64 {X : Nat × (Nat → Int32)} {d w : Nat} {S : ma_S} {Q : Option ma_V ⊕ Nat → ma_S → Prop} (l5 : Int32) (l8 : Nat) (hd : 7 ≤ d) (hw : 182 ≤ w) (hS : zT S) (h : ma_wp X (d - 1) (w - 23) 91 0 [(0, .inr (.inr (some 69))), (1, .inr (.inr (some l8)))] [] S (zv (fun S1 => zT S1 ∧ (ma_wp X (d - 1) (w - 21) 56 0 [(0, .inr (.inr (some 91))), (1, .inr (.inr (some l8)))] [] S1 (zv (fun S3 => zT S3 ∧ (ma_wp X (d - 1) (w - 24) 145 0 [(0, .inr (.inr (some 64))), (1, .inr (.inr (some 91))), (2, .inl l5), (3, .inr (.inr (some l8)))] [] S3 (zo (fun v6 S5 => zT S5 ∧ ((126 ≤ l8 ∧ l8 < mN S5) ∧ (Q (.inl (some (.inl (mI S5 l8 0)))) S5))) (fun x S9 => Q (.inr x) S9)))) (fun _ _ => False)))) (fun x S9 => Q (.inr x) S9))) : ma_wp X d w 143 64 [(0, .inr (.inr (some 64))), (5, .inl l5), (6, .inr (.inr (some 91))), (8, .inr (.inr (some l8)))] [] S Q := by
  refine zw_push hm_143 dX11_addObject_64 (v := .inr (.inr (some 64))) rfl ?_
  refine zw_gf hm_143 dX11_addObject_65 (v := .inr (.inr (some 69))) (zT_is hS s_64) (zT_t hS s_64) rfl f_11_26_11 (zT_f hS r_64_8) ?_
  refine zw_push hm_143 dX11_addObject_68 (v := .inr (.inr (some l8))) rfl ?_
  refine zw_cv hm_143 dX11_addObject_70 v_11_373_7 hm_91 [.inr (.inr (some l8))] [] rfl (zT_rt hS s_69 rfl) ⟨by omega, by omega⟩ rfl (zw_mono h (zv_go ?_ ?_))
  · intro S1 hv
    obtain ⟨hS1, h⟩ := hv
    refine zw_push hm_143 dX11_addObject_73 (v := .inr (.inr (some 91))) rfl ?_
    refine zw_push hm_143 dX11_addObject_75 (v := .inr (.inr (some l8))) rfl ?_
    refine zw_cv hm_143 dX11_addObject_77 v_11_376_4 hm_56 [.inr (.inr (some l8))] [] rfl (zT_rt hS1 s_91 rfl) ⟨by omega, by omega⟩ rfl (zw_mono h (zv_go ?_ ?_))
    · intro S3 hv
      obtain ⟨hS3, h⟩ := hv
      refine zw_push hm_143 dX11_addObject_80 (v := .inr (.inr (some 64))) rfl ?_
      refine zw_push hm_143 dX11_addObject_81 (v := .inr (.inr (some 91))) rfl ?_
      refine zw_push hm_143 dX11_addObject_83 (v := .inl l5) rfl ?_
      refine zw_push hm_143 dX11_addObject_85 (v := .inr (.inr (some l8))) rfl ?_
      refine zw_cv hm_143 dX11_addObject_87 v_11_169_11 hm_145 [.inr (.inr (some l8)), .inl l5, .inr (.inr (some 91))] [] rfl (zT_rt hS3 s_64 rfl) ⟨by omega, by omega⟩ rfl (zw_mono h (zo_go ?_ ?_))
      · intro v6 S5 hv
        obtain ⟨hS5, h⟩ := hv
        refine zw_stk hm_143 dX11_addObject_90 (st₉ := []) rfl rfl ?_
        refine zw_push hm_143 dX11_addObject_91 (v := .inr (.inr (some l8))) rfl ?_
        obtain ⟨hg, h⟩ := h
        refine zw_gf hm_143 dX11_addObject_93 (v := .inl (mI S5 l8 0)) (zT_tis hS5 hg) (zT_tt hS5 hg) rfl f_11_182_9 rfl ?_
        exact zw_iret hm_143 dX11_addObject_96 h
      · intro x S9 hx
        exact ⟨by decide, hx⟩
    · intro x S9 hx
      exact hx.elim
  · intro x S9 hx
    exact ⟨by decide, hx⟩
theorem sg_143_64_sz_64 {X : Nat × (Nat → Int32)} {d w : Nat} {f : Nat → Nat → Int32} {r : Nat → Nat → Option Nat} {C Z N : Nat} {Q : Option ma_V ⊕ Nat → ma_S → Prop} {ab : Nat→Nat→Int32} {R : zRT} {y : Int32} {I0 : Nat→Int32} {L0 : Int64} {S : ma_S} (l5 : Int32) (l8 : Nat) (hd : 7 ≤ d) (hw : 182 ≤ w) (hI : zB f r C Z N S) (th_l8 : 126 ≤ l8 ∧ l8 < N) (hpre0 : (mI S 69 6).toInt ≤ 511) (hpre1 : xB S R) (hpre2 : aZ S = ab) (hpre3 : mI S l8 = I0) (hpre4 : mL S l8 3 = L0) (hpre5 : I0 0 = y) (hpre6 : (0 ≤ (I0 0).toInt ∧ (I0 0).toInt ≤ 511) ∧ (1 ≤ (I0 2).toInt ∧ (I0 2).toInt ≤ 61) ∧ 0 ≤ (I0 4).toInt ∧ (I0 4).toInt + (I0 2).toInt ≤ 4500) (hpre7 : 0 ≤ y.toInt ∧ y.toInt < 512) (hpre8 : 0 ≤ l5.toInt) (hpre9 : l5.toInt ≤ 15) (hpre10 : (mI S 92 (mI S 91 5).toNatClampNeg).toInt ≤ 1500) (K : ∀ v S₉, zB f r C Z N S₉ → (True) → (xB S₉ (mR S₉ 70)) → (aZ S₉ = aR0 (rMd (aAd ab y I0 L0) y) l5 y ∧ v = y) → Q (.inl (some (.inl v))) S₉) : ma_wp X d w 143 64 [(0, .inr (.inr (some 64))), (5, .inl l5), (6, .inr (.inr (some 91))), (8, .inr (.inr (some l8)))] [] S Q := by
  refine g_143_64_sz_64 l5 l8 (by omega) (by omega) (zG_T hI) ?_
  have f1 := zG_s hI (0) (512) (c := 69) (k := 6) (by decide)
  have f2 := zG_s hI (0) (92) (c := 91) (k := 5) (by decide)
  first | have f3 := zG_a hI 93 (0) (3000) (c := 92) (k := (mI S 91 5).toNatClampNeg) (by decide) (i_ix (n := 93) (by omega) (by omega)).2 | have b4 := i_bd (mI S 92 (mI S 91 5).toNatClampNeg)
  refine sp_91_69_s (ab := (aS 75 S)) (R := R) (W := 75) (y := y) (I0 := I0) (L0 := L0) (u := l8) l8 (by omega) (by omega) (zB_dn_zS hI) th_l8 (show (mI S 69 6).toInt ≤ 511 from by omega) (show xB S R from by first | (exact (xC_o (W := 75) hpre1).2)) (show aS 75 S = (aS 75 S) from by first | (exact rfl)) (show xW 75 from by first | (exact xW88) | (exact xW75)) (show mI S l8 = I0 from by first | (exact rfl) | (exact hpre3)) (show mL S l8 3 = L0 from by first | (exact rfl) | (exact hpre4)) (show I0 0 = y from by first | (exact rfl) | (exact hpre5)) (show (0 ≤ (I0 0).toInt ∧ (I0 0).toInt ≤ 511) ∧ (1 ≤ (I0 2).toInt ∧ (I0 2).toInt ≤ 61) ∧ 0 ≤ (I0 4).toInt ∧ (I0 4).toInt + (I0 2).toInt ≤ 4500 from by first | (exact hpre6) | (omega)) (show l8 = l8 from by first | (exact rfl)) (fun S1 hL_S1 rp0_S1 rp1_S1 => zv_n ⟨zG_T hL_S1, ?_⟩)
  have hI_S1 := zB_up_zS hI hL_S1
  have rp0_S1 : xB S1 (zRu R y.toNatClampNeg (some l8)) := by
    have z := rp0_S1
    (try rw [show mI S 65 = f 65 from funext (fun k => zG_z hI rfl)] at z)
    (try rw [show mI S 64 1 = f 64 1 from zG_z hI rfl] at z)
    exact z
  have rp1_S1 : aS 75 S1 = aAd (aS 75 S) y I0 L0 := by
    have z := rp1_S1
    (try rw [show mI S 65 = f 65 from funext (fun k => zG_z hI rfl)] at z)
    (try rw [show mI S 64 1 = f 64 1 from zG_z hI rfl] at z)
    exact z
  have q5 : (mI S1 91 5).toInt = (mI S 91 5).toInt := zG_zi (f := mI S) hL_S1 rfl
  have f6 := zG_s hI_S1 (0) (92) (c := 91) (k := 5) (by decide)
  first | have f7 := zG_a hI 93 (0) (3000) (c := 92) (k := (mI S1 91 5).toNatClampNeg) (by decide) (i_ix (n := 93) (by omega) (by omega)).2 | have b8 := i_bd (mI S 92 (mI S1 91 5).toNatClampNeg)
  have q9 : (mI S1 92 (mI S1 91 5).toNatClampNeg).toInt = (mI S 92 (mI S1 91 5).toNatClampNeg).toInt := zG_zi (f := mI S) hL_S1 rfl
  first | have f10 := zG_a hI_S1 93 (0) (3000) (c := 92) (k := (mI S1 91 5).toNatClampNeg) (by decide) (i_ix (n := 93) (by omega) (by omega)).2 | have b11 := i_bd (mI S1 92 (mI S1 91 5).toNatClampNeg)
  refine sp_56_91_sz (ab := (aZ S1)) (R := (zRu R y.toNatClampNeg (some l8))) (y := (y)) l8 (by omega) (by omega) (zB_dn_zL91 hI_S1) th_l8 (show xB S1 (zRu R y.toNatClampNeg (some l8)) from by first | (exact (xC_o (W := 75) rp0_S1).2)) (show aZ S1 = (aZ S1) from by first | (exact rfl)) (show zTa (zRu R y.toNatClampNeg (some l8)) (y) = some l8 from by first | (exact (zTa_u (R := R) (c := l8) hpre7.1 hpre7.2))) (show (mI S1 92 (mI S1 91 5).toNatClampNeg).toInt ≤ 1500 from by first | omega | (rw [zG_z hL_S1 (c := 91) (k := 5) rfl, zG_z hL_S1 (c := 92) rfl]; omega)) (fun S3 hL_S3 rp0_S3 rp1_S3 => zv_n ⟨zG_T hL_S3, ?_⟩)
  have hI_S3 := zB_up_zL91 hI_S1 hL_S3
  have rp0_S3 : xB S3 (zRu R y.toNatClampNeg (some l8)) := by
    have z := rp0_S3
    (try rw [show mI S1 65 = f 65 from funext (fun k => zG_z hI_S1 rfl)] at z)
    (try rw [show mI S1 64 1 = f 64 1 from zG_z hI_S1 rfl] at z)
    exact z
  have rp1_S3 : aZ S3 = rMd (aZ S1) (y) := by
    have z := rp1_S3
    (try rw [show mI S1 65 = f 65 from funext (fun k => zG_z hI_S1 rfl)] at z)
    (try rw [show mI S1 64 1 = f 64 1 from zG_z hI_S1 rfl] at z)
    exact z
  have b12 := i_bd l5
  refine sp_145_64_91_sz (ab := (aS 75 S3)) (R := (zRu R y.toNatClampNeg (some l8))) (y := (y)) (fp91 := (mI S3 91)) (fp92 := (mI S3 92)) (fp93 := (mI S3 93)) (l5) ((some l8)) (by omega) (by omega) (zB_dn_zL91 hI_S3) (fun _ z => by cases z; exact th_l8) (show xB S3 (zRu R y.toNatClampNeg (some l8)) from by first | (exact (xC_o (W := 75) rp0_S3).2)) (show aS 75 S3 = (aS 75 S3) from by first | (exact rfl)) (show (some l8) = zTa (zRu R y.toNatClampNeg (some l8)) (y) from by first | (exact (zTa_u (R := R) (c := l8) hpre7.1 hpre7.2).symm)) (by omega) (by omega) (show (mI S3 91) = (mI S3 91) from by first | (exact rfl)) (show (mI S3 92) = (mI S3 92) from by first | (exact rfl)) (show (mI S3 93) = (mI S3 93) from by first | (exact rfl)) (fun v6 S5 hL_S5 hq_v6 rp0_S5 rp1_S5 rp2_S5 rp3_S5 rp4_S5 => zo_n ⟨zG_T hL_S5, ?_⟩)
  have hI_S5 := zB_up_zL91 hI_S3 hL_S5
  have rp0_S5 : xB S5 (zRu R y.toNatClampNeg (some l8)) := by
    have z := rp0_S5
    (try rw [show mI S3 65 = f 65 from funext (fun k => zG_z hI_S3 rfl)] at z)
    (try rw [show mI S3 64 1 = f 64 1 from zG_z hI_S3 rfl] at z)
    exact z
  have rp1_S5 : aS 75 S5 = aR0 (aS 75 S3) l5 (y) := by
    have z := rp1_S5
    (try rw [show mI S3 65 = f 65 from funext (fun k => zG_z hI_S3 rfl)] at z)
    (try rw [show mI S3 64 1 = f 64 1 from zG_z hI_S3 rfl] at z)
    exact z
  have rp2_S5 : (mI S5 91) = (mI S3 91) := by
    have z := rp2_S5
    (try rw [show mI S3 65 = f 65 from funext (fun k => zG_z hI_S3 rfl)] at z)
    (try rw [show mI S3 64 1 = f 64 1 from zG_z hI_S3 rfl] at z)
    exact z
  have rp3_S5 : (mI S5 92) = (mI S3 92) := by
    have z := rp3_S5
    (try rw [show mI S3 65 = f 65 from funext (fun k => zG_z hI_S3 rfl)] at z)
    (try rw [show mI S3 64 1 = f 64 1 from zG_z hI_S3 rfl] at z)
    exact z
  have rp4_S5 : (mI S5 93) = (mI S3 93) := by
    have z := rp4_S5
    (try rw [show mI S3 65 = f 65 from funext (fun k => zG_z hI_S3 rfl)] at z)
    (try rw [show mI S3 64 1 = f 64 1 from zG_z hI_S3 rfl] at z)
    exact z
  refine ⟨zG_n hI_S5 th_l8, ?_⟩
  have f13 := zG_th hI_S5 th_l8
  exact K ((mI S5 l8 0)) _ hI_S5 trivial (show xB S5 (mR S5 70) from by first | (exact xB_x (xC_o (W := 75) rp0_S5).2)) (show aZ S5 = aR0 (rMd (aAd ab y I0 L0) y) l5 y ∧ (mI S5 l8 0) = y from by first | (have ty := xB_th (W := 75) rp0_S5 (zTa_u (R := R) (c := l8) hpre7.1 hpre7.2); have s1 := Z_ad rp1_S1 (show mI S1 91 = mI S 91 from funext (fun _ => zG_z hL_S1 rfl)) (show mI S1 92 = mI S 92 from funext (fun _ => zG_z hL_S1 rfl)) (show mI S1 93 = mI S 93 from funext (fun _ => zG_z hL_S1 rfl)); rw [hpre2] at s1; have s2 := rp1_S3; have s3 := Z_r0 rp1_S5 rp2_S5 rp3_S5 rp4_S5; rw [s2, s1] at s3; exact ⟨s3, ty.2.2.1⟩))

/-! from 95.s24 -/
/-! REGIONS, the class (written by wip/tools/gen15z.py) -/
theorem g_143_64_sz_p91_0 {X : Nat × (Nat → Int32)} {d w : Nat} {S : ma_S} {Q : Option ma_V ⊕ Nat → ma_S → Prop} (kd : Int32) (wd : Int32) (rf : Int64) (rt : Int32) (hd : 7 ≤ d) (hw : 204 ≤ w) (hS : zT S) (h : mR S 64 11 = some 91 ∧ (mR S 64 11 = some 91 ∧ (if (512 : Int32) ≤ (mI S 69 6) then (Q (.inl (some (.inl (-1 : Int32)))) S) else (ma_wp X (d - 1) (w - 21) 40 0 [(0, .inr (.inr (some 91))), (1, .inl (wd + (1 : Int32)))] [] S (zi (fun v2 S1 => zT S1 ∧ (if v2 = (-1 : Int32) then (Q (.inl (some (.inl (-1 : Int32)))) S1) else (ma_wp X d w 143 41 [(0, .inr (.inr (some 64))), (1, .inl kd), (2, .inl wd), (3, .inr (.inl rf)), (5, .inl rt), (6, .inr (.inr (some 91))), (7, .inl v2)] [] S1 Q))) (fun _ _ => False)))))) : ma_wp X d w 143 0 [(0, .inr (.inr (some 64))), (1, .inl kd), (2, .inl wd), (3, .inr (.inl rf)), (5, .inl rt)] [] S Q := by
  refine zw_push hm_143 dX11_addObject_0 (v := .inr (.inr (some 64))) rfl ?_
  refine zw_cv hm_143 dX11_addObject_1 v_11_119_11 hm_144 [] [] rfl (zT_rt hS s_64 rfl) ⟨by omega, by omega⟩ rfl ?_
  show ma_wp X (d - 1) (w - 20) 144 0 [(0, .inr (.inr (some 64)))] [] S _
  refine zw_push hm_144 dX11_needCollector_0 (v := .inr (.inr (some 64))) rfl ?_
  obtain ⟨hg, h⟩ := h
  refine zw_gf hm_144 dX11_needCollector_1 (v := .inr (.inr (some 91))) (zT_is hS s_64) (zT_t hS s_64) rfl f_11_98_11 (congrArg (fun z => Sum.inr (Sum.inr z)) hg) ?_
  refine zw_ifnonnull hm_144 dX11_needCollector_4 (t := 15) rfl (fun z => by cases z) (fun _ _ => ?_)
  refine zw_push hm_144 dX11_needCollector_15 (v := .inr (.inr (some 64))) rfl ?_
  obtain ⟨hg, h⟩ := h
  refine zw_gf hm_144 dX11_needCollector_16 (v := .inr (.inr (some 91))) (zT_is hS s_64) (zT_t hS s_64) rfl f_11_98_11 (congrArg (fun z => Sum.inr (Sum.inr z)) hg) ?_
  refine zw_aret hm_144 dX11_needCollector_19 ?_
  show ma_wp X d w 143 4 [(0, .inr (.inr (some 64))), (1, .inl kd), (2, .inl wd), (3, .inr (.inl rf)), (5, .inl rt)] [.inr (.inr (some 91))] S _
  refine zw_sto hm_143 dX11_addObject_4 [(6, .inr (.inr (some 91))), (0, .inr (.inr (some 64))), (1, .inl kd), (2, .inl wd), (3, .inr (.inl rf)), (5, .inl rt)] rfl rfl rfl ?_
  refine zw_push hm_143 dX11_addObject_6 (v := .inr (.inr (some 64))) rfl ?_
  refine zw_gf hm_143 dX11_addObject_7 (v := .inr (.inr (some 69))) (zT_is hS s_64) (zT_t hS s_64) rfl f_11_26_11 (zT_f hS r_64_8) ?_
  refine zw_gf hm_143 dX11_addObject_10 (v := .inl (mI S 69 6)) (zT_is hS s_69) (zT_t hS s_69) rfl f_11_244_7 rfl ?_
  refine zw_push hm_143 dX11_addObject_13 (v := .inl (512 : Int32)) rfl ?_
  refine zw_if2 hm_143 dX11_addObject_16 (t := 30) rfl zc2_ge ?_ ?_
  · intro hc
    rw [if_pos hc] at h
    refine zw_push hm_143 dX11_addObject_30 (v := .inl (-1 : Int32)) rfl ?_
    refine zw_sto hm_143 dX11_addObject_31 [(7, .inl (-1 : Int32)), (6, .inr (.inr (some 91))), (0, .inr (.inr (some 64))), (1, .inl kd), (2, .inl wd), (3, .inr (.inl rf)), (5, .inl rt)] rfl rfl rfl ?_
    refine zw_push hm_143 dX11_addObject_33 (v := .inl (-1 : Int32)) rfl ?_
    refine zw_push hm_143 dX11_addObject_35 (v := .inl (-1 : Int32)) rfl ?_
    refine zw_if2 hm_143 dX11_addObject_36 (t := 41) rfl zc2_ne (fun hc => absurd hc (by decide)) (fun _ => ?_)
    refine zw_push hm_143 dX11_addObject_39 (v := .inl (-1 : Int32)) rfl ?_
    exact zw_iret hm_143 dX11_addObject_40 h
  · intro hc
    rw [if_neg hc] at h
    refine zw_push hm_143 dX11_addObject_19 (v := .inr (.inr (some 91))) rfl ?_
    refine zw_push hm_143 dX11_addObject_21 (v := .inl wd) rfl ?_
    refine zw_push hm_143 dX11_addObject_22 (v := .inl (1 : Int32)) rfl ?_
    refine zw_stk hm_143 dX11_addObject_23 (st₉ := [.inl (wd + (1 : Int32)), .inr (.inr (some 91))]) rfl rfl ?_
    refine zw_cv hm_143 dX11_addObject_24 v_11_367_4 hm_40 [.inl (wd + (1 : Int32))] [] rfl (zT_rt hS s_91 rfl) ⟨by omega, by omega⟩ rfl (zw_mono h (zi_go ?_ ?_))
    · intro v2 S1 hv
      obtain ⟨hS1, h⟩ := hv
      refine zw_goto hm_143 dX11_addObject_27 (t := 31) rfl ?_
      refine zw_sto hm_143 dX11_addObject_31 [(7, .inl v2), (6, .inr (.inr (some 91))), (0, .inr (.inr (some 64))), (1, .inl kd), (2, .inl wd), (3, .inr (.inl rf)), (5, .inl rt)] rfl rfl rfl ?_
      refine zw_push hm_143 dX11_addObject_33 (v := .inl v2) rfl ?_
      refine zw_push hm_143 dX11_addObject_35 (v := .inl (-1 : Int32)) rfl ?_
      refine zw_if2 hm_143 dX11_addObject_36 (t := 41) rfl zc2_ne ?_ ?_
      · intro hc
        rw [if_neg hc] at h
        exact zw_sub (ma_nd_of (ks := [0, 1, 2, 3, 5, 6, 7]) rfl (by decide)) (ma_nd_of (ks := [7, 6, 0, 1, 2, 3, 5]) rfl (by decide)) (ma_le_cons rfl (ma_le_cons rfl (ma_le_cons rfl (ma_le_cons rfl (ma_le_cons rfl (ma_le_cons rfl (ma_le_cons rfl (ma_le_nil _)))))))) h
      · intro hc
        rw [if_pos (Classical.not_not.mp hc)] at h
        refine zw_push hm_143 dX11_addObject_39 (v := .inl (-1 : Int32)) rfl ?_
        exact zw_iret hm_143 dX11_addObject_40 h
    · intro x S9 hx
      exact hx.elim
theorem sp_143_64_sz_p91 {X : Nat × (Nat → Int32)} {d w : Nat} {f : Nat → Nat → Int32} {r : Nat → Nat → Option Nat} {C Z N : Nat} {Q : Option ma_V ⊕ Nat → ma_S → Prop} {ab : Nat→Nat→Int32} {S : ma_S} (kd : Int32) (wd : Int32) (rf : Int64) (rt : Int32) (hd : 7 ≤ d) (hw : 204 ≤ w) (hI : zB f r C Z N S) (hr : r 64 11 = some 91) (hpre0 : 0 ≤ wd.toInt) (hpre1 : wd.toInt ≤ 60) (hpre2 : 0 ≤ rt.toInt) (hpre3 : rt.toInt ≤ 15) (hpre4 : xB S (mR S 70)) (hpre5 : aZ S = ab) (hpre6 : qRv ab) (K : ∀ v S₉ r₉ C₉ Z₉ N₉, (∀ c k, c < 126 → r₉ c k = r c k) → C₉ ≤ C + 1 → Z₉ ≤ Z + 9 → (N ≤ N₉) → zB f r₉ C₉ Z₉ N₉ S₉ → (True) → (xB S₉ (mR S₉ 70)) → (aZ S₉ = rMk ab kd wd rf rt ∧ v = rMn ab wd) → Q (.inl (some (.inl v))) S₉) : ma_wp X d w 143 0 [(0, .inr (.inr (some 64))), (1, .inl kd), (2, .inl wd), (3, .inr (.inl rf)), (5, .inl rt)] [] S Q := by
  refine g_143_64_sz_p91_0 kd wd rf rt (by omega) (by omega) (zG_T hI) ?_
  refine ⟨((zG_r hI (by decide)).trans hr), ?_⟩
  refine ⟨((zG_r hI (by decide)).trans hr), ?_⟩
  have li1 : (512 : Int32).toInt = 512 := rfl
  have f2 := zG_s hI (0) (512) (c := 69) (k := 6) (by decide)
  refine zd (fun h3 => ?_) (fun h3 => ?_)
  · skip
    have g4 := i_le h3
    have li5 : (-1 : Int32).toInt = -1 := rfl
    exact K ((-1 : Int32)) _ _ _ _ _ (fun _ _ _ => rfl) (by omega) (by omega) (Nat.le_refl _) hI trivial (show xB S (mR S 70) from by first | (exact xB_x (xC_o (W := 75) hpre4).2)) (show aZ S = rMk ab kd wd rf rt ∧ (-1 : Int32) = rMn ab wd from by first | (have z := rMk_0 (a := ab) (kd := kd) (wd := wd) (rt := rt) (L := rf) (by rw [← hpre5, (show aZ S 69 6 = mI S 69 6 from (aZ_o (by decide) (by decide) (by decide)).trans (aS_I (W := 75) (S := S) (c := 69) (c₉ := 69) (k := 6) rfl rfl))]; omega); exact ⟨hpre5.trans z.1.symm, z.2.symm⟩))
  · skip
    have g6 := i_nle h3
    have b7 := i_bd wd
    first | have e8 : (wd + (1 : Int32)).toInt = wd.toInt + (1) := i_addk rfl (by omega) (by omega) | have b9 := i_bd (wd + (1 : Int32))
    refine sp_40_91_sz (ab := (aZ S)) ((wd + (1 : Int32))) (by omega) (by omega) (zB_dn_zL91 hI) (show xB S (mR S 70) from by first | (exact xB_x (xC_o (W := 75) hpre4).2)) (show aZ S = (aZ S) from by first | (exact rfl)) (show qRv (aZ S) from by first | (rw [hpre5]; exact hpre6) | (rw [hpre5]; exact hpre6) | (exact hpre6)) (by omega) (by omega) (fun v2 S1 hL_S1 hp_v2 rp0_S1 rp1_S1 rp2_S1 rp3_S1 => zi_n ⟨zG_T hL_S1, ?_⟩)
    have hI_S1 := zB_up_zL91 hI hL_S1
    have rp0_S1 : xB S1 (mR S1 70) := by
      have z := rp0_S1
      (try rw [show mI S 65 = f 65 from funext (fun k => zG_z hI rfl)] at z)
      (try rw [show mI S 64 1 = f 64 1 from zG_z hI rfl] at z)
      exact z
    have rp1_S1 : aZ S1 = rRs (aZ S) (wd + (1 : Int32)).toInt ∧ v2.toInt = rRp (aZ S) (wd + (1 : Int32)).toInt := by
      have z := rp1_S1
      (try rw [show mI S 65 = f 65 from funext (fun k => zG_z hI rfl)] at z)
      (try rw [show mI S 64 1 = f 64 1 from zG_z hI rfl] at z)
      exact z
    have rp2_S1 : v2.toInt = -1 ∨ (0 ≤ v2.toInt ∧ v2.toInt + (wd + (1 : Int32)).toInt ≤ 1500) := by
      have z := rp2_S1
      (try rw [show mI S 65 = f 65 from funext (fun k => zG_z hI rfl)] at z)
      (try rw [show mI S 64 1 = f 64 1 from zG_z hI rfl] at z)
      exact z
    have rp3_S1 : qRv (aZ S1) := by
      have z := rp3_S1
      (try rw [show mI S 65 = f 65 from funext (fun k => zG_z hI rfl)] at z)
      (try rw [show mI S 64 1 = f 64 1 from zG_z hI rfl] at z)
      exact z
    have b10 := i_bd v2
    have li11 : (-1 : Int32).toInt = -1 := rfl
    refine zd (fun h12 => ?_) (fun h12 => ?_)
    · skip
      have g13 := i_eq h12
      exact K ((-1 : Int32)) _ _ _ _ _ (fun _ _ _ => rfl) (by omega) (by omega) (Nat.le_refl _) hI_S1 trivial (show xB S1 (mR S1 70) from by first | (exact xB_x (xC_o (W := 75) rp0_S1).2)) (show aZ S1 = rMk ab kd wd rf rt ∧ (-1 : Int32) = rMn ab wd from by first | (have wd1 : (wd + (1 : Int32)).toInt = wd.toInt + 1 := i_addk rfl (by omega) (by omega); have rs := rp1_S1; rw [hpre5] at rs; have z := rMk_1 (a := ab) (kd := kd) (wd := wd) (rt := rt) (L := rf) (by rw [← hpre5, (show aZ S 69 6 = mI S 69 6 from (aZ_o (by decide) (by decide) (by decide)).trans (aS_I (W := 75) (S := S) (c := 69) (c₉ := 69) (k := 6) rfl rfl))]; omega) (by omega); exact ⟨rs.1.trans z.1.symm, z.2.symm⟩))
    · skip
      have g14 := i_ne h12
      have b15 := i_bd rt
      have q16 : (mI S1 69 6).toInt = (mI S 69 6).toInt := zG_zi (f := mI S) hL_S1 rfl
      have f17 := zG_s hI_S1 (0) (512) (c := 69) (k := 6) (by decide)
      have hN2 : 126 ≤ mN S1 := (zG_T hI_S1).2.1
      have hr2 : ∀ n c, mR S1 70 n = some c → c < mN S1 := fun n c q => by have z := zG_70 hI_S1 (by decide) q; rw [zG_N hI_S1]; exact z.2
      have wd1 : (wd + (1 : Int32)).toInt = wd.toInt + 1 := i_addk rfl (by omega) (by omega)
      have hy : (mI S1 69 6) = aZ S1 69 6 := (show aZ S1 69 6 = mI S1 69 6 from (aZ_o (by decide) (by decide) (by decide)).trans (aS_I (W := 75) (S := S1) (c := 69) (c₉ := 69) (k := 6) rfl rfl)).symm
      have rs := rp1_S1
      have bd := rp2_S1
      have mk2 := rMk_2 (a := ab) (b := aZ S1) (kd := kd) (wd := wd) (rt := rt) (L := rf) (pl := v2) (y := (mI S1 69 6)) (by rw [← hpre5, (show aZ S 69 6 = mI S 69 6 from (aZ_o (by decide) (by decide) (by decide)).trans (aS_I (W := 75) (S := S) (c := 69) (c₉ := 69) (k := 6) rfl rfl))]; omega) (by rw [← hpre5]; exact rs.1) (by rw [← hpre5]; exact rs.2) (by omega) hy
      exact mk_143s (p := 91) (by omega) (by omega) hI_S1 (by show 0 ≤ (mI S1 69 6).toInt; omega) (by show (mI S1 69 6).toInt ≤ 511; omega) (by omega) (by omega) (by omega) (by omega) (fun Sn hn hj => sg_143_64_sz_64 (ab := aZ S1) (R := mR S1 70) (y := (mI S1 69 6)) (I0 := (zFn (mI S1 69 6) kd (wd + (1 : Int32)) v2)) (L0 := rf) (rt) N (by omega) (by omega) hn ⟨Nat.le_trans (zG_T hI_S1).2.1 (Nat.le_of_eq (zG_N hI_S1)), Nat.lt_succ_self _⟩ (by rw [hj, zTh_lo (by decide) hN2]; omega) (by rw [hj]; exact mk_B rp0_S1 hN2 hr2) (by rw [hj]; exact Z_th hN2 hr2) (by rw [hj]; have q := zTh_eq (S := S1) (nu := (mI S1 69 6)) (kd := kd) (sz := wd + (1 : Int32)) (rr := rf) (pl := v2); rw [zG_N hI_S1] at q; exact q) (by rw [hj]; have q := zTh_L3 (S := S1) (nu := (mI S1 69 6)) (kd := kd) (sz := wd + (1 : Int32)) (rr := rf) (pl := v2); rw [zG_N hI_S1] at q; exact q) rfl (show (0 ≤ (mI S1 69 6).toInt ∧ (mI S1 69 6).toInt ≤ 511) ∧ (1 ≤ (wd + (1 : Int32)).toInt ∧ (wd + (1 : Int32)).toInt ≤ 61) ∧ 0 ≤ v2.toInt ∧ v2.toInt + (wd + (1 : Int32)).toInt ≤ 4500 by omega) ⟨by omega, by omega⟩ (by omega) (by omega) (by rw [hj, zTh_lo (by decide) hN2, zTh_lo (by decide) hN2]; omega) (fun v9 S9 h9 h10 q0 q1 => K v9 S9 _ _ _ _ (zrN_lo (zG_T hI_S1) (zG_N hI_S1)) (by omega) (by omega) (by omega) h9 h10 q0 (by rw [mk2.1, mk2.2]; exact q1)))
theorem g_141_64_sz_p91_0 {X : Nat × (Nat → Int32)} {d w : Nat} {S : ma_S} {Q : Option ma_V ⊕ Nat → ma_S → Prop} (ki : Int32) (rt : Int32) (hd : 8 ≤ d) (hw : 232 ≤ w) (hS : zT S) (h : if ki < 0 then (Q (.inr 2) (ma_bump S)) else (if (mI S 64 7) ≤ ki then (Q (.inr 2) (ma_bump S)) else (if rt < 0 then (Q (.inr 2) (ma_bump S)) else (if (16 : Int32) ≤ rt then (Q (.inr 2) (ma_bump S)) else ((0 ≤ ki ∧ ki.toNatClampNeg < 16) ∧ ((0 ≤ ki ∧ ki.toNatClampNeg < 16) ∧ (ma_wp X (d - 1) (w - 28) 143 0 [(0, .inr (.inr (some 64))), (1, .inl ki), (2, .inl (mI S 67 ki.toNatClampNeg)), (3, .inr (.inl ((mI S 68 ki.toNatClampNeg).toInt64))), (5, .inl rt)] [] S (zi (fun v2 S1 => zT S1 ∧ (Q (.inl (some (.inl v2))) S1)) (fun x S9 => Q (.inr x) S9))))))))) : ma_wp X d w 141 0 [(0, .inr (.inr (some 64))), (1, .inl ki), (2, .inl rt)] [] S Q := by
  refine zw_push hm_141 dX11_make_0 (v := .inl ki) rfl ?_
  refine zw_if0 hm_141 dX11_make_1 (t := 19) rfl zc0_lt ?_ ?_
  · intro hc
    rw [if_pos hc] at h
    exact zw_thr hm_141 dX11_make_19 dX11_make_22 dX11_make_23 dX11_make_26 x_11_79_81 n_11_79 (by omega) (by show 0 + 81 ≤ w; omega) h
  · intro hc
    rw [if_neg hc] at h
    refine zw_push hm_141 dX11_make_4 (v := .inl ki) rfl ?_
    refine zw_push hm_141 dX11_make_5 (v := .inr (.inr (some 64))) rfl ?_
    refine zw_gf hm_141 dX11_make_6 (v := .inl (mI S 64 7)) (zT_is hS s_64) (zT_t hS s_64) rfl f_11_82_11 rfl ?_
    refine zw_if2 hm_141 dX11_make_9 (t := 19) rfl zc2_ge ?_ ?_
    · intro hc
      rw [if_pos hc] at h
      exact zw_thr hm_141 dX11_make_19 dX11_make_22 dX11_make_23 dX11_make_26 x_11_79_81 n_11_79 (by omega) (by show 0 + 81 ≤ w; omega) h
    · intro hc
      rw [if_neg hc] at h
      refine zw_push hm_141 dX11_make_12 (v := .inl rt) rfl ?_
      refine zw_cs hm_141 dX11_make_13 pn_11_109 sl_11_109 hm_142 [.inl rt] [] rfl ⟨by omega, by omega⟩ rfl ?_
      show ma_wp X (d - 1) (w - 20) 142 0 [(0, .inl rt)] [] S _
      refine zw_push hm_142 dX11_isSlot_0 (v := .inl rt) rfl ?_
      refine zw_if0 hm_142 dX11_isSlot_1 (t := 14) rfl zc0_lt ?_ ?_
      · intro hc
        rw [if_pos hc] at h
        refine zw_push hm_142 dX11_isSlot_14 (v := .inl (0 : Int32)) rfl ?_
        refine zw_bret hm_142 dX11_isSlot_15 (by decide) ?_
        show ma_wp X d w 141 16 [(0, .inr (.inr (some 64))), (1, .inl ki), (2, .inl rt)] [.inl (0 : Int32)] S _
        refine zw_if0 hm_141 dX11_make_16 (t := 27) rfl zc0_ne (fun hc => absurd hc (by decide)) (fun _ => ?_)
        exact zw_thr hm_141 dX11_make_19 dX11_make_22 dX11_make_23 dX11_make_26 x_11_79_81 n_11_79 (by omega) (by show 0 + 81 ≤ w; omega) h
      · intro hc
        rw [if_neg hc] at h
        refine zw_push hm_142 dX11_isSlot_4 (v := .inl rt) rfl ?_
        refine zw_push hm_142 dX11_isSlot_5 (v := .inl (16 : Int32)) rfl ?_
        refine zw_if2 hm_142 dX11_isSlot_7 (t := 14) rfl zc2_ge ?_ ?_
        · intro hc
          rw [if_pos hc] at h
          refine zw_push hm_142 dX11_isSlot_14 (v := .inl (0 : Int32)) rfl ?_
          refine zw_bret hm_142 dX11_isSlot_15 (by decide) ?_
          show ma_wp X d w 141 16 [(0, .inr (.inr (some 64))), (1, .inl ki), (2, .inl rt)] [.inl (0 : Int32)] S _
          refine zw_if0 hm_141 dX11_make_16 (t := 27) rfl zc0_ne (fun hc => absurd hc (by decide)) (fun _ => ?_)
          exact zw_thr hm_141 dX11_make_19 dX11_make_22 dX11_make_23 dX11_make_26 x_11_79_81 n_11_79 (by omega) (by show 0 + 81 ≤ w; omega) h
        · intro hc
          rw [if_neg hc] at h
          refine zw_push hm_142 dX11_isSlot_10 (v := .inl (1 : Int32)) rfl ?_
          refine zw_goto hm_142 dX11_isSlot_11 (t := 15) rfl ?_
          refine zw_bret hm_142 dX11_isSlot_15 (by decide) ?_
          show ma_wp X d w 141 16 [(0, .inr (.inr (some 64))), (1, .inl ki), (2, .inl rt)] [.inl (1 : Int32)] S _
          refine zw_if0 hm_141 dX11_make_16 (t := 27) rfl zc0_ne (fun _ => ?_) (fun hc => absurd (by decide) hc)
          refine zw_push hm_141 dX11_make_27 (v := .inr (.inr (some 64))) rfl ?_
          refine zw_push hm_141 dX11_make_28 (v := .inl ki) rfl ?_
          refine zw_push hm_141 dX11_make_29 (v := .inr (.inr (some 64))) rfl ?_
          refine zw_gf hm_141 dX11_make_30 (v := .inr (.inr (some 67))) (zT_is hS s_64) (zT_t hS s_64) rfl f_11_17_11 (zT_f hS r_64_5) ?_
          refine zw_push hm_141 dX11_make_33 (v := .inl ki) rfl ?_
          obtain ⟨hg, h⟩ := h
          refine zw_ia hm_141 dX11_make_34 (zT_is hS s_67) (zT_h hS s_67) rfl hg ?_
          show ma_wp X d w 141 35 [(0, .inr (.inr (some 64))), (1, .inl ki), (2, .inl rt)] [.inl (mI S 67 ki.toNatClampNeg), .inl ki, .inr (.inr (some 64))] S _
          refine zw_push hm_141 dX11_make_35 (v := .inr (.inr (some 64))) rfl ?_
          refine zw_gf hm_141 dX11_make_36 (v := .inr (.inr (some 68))) (zT_is hS s_64) (zT_t hS s_64) rfl f_11_20_11 (zT_f hS r_64_6) ?_
          refine zw_push hm_141 dX11_make_39 (v := .inl ki) rfl ?_
          obtain ⟨hg, h⟩ := h
          refine zw_ia hm_141 dX11_make_40 (zT_is hS s_68) (zT_h hS s_68) rfl hg ?_
          show ma_wp X d w 141 41 [(0, .inr (.inr (some 64))), (1, .inl ki), (2, .inl rt)] [.inl (mI S 68 ki.toNatClampNeg), .inl (mI S 67 ki.toNatClampNeg), .inl ki, .inr (.inr (some 64))] S _
          refine zw_stk hm_141 dX11_make_41 (st₉ := [.inr (.inl ((mI S 68 ki.toNatClampNeg).toInt64)), .inl (mI S 67 ki.toNatClampNeg), .inl ki, .inr (.inr (some 64))]) rfl rfl ?_
          refine zw_push hm_141 dX11_make_42 (v := .inl rt) rfl ?_
          refine zw_cv hm_141 dX11_make_43 v_11_113_11 hm_143 [.inl rt, .inr (.inl ((mI S 68 ki.toNatClampNeg).toInt64)), .inl (mI S 67 ki.toNatClampNeg), .inl ki] [] rfl (zT_rt hS s_64 rfl) ⟨by omega, by omega⟩ rfl (zw_mono h (zi_go ?_ ?_))
          · intro v2 S1 hv
            obtain ⟨hS1, h⟩ := hv
            exact zw_iret hm_141 dX11_make_46 h
          · intro x S9 hx
            exact ⟨by decide, hx⟩
theorem sp_141_64_sz_p91 {X : Nat × (Nat → Int32)} {d w : Nat} {f : Nat → Nat → Int32} {r : Nat → Nat → Option Nat} {C Z N : Nat} {Q : Option ma_V ⊕ Nat → ma_S → Prop} {ab : Nat→Nat→Int32} {S : ma_S} (ki : Int32) (rt : Int32) (hd : 8 ≤ d) (hw : 232 ≤ w) (hI : zB f r C Z N S) (hr : r 64 11 = some 91) (hpre0 : xB S (mR S 70)) (hpre1 : aZ S = ab) (hpre2 : qRv ab) (K : ∀ v S₉ r₉ C₉ Z₉ N₉, (∀ c k, c < 126 → r₉ c k = r c k) → C₉ ≤ C + 1 → Z₉ ≤ Z + 9 → (N ≤ N₉) → zB f r₉ C₉ Z₉ N₉ S₉ → (True) → (xB S₉ (mR S₉ 70)) → ((0 ≤ ki.toInt ∧ ki.toInt < (f 64 7).toInt ∧ 0 ≤ rt.toInt ∧ rt.toInt ≤ 15) ∧ aZ S₉ = rMk ab ki (f 67 ki.toNatClampNeg) (f 68 ki.toNatClampNeg).toInt64 rt ∧ v = rMn ab (f 67 ki.toNatClampNeg)) → Q (.inl (some (.inl v))) S₉) (KX : ∀ x S₉, (x = 2) → zB f r C Z N S₉ → (xB S₉ (mR S₉ 70)) → (aZ S₉ = ab) → (x = 2 ∧ ¬ (0 ≤ ki.toInt ∧ ki.toInt < (f 64 7).toInt ∧ 0 ≤ rt.toInt ∧ rt.toInt ≤ 15)) → Q (.inr x) (ma_bump S₉)) : ma_wp X d w 141 0 [(0, .inr (.inr (some 64))), (1, .inl ki), (2, .inl rt)] [] S Q := by
  refine g_141_64_sz_p91_0 ki rt (by omega) (by omega) (zG_T hI) ?_
  have b1 := i_bd ki
  have li2 : (0 : Int32).toInt = 0 := rfl
  refine zd (fun h3 => ?_) (fun h3 => ?_)
  · skip
    have g4 := i_lt h3
    exact KX 2 _ (by decide) hI (show xB S (mR S 70) from by first | (exact xB_x (xC_o (W := 75) hpre0).2)) (show aZ S = ab from by first | (exact hpre1)) (show 2 = 2 ∧ ¬ (0 ≤ ki.toInt ∧ ki.toInt < (f 64 7).toInt ∧ 0 ≤ rt.toInt ∧ rt.toInt ≤ 15) from by first | (have f7 : (mI S 64 7).toInt = (f 64 7).toInt := zG_zi hI rfl; exact ⟨rfl, by omega⟩))
  · skip
    have g5 := i_nlt h3
    have f6 := zG_s hI (0) (16) (c := 64) (k := 7) (by decide)
    refine zd (fun h7 => ?_) (fun h7 => ?_)
    · skip
      have g8 := i_le h7
      exact KX 2 _ (by decide) hI (show xB S (mR S 70) from by first | (exact xB_x (xC_o (W := 75) hpre0).2)) (show aZ S = ab from by first | (exact hpre1)) (show 2 = 2 ∧ ¬ (0 ≤ ki.toInt ∧ ki.toInt < (f 64 7).toInt ∧ 0 ≤ rt.toInt ∧ rt.toInt ≤ 15) from by first | (have f7 : (mI S 64 7).toInt = (f 64 7).toInt := zG_zi hI rfl; exact ⟨rfl, by omega⟩))
    · skip
      have g9 := i_nle h7
      have b10 := i_bd rt
      refine zd (fun h11 => ?_) (fun h11 => ?_)
      · skip
        have g12 := i_lt h11
        exact KX 2 _ (by decide) hI (show xB S (mR S 70) from by first | (exact xB_x (xC_o (W := 75) hpre0).2)) (show aZ S = ab from by first | (exact hpre1)) (show 2 = 2 ∧ ¬ (0 ≤ ki.toInt ∧ ki.toInt < (f 64 7).toInt ∧ 0 ≤ rt.toInt ∧ rt.toInt ≤ 15) from by first | (have f7 : (mI S 64 7).toInt = (f 64 7).toInt := zG_zi hI rfl; exact ⟨rfl, by omega⟩))
      · skip
        have g13 := i_nlt h11
        have li14 : (16 : Int32).toInt = 16 := rfl
        refine zd (fun h15 => ?_) (fun h15 => ?_)
        · skip
          have g16 := i_le h15
          exact KX 2 _ (by decide) hI (show xB S (mR S 70) from by first | (exact xB_x (xC_o (W := 75) hpre0).2)) (show aZ S = ab from by first | (exact hpre1)) (show 2 = 2 ∧ ¬ (0 ≤ ki.toInt ∧ ki.toInt < (f 64 7).toInt ∧ 0 ≤ rt.toInt ∧ rt.toInt ≤ 15) from by first | (have f7 : (mI S 64 7).toInt = (f 64 7).toInt := zG_zi hI rfl; exact ⟨rfl, by omega⟩))
        · skip
          have g17 := i_nle h15
          refine ⟨i_ix (by omega) (by omega), ?_⟩
          refine ⟨i_ix (by omega) (by omega), ?_⟩
          first | have f18 := zG_a hI 16 (0) (8) (c := 67) (k := ki.toNatClampNeg) (by decide) (i_ix (n := 16) (by omega) (by omega)).2 | have b19 := i_bd (mI S 67 ki.toNatClampNeg)
          refine sp_143_64_sz_p91 (ab := (aZ S)) (ki) ((mI S 67 ki.toNatClampNeg)) (((mI S 68 ki.toNatClampNeg).toInt64)) (rt) (by omega) (by omega) hI hr (by omega) (by omega) (by omega) (by omega) (show xB S (mR S 70) from by first | (exact xB_x (xC_o (W := 75) hpre0).2)) (show aZ S = (aZ S) from by first | (exact rfl)) (show qRv (aZ S) from by first | (rw [hpre1]; exact hpre2) | (rw [hpre1]; exact hpre2) | (exact hpre2)) (fun v2 S1 r₉ C₉ Z₉ N₉ sl1 sl2 sl3 sl4 hI_S1 hp_v2 rp0_S1 rp1_S1 => zi_n ⟨zG_T hI_S1, ?_⟩)
          have rp0_S1 : xB S1 (mR S1 70) := rp0_S1
          have rp1_S1 : aZ S1 = rMk (aZ S) ki (mI S 67 ki.toNatClampNeg) (((mI S 68 ki.toNatClampNeg).toInt64)) rt ∧ v2 = rMn (aZ S) (mI S 67 ki.toNatClampNeg) := rp1_S1
          have b20 := i_bd v2
          exact K (v2) _ _ _ _ _ sl1 sl2 sl3 sl4 hI_S1 trivial (show xB S1 (mR S1 70) from by first | (exact xB_x (xC_o (W := 75) rp0_S1).2)) (show (0 ≤ ki.toInt ∧ ki.toInt < (f 64 7).toInt ∧ 0 ≤ rt.toInt ∧ rt.toInt ≤ 15) ∧ aZ S1 = rMk ab ki (f 67 ki.toNatClampNeg) (f 68 ki.toNatClampNeg).toInt64 rt ∧ v2 = rMn ab (f 67 ki.toNatClampNeg) from by first | (exfalso; omega) | (have f7 : (mI S 64 7).toInt = (f 64 7).toInt := zG_zi hI rfl; have q := rp1_S1; rw [hpre1, show mI S 67 ki.toNatClampNeg = f 67 ki.toNatClampNeg from zG_z hI rfl, show mI S 68 ki.toNatClampNeg = f 68 ki.toNatClampNeg from zG_z hI rfl] at q; exact ⟨⟨by omega, by omega, by omega, by omega⟩, q⟩))

/-! from 95.s25 -/
/-! REGIONS, the class (written by wip/tools/gen15z.py) -/
theorem g_147_64_sz_p91_0 {X : Nat × (Nat → Int32)} {d w : Nat} {S : ma_S} {Q : Option ma_V ⊕ Nat → ma_S → Prop} (b : Int32) (n : Int32) (rt : Int32) (hd : 8 ≤ d) (hw : 232 ≤ w) (hS : zT S) (h : if n < 0 then (Q (.inr 2) (ma_bump S)) else (if (60 : Int32) < n then (Q (.inr 2) (ma_bump S)) else (if rt < 0 then (Q (.inr 2) (ma_bump S)) else (if (16 : Int32) ≤ rt then (Q (.inr 2) (ma_bump S)) else (if b = 0 then (ma_wp X (d - 1) (w - 28) 143 0 [(0, .inr (.inr (some 64))), (1, .inl (17 : Int32)), (2, .inl n), (3, .inr (.inl (0 : Int64))), (5, .inl rt)] [] S (zi (fun v2 S1 => zT S1 ∧ (Q (.inl (some (.inl v2))) S1)) (fun x S9 => Q (.inr x) S9))) else (ma_wp X (d - 1) (w - 28) 143 0 [(0, .inr (.inr (some 64))), (1, .inl (16 : Int32)), (2, .inl n), (3, .inr (.inl (-1 : Int64))), (5, .inl rt)] [] S (zi (fun v4 S3 => zT S3 ∧ (Q (.inl (some (.inl v4))) S3)) (fun x S9 => Q (.inr x) S9)))))))) : ma_wp X d w 147 0 [(0, .inr (.inr (some 64))), (1, .inl b), (2, .inl n), (3, .inl rt)] [] S Q := by
  refine zw_push hm_147 dX11_row_0 (v := .inl n) rfl ?_
  refine zw_if0 hm_147 dX11_row_1 (t := 17) rfl zc0_lt ?_ ?_
  · intro hc
    rw [if_pos hc] at h
    exact zw_thr hm_147 dX11_row_17 dX11_row_20 dX11_row_21 dX11_row_24 x_11_79_81 n_11_79 (by omega) (by show 0 + 81 ≤ w; omega) h
  · intro hc
    rw [if_neg hc] at h
    refine zw_push hm_147 dX11_row_4 (v := .inl n) rfl ?_
    refine zw_push hm_147 dX11_row_5 (v := .inl (60 : Int32)) rfl ?_
    refine zw_if2 hm_147 dX11_row_7 (t := 17) rfl zc2_gt ?_ ?_
    · intro hc
      rw [if_pos hc] at h
      exact zw_thr hm_147 dX11_row_17 dX11_row_20 dX11_row_21 dX11_row_24 x_11_79_81 n_11_79 (by omega) (by show 0 + 81 ≤ w; omega) h
    · intro hc
      rw [if_neg hc] at h
      refine zw_push hm_147 dX11_row_10 (v := .inl rt) rfl ?_
      refine zw_cs hm_147 dX11_row_11 pn_11_109 sl_11_109 hm_142 [.inl rt] [] rfl ⟨by omega, by omega⟩ rfl ?_
      show ma_wp X (d - 1) (w - 20) 142 0 [(0, .inl rt)] [] S _
      refine zw_push hm_142 dX11_isSlot_0 (v := .inl rt) rfl ?_
      refine zw_if0 hm_142 dX11_isSlot_1 (t := 14) rfl zc0_lt ?_ ?_
      · intro hc
        rw [if_pos hc] at h
        refine zw_push hm_142 dX11_isSlot_14 (v := .inl (0 : Int32)) rfl ?_
        refine zw_bret hm_142 dX11_isSlot_15 (by decide) ?_
        show ma_wp X d w 147 14 [(0, .inr (.inr (some 64))), (1, .inl b), (2, .inl n), (3, .inl rt)] [.inl (0 : Int32)] S _
        refine zw_if0 hm_147 dX11_row_14 (t := 25) rfl zc0_ne (fun hc => absurd hc (by decide)) (fun _ => ?_)
        exact zw_thr hm_147 dX11_row_17 dX11_row_20 dX11_row_21 dX11_row_24 x_11_79_81 n_11_79 (by omega) (by show 0 + 81 ≤ w; omega) h
      · intro hc
        rw [if_neg hc] at h
        refine zw_push hm_142 dX11_isSlot_4 (v := .inl rt) rfl ?_
        refine zw_push hm_142 dX11_isSlot_5 (v := .inl (16 : Int32)) rfl ?_
        refine zw_if2 hm_142 dX11_isSlot_7 (t := 14) rfl zc2_ge ?_ ?_
        · intro hc
          rw [if_pos hc] at h
          refine zw_push hm_142 dX11_isSlot_14 (v := .inl (0 : Int32)) rfl ?_
          refine zw_bret hm_142 dX11_isSlot_15 (by decide) ?_
          show ma_wp X d w 147 14 [(0, .inr (.inr (some 64))), (1, .inl b), (2, .inl n), (3, .inl rt)] [.inl (0 : Int32)] S _
          refine zw_if0 hm_147 dX11_row_14 (t := 25) rfl zc0_ne (fun hc => absurd hc (by decide)) (fun _ => ?_)
          exact zw_thr hm_147 dX11_row_17 dX11_row_20 dX11_row_21 dX11_row_24 x_11_79_81 n_11_79 (by omega) (by show 0 + 81 ≤ w; omega) h
        · intro hc
          rw [if_neg hc] at h
          refine zw_push hm_142 dX11_isSlot_10 (v := .inl (1 : Int32)) rfl ?_
          refine zw_goto hm_142 dX11_isSlot_11 (t := 15) rfl ?_
          refine zw_bret hm_142 dX11_isSlot_15 (by decide) ?_
          show ma_wp X d w 147 14 [(0, .inr (.inr (some 64))), (1, .inl b), (2, .inl n), (3, .inl rt)] [.inl (1 : Int32)] S _
          refine zw_if0 hm_147 dX11_row_14 (t := 25) rfl zc0_ne (fun _ => ?_) (fun hc => absurd (by decide) hc)
          refine zw_push hm_147 dX11_row_25 (v := .inl b) rfl ?_
          refine zw_if0 hm_147 dX11_row_26 (t := 43) rfl zc0_eq ?_ ?_
          · intro hc
            rw [if_pos hc] at h
            refine zw_push hm_147 dX11_row_43 (v := .inr (.inr (some 64))) rfl ?_
            refine zw_push hm_147 dX11_row_44 (v := .inl (17 : Int32)) rfl ?_
            refine zw_push hm_147 dX11_row_46 (v := .inl n) rfl ?_
            refine zw_push hm_147 dX11_row_47 (v := .inr (.inl (0 : Int64))) rfl ?_
            refine zw_push hm_147 dX11_row_48 (v := .inl rt) rfl ?_
            refine zw_cv hm_147 dX11_row_49 v_11_113_11 hm_143 [.inl rt, .inr (.inl (0 : Int64)), .inl n, .inl (17 : Int32)] [] rfl (zT_rt hS s_64 rfl) ⟨by omega, by omega⟩ rfl (zw_mono h (zi_go ?_ ?_))
            · intro v2 S1 hv
              obtain ⟨hS1, h⟩ := hv
              exact zw_iret hm_147 dX11_row_52 h
            · intro x S9 hx
              exact ⟨by decide, hx⟩
          · intro hc
            rw [if_neg hc] at h
            refine zw_push hm_147 dX11_row_29 (v := .inr (.inr (some 64))) rfl ?_
            refine zw_push hm_147 dX11_row_30 (v := .inl (16 : Int32)) rfl ?_
            refine zw_push hm_147 dX11_row_32 (v := .inl n) rfl ?_
            refine zw_l2 hm_147 dX11_row_33 l2_11_117 ?_
            refine zw_push hm_147 dX11_row_36 (v := .inl rt) rfl ?_
            refine zw_cv hm_147 dX11_row_37 v_11_113_11 hm_143 [.inl rt, .inr (.inl (-1 : Int64)), .inl n, .inl (16 : Int32)] [] rfl (zT_rt hS s_64 rfl) ⟨by omega, by omega⟩ rfl (zw_mono h (zi_go ?_ ?_))
            · intro v4 S3 hv
              obtain ⟨hS3, h⟩ := hv
              refine zw_goto hm_147 dX11_row_40 (t := 52) rfl ?_
              exact zw_iret hm_147 dX11_row_52 h
            · intro x S9 hx
              exact ⟨by decide, hx⟩
theorem sp_147_64_sz_p91 {X : Nat × (Nat → Int32)} {d w : Nat} {f : Nat → Nat → Int32} {r : Nat → Nat → Option Nat} {C Z N : Nat} {Q : Option ma_V ⊕ Nat → ma_S → Prop} {ab : Nat→Nat→Int32} {S : ma_S} (b : Int32) (n : Int32) (rt : Int32) (hd : 8 ≤ d) (hw : 232 ≤ w) (hI : zB f r C Z N S) (hr : r 64 11 = some 91) (hpre0 : 0 ≤ b.toInt) (hpre1 : b.toInt ≤ 1) (hpre2 : xB S (mR S 70)) (hpre3 : aZ S = ab) (hpre4 : qRv ab) (K : ∀ v S₉ r₉ C₉ Z₉ N₉, (∀ c k, c < 126 → r₉ c k = r c k) → C₉ ≤ C + 1 → Z₉ ≤ Z + 9 → (N ≤ N₉) → zB f r₉ C₉ Z₉ N₉ S₉ → (True) → (xB S₉ (mR S₉ 70)) → ((0 ≤ n.toInt ∧ n.toInt ≤ 60 ∧ 0 ≤ rt.toInt ∧ rt.toInt ≤ 15) ∧ aZ S₉ = (if b = 0 then rMk ab 17 n 0 rt else rMk ab 16 n (-1) rt) ∧ v = rMn ab n) → Q (.inl (some (.inl v))) S₉) (KX : ∀ x S₉, (x = 2) → zB f r C Z N S₉ → (xB S₉ (mR S₉ 70)) → (aZ S₉ = ab) → (x = 2 ∧ ¬ (0 ≤ n.toInt ∧ n.toInt ≤ 60 ∧ 0 ≤ rt.toInt ∧ rt.toInt ≤ 15)) → Q (.inr x) (ma_bump S₉)) : ma_wp X d w 147 0 [(0, .inr (.inr (some 64))), (1, .inl b), (2, .inl n), (3, .inl rt)] [] S Q := by
  refine g_147_64_sz_p91_0 b n rt (by omega) (by omega) (zG_T hI) ?_
  have b1 := i_bd n
  have li2 : (0 : Int32).toInt = 0 := rfl
  refine zd (fun h3 => ?_) (fun h3 => ?_)
  · skip
    have g4 := i_lt h3
    exact KX 2 _ (by decide) hI (show xB S (mR S 70) from by first | (exact xB_x (xC_o (W := 75) hpre2).2)) (show aZ S = ab from by first | (exact hpre3)) (show 2 = 2 ∧ ¬ (0 ≤ n.toInt ∧ n.toInt ≤ 60 ∧ 0 ≤ rt.toInt ∧ rt.toInt ≤ 15) from by first | (exact ⟨rfl, by omega⟩))
  · skip
    have g5 := i_nlt h3
    have li6 : (60 : Int32).toInt = 60 := rfl
    refine zd (fun h7 => ?_) (fun h7 => ?_)
    · skip
      have g8 := i_lt h7
      exact KX 2 _ (by decide) hI (show xB S (mR S 70) from by first | (exact xB_x (xC_o (W := 75) hpre2).2)) (show aZ S = ab from by first | (exact hpre3)) (show 2 = 2 ∧ ¬ (0 ≤ n.toInt ∧ n.toInt ≤ 60 ∧ 0 ≤ rt.toInt ∧ rt.toInt ≤ 15) from by first | (exact ⟨rfl, by omega⟩))
    · skip
      have g9 := i_nlt h7
      have b10 := i_bd rt
      refine zd (fun h11 => ?_) (fun h11 => ?_)
      · skip
        have g12 := i_lt h11
        exact KX 2 _ (by decide) hI (show xB S (mR S 70) from by first | (exact xB_x (xC_o (W := 75) hpre2).2)) (show aZ S = ab from by first | (exact hpre3)) (show 2 = 2 ∧ ¬ (0 ≤ n.toInt ∧ n.toInt ≤ 60 ∧ 0 ≤ rt.toInt ∧ rt.toInt ≤ 15) from by first | (exact ⟨rfl, by omega⟩))
      · skip
        have g13 := i_nlt h11
        have li14 : (16 : Int32).toInt = 16 := rfl
        refine zd (fun h15 => ?_) (fun h15 => ?_)
        · skip
          have g16 := i_le h15
          exact KX 2 _ (by decide) hI (show xB S (mR S 70) from by first | (exact xB_x (xC_o (W := 75) hpre2).2)) (show aZ S = ab from by first | (exact hpre3)) (show 2 = 2 ∧ ¬ (0 ≤ n.toInt ∧ n.toInt ≤ 60 ∧ 0 ≤ rt.toInt ∧ rt.toInt ≤ 15) from by first | (exact ⟨rfl, by omega⟩))
        · skip
          have g17 := i_nle h15
          have b18 := i_bd b
          refine zd (fun h19 => ?_) (fun h19 => ?_)
          · skip
            have g20 := i_eq h19
            have li21 : (17 : Int32).toInt = 17 := rfl
            refine sp_143_64_sz_p91 (ab := (aZ S)) ((17 : Int32)) (n) ((0 : Int64)) (rt) (by omega) (by omega) hI hr (by omega) (by omega) (by omega) (by omega) (show xB S (mR S 70) from by first | (exact xB_x (xC_o (W := 75) hpre2).2)) (show aZ S = (aZ S) from by first | (exact rfl)) (show qRv (aZ S) from by first | (rw [hpre3]; exact hpre4) | (rw [hpre3]; exact hpre4) | (exact hpre4)) (fun v2 S1 r₉ C₉ Z₉ N₉ sl1 sl2 sl3 sl4 hI_S1 hp_v2 rp0_S1 rp1_S1 => zi_n ⟨zG_T hI_S1, ?_⟩)
            have rp0_S1 : xB S1 (mR S1 70) := rp0_S1
            have rp1_S1 : aZ S1 = rMk (aZ S) (17 : Int32) n (0 : Int64) rt ∧ v2 = rMn (aZ S) n := rp1_S1
            have b22 := i_bd v2
            exact K (v2) _ _ _ _ _ sl1 sl2 sl3 sl4 hI_S1 trivial (show xB S1 (mR S1 70) from by first | (exact xB_x (xC_o (W := 75) rp0_S1).2)) (show (0 ≤ n.toInt ∧ n.toInt ≤ 60 ∧ 0 ≤ rt.toInt ∧ rt.toInt ≤ 15) ∧ aZ S1 = (if b = 0 then rMk ab 17 n 0 rt else rMk ab 16 n (-1) rt) ∧ v2 = rMn ab n from by first | (exfalso; omega) | (have q := rp1_S1; rw [hpre3] at q; refine ⟨⟨by omega, by omega, by omega, by omega⟩, ?_⟩; rw [if_pos (by assumption)]; exact q) | (have q := rp1_S1; rw [hpre3] at q; refine ⟨⟨by omega, by omega, by omega, by omega⟩, ?_⟩; rw [if_neg (by assumption)]; exact q))
          · skip
            have g23 := i_ne h19
            refine sp_143_64_sz_p91 (ab := (aZ S)) ((16 : Int32)) (n) ((-1 : Int64)) (rt) (by omega) (by omega) hI hr (by omega) (by omega) (by omega) (by omega) (show xB S (mR S 70) from by first | (exact xB_x (xC_o (W := 75) hpre2).2)) (show aZ S = (aZ S) from by first | (exact rfl)) (show qRv (aZ S) from by first | (rw [hpre3]; exact hpre4) | (rw [hpre3]; exact hpre4) | (exact hpre4)) (fun v4 S3 r₉ C₉ Z₉ N₉ sl1 sl2 sl3 sl4 hI_S3 hp_v4 rp0_S3 rp1_S3 => zi_n ⟨zG_T hI_S3, ?_⟩)
            have rp0_S3 : xB S3 (mR S3 70) := rp0_S3
            have rp1_S3 : aZ S3 = rMk (aZ S) (16 : Int32) n (-1 : Int64) rt ∧ v4 = rMn (aZ S) n := rp1_S3
            have b24 := i_bd v4
            exact K (v4) _ _ _ _ _ sl1 sl2 sl3 sl4 hI_S3 trivial (show xB S3 (mR S3 70) from by first | (exact xB_x (xC_o (W := 75) rp0_S3).2)) (show (0 ≤ n.toInt ∧ n.toInt ≤ 60 ∧ 0 ≤ rt.toInt ∧ rt.toInt ≤ 15) ∧ aZ S3 = (if b = 0 then rMk ab 17 n 0 rt else rMk ab 16 n (-1) rt) ∧ v4 = rMn ab n from by first | (exfalso; omega) | (have q := rp1_S3; rw [hpre3] at q; refine ⟨⟨by omega, by omega, by omega, by omega⟩, ?_⟩; rw [if_pos (by assumption)]; exact q) | (have q := rp1_S3; rw [hpre3] at q; refine ⟨⟨by omega, by omega, by omega, by omega⟩, ?_⟩; rw [if_neg (by assumption)]; exact q))
theorem g_159_64_sz_p91_0 {X : Nat × (Nat → Int32)} {d w : Nat} {S : ma_S} {Q : Option ma_V ⊕ Nat → ma_S → Prop}  (hd : 7 ≤ d) (hw : 183 ≤ w) (hS : zT S) (h : mR S 64 11 = some 91 ∧ (mR S 64 11 = some 91 ∧ (ma_wp X (d - 1) (w - 23) 43 0 [(0, .inr (.inr (some 91)))] [] S (zi (fun v2 S1 => zT S1 ∧ (Q (.inl (some (.inl v2))) S1)) (fun _ _ => False))))) : ma_wp X d w 159 0 [(0, .inr (.inr (some 64)))] [] S Q := by
  refine zw_push hm_159 dX11_clean_0 (v := .inr (.inr (some 64))) rfl ?_
  refine zw_cv hm_159 dX11_clean_1 v_11_119_11 hm_144 [] [] rfl (zT_rt hS s_64 rfl) ⟨by omega, by omega⟩ rfl ?_
  show ma_wp X (d - 1) (w - 20) 144 0 [(0, .inr (.inr (some 64)))] [] S _
  refine zw_push hm_144 dX11_needCollector_0 (v := .inr (.inr (some 64))) rfl ?_
  obtain ⟨hg, h⟩ := h
  refine zw_gf hm_144 dX11_needCollector_1 (v := .inr (.inr (some 91))) (zT_is hS s_64) (zT_t hS s_64) rfl f_11_98_11 (congrArg (fun z => Sum.inr (Sum.inr z)) hg) ?_
  refine zw_ifnonnull hm_144 dX11_needCollector_4 (t := 15) rfl (fun z => by cases z) (fun _ _ => ?_)
  refine zw_push hm_144 dX11_needCollector_15 (v := .inr (.inr (some 64))) rfl ?_
  obtain ⟨hg, h⟩ := h
  refine zw_gf hm_144 dX11_needCollector_16 (v := .inr (.inr (some 91))) (zT_is hS s_64) (zT_t hS s_64) rfl f_11_98_11 (congrArg (fun z => Sum.inr (Sum.inr z)) hg) ?_
  refine zw_aret hm_144 dX11_needCollector_19 ?_
  show ma_wp X d w 159 4 [(0, .inr (.inr (some 64)))] [.inr (.inr (some 91))] S _
  refine zw_cv hm_159 dX11_clean_4 v_11_207_4 hm_43 [] [] rfl (zT_rt hS s_91 rfl) ⟨by omega, by omega⟩ rfl (zw_mono h (zi_go ?_ ?_))
  · intro v2 S1 hv
    obtain ⟨hS1, h⟩ := hv
    exact zw_iret hm_159 dX11_clean_7 h
  · intro x S9 hx
    exact hx.elim
theorem sp_159_64_sz_p91 {X : Nat × (Nat → Int32)} {d w : Nat} {f : Nat → Nat → Int32} {r : Nat → Nat → Option Nat} {C Z N : Nat} {Q : Option ma_V ⊕ Nat → ma_S → Prop} {ab : Nat→Nat→Int32} {S : ma_S}  (hd : 7 ≤ d) (hw : 183 ≤ w) (hI : zB f r C Z N S) (hr : r 64 11 = some 91) (hpre0 : xB S (mR S 70)) (hpre1 : aZ S = ab) (hpre2 : qRv ab) (K : ∀ v S₉, zB f r C Z N S₉ → (True) → (xB S₉ (mR S₉ 70)) → (aZ S₉ = rCl ab ∧ v = aSv ab ∧ qRv (aZ S₉)) → Q (.inl (some (.inl v))) S₉) : ma_wp X d w 159 0 [(0, .inr (.inr (some 64)))] [] S Q := by
  refine g_159_64_sz_p91_0  (by omega) (by omega) (zG_T hI) ?_
  refine ⟨((zG_r hI (by decide)).trans hr), ?_⟩
  refine ⟨((zG_r hI (by decide)).trans hr), ?_⟩
  refine sp_43_91_sz (ab := (aZ S)) (by omega) (by omega) (zB_dn_zL91 hI) (show xB S (mR S 70) from by first | (exact xB_x (xC_o (W := 75) hpre0).2)) (show aZ S = (aZ S) from by first | (exact rfl)) (show qRv (aZ S) from by first | (rw [hpre1]; exact hpre2) | (rw [hpre1]; exact hpre2) | (exact hpre2)) (fun v2 S1 hL_S1 hp_v2 rp0_S1 rp1_S1 => zi_n ⟨zG_T hL_S1, ?_⟩)
  have hI_S1 := zB_up_zL91 hI hL_S1
  have rp0_S1 : xB S1 (mR S1 70) := by
    have z := rp0_S1
    (try rw [show mI S 65 = f 65 from funext (fun k => zG_z hI rfl)] at z)
    (try rw [show mI S 64 1 = f 64 1 from zG_z hI rfl] at z)
    exact z
  have rp1_S1 : aZ S1 = rCl (aZ S) ∧ v2 = aSv (aZ S) ∧ qRv (aZ S1) := by
    have z := rp1_S1
    (try rw [show mI S 65 = f 65 from funext (fun k => zG_z hI rfl)] at z)
    (try rw [show mI S 64 1 = f 64 1 from zG_z hI rfl] at z)
    exact z
  have b1 := i_bd v2
  exact K (v2) _ hI_S1 trivial (show xB S1 (mR S1 70) from by first | (exact xB_x (xC_o (W := 75) rp0_S1).2)) (show aZ S1 = rCl ab ∧ v2 = aSv ab ∧ qRv (aZ S1) from by first | (have z := rp1_S1; rw [hpre1] at z; exact z))

/-! from 95.t00 -/
/-! REGIONS, the reference (written by wip/tools/gen15t.py) -/
/-! REGIONS: the reference -/
/-- what its own fields say -/
def qRL (a : Nat → Nat → Int32) (si rg sh pr : Int32) (tp : Nat → Int32) : Prop := a 87 3 = si ∧ a 87 4 = rg ∧ a 87 5 = sh ∧ a 87 9 = pr ∧ ∀ r : Nat, (r : Int) < rg.toInt → a 92 r = tp r
def rLw (sh si : Int) (pr : Int) (kw hl dn : Nat → Int32) (r : Nat) : Int := if dn r = 0 ∧ hl r = 0 ∧ (r : Int) ≠ pr ∧ (kw r).toInt * 100 ≤ sh * si then (kw r).toInt else 0
/-- what leaves -/
def qLR (a : Nat → Nat → Int32) (rg sh si pr : Int32) (kw hl dn : Nat → Int32) : Prop := ∀ r : Nat, (r : Int) < rg.toInt → (0 ≤ (kw r).toInt ∧ (kw r).toInt ≤ 31232) ∧ (a 93 r).toInt = rLw sh.toInt si.toInt pr.toInt kw hl dn r
/-- the same, but for region q -/
def qLq (a : Nat → Nat → Int32) (rg sh si pr : Int32) (kw hl dn : Nat → Int32) (q : Int) : Prop := ∀ r : Nat, (r : Int) < rg.toInt → (0 ≤ (kw r).toInt ∧ (kw r).toInt ≤ 31232) ∧ ((r : Int) ≠ q → (a 93 r).toInt = rLw sh.toInt si.toInt pr.toInt kw hl dn r)
/-- sums over slots -/
def zsg (f : Nat → Int) : Nat → Int
  | 0 => 0
  | n + 1 => zsg f n + f n
def zKs (us ws at₉ : Nat → Int32) (si r : Int) : Nat → Int := zsg (fun s => if us s ≠ 0 ∧ (at₉ s).toInt / si = r then (ws s).toInt + 1 else 0)
def zHs (us ho at₉ : Nat → Int32) (si r : Int) (n : Nat) : Prop := ∃ s, s < n ∧ us s ≠ 0 ∧ 0 < (ho s).toInt ∧ (at₉ s).toInt / si = r
def qUT (U : (Nat → Nat → Int32) × Int × Bool) (q : Int) (T : (Nat → Nat → Int32) × Int) : Prop := (U.2.2 = true → rOf 92 (ma_u (ma_u U.1 93 q.toNat 0) 92 q.toNat 0) U.2.1 = T) ∧ (U.2.2 = false → (U.1, U.2.1) = T)
/-- how many leave -/
def rCn (a : Nat → Nat → Int32) : Nat → Nat
  | 0 => 0
  | n + 1 => rCn a n + (if 0 < (a 93 n).toInt then 1 else 0)
section F16
variable {a b c aa : Nat → Nat → Int32} {us nr kr kd ws at₉ at2 ho wd wi ow ow2 rt wk wl tp tp2 kw hl dn kw2 hl2 dn2 : Nat → Int32} {wm nu ro fo le ra pi si rg sh pr to s x x2 y y2 v z w l l2 : Int32} {t t2 g q p e r : Int} {n m k f : Nat} {T : (Nat → Nat → Int32) × Int} {F G : Nat → Int}
/-! sums -/
theorem sg_cg : ∀ n, (∀ k, k < n → F k = G k) → zsg F n = zsg G n := by
  intro n
  induction n with
  | zero => intro _; rfl
  | succ n ih =>
    intro h
    show zsg F n + F n = zsg G n + G n
    rw [ih (fun k hk => h k (by omega)), h n (by omega)]
theorem sg_0 : ∀ n, (∀ k, k < n → F k = 0) → zsg F n = 0 := by
  intro n
  induction n with
  | zero => intro _; rfl
  | succ n ih =>
    intro h
    show zsg F n + F n = 0
    rw [ih (fun k hk => h k (by omega)), h n (by omega)]
    rfl
theorem sg_1 : ∀ n k, k < n → (∀ j, j < n → j ≠ k → F j = 0) → zsg F n = F k := by
  intro n
  induction n with
  | zero => intro k hk; omega
  | succ n ih =>
    intro k hk h
    show zsg F n + F n = F k
    by_cases w : k = n
    · rw [w, sg_0 n (fun j hj => h j (by omega) (by omega)), Int.zero_add]
    · rw [ih k (by omega) (fun j hj hne => h j (by omega) hne), h n (by omega) (fun z => w z.symm), Int.add_zero]
theorem sg_ad : ∀ n, zsg (fun k => F k + G k) n = zsg F n + zsg G n := by
  intro n
  induction n with
  | zero => rfl
  | succ n ih =>
    show zsg (fun k => F k + G k) n + (F n + G n) = zsg F n + F n + (zsg G n + G n)
    rw [ih]
    omega
/-- slots by numbers -/
theorem Ks_kf (h : qR1 us nr ws at₉ ho a) (hI : qI a) (hs : (a 87 3).toInt = si.toInt) (r : Int) : ∀ N : Nat, N ≤ 512 → zsg (fun s => if us s ≠ 0 ∧ (nr s).toInt < (N : Int) ∧ (at₉ s).toInt / si.toInt = r then (ws s).toInt + 1 else 0) 3100 = rKf a r N := by
  intro N
  induction N with
  | zero =>
    intro _
    refine sg_0 _ (fun k hk => if_neg (fun z => ?_))
    have q := (h.1 k hk z.1).1
    omega
  | succ N ih =>
    intro hN
    rw [Kf_s, ← ih (by omega)]
    have e : zsg (fun s => if us s ≠ 0 ∧ (nr s).toInt < ((N + 1 : Nat) : Int) ∧ (at₉ s).toInt / si.toInt = r then (ws s).toInt + 1 else 0) 3100 = zsg (fun s => (if us s ≠ 0 ∧ (nr s).toInt < (N : Int) ∧ (at₉ s).toInt / si.toInt = r then (ws s).toInt + 1 else 0) + (if us s ≠ 0 ∧ (nr s).toInt = (N : Int) ∧ (at₉ s).toInt / si.toInt = r then (ws s).toInt + 1 else 0)) 3100 := by
      refine sg_cg _ (fun k hk => ?_)
      by_cases c1 : us k ≠ 0 ∧ (nr k).toInt < (N : Int) ∧ (at₉ k).toInt / si.toInt = r
      · rw [if_pos ⟨c1.1, by omega, c1.2.2⟩, if_pos c1, if_neg (fun z => by omega), Int.add_zero]
      · rw [if_neg c1, Int.zero_add]
        by_cases c2 : us k ≠ 0 ∧ (nr k).toInt = (N : Int) ∧ (at₉ k).toInt / si.toInt = r
        · rw [if_pos ⟨c2.1, by omega, c2.2.2⟩, if_pos c2]
        · rw [if_neg (fun z => ?_), if_neg c2]
          by_cases c3 : (nr k).toInt = (N : Int)
          · exact c2 ⟨z.1, c3, z.2.2⟩
          · exact c1 ⟨z.1, by omega, z.2.2⟩
    have key : zsg (fun s => if us s ≠ 0 ∧ (nr s).toInt = (N : Int) ∧ (at₉ s).toInt / si.toInt = r then (ws s).toInt + 1 else 0) 3100 = if a 126 N ≠ 0 ∧ (a 130 N).toInt / (a 87 3).toInt = r then (a 128 N).toInt else 0 := by
      by_cases w : a 126 N ≠ 0 ∧ (a 130 N).toInt / (a 87 3).toInt = r
      · obtain ⟨s, h1, h2, h3⟩ := h.2.2 N (by omega) w.1
        have nn : (nr s).toInt = (N : Int) := by
          rw [h3]
          exact Int32.toInt_ofNat_of_lt (by omega)
        have q := h.1 s h1 h2
        have tn : (nr s).toNatClampNeg = N := by
          have := tn_cast (x := nr s) (by omega)
          omega
        rw [tn] at q
        have e2 : (a 128 N).toInt = (ws s).toInt + 1 := by
          rw [q.2.2.1]
          exact i_addk rfl (by have := q.2.2.2.2.2.1; omega) (by have := q.2.2.2.2.2.1; omega)
        have rg2 : (at₉ s).toInt / si.toInt = r := by
          rw [← q.2.2.2.1, ← hs]
          exact w.2
        rw [if_pos w, sg_1 3100 s h1 (fun j hj hne => if_neg (fun z => ?_)), if_pos ⟨h2, nn, rg2⟩, e2]
        exact hne (h.2.1 j s hj h1 z.1 h2 (Int32.toInt_inj.mp (by rw [z.2.1, nn])))
      · rw [if_neg w]
        refine sg_0 _ (fun s hk => if_neg (fun z => w ?_))
        have q := h.1 s hk z.1
        have tn : (nr s).toNatClampNeg = N := by
          have := tn_cast (x := nr s) (by omega)
          omega
        rw [tn] at q
        refine ⟨q.2.1, ?_⟩
        rw [q.2.2.2.1, hs]
        exact z.2.2
    rw [e, sg_ad, key]
theorem Ks_all (h : qR1 us nr ws at₉ ho a) (hI : qI a) (hs : a 87 3 = si) : zKs us ws at₉ si.toInt r 3100 = rKf a r 512 := by
  rw [← Ks_kf h hI (by rw [hs]) r 512 (by omega)]
  refine sg_cg _ (fun k hk => ?_)
  by_cases w : us k ≠ 0 ∧ (at₉ k).toInt / si.toInt = r
  · have q := (h.1 k hk w.1).1
    rw [if_pos w, if_pos ⟨w.1, by omega, w.2⟩]
  · rw [if_neg w, if_neg (fun z => w ⟨z.1, z.2.2⟩)]
theorem Ks_s : zKs us ws at₉ (si.toInt) r (n + 1) = zKs us ws at₉ si.toInt r n + (if us n ≠ 0 ∧ (at₉ n).toInt / si.toInt = r then (ws n).toInt + 1 else 0) := rfl
theorem Ks_bd (h : qR1 us nr ws at₉ ho a) (r : Int) : ∀ n, n ≤ 3100 → 0 ≤ zKs us ws at₉ si.toInt r n ∧ zKs us ws at₉ si.toInt r n ≤ 61 * (n : Int) := by
  intro n
  induction n with
  | zero => intro _; exact ⟨by show (0 : Int) ≤ 0; decide, by show (0 : Int) ≤ 61 * 0; decide⟩
  | succ n ih =>
    intro hn
    have q := ih (by omega)
    rw [Ks_s]
    split
    · next w =>
      have i := (h.1 n (by omega) w.1).2.2.2.2.2.1
      omega
    · omega
/-! rows 92, 93 are no matter of RB -/
theorem RB_c9 (h : qRB us nr kr kd ws at₉ ho wd wi ow rt wk wl wm nu ro fo le ra pi a) (e : ∀ c, c ≠ 92 → c ≠ 93 → b c = a c) : qRB us nr kr kd ws at₉ ho wd wi ow rt wk wl wm nu ro fo le ra pi b := by
  have rf : ∀ n i, aRef b n i = aRef a n i := fun n i => rf_cg (e _ (by omega) (by omega)) (e _ (by decide) (by decide)) (e _ (by decide) (by decide))
  obtain ⟨h1, h2, h3, h4, h5, h6, h7, h8⟩ := h
  refine ⟨?_, fun s hs hu i hi => ?_, ?_, ?_, ?_, ?_, h7, ?_⟩
  · unfold qR1 at h1 ⊢
    rw [e 126 (by decide) (by decide), e 128 (by decide) (by decide), e 130 (by decide) (by decide), e 133 (by decide) (by decide)]
    exact h1
  · rw [rf, e (1000 + (nr s).toNatClampNeg) (by omega) (by omega)]
    exact h2 s hs hu i hi
  · unfold qR3 at h3 ⊢
    rw [e 72 (by decide) (by decide)]
    exact h3
  · unfold qR3 at h4 ⊢
    rw [e 73 (by decide) (by decide)]
    exact h4
  · unfold qR5 at h5 ⊢
    rw [e 69 (by decide) (by decide), e 74 (by decide) (by decide)]
    exact h5
  · unfold qR6 at h6 ⊢
    rw [e 134 (by decide) (by decide)]
    exact h6
  · unfold qR8 at h8 ⊢
    rw [e 69 (by decide) (by decide), e 87 (by decide) (by decide)]
    exact h8
/-! the least EMPTY one, how many -/
theorem RL_b (h : qRL a si rg sh pr tp) (hv : qRv a) : (16 ≤ si.toInt ∧ si.toInt ≤ 256) ∧ (1 ≤ rg.toInt ∧ rg.toInt ≤ 93) ∧ (0 ≤ pr.toInt ∧ pr.toInt < rg.toInt) ∧ (0 ≤ sh.toInt ∧ sh.toInt ≤ 100) ∧ rg.toInt * si.toInt ≤ 1500 := by
  have q := hv.2.2.1
  rw [h.1, h.2.1, h.2.2.1, h.2.2.2.1] at q
  exact ⟨q.1, q.2.1, q.2.2.1, q.2.2.2.1, by omega⟩
theorem RL_t (h : qRL a si rg sh pr tp) (h0 : 0 ≤ x.toInt) (h1 : x.toInt < rg.toInt) : a 92 x.toNatClampNeg = tp x.toNatClampNeg := h.2.2.2.2 _ (by rw [tn_cast h0]; exact h1)
theorem LE_0 : qEq (rLf a (93 - (0 : Int32).toInt).toNat (0 : Int32).toNatClampNeg) (rLe a) := rfl
theorem LE_nx (h : qRL a si rg sh pr tp) (hv : qRv a) (hl : qEq (rLf a (93 - x.toInt).toNat x.toNatClampNeg) (rLe a)) (h0 : 0 ≤ x.toInt) (h1 : x.toInt < rg.toInt) (hn : (tp x.toNatClampNeg).toInt ≠ 0) (hx : x2.toInt = x.toInt + 1) : qEq (rLf a (93 - x2.toInt).toNat x2.toNatClampNeg) (rLe a) := by
  have b := RL_b h hv
  have tc := tn_cast h0
  have tc2 := tn_cast (x := x2) (by omega)
  have q := qE hl
  rw [show (93 - x.toInt).toNat = (93 - x2.toInt).toNat + 1 from by omega, Lf_n (by rw [h.2.1]; omega) (by rw [RL_t h h0 h1]; exact hn)] at q
  rw [show x2.toNatClampNeg = x.toNatClampNeg + 1 from by omega]
  exact q
theorem LE_yes (h : qRL a si rg sh pr tp) (hv : qRv a) (hl : qEq (rLf a (93 - x.toInt).toNat x.toNatClampNeg) (rLe a)) (h0 : 0 ≤ x.toInt) (h1 : x.toInt < rg.toInt) (hn : (tp x.toNatClampNeg).toInt = 0) : qEq x.toInt (rLe a) := by
  have b := RL_b h hv
  have tc := tn_cast h0
  have q := qE hl
  rw [show (93 - x.toInt).toNat = (92 - x.toInt).toNat + 1 from by omega, Lf_y (by rw [h.2.1]; omega) (by rw [RL_t h h0 h1]; exact hn)] at q
  show x.toInt = rLe a
  omega
theorem LE_none (h : qRL a si rg sh pr tp) (hl : qEq (rLf a (93 - x.toInt).toNat x.toNatClampNeg) (rLe a)) (h0 : 0 ≤ x.toInt) (h1 : ¬ x.toInt < rg.toInt) : qEq (-1 : Int32).toInt (rLe a) := by
  have tc := tn_cast h0
  have q := qE hl
  rw [Lf_e (by rw [h.2.1]; omega)] at q
  exact q
theorem EF_nx (h : qRL a si rg sh pr tp) (he : qEq y.toInt (rEf a x.toNatClampNeg)) (h0 : 0 ≤ x.toInt) (h1 : x.toInt < rg.toInt) (hx : x2.toInt = x.toInt + 1) (hn : ((tp x.toNatClampNeg).toInt = 0 ∧ y2.toInt = y.toInt + 1) ∨ ((tp x.toNatClampNeg).toInt ≠ 0 ∧ y2 = y)) : qEq y2.toInt (rEf a x2.toNatClampNeg) := by
  rcases hn with w | w
  · exact Ef_y (qE he) h0 (by rw [h.2.1]; exact h1) (by rw [RL_t h h0 h1]; exact w.1) w.2 hx
  · rw [w.2]
    exact Ef_n (qE he) h0 (by rw [RL_t h h0 h1]; exact w.1) hx
theorem EF_end (h : qRL a si rg sh pr tp) (hv : qRv a) (he : qEq y.toInt (rEf a x.toNatClampNeg)) (h0 : 0 ≤ x.toInt) (h1 : ¬ x.toInt < rg.toInt) (h9 : x.toInt ≤ rg.toInt) : qEq y.toInt (rEf a 93) := by
  have b := RL_b h hv
  exact Ef_e (qE he) h0 (Or.inl (by rw [h.2.1]; omega)) (by omega)
/-! the sparse one -/
theorem Fg_z {l : Nat → Int} : ∀ m n : Nat, n ≤ m → (∀ k, n ≤ k → k < m → l k = 0) → rFg l m = rFg l n := by
  intro m
  induction m with
  | zero => intro n h _; rw [show n = 0 by omega]
  | succ m ih =>
    intro n h hz
    by_cases w : n = m + 1
    · rw [w]
    · rw [Fg_s, if_neg (fun z => by have := hz m (by omega) (by omega); omega)]
      exact ih n (by omega) (fun k h1 h2 => hz k h1 (by omega))
def qFg (a : Nat → Nat → Int32) (x : Int) (n : Nat) : Prop := x = rFg (fun k => (a 93 k).toInt) n
theorem SP_b (h : qLR a rg sh si pr kw hl dn) (h0 : 0 ≤ x.toInt) (h1 : x.toInt < rg.toInt) : (0 ≤ (kw x.toNatClampNeg).toInt ∧ (kw x.toNatClampNeg).toInt ≤ 31232) ∧ (a 93 x.toNatClampNeg).toInt = rLw sh.toInt si.toInt pr.toInt kw hl dn x.toNatClampNeg := h _ (by rw [tn_cast h0]; exact h1)
theorem SP_no (h : qLR a rg sh si pr kw hl dn) (hf : qFg a y.toInt x.toNatClampNeg) (h0 : 0 ≤ x.toInt) (h1 : x.toInt < rg.toInt) (hx : x2.toInt = x.toInt + 1) (hn : dn x.toNatClampNeg ≠ 0 ∨ hl x.toNatClampNeg ≠ 0 ∨ x.toInt = pr.toInt ∨ (kw x.toNatClampNeg).toInt = 0 ∨ sh.toInt * si.toInt < (kw x.toNatClampNeg).toInt * 100) : qFg a y.toInt x2.toNatClampNeg := by
  have b := SP_b h h0 h1
  have tc := tn_cast h0
  have tc2 := tn_cast (x := x2) (by omega)
  have z : (a 93 x.toNatClampNeg).toInt = 0 := by
    rw [b.2]
    unfold rLw
    split
    · next w =>
      rcases hn with q | q | q | q | q
      · exact absurd w.1 q
      · exact absurd w.2.1 q
      · exact absurd (by omega) w.2.2.1
      · exact q
      · omega
    · rfl
  unfold qFg at hf ⊢
  rw [show x2.toNatClampNeg = x.toNatClampNeg + 1 from by omega, Fg_s, if_neg (fun w => by omega)]
  exact hf
theorem SP_ye (h : qLR a rg sh si pr kw hl dn) (hf : qFg a y.toInt x.toNatClampNeg) (h0 : 0 ≤ x.toInt) (h1 : x.toInt < rg.toInt) (hx : x2.toInt = x.toInt + 1) (h3 : dn x.toNatClampNeg = 0) (h4 : hl x.toNatClampNeg = 0) (h5 : x.toInt ≠ pr.toInt) (h6 : (kw x.toNatClampNeg).toInt ≠ 0) (h7 : ¬ sh.toInt * si.toInt < (kw x.toNatClampNeg).toInt * 100) (hy : ((y.toInt < 0 ∨ (0 ≤ y.toInt ∧ (kw x.toNatClampNeg).toInt < (kw y.toNatClampNeg).toInt)) ∧ y2 = x) ∨ (¬ y.toInt < 0 ∧ ¬ (kw x.toNatClampNeg).toInt < (kw y.toNatClampNeg).toInt ∧ y2 = y)) : qFg a y2.toInt x2.toNatClampNeg := by
  have b := SP_b h h0 h1
  have tc := tn_cast h0
  have tc2 := tn_cast (x := x2) (by omega)
  have z : (a 93 x.toNatClampNeg).toInt = (kw x.toNatClampNeg).toInt := by
    rw [b.2]
    exact if_pos ⟨h3, h4, by omega, by omega⟩
  have fb := Fg_b (l := fun k => (a 93 k).toInt) x.toNatClampNeg
  have yb : ¬ y.toInt < 0 → (a 93 y.toNatClampNeg).toInt = (kw y.toNatClampNeg).toInt := fun hy0 => by
    have tcy := tn_cast (x := y) (by omega)
    have q : y.toInt < x.toInt := by
      unfold qFg at hf
      omega
    have pos : 0 < (a 93 y.toNatClampNeg).toInt := by
      unfold qFg at hf
      have g := fb.2.2 (by omega)
      rw [← hf] at g
      exact g
    have bb := SP_b (x := y) h (by omega) (by omega)
    rw [bb.2] at pos ⊢
    unfold rLw at pos ⊢
    split
    · rfl
    · next w =>
      rw [if_neg w] at pos
      omega
  unfold qFg at hf ⊢
  rw [show x2.toNatClampNeg = x.toNatClampNeg + 1 from by omega, Fg_s]
  rcases hy with ⟨w, e2⟩ | ⟨w1, w2, e2⟩
  · have cnd : 0 < (a 93 x.toNatClampNeg).toInt ∧ (rFg (fun k => (a 93 k).toInt) x.toNatClampNeg = -1 ∨ (a 93 x.toNatClampNeg).toInt < (a 93 (rFg (fun k => (a 93 k).toInt) x.toNatClampNeg).toNat).toInt) := by
      refine ⟨by omega, ?_⟩
      rw [← hf]
      rcases w with q | q
      · exact Or.inl (by omega)
      · refine Or.inr ?_
        have g := yb (by omega)
        show (a 93 x.toNatClampNeg).toInt < (a 93 y.toNatClampNeg).toInt
        omega
    rw [if_pos cnd, e2]
    exact tc.symm
  · have cnd : ¬ (0 < (a 93 x.toNatClampNeg).toInt ∧ (rFg (fun k => (a 93 k).toInt) x.toNatClampNeg = -1 ∨ (a 93 x.toNatClampNeg).toInt < (a 93 (rFg (fun k => (a 93 k).toInt) x.toNatClampNeg).toNat).toInt)) := by
      rw [← hf]
      rintro ⟨_, q | q⟩
      · omega
      · have g := yb w1
        have q2 : (a 93 x.toNatClampNeg).toInt < (a 93 y.toNatClampNeg).toInt := q
        omega
    rw [if_neg cnd, e2]
    exact hf
theorem SP_end (hv : qRv a) (hl₉ : qLv a t) (h : qRL a si rg sh pr tp) (hf : qFg a y.toInt x.toNatClampNeg) (h0 : 0 ≤ x.toInt) (h1 : ¬ x.toInt < rg.toInt) (h9 : x.toInt ≤ rg.toInt) : qEq y.toInt (rFw a) := by
  have b := RL_b h hv
  have tc := tn_cast h0
  show y.toInt = rFw a
  unfold qFg at hf
  unfold rFw
  rw [hf]
  refine (Fg_z 93 _ (by omega) (fun k k1 k2 => ?_)).symm
  have l0 := hl₉.1 k k2
  by_cases w : 0 < (a 93 k).toInt
  · have g := (hl₉.2.1 k k2 w).1
    rw [h.2.1] at g
    omega
  · show (a 93 k).toInt = 0
    omega
end F16

/-! from 95.t01 -/
/-! REGIONS, the reference (written by wip/tools/gen15t.py) -/
/-! REGIONS: the reference's cleaning -/
def qK0 (kw hl dn : Nat → Int32) (n : Int) : Prop := ∀ r : Nat, (r : Int) < n → kw r = 0 ∧ hl r = 0 ∧ dn r = 0
def qKS (us ws ho at₉ kw hl dn : Nat → Int32) (si rg : Int) (n : Nat) : Prop := ∀ r : Nat, (r : Int) < rg → (kw r).toInt = zKs us ws at₉ si (r : Int) n ∧ (hl r ≠ 0 ↔ zHs us ho at₉ si (r : Int) n) ∧ dn r = 0
def qTZ (tp0 tp kw : Nat → Int32) (rg n : Int) : Prop := ∀ r : Nat, (r : Int) < rg → tp r = if (r : Int) < n ∧ (kw r).toInt = 0 then 0 else tp0 r
section F17
variable {a b c aa : Nat → Nat → Int32} {us nr kr kd ws at₉ at2 ho wd wi ow ow2 rt wk wl tp tp0 tp2 kw hl dn kw2 hl2 dn2 : Nat → Int32} {wm nu ro fo le ra pi si rg sh pr pr2 to s x x2 y y2 v z w l l2 u : Int32} {t t2 g q p e r : Int} {n m k f : Nat} {T : (Nat → Nat → Int32) × Int} {U : (Nat → Nat → Int32) × Int × Bool}
theorem K0_0 : qK0 kw hl dn (0 : Int32).toInt := fun r h => absurd h (by have : (0 : Int32).toInt = 0 := rfl; omega)
theorem K0_nx (h : qK0 kw hl dn x.toInt) (h0 : 0 ≤ x.toInt) (hx : x2.toInt = x.toInt + 1) (e1 : ∀ r, kw2 r = if r = x.toNatClampNeg then 0 else kw r) (e2 : ∀ r, hl2 r = if r = x.toNatClampNeg then 0 else hl r) (e3 : ∀ r, dn2 r = if r = x.toNatClampNeg then 0 else dn r) : qK0 kw2 hl2 dn2 x2.toInt := fun r hr => by
  have tc := tn_cast h0
  rw [e1, e2, e3]
  by_cases w : r = x.toNatClampNeg
  · rw [if_pos w, if_pos w, if_pos w]
    exact ⟨rfl, rfl, rfl⟩
  · rw [if_neg w, if_neg w, if_neg w]
    exact h r (by omega)
theorem KZ_0 (h : qK0 kw hl dn x.toInt) (h1 : ¬ x.toInt < rg.toInt) : qKS us ws ho at₉ kw hl dn si.toInt rg.toInt (0 : Int32).toNatClampNeg := fun r hr => by
  have q := h r (by omega)
  rw [q.1, q.2.1, q.2.2]
  refine ⟨rfl, ⟨fun w => absurd rfl w, fun w => ?_⟩, rfl⟩
  obtain ⟨s, hs, _⟩ := w
  exact absurd hs (Nat.not_lt_zero _)
theorem KS_n (h : qKS us ws ho at₉ kw hl dn si.toInt rg.toInt x.toNatClampNeg) (h0 : 0 ≤ x.toInt) (hu : us x.toNatClampNeg = 0) (hx : x2.toInt = x.toInt + 1) : qKS us ws ho at₉ kw hl dn si.toInt rg.toInt x2.toNatClampNeg := fun r hr => by
  have tc := tn_cast h0
  have tc2 := tn_cast (x := x2) (by omega)
  have q := h r hr
  rw [show x2.toNatClampNeg = x.toNatClampNeg + 1 from by omega, Ks_s, if_neg (fun z => z.1 hu), Int.add_zero]
  refine ⟨q.1, ⟨fun w => ?_, fun w => q.2.1.mpr ?_⟩, q.2.2⟩
  · obtain ⟨s, h1, h2⟩ := q.2.1.mp w
    exact ⟨s, by omega, h2⟩
  · obtain ⟨s, h1, h2⟩ := w
    refine ⟨s, ?_, h2⟩
    by_cases z : s = x.toNatClampNeg
    · rw [z] at h2
      exact absurd hu h2.1
    · omega
theorem KS_y (hR : qR1 us nr ws at₉ ho a) (h : qKS us ws ho at₉ kw hl dn si.toInt rg.toInt x.toNatClampNeg) (h0 : 0 ≤ x.toInt) (h3 : x.toInt < 3100) (hs : 16 ≤ si.toInt) (hu : us x.toNatClampNeg ≠ 0) (hx : x2.toInt = x.toInt + 1) (e1 : ∀ r, kw2 r = if r = (at₉ x.toNatClampNeg / si).toNatClampNeg then kw (at₉ x.toNatClampNeg / si).toNatClampNeg + (ws x.toNatClampNeg + 1) else kw r) (e2 : (0 < (ho x.toNatClampNeg).toInt ∧ ∀ r, hl2 r = if r = (at₉ x.toNatClampNeg / si).toNatClampNeg then 1 else hl r) ∨ (¬ 0 < (ho x.toNatClampNeg).toInt ∧ hl2 = hl)) : qKS us ws ho at₉ kw2 hl2 dn si.toInt rg.toInt x2.toNatClampNeg := fun r hr => by
  have tc := tn_cast h0
  have tc2 := tn_cast (x := x2) (by omega)
  have rq := hR.1 x.toNatClampNeg (by omega) hu
  have dv := i_div (x := at₉ x.toNatClampNeg) (y := si) rq.2.2.2.2.2.2 (by omega)
  have ix : ((at₉ x.toNatClampNeg / si).toNatClampNeg : Int) = (at₉ x.toNatClampNeg).toInt / si.toInt := by
    rw [tn_cast dv.1]
    exact dv.2.2.1
  have q := h r hr
  have bd := Ks_bd (si := si) (us := us) (nr := nr) (ws := ws) (at₉ := at₉) hR (r : Int) x.toNatClampNeg (by omega)
  have w1 : (ws x.toNatClampNeg + 1).toInt = (ws x.toNatClampNeg).toInt + 1 := i_addk rfl (by omega) (by omega)
  rw [show x2.toNatClampNeg = x.toNatClampNeg + 1 from by omega, Ks_s]
  have ip : r = (at₉ x.toNatClampNeg / si).toNatClampNeg ↔ (at₉ x.toNatClampNeg).toInt / si.toInt = (r : Int) := by omega
  refine ⟨?_, ?_, q.2.2⟩
  · rw [e1]
    by_cases w : r = (at₉ x.toNatClampNeg / si).toNatClampNeg
    · rw [if_pos w, if_pos ⟨hu, ip.mp w⟩, ← w]
      rw [i_add (by omega) (by omega), q.1, w1]
    · rw [if_neg w, if_neg (fun z => w (ip.mpr z.2)), Int.add_zero]
      exact q.1
  · have st : zHs us ho at₉ si.toInt (r : Int) (x.toNatClampNeg + 1) ↔ (zHs us ho at₉ si.toInt (r : Int) x.toNatClampNeg ∨ (0 < (ho x.toNatClampNeg).toInt ∧ (at₉ x.toNatClampNeg).toInt / si.toInt = (r : Int))) := by
      constructor
      · rintro ⟨s, h1, h2⟩
        by_cases z : s = x.toNatClampNeg
        · rw [z] at h2
          exact Or.inr h2.2
        · exact Or.inl ⟨s, by omega, h2⟩
      · rintro (⟨s, h1, h2⟩ | w)
        · exact ⟨s, by omega, h2⟩
        · exact ⟨x.toNatClampNeg, by omega, hu, w⟩
    rw [st]
    rcases e2 with ⟨hh, e2⟩ | ⟨hh, e2⟩
    · rw [e2]
      by_cases w : r = (at₉ x.toNatClampNeg / si).toNatClampNeg
      · rw [if_pos w]
        exact ⟨fun _ => Or.inr ⟨hh, ip.mp w⟩, fun _ => by decide⟩
      · rw [if_neg w]
        exact ⟨fun z => Or.inl (q.2.1.mp z), fun z => z.elim (fun z => q.2.1.mpr z) (fun z => absurd (ip.mpr z.2) w)⟩
    · rw [e2]
      exact ⟨fun z => Or.inl (q.2.1.mp z), fun z => z.elim (fun z => q.2.1.mpr z) (fun z => absurd z.1 hh)⟩
theorem TZ_0 : qTZ tp tp kw rg.toInt (0 : Int32).toInt := fun r _ => (if_neg (fun z => by have : (0 : Int32).toInt = 0 := rfl; omega)).symm
theorem TZ_1 (h : tp = tp0) : qTZ tp0 tp kw rg.toInt (0 : Int32).toInt := by
  rw [h]
  exact TZ_0
theorem TZ_y (h : qTZ tp0 tp kw rg.toInt x.toInt) (h0 : 0 ≤ x.toInt) (hx : x2.toInt = x.toInt + 1) (hk : (kw x.toNatClampNeg).toInt = 0) (e : ∀ r, tp2 r = if r = x.toNatClampNeg then 0 else tp r) : qTZ tp0 tp2 kw rg.toInt x2.toInt := fun r hr => by
  have tc := tn_cast h0
  rw [e]
  by_cases w : r = x.toNatClampNeg
  · rw [if_pos w, if_pos ⟨by omega, by rw [w]; exact hk⟩]
  · rw [if_neg w, h r hr]
    by_cases z : (r : Int) < x.toInt ∧ (kw r).toInt = 0
    · rw [if_pos z, if_pos ⟨by omega, z.2⟩]
    · rw [if_neg z, if_neg (fun y => z ⟨by omega, y.2⟩)]
theorem TZ_n (h : qTZ tp0 tp kw rg.toInt x.toInt) (h0 : 0 ≤ x.toInt) (hx : x2.toInt = x.toInt + 1) (hk : (kw x.toNatClampNeg).toInt ≠ 0) : qTZ tp0 tp kw rg.toInt x2.toInt := fun r hr => by
  have tc := tn_cast h0
  rw [h r hr]
  by_cases z : (r : Int) < x.toInt ∧ (kw r).toInt = 0
  · rw [if_pos z, if_pos ⟨by omega, z.2⟩]
  · rw [if_neg z, if_neg (fun y => z ⟨?_, y.2⟩)]
    by_cases w : r = x.toNatClampNeg
    · rw [w] at y
      exact absurd y.2 hk
    · omega
/-! what leaves, exactly -/
theorem Cb_none (hn : ∀ m, m < n → a 126 m ≠ 0 → 0 < (a 133 m).toInt → ((a 130 m).toInt / (a 87 3).toInt).toNat ≠ k) : rCb a n 93 k = a 93 k := by
  induction n with
  | zero => rfl
  | succ n ih =>
    have i := ih (fun m hm => hn m (by omega))
    by_cases w : a 126 n ≠ 0 ∧ 0 < (a 133 n).toInt
    · rw [Cb_y w, xu_o (fun z => hn n (by omega) w.1 w.2 z.2.symm)]
      exact i
    · rw [Cb_n w]
      exact i
theorem LR_b0 (hR : qR1 us nr ws at₉ ho (aSw aa)) (hv : qRv aa) (hL : qRL aa si rg sh pr tp0) (hK : qKS us ws ho at₉ kw hl dn si.toInt rg.toInt n) (hn : 3100 ≤ n) (hn2 : n ≤ 3100) : qLR (rB0 aa) rg sh si pr kw hl dn := fun r hr => by
  obtain ⟨hI, h2, h3, h4, h5⟩ := Rv_sw hv
  have b := RL_b hL hv
  have e3 : aSw aa 87 3 = si := sw_87.trans hL.1
  have e5 : aSw aa 87 5 = sh := sw_87.trans hL.2.2.1
  have e9 : aSw aa 87 9 = pr := sw_87.trans hL.2.2.2.1
  have q := hK r hr
  rw [show n = 3100 from by omega, Ks_all hR hI e3] at q
  have kb := Kf_b (r := (r : Int)) hI 512 (by omega)
  refine ⟨by omega, ?_⟩
  have r9 : r < 93 := by omega
  have t9 : rEm (rSk (aSw aa) 512) 93 93 r = Int32.ofInt (rKf (aSw aa) (r : Int) 512) := T0_93 r9
  have oo : ∀ c, c ≠ 92 → c ≠ 93 → rCa (rEm (rSk (aSw aa) 512) 93) 93 c = aSw aa c := fun c w w2 => funext (fun k => by rw [Ca_o w2, T0_o w w2])
  have hd : hl r ≠ 0 → rB0 aa 93 r = 0 := fun hh => by
    obtain ⟨s, h1, hu, hp, hd⟩ := q.2.1.mp hh
    have w := hR.1 s h1 hu
    have z := Cb_h (a := rCa (rEm (rSk (aSw aa) 512) 93) 93) 512 (nr s).toNatClampNeg (by have := tn_cast (x := nr s) w.1.1; omega) (by rw [oo 126 (by decide) (by decide)]; exact w.2.1) (by rw [oo 133 (by decide) (by decide), w.2.2.2.2.1]; exact hp)
    rw [oo 130 (by decide) (by decide), oo 87 (by decide) (by decide), w.2.2.2.1, e3, hd, Int.toNat_natCast] at z
    exact z
  have hn0 : ¬ hl r ≠ 0 → rB0 aa 93 r = rCa (rEm (rSk (aSw aa) 512) 93) 93 93 r := fun hh => by
    refine Cb_none (fun m hm h6 h33 w => hh (q.2.1.mpr ?_))
    rw [oo 126 (by decide) (by decide)] at h6
    rw [oo 133 (by decide) (by decide)] at h33
    rw [oo 130 (by decide) (by decide), oo 87 (by decide) (by decide)] at w
    obtain ⟨s, h1, hu, hs⟩ := hR.2.2 m hm h6
    have w2 := hR.1 s h1 hu
    have tm : (nr s).toNatClampNeg = m := by
      have i1 : (nr s).toInt = (m : Int) := by
        rw [hs]
        exact Int32.toInt_ofNat_of_lt (by omega)
      have := tn_cast (x := nr s) (by omega)
      omega
    rw [tm] at w2
    refine ⟨s, h1, hu, by rw [← w2.2.2.2.2.1]; exact h33, ?_⟩
    rw [e3, w2.2.2.2.1] at w
    have d0 : 0 ≤ (at₉ s).toInt / si.toInt := Int.ediv_nonneg w2.2.2.2.2.2.2 (by omega)
    omega
  unfold rLw
  by_cases hh : hl r ≠ 0
  · rw [hd hh, if_neg (fun z => hh z.2.1)]
    rfl
  · rw [hn0 hh]
    have hl0 : hl r = 0 := by
      by_cases z : hl r = 0
      · exact z
      · exact absurd z hh
    unfold rCa
    rw [t9, T0_o (by decide) (by decide), T0_o (by decide) (by decide), T0_o (by decide) (by decide), e3, e5, e9, Kf_i hI, ← q.1]
    by_cases w : dn r = 0 ∧ hl r = 0 ∧ (r : Int) ≠ pr.toInt ∧ (kw r).toInt * 100 ≤ sh.toInt * si.toInt
    · rw [if_pos w, if_neg (fun z => by rcases z.2.2 with y | y <;> omega), Int32.ofInt_toInt]
    · have z2 : (r : Int) = pr.toInt ∨ sh.toInt * si.toInt < (kw r).toInt * 100 := by
        by_cases y : (r : Int) = pr.toInt
        · exact Or.inl y
        · refine Or.inr ?_
          by_cases y2 : (kw r).toInt * 100 ≤ sh.toInt * si.toInt
          · exact absurd ⟨q.2.2, hl0, y, y2⟩ w
          · omega
      rw [if_neg w, if_pos ⟨rfl, r9, z2⟩]
      rfl
theorem RL_b0 (hR : qR1 us nr ws at₉ ho (aSw aa)) (hv : qRv aa) (hL : qRL aa si rg sh pr tp0) (hK : qKS us ws ho at₉ kw hl dn si.toInt rg.toInt n) (hn : 3100 ≤ n) (hn2 : n ≤ 3100) (hT : qTZ tp0 tp kw rg.toInt e) (he : ¬ e < rg.toInt) : qRL (rB0 aa) si rg sh pr tp := by
  obtain ⟨hI, h2, h3, h4, h5⟩ := Rv_sw hv
  have b := RL_b hL hv
  have e7 : rB0 aa 87 = aa 87 := (B0_o (by decide) (by decide)).trans (funext (fun _ => sw_87))
  have e3 : aSw aa 87 3 = si := sw_87.trans hL.1
  unfold qRL
  rw [e7]
  refine ⟨hL.1, hL.2.1, hL.2.2.1, hL.2.2.2.1, fun r hr => ?_⟩
  have q := (hK r hr).1
  rw [show n = 3100 from by omega, Ks_all hR hI e3] at q
  rw [B0_92 (by omega), Kf_i hI, ← q, hT r hr, sw_9 (by decide), hL.2.2.2.2 r hr]
  by_cases w : (kw r).toInt = 0
  · rw [if_pos w, if_pos ⟨by omega, w⟩]
  · rw [if_neg w, if_neg (fun z => w z.2)]
/-! fuel -/
theorem M1_93 : rM1 a n t 93 k = a 93 k := M1_r (by decide) (by decide) (by decide)
theorem Mf_93 : ∀ (f : Nat) (a : Nat → Nat → Int32) (p t : Int), (rMf e f a p t).1 93 k = a 93 k := by
  intro f
  induction f with
  | zero => intro a p t; rfl
  | succ f ih =>
    intro a p t
    by_cases c : p < e
    · by_cases d : (zOb a p).toInt < 0
      · rw [rMf_fr c d]
        exact ih _ _ _
      · by_cases w : rTo a t (a 128 (zOb a p).toNatClampNeg).toInt = -1
        · rw [rMf_no c (by omega) w]
        · rw [rMf_go c (by omega) w, ih, M1_93]
    · rw [rMf_e c]
theorem M2_93 : (rM2 a q t).1 93 k = a 93 k := Mf_93 _ _ _ _
theorem Cn_le : ∀ n, rCn a n ≤ n := by
  intro n
  induction n with
  | zero => exact Nat.le_refl _
  | succ n ih =>
    show rCn a n + (if 0 < (a 93 n).toInt then 1 else 0) ≤ n + 1
    split <;> omega
theorem Cn_lt (hk : k < n) (h0 : (a 93 k).toInt ≤ 0) : rCn a n + 1 ≤ n := by
  induction n with
  | zero => omega
  | succ n ih =>
    show rCn a n + (if 0 < (a 93 n).toInt then 1 else 0) + 1 ≤ n + 1
    by_cases w : k = n
    · rw [← w, if_neg (by omega)]
      have := Cn_le (a := a) k
      omega
    · have := ih (by omega)
      split <;> omega
theorem Cn_0 : ∀ n, rCn a n = 0 → rFg (fun k => (a 93 k).toInt) n = -1 := by
  intro n
  induction n with
  | zero => intro _; rfl
  | succ n ih =>
    intro h
    have h2 : rCn a n + (if 0 < (a 93 n).toInt then 1 else 0) = 0 := h
    by_cases w : 0 < (a 93 n).toInt
    · rw [if_pos w] at h2
      omega
    · rw [Fg_s, if_neg (fun z => w z.1)]
      exact ih (by omega)
theorem Cn_st : ∀ n, (∀ j, j ≠ k → b 93 j = a 93 j) → (b 93 k).toInt = 0 → 0 < (a 93 k).toInt → rCn b n + (if k < n then 1 else 0) = rCn a n := by
  intro n h1 h2 h3
  induction n with
  | zero => rfl
  | succ n ih =>
    show rCn b n + (if 0 < (b 93 n).toInt then 1 else 0) + (if k < n + 1 then 1 else 0) = rCn a n + (if 0 < (a 93 n).toInt then 1 else 0)
    by_cases w : n = k
    · rw [w] at ih ⊢
      rw [if_neg (by omega)] at ih
      rw [if_neg (by omega), if_pos (by omega), if_pos h3]
      omega
    · rw [h1 n w]
      by_cases z : k < n
      · rw [if_pos z] at ih
        rw [if_pos (by omega : k < n + 1)]
        omega
      · rw [if_neg z] at ih
        rw [if_neg (by omega : ¬ k < n + 1)]
        omega
theorem Of_fu : ∀ (f : Nat) (a : Nat → Nat → Int32) (t : Int), rCn a 93 ≤ f → rOf f a t = rOf (f + 1) a t := by
  intro f
  induction f with
  | zero =>
    intro a t h
    have z : rFw a = -1 := Cn_0 93 (by omega)
    rw [Of_e z, Of_e z]
  | succ f ih =>
    intro a t h
    by_cases z : rFw a = -1
    · rw [Of_e z, Of_e z]
    · have fy := Fw_y z
      cases ok : (rM2 a (rFw a) t).2.2 with
      | false => rw [Of_n rfl z ok, Of_n rfl z ok]
      | true =>
        rw [Of_y rfl z ok, Of_y (f := f + 1) rfl z ok]
        refine ih _ _ ?_
        have c := Cn_st (a := a) (b := ma_u (ma_u (rM2 a (rFw a) t).1 93 (rFw a).toNat 0) 92 (rFw a).toNat 0) (k := (rFw a).toNat) 93 (fun j hj => by rw [xu_o (by omega), xu_o (fun w => hj w.2), M2_93]) (by rw [xu_o (by omega), xu_s]; rfl) fy.2.2
        rw [if_pos (by omega)] at c
        omega
theorem Of_93 (h0 : 0 ≤ q) (h9 : q < 93) (h : (a 93 q.toNat).toInt = 0) : rOf 92 a t = rOf 93 a t := Of_fu 92 a t (by have := Cn_lt (a := a) (k := q.toNat) (n := 93) (by omega) (by omega); omega)
end F17

/-! from 95.t02 -/
/-! REGIONS, the reference (written by wip/tools/gen15t.py) -/
/-! REGIONS: the reference's cleaning, region by region -/
def qZO (us nr kr kd ws at₉ ho wd wi ow rt wk wl : Nat → Int32) (wm nu ro si rg sh pr : Int32) (tp kw hl dn : Nat → Int32) (t g q : Int) (T : (Nat → Nat → Int32) × Int) : Prop := ∃ c, qRB us nr kr kd ws at₉ ho wd wi ow rt wk wl wm nu ro 0 0 0 1 c ∧ qRv c ∧ qLv c t ∧ qRL c si rg sh pr tp ∧ qLR c rg sh si pr kw hl dn ∧ (g = 1 → rOf 93 c t = T ∧ q = rFw c) ∧ (g = 0 → (∀ x, x ≠ 93 → T.1 x = c x) ∧ T.2 = t)
def qZI (us nr kr kd ws at₉ ho wd wi ow rt wk wl : Nat → Int32) (wm nu ro si rg sh pr : Int32) (tp kw hl dn : Nat → Int32) (t g q p e : Int) (T : (Nat → Nat → Int32) × Int) : Prop := ∃ c, qRB us nr kr kd ws at₉ ho wd wi ow rt wk wl wm nu ro 0 0 0 1 c ∧ qRv c ∧ qLv c t ∧ qRL c si rg sh pr tp ∧ qLq c rg sh si pr kw hl dn q ∧ (0 ≤ q ∧ q < rg.toInt ∧ dn q.toNat ≠ 0) ∧ (g = 1 → qJr c q p t ∧ qUT (rMv c e p t) q T ∧ e = q * si.toInt + (tp q.toNat).toInt) ∧ (g = 0 → (c, t) = T)
section F18
variable {a b c aa : Nat → Nat → Int32} {us nr kr kd ws at₉ at2 ho wd wi ow ow2 rt wk wl tp tp0 tp2 kw hl dn dn2 : Nat → Int32} {wm nu ro fo le ra pi si rg sh pr pr2 to s x x2 y v u : Int32} {t g q p e : Int} {n m k f : Nat} {kz : Int} {T : (Nat → Nat → Int32) × Int}
theorem i_ez (h : x = 0) : x.toInt = 0 := by
  rw [h]
  rfl
theorem i_en (h : x ≠ 0) : x.toInt ≠ 0 := fun w => h (i_zer w)
theorem qE2 {i j : Int} (h : qEq i j) : qEq i j := h
theorem RL_sw (h : qRL a si rg sh pr tp) : qRL (aSw a) si rg sh pr tp := by
  unfold qRL at h ⊢
  rw [show aSw a 87 = a 87 from funext (fun _ => sw_87), show aSw a 92 = a 92 from funext (fun _ => sw_9 (by decide))]
  exact h
theorem RG_of (hR : qRB us nr kr kd ws at₉ ho wd wi ow rt wk wl wm nu ro 0 0 0 1 a) (hv : qRv a) (hL : qRL a si rg sh pr tp) : zRG1 si rg pr us at₉ ws tp := by
  have b := RL_b hL hv
  refine ⟨b.1.1, b.2.1.1, b.2.2.2.2, b.2.2.1, fun r hr => ?_, fun s hs hu => ?_⟩
  · rw [← hL.2.2.2.2 r hr, ← hL.1]
    exact (hv.2.2.2.1 r (by omega)).1.2
  · have q := hR.1.1 s hs hu
    have al : xAl a (nr s).toNatClampNeg := ⟨by have := tn_cast (x := nr s) q.1.1; omega, q.2.1⟩
    have z := hv.2.2.2.2 _ al
    have w1 : (a 128 (nr s).toNatClampNeg).toInt = (ws s).toInt + 1 := by
      rw [q.2.2.1]
      exact i_addk rfl (by have := q.2.2.2.2.2.1; omega) (by have := q.2.2.2.2.2.1; omega)
    have p0 : 0 ≤ (at₉ s).toInt := q.2.2.2.2.2.2
    rw [q.2.2.2.1, hL.1, hL.2.1, w1] at z
    have d0 : 0 ≤ (at₉ s).toInt / si.toInt := Int.ediv_nonneg p0 (by omega)
    have t := (hv.2.2.2.1 ((at₉ s).toInt / si.toInt).toNat (by omega)).1
    rw [hL.1] at t
    have db := dv_b (p := (at₉ s).toInt) (s := si.toInt) (by omega)
    have ml := ml_le (s := si.toInt) z.1 (by omega)
    have w0 := q.2.2.2.2.2.1
    exact ⟨by omega, by omega⟩
theorem ZO_0 (hR : qRB us nr kr kd ws at₉ ho wd wi ow rt wk wl wm nu ro 0 0 0 1 (aSw aa)) (hv : qRv aa) (hL : qRL aa si rg sh pr tp0) (hK : qKS us ws ho at₉ kw hl dn si.toInt rg.toInt n) (hn : 3100 ≤ n) (hn2 : n ≤ 3100) (hT : qTZ tp0 tp kw rg.toInt e) (he : ¬ e < rg.toInt) (hq : qEq v.toInt (rFw (rB0 aa))) : qZO us nr kr kd ws at₉ ho wd wi ow rt wk wl wm nu ro si rg sh pr tp kw hl dn (-1 : Int32).toInt (1 : Int32).toInt v.toInt (rC0 aa) :=
  ⟨rB0 aa, RB_c9 hR (fun c h2 h3 => B0_o h2 h3), (Rv_b0 hv).1, (Rv_b0 hv).2, RL_b0 hR.1 hv hL hK hn hn2 hT he, LR_b0 hR.1 hv hL hK hn hn2, fun _ => ⟨rfl, qE hq⟩, fun z => absurd z (by decide)⟩
theorem ZI_0 (hR : qRB us nr kr kd ws at₉ ho wd wi ow rt wk wl wm nu ro 0 0 0 1 c) (hv : qRv c) (hL : qLv c t) (hRL : qRL c si rg sh pr tp) (hLR : qLR c rg sh si pr kw hl dn) (h1 : rOf 93 c t = T ∧ q = rFw c) (h0 : 0 ≤ q) (hd : ∀ r, dn2 r = if r = q.toNat then 1 else dn r) (hp : p = q * si.toInt) (htq : tp q.toNat = x) (he : e = p + x.toInt) (hg : g = 1) : qZI us nr kr kd ws at₉ ho wd wi ow rt wk wl wm nu ro si rg sh pr tp kw hl dn2 t g q p e T := by
  rw [← htq] at he
  obtain ⟨hT, hq⟩ := h1
  have fy := Fw_y (a := c) (by omega)
  rw [← hq] at fy
  have qr := (hL.2.1 q.toNat (by omega) fy.2.2).1
  rw [hRL.2.1] at qr
  have q2 : q < rg.toInt := by omega
  have J := Lv_J hv hL h0 (by omega) fy.2.2
  have tq := hRL.2.2.2.2 q.toNat (by omega)
  refine ⟨c, hR, hv, hL, hRL, fun r hr => ⟨(hLR r hr).1, fun hne => ?_⟩, ⟨h0, q2, by rw [hd, if_pos rfl]; decide⟩, fun _ => ⟨?_, ?_, by omega⟩, fun z => by omega⟩
  · rw [(hLR r hr).2]
    have dd : dn2 r = dn r := by rw [hd, if_neg (by omega)]
    unfold rLw
    rw [dd]
  · rw [hp, ← hRL.1]
    exact J
  · rw [M2_e (q := q) (a := c) (by rw [hRL.1, tq]; omega) (by rw [hRL.1]; exact hp)]
    exact ⟨fun ok => (Of_y (f := 92) hq.symm (by omega) ok).symm.trans hT, fun no => (Of_n (f := 92) hq.symm (by omega) no).symm.trans hT⟩
theorem ZI_fr (hR : qRB us nr kr kd ws at₉ ho wd wi ow rt wk wl wm nu ro 0 0 0 1 c) (hv : qRv c) (hL : qLv c t) (hRL : qRL c si rg sh pr tp) (hLq : qLq c rg sh si pr kw hl dn q) (hq : 0 ≤ q ∧ q < rg.toInt ∧ dn q.toNat ≠ 0) (h1 : qJr c q x.toInt t ∧ qUT (rMv c e x.toInt t) q T ∧ e = q * si.toInt + (tp q.toNat).toInt) (h0 : 0 ≤ x.toInt) (hl₉ : x.toInt < e) (h5 : e ≤ 4500) (hn : (ow x.toNatClampNeg).toInt < 0) (hx : x2.toInt = x.toInt + 1) (hg : g = 1) : qZI us nr kr kd ws at₉ ho wd wi ow rt wk wl wm nu ro si rg sh pr tp kw hl dn t g q x2.toInt e T := by
  obtain ⟨J, U, E⟩ := h1
  have o := OB_n hv.1 hR.1 hR.2.2.2.2.2.2.1 J.2.2.2.1 h0 (by omega) hn
  have tq := hRL.2.2.2.2 q.toNat (by omega)
  rw [hx]
  exact ⟨c, hR, hv, hL, hRL, hLq, hq, fun _ => ⟨Jr_fr J (by rw [hRL.1, tq]; omega) o, by rw [← Mv_fr (S1_I hv.1) hl₉ o]; exact U, E⟩, fun z => by omega⟩
/-- where it goes -/
theorem TO_y (hv : qRv c) (hRL : qRL c si rg sh pr tp) (h0 : 0 ≤ u.toInt) (h1 : u.toInt < rg.toInt) (hf : (tp u.toNatClampNeg).toInt + kz ≤ si.toInt) : rTo c u.toInt kz = u.toInt := by
  have b := RL_b hRL hv
  have tc := tn_cast h0
  have e : c 92 u.toInt.toNat = tp u.toNatClampNeg := by
    rw [show u.toInt.toNat = u.toNatClampNeg from by omega]
    exact RL_t hRL h0 h1
  exact To_t ⟨h0, by omega, by rw [e, hRL.1]; exact hf⟩
theorem TO_l (hv : qRv c) (hRL : qRL c si rg sh pr tp) (h1 : u.toInt < rg.toInt) (hf : u.toInt < 0 ∨ si.toInt < (tp u.toNatClampNeg).toInt + kz) (hw : qEq v.toInt (rLe c)) : rTo c u.toInt kz = v.toInt := by
  rw [qE hw]
  refine To_l (fun z => ?_)
  have tc := tn_cast z.1
  have e : c 92 u.toInt.toNat = tp u.toNatClampNeg := by
    rw [show u.toInt.toNat = u.toNatClampNeg from by omega]
    exact RL_t hRL z.1 h1
  rw [e, hRL.1] at z
  omega
theorem ZI_no (hR : qRB us nr kr kd ws at₉ ho wd wi ow rt wk wl wm nu ro 0 0 0 1 c) (hv : qRv c) (hL : qLv c t) (hRL : qRL c si rg sh pr tp) (hLq : qLq c rg sh si pr kw hl dn q) (hq : 0 ≤ q ∧ q < rg.toInt ∧ dn q.toNat ≠ 0) (h1 : qJr c q x.toInt t ∧ qUT (rMv c e x.toInt t) q T ∧ e = q * si.toInt + (tp q.toNat).toInt) (hO : zOw us at₉ ow) (h0 : 0 ≤ x.toInt) (hl₉ : x.toInt < e) (h5 : e ≤ 4500) (hs : s = ow x.toNatClampNeg) (hs0 : 0 ≤ s.toInt) (hs3 : s.toInt ≤ 3099) (hm1 : rTo c t ((ws s.toNatClampNeg).toInt + 1) = -1) : qZI us nr kr kd ws at₉ ho wd wi ow rt wk wl wm nu ro si rg sh pr tp kw hl dn t (0 : Int32).toInt q p e T := by
  obtain ⟨J, U, E⟩ := h1
  have o := Sl_ob hR hv.1 hO h0 (by omega) hs hs0 hs3
  have z := Mv_no (a := c) (e := e) (t := t) hl₉ o.2.2.1 (by rw [o.1, o.2.1]; exact hm1)
  rw [z] at U
  exact ⟨c, hR, hv, hL, hRL, hLq, hq, fun w => absurd w (by decide), fun _ => U.2 rfl⟩
theorem ZI_mv (hR : qRB us nr kr kd ws at₉ ho wd wi ow rt wk wl wm nu ro 0 0 0 1 c) (hv : qRv c) (hL : qLv c t) (hRL : qRL c si rg sh pr tp) (hLq : qLq c rg sh si pr kw hl dn q) (hq : 0 ≤ q ∧ q < rg.toInt ∧ dn q.toNat ≠ 0) (h1 : qJr c q x.toInt t ∧ qUT (rMv c e x.toInt t) q T ∧ e = q * si.toInt + (tp q.toNat).toInt) (hO : zOw us at₉ ow) (h0 : 0 ≤ x.toInt) (hl₉ : x.toInt < e) (h5 : e ≤ 4500) (hs : s = ow x.toNatClampNeg) (hs0 : 0 ≤ s.toInt) (hs3 : s.toInt ≤ 3099) (hn : rTo c t ((ws s.toNatClampNeg).toInt + 1) = u.toInt) (hu0 : 0 ≤ u.toInt) (hm : zmov s to at₉ ow at2 ow2) (hto : to.toInt = u.toInt * si.toInt + (tp u.toNatClampNeg).toInt) (htp : ∀ r, tp2 r = if r = u.toNatClampNeg then tp u.toNatClampNeg + (ws s.toNatClampNeg + 1) else tp r) (hx : x2.toInt = x.toInt + ((ws s.toNatClampNeg).toInt + 1)) (hg : g = 1) : qZI us nr kr kd ws at2 ho wd wi ow2 rt wk wl wm nu ro si rg sh pr tp2 kw hl dn u.toInt g q x2.toInt e T := by
  obtain ⟨J, U, E⟩ := h1
  have o := Sl_ob hR hv.1 hO h0 (by omega) hs hs0 hs3
  have tq := hRL.2.2.2.2 q.toNat (by omega)
  have hp : x.toInt < q * (c 87 3).toInt + (c 92 q.toNat).toInt := by
    rw [hRL.1, tq]
    omega
  have hn1 : rTo c t (c 128 (zOb c x.toInt).toNatClampNeg).toInt ≠ -1 := by
    rw [o.1, o.2.1, hn]
    omega
  have jt := Jr_to J hp o.2.2.1 hn1
  have jg := Jr_go J hp o.2.2.1 hn1
  have lg := Lv_go J hL hp o.2.2.1 hn1
  have un : u.toInt.toNat = u.toNatClampNeg := by
    have := tn_cast hu0
    omega
  have ut : c 92 u.toNatClampNeg = tp u.toNatClampNeg := by
    refine RL_t hRL hu0 ?_
    have z := jt.2.2.2.2.1.2.1
    rw [o.1, o.2.1, hn, hRL.2.1] at z
    exact z
  have fq := Jr_fq (to := to) J hp o.2.2.1 hn1 (by rw [o.1, o.2.1, hn, hRL.1, un, ut]; exact hto)
  have mg := Mv_go (S1_I hv.1) hl₉ o.2.2.1 hn1
  rw [o.1, o.2.1, hn] at jg lg jt mg
  rw [o.1] at fq
  have te : Int32.ofInt (u.toInt * (c 87 3).toInt + (c 92 u.toInt.toNat).toInt) = to := by
    rw [hRL.1, un, ut, ← hto, Int32.ofInt_toInt]
  have h8 : c 128 (nr s.toNatClampNeg).toNatClampNeg = ws s.toNatClampNeg + 1 := (hR.1.1 _ (tn_lt hs0 (by omega)) o.2.2.2.1).2.2.1
  have RBm := RB_mv2 hR hv.1 (tn_lt hs0 (by omega)) hs0 o.2.2.2.1 fq.2.2.1 fq.2.2.2 fq.1 hm
  have r7 : ∀ k, rM1 c (nr s.toNatClampNeg).toNatClampNeg u.toInt 87 k = c 87 k := fun k => M1_r (by decide) (by decide) (by decide)
  have r9 : ∀ k, rM1 c (nr s.toNatClampNeg).toNatClampNeg u.toInt 92 k = if k = u.toNatClampNeg then tp u.toNatClampNeg + (ws s.toNatClampNeg + 1) else c 92 k := fun k => by
    unfold rM1
    rw [un, ut, h8]
    show (if (92 : Nat) = 92 ∧ k = u.toNatClampNeg then _ else aMo _ _ _ 92 k) = _
    by_cases w : k = u.toNatClampNeg
    · rw [if_pos ⟨rfl, w⟩, if_pos w]
    · rw [if_neg (fun z => w z.2), if_neg w, Mo_r (by decide) (by decide)]
  rw [hx]
  refine ⟨rM1 c (nr s.toNatClampNeg).toNatClampNeg u.toInt, RB_c9 RBm (fun c₉ h2 _ => ?_), jg.1, lg, ⟨?_, ?_, ?_, ?_, fun r hr => ?_⟩, fun r hr => ⟨(hLq r hr).1, fun hne => ?_⟩, hq, fun _ => ⟨jg, by rw [← mg]; exact U, ?_⟩, fun z => by omega⟩
  · unfold rM1
    rw [te]
    exact ma_u_ne _ _ _ h2
  · rw [r7]
    exact hRL.1
  · rw [r7]
    exact hRL.2.1
  · rw [r7]
    exact hRL.2.2.1
  · rw [r7]
    exact hRL.2.2.2.1
  · rw [r9, htp]
    split
    · rfl
    · exact hRL.2.2.2.2 r hr
  · rw [M1_93]
    exact (hLq r hr).2 hne
  · rw [htp, if_neg (fun z => jt.2.2.2.2.1.2.2 (by have := tn_cast hu0; omega))]
    exact E
/-- all of it is gone -/
theorem ZI_o1 (hR : qRB us nr kr kd ws at₉ ho wd wi ow rt wk wl wm nu ro 0 0 0 1 c) (hv : qRv c) (hL : qLv c t) (hRL : qRL c si rg sh pr tp) (hLq : qLq c rg sh si pr kw hl dn q) (hq : 0 ≤ q ∧ q < rg.toInt ∧ dn q.toNat ≠ 0) (h1 : qJr c q p t ∧ qUT (rMv c e p t) q T ∧ e = q * si.toInt + (tp q.toNat).toInt) (hp : ¬ p < e) (htp : ∀ r, tp2 r = if r = q.toNat then 0 else tp r) : qRB us nr kr kd ws at₉ ho wd wi ow rt wk wl wm nu ro 0 0 0 1 (ma_u (ma_u c 93 q.toNat 0) 92 q.toNat 0) ∧ qRv (ma_u (ma_u c 93 q.toNat 0) 92 q.toNat 0) ∧ qLv (ma_u (ma_u c 93 q.toNat 0) 92 q.toNat 0) t ∧ qRL (ma_u (ma_u c 93 q.toNat 0) 92 q.toNat 0) si rg sh pr tp2 ∧ qLR (ma_u (ma_u c 93 q.toNat 0) 92 q.toNat 0) rg sh si pr kw hl dn ∧ rOf 93 (ma_u (ma_u c 93 q.toNat 0) 92 q.toNat 0) t = T := by
  obtain ⟨J, U, E⟩ := h1
  have b := RL_b hRL hv
  have tq := hRL.2.2.2.2 q.toNat (by omega)
  have r93 : ∀ k, ma_u (ma_u c 93 q.toNat 0) 92 q.toNat 0 93 k = if k = q.toNat then 0 else c 93 k := fun k => by
    rw [xu_o (by omega)]
    show (if (93 : Nat) = 93 ∧ k = q.toNat then 0 else c 93 k) = _
    by_cases w : k = q.toNat
    · rw [if_pos ⟨rfl, w⟩, if_pos w]
    · rw [if_neg (fun z => w z.2), if_neg w]
  have r7 : ∀ k, ma_u (ma_u c 93 q.toNat 0) 92 q.toNat 0 87 k = c 87 k := fun k => by rw [xu_o (by omega), xu_o (by omega)]
  refine ⟨RB_c9 hR (fun c₉ h2 h3 => by rw [ma_u_ne _ _ _ h2, ma_u_ne _ _ _ h3]), Jr_en2 J (by rw [hRL.1, tq]; omega), Lv_end hL hq.1, ⟨?_, ?_, ?_, ?_, fun r hr => ?_⟩, fun r hr => ⟨(hLq r hr).1, ?_⟩, ?_⟩
  · rw [r7]
    exact hRL.1
  · rw [r7]
    exact hRL.2.1
  · rw [r7]
    exact hRL.2.2.1
  · rw [r7]
    exact hRL.2.2.2.1
  · rw [htp]
    show (if (92 : Nat) = 92 ∧ r = q.toNat then 0 else ma_u c 93 q.toNat 0 92 r) = _
    by_cases w : r = q.toNat
    · rw [if_pos ⟨rfl, w⟩, if_pos w]
    · rw [if_neg (fun z => w z.2), if_neg w, xu_o (by omega)]
      exact hRL.2.2.2.2 r hr
  · rw [r93]
    by_cases w : r = q.toNat
    · rw [if_pos w, w]
      unfold rLw
      rw [if_neg (fun z => hq.2.2 z.1)]
      rfl
    · rw [if_neg w]
      exact (hLq r hr).2 (by omega)
  · rw [Mv_e hp] at U
    rw [← Of_93 (q := q) hq.1 (by omega) (by rw [r93, if_pos rfl]; rfl)]
    exact U.1 rfl
/-- not all found a place -/
theorem ZI_o0 (hR : qRB us nr kr kd ws at₉ ho wd wi ow rt wk wl wm nu ro 0 0 0 1 c) (hv : qRv c) (hL : qLv c t) (hRL : qRL c si rg sh pr tp) (hLq : qLq c rg sh si pr kw hl dn q) (hq : 0 ≤ q ∧ q < rg.toInt ∧ dn q.toNat ≠ 0) (h0 : (c, t) = T) : qRB us nr kr kd ws at₉ ho wd wi ow rt wk wl wm nu ro 0 0 0 1 (ma_u c 93 q.toNat 0) ∧ qRv (ma_u c 93 q.toNat 0) ∧ qLv (ma_u c 93 q.toNat 0) t ∧ qRL (ma_u c 93 q.toNat 0) si rg sh pr tp ∧ qLR (ma_u c 93 q.toNat 0) rg sh si pr kw hl dn ∧ ((∀ x, x ≠ 93 → T.1 x = ma_u c 93 q.toNat 0 x) ∧ T.2 = t) := by
  have r : ∀ x, x ≠ 93 → ma_u c 93 q.toNat 0 x = c x := fun x hx => ma_u_ne _ _ _ hx
  have r93 : ∀ k, ma_u c 93 q.toNat 0 93 k = if k = q.toNat then 0 else c 93 k := fun k => by
    show (if (93 : Nat) = 93 ∧ k = q.toNat then 0 else c 93 k) = _
    by_cases w : k = q.toNat
    · rw [if_pos ⟨rfl, w⟩, if_pos w]
    · rw [if_neg (fun z => w z.2), if_neg w]
  have z0 : (0 : Int32).toInt = 0 := rfl
  refine ⟨RB_c9 hR (fun x _ h3 => r x h3), ?_, ⟨fun k hk => ?_, fun k hk w => ?_, fun n hn w => ?_, ?_⟩, ?_, fun k hk => ⟨(hLq k hk).1, ?_⟩, ?_⟩
  · obtain ⟨z1, z2, z3, z4, z5⟩ := hv
    unfold qRv xAl at *
    rw [r 87 (by decide), r 92 (by decide), r 126 (by decide), r 130 (by decide), r 128 (by decide)]
    exact ⟨I_cg z1 (r _ (by decide)) (r _ (by decide)) (r _ (by decide)) (r _ (by decide)) (r _ (by decide)) (r _ (by decide)) (fun j => r _ (by omega)), z2, z3, z4, z5⟩
  · rw [r93]
    split
    · omega
    · exact hL.1 k hk
  · rw [r93] at w
    rw [r 87 (by decide), r 92 (by decide)]
    by_cases z : k = q.toNat
    · rw [if_pos z] at w
      omega
    · rw [if_neg z] at w
      exact hL.2.1 k hk w
  · unfold xAl at hn
    rw [r 126 (by decide)] at hn
    rw [r 133 (by decide)] at w
    rw [r93, r 130 (by decide), r 87 (by decide)]
    split
    · exact z0
    · exact hL.2.2.1 n hn w
  · rcases hL.2.2.2 with w | w
    · exact Or.inl w
    · refine Or.inr ⟨w.1, by rw [r 87 (by decide)]; exact w.2.1, ?_⟩
      rw [r93]
      split
      · exact z0
      · exact w.2.2
  · unfold qRL at hRL ⊢
    rw [r 87 (by decide), r 92 (by decide)]
    exact hRL
  · rw [r93]
    by_cases w : k = q.toNat
    · rw [if_pos w, w]
      unfold rLw
      rw [if_neg (fun z => hq.2.2 z.1)]
      rfl
    · rw [if_neg w]
      exact (hLq k hk).2 (by omega)
  · rw [← h0]
    exact ⟨fun x hx => (r x hx).symm, rfl⟩
theorem ZO_1 (h : qRB us nr kr kd ws at₉ ho wd wi ow rt wk wl wm nu ro 0 0 0 1 c ∧ qRv c ∧ qLv c t ∧ qRL c si rg sh pr tp ∧ qLR c rg sh si pr kw hl dn ∧ rOf 93 c t = T) (hq : qEq v.toInt (rFw c)) (hg : g = 1) : qZO us nr kr kd ws at₉ ho wd wi ow rt wk wl wm nu ro si rg sh pr tp kw hl dn t g v.toInt T := ⟨c, h.1, h.2.1, h.2.2.1, h.2.2.2.1, h.2.2.2.2.1, fun _ => ⟨h.2.2.2.2.2, qE hq⟩, fun z => by omega⟩
theorem ZO_2 (h : qRB us nr kr kd ws at₉ ho wd wi ow rt wk wl wm nu ro 0 0 0 1 c ∧ qRv c ∧ qLv c t ∧ qRL c si rg sh pr tp ∧ qLR c rg sh si pr kw hl dn ∧ ((∀ x, x ≠ 93 → T.1 x = c x) ∧ T.2 = t)) (hg : g = 0) : qZO us nr kr kd ws at₉ ho wd wi ow rt wk wl wm nu ro si rg sh pr tp kw hl dn t g q T := ⟨c, h.1, h.2.1, h.2.2.1, h.2.2.2.1, h.2.2.2.2.1, fun z => by omega, fun _ => h.2.2.2.2.2⟩
theorem ZO_E (h1 : g = 1 → rOf 93 c t = T ∧ q = rFw c) (h0 : g = 0 → (∀ x, x ≠ 93 → T.1 x = c x) ∧ T.2 = t) (hg : g = 0 ∨ g = 1) (hq : q < 0 ∨ g = 0) : (∀ x, x ≠ 93 → T.1 x = c x) ∧ T.2 = t := by
  rcases hg with w | w
  · exact h0 w
  · have z := h1 w
    have b := Fg_b (l := fun k => (c 93 k).toInt) 93
    have m1 : rFw c = -1 := by
      have e : rFw c = rFg (fun k => (c 93 k).toInt) 93 := rfl
      omega
    rw [Of_e m1] at z
    rw [← z.1]
    exact ⟨fun _ _ => rfl, rfl⟩
/-! the present one -/
theorem Lf_cg (h4 : a 87 = b 87) (h9 : a 92 = b 92) : ∀ f r, rLf a f r = rLf b f r := by
  intro f
  induction f with
  | zero => intro r; rfl
  | succ f ih =>
    intro r
    show (if (r : Int) < (a 87 4).toInt then (if (a 92 r).toInt = 0 then (r : Int) else rLf a f (r + 1)) else -1) = (if (r : Int) < (b 87 4).toInt then (if (b 92 r).toInt = 0 then (r : Int) else rLf b f (r + 1)) else -1)
    rw [h4, h9, ih]
theorem PR_1 (h0 : 0 ≤ x.toInt) : rPr c x.toInt = x := by
  unfold rPr
  rw [if_pos (by omega), Int32.ofInt_toInt]
theorem PR_2 (hRL : qRL c si rg sh pr tp) (h : t = -1) (h0 : 0 ≤ pr.toInt) (h1 : pr.toInt < rg.toInt) (hn : (tp pr.toNatClampNeg).toInt ≠ 0) : rPr c t = pr := by
  unfold rPr
  rw [if_neg (by omega), if_neg (fun z => hn ?_), hRL.2.2.2.1]
  have z1 := z.1
  rw [hRL.2.2.2.1, RL_t hRL h0 h1] at z1
  exact z1
theorem PR_e (hv : qRv c) (hRL : qRL c si rg sh pr tp) (hn : (tp pr.toNatClampNeg).toInt = 0) : 0 ≤ rLe c ∧ rLe c < rg.toInt := by
  have b := RL_b hRL hv
  have tc := tn_cast b.2.2.1.1
  by_cases w : rLe c = -1
  · rcases Lf_all (a := c) 93 0 with z | z
    · exact absurd (by rw [RL_t hRL b.2.2.1.1 b.2.2.1.2]; exact hn) (z.2 pr.toNatClampNeg (by omega) (by omega) (by rw [hRL.2.1]; omega))
    · have e : rLe c = rLf c 93 0 := rfl
      omega
  · have y := Le_y w
    rw [hRL.2.1] at y
    exact ⟨y.1, y.2.2.1⟩
theorem PR_3 (hv : qRv c) (hRL : qRL c si rg sh pr tp) (h : t = -1) (hn : (tp pr.toNatClampNeg).toInt = 0) (hw : qEq v.toInt (rLe c)) : rPr c t = v := by
  have b := RL_b hRL hv
  have y := PR_e hv hRL hn
  unfold rPr
  rw [if_neg (by omega), if_pos ⟨by rw [hRL.2.2.2.1, RL_t hRL b.2.2.1.1 b.2.2.1.2]; exact hn, by omega⟩, ← qE hw, Int32.ofInt_toInt]
theorem CR_fin (hR : qRB us nr kr kd ws at₉ ho wd wi ow rt wk wl wm nu ro 0 0 0 1 c) (hv : qRv c) (hRL : qRL c si rg sh pr tp) (hE : (∀ x, x ≠ 93 → (rC0 aa).1 x = c x) ∧ (rC0 aa).2 = t) (hx : rPr c t = pr2) (h0 : 0 ≤ pr2.toInt) (h1 : pr2.toInt < rg.toInt) : qRB us nr kr kd ws at₉ ho wd wi ow rt wk wl wm nu ro 0 0 0 1 (rCl aa) ∧ qRv (rCl aa) ∧ qRL (rCl aa) si rg sh pr2 tp := by
  have e : rCl aa = ma_u (rC0 aa).1 87 9 pr2 := by
    have l := Lf_cg (a := (rC0 aa).1) (b := c) (hE.1 87 (by decide)) (hE.1 92 (by decide)) 93 0
    have pe : rPr (rC0 aa).1 (rC0 aa).2 = pr2 := by
      rw [← hx]
      unfold rPr rLe
      rw [hE.2, l, hE.1 87 (by decide), hE.1 92 (by decide)]
    unfold rCl
    rw [pe]
  have v1 : qRv (rC0 aa).1 := by
    obtain ⟨z1, z2, z3, z4, z5⟩ := hv
    unfold qRv xAl at *
    rw [hE.1 87 (by decide), hE.1 92 (by decide), hE.1 126 (by decide), hE.1 130 (by decide), hE.1 128 (by decide)]
    exact ⟨I_cg z1 (hE.1 _ (by decide)) (hE.1 _ (by decide)) (hE.1 _ (by decide)) (hE.1 _ (by decide)) (hE.1 _ (by decide)) (hE.1 _ (by decide)) (fun j => hE.1 _ (by omega)), z2, z3, z4, z5⟩
  rw [e]
  refine ⟨RB_87k (RB_c9 hR (fun x _ h3 => hE.1 x h3)) (by decide) (by decide) (by decide) (by decide) (by decide), Rv_9 v1 h0 (by rw [hE.1 87 (by decide), hRL.2.1]; exact h1), ?_⟩
  unfold qRL at hRL ⊢
  rw [ma_u_ne _ _ _ (show (92 : Nat) ≠ 87 by decide), hE.1 92 (by decide), xu_s, xu_o (by decide), xu_o (by decide), xu_o (by decide), hE.1 87 (by decide)]
  exact ⟨hRL.1, hRL.2.1, hRL.2.2.1, rfl, hRL.2.2.2.2⟩
end F18
theorem lp_234rz_2 {X : Nat × (Nat → Int32)} {P : Option ma_V → (Nat → Nat → Int32) → Prop} {aa : Nat→Nat→Int32} {m0 : Nat → Nat → Int32} (h0 : zV m0) (K : ∀ v m₉, zF wr_234 m0 m₉ → zV m₉ → (zLE (m₉ 116) (m₉ 94 64) v) → (qEq v.toInt (rLe aa)) → P (some (.inl v)) m₉) : ∀ (n : Nat) (m : Nat → Nat → Int32) (l1 : Int32), (128 - l1.toInt).toNat = n → zF wr_234 m0 m → zV m → (0 ≤ l1.toInt) → (∀ r : Nat, (r : Int) < l1.toInt → (m 116) r ≠ 0) → (qRv aa) → (qRL aa (m 94 18) (m 94 64) (m 94 19) (m 94 63) (m 116)) → (qEq (rLf aa (93 - l1.toInt).toNat l1.toNatClampNeg) (rLe aa)) → zm X 0 0 234 2 [(0, .inr (.inr (some 94))), (1, .inl l1)] m P := by
  intro n
  induction n using Nat.strongRecOn with
  | _ n IH =>
    intro m l1 hmu hF hV hi0 r_LZ r_RV r_RL r_LF
    refine g_234_2 l1 ?_
    have f1 : 0 ≤ (m 94 64).toInt ∧ (m 94 64).toInt ≤ 93 := rs_94_64 (m := m) hV
    have b2 := i_bd l1
    refine zd (fun (h3 : (m 94 64) ≤ l1) => ?_) (fun (h3 : ¬ (m 94 64) ≤ l1) => ?_)
    · skip
      have g4 := i_le h3
      have li5 : (-1 : Int32).toInt = -1 := rfl
      exact K ((-1 : Int32)) _ hF hV (show zLE (m 116) (m 94 64) (-1 : Int32) from by first | (exact Or.inr ⟨by omega, by omega, by assumption⟩) | (exact Or.inl ⟨by decide, fun r hr => r_LZ r (by omega)⟩) | (exfalso; omega; done) | (exfalso; contradiction; done)) (show qEq (-1 : Int32).toInt (rLe aa) from by first | (exact LE_yes r_RL r_RV r_LF (by omega) (by omega) (by first | omega | exact i_ez (by assumption))) | (exact LE_none r_RL r_LF (by omega) (by omega)) | (exfalso; omega; done) | (exfalso; contradiction; done))
    · skip
      have g6 := i_nle h3
      have hg7 : (0 ≤ l1 ∧ l1.toNatClampNeg < 128) := i_ix (by omega) (by omega)
      refine ⟨hg7, ?_⟩
      first | have f8 : 0 ≤ (m 116 l1.toNatClampNeg).toInt ∧ (m 116 l1.toNatClampNeg).toInt ≤ 4600 := ra_116 (m := m) hV (k := l1.toNatClampNeg) (i_ix (n := 128) (by omega) (by omega)).2 | have b9 := i_bd (m 116 l1.toNatClampNeg)
      have li10 : (0 : Int32).toInt = 0 := rfl
      refine zd (fun (h11 : (m 116 l1.toNatClampNeg) = (0 : Int32)) => ?_) (fun (h11 : ¬ (m 116 l1.toNatClampNeg) = (0 : Int32)) => ?_)
      · skip
        have g12 := i_eq h11
        exact K (l1) _ hF hV (show zLE (m 116) (m 94 64) l1 from by first | (exact Or.inr ⟨by omega, by omega, by assumption⟩) | (exact Or.inl ⟨by decide, fun r hr => r_LZ r (by omega)⟩) | (exfalso; omega; done) | (exfalso; contradiction; done)) (show qEq l1.toInt (rLe aa) from by first | (exact LE_yes r_RL r_RV r_LF (by omega) (by omega) (by first | omega | exact i_ez (by assumption))) | (exact LE_none r_RL r_LF (by omega) (by omega)) | (exfalso; omega; done) | (exfalso; contradiction; done))
      · skip
        have g13 := i_ne h11
        first | have e14 : (l1 + (1 : Int32)).toInt = l1.toInt + (1) := i_addk rfl (by omega) (by omega) | have b15 := i_bd (l1 + (1 : Int32))
        exact IH (128 - (l1 + (1 : Int32)).toInt).toNat (by omega) _ ((l1 + (1 : Int32))) rfl hF hV (by omega) (show ∀ r : Nat, (r : Int) < (l1 + (1 : Int32)).toInt → (m 116) r ≠ 0 from by first | (intro r hr; omega; done) | (exact ne_step r_LZ (by omega) (by assumption) (by omega)) | (exfalso; omega; done) | (exfalso; contradiction; done)) r_RV r_RL (show qEq (rLf aa (93 - (l1 + (1 : Int32)).toInt).toNat (l1 + (1 : Int32)).toNatClampNeg) (rLe aa) from by first | (exact LE_0) | (exact LE_nx r_RL r_RV r_LF (by omega) (by omega) (by first | omega | exact i_en (by assumption)) (by omega)) | (exfalso; omega; done) | (exfalso; contradiction; done))
theorem sp_234rz {X : Nat × (Nat → Int32)} {P : Option ma_V → (Nat → Nat → Int32) → Prop} {aa : Nat→Nat→Int32} {m : Nat → Nat → Int32}  (hV : zV m) (r_RV : qRv aa) (r_RL : qRL aa (m 94 18) (m 94 64) (m 94 19) (m 94 63) (m 116)) (KZ : ∀ v m₉, zV (zov wr_234 m m₉) → (zLE (m 116) (m 94 64) v) → (qEq v.toInt (rLe aa)) → P (some (.inl v)) (zov wr_234 m m₉)) : zm X 0 0 234 0 [(0, .inr (.inr (some 94)))] m P := by
  have K : ∀ v m₉, zF wr_234 m m₉ → zV m₉ → (zLE (m₉ 116) (m₉ 94 64) v) → (qEq v.toInt (rLe aa)) → P (some (.inl v)) m₉ := by
    intro v m₉ hf z q0 q1
    have e := zov_eq hf
    rw [e] at z ⊢
    try rw [e] at q0
    try rw [e] at q1
    exact KZ v m₉ z q0 q1
  refine g_234_0  ?_
  have li1 : (0 : Int32).toInt = 0 := rfl
  exact lp_234rz_2 hV K _ _ ((0 : Int32)) rfl zF_rfl hV (by omega) (show ∀ r : Nat, (r : Int) < (0 : Int32).toInt → (m 116) r ≠ 0 from by first | (intro r hr; omega; done) | (exfalso; omega; done) | (exfalso; contradiction; done)) r_RV r_RL (show qEq (rLf aa (93 - (0 : Int32).toInt).toNat (0 : Int32).toNatClampNeg) (rLe aa) from by first | (exact LE_0) | (exfalso; omega; done) | (exfalso; contradiction; done))
theorem lp_233rz_4 {X : Nat × (Nat → Int32)} {P : Option ma_V → (Nat → Nat → Int32) → Prop} {aa : Nat→Nat→Int32} {m0 : Nat → Nat → Int32} (h0 : zV m0) (K : ∀ v m₉, zF wr_233 m0 m₉ → zV m₉ → (v.toInt ≤ 0 ∨ ∃ r : Nat, (r : Int) < (m₉ 94 64).toInt ∧ (m₉ 116) r = 0) → (qEq v.toInt (rEf aa 93)) → P (some (.inl v)) m₉) : ∀ (n : Nat) (m : Nat → Nat → Int32) (l1 : Int32) (l2 : Int32), (128 - l2.toInt).toNat = n → zF wr_233 m0 m → zV m → (0 ≤ l2.toInt) → (0 ≤ l1.toInt) → (l1.toInt ≤ l2.toInt) → (l2.toInt ≤ (m 94 64).toInt) → (l1.toInt ≤ 0 ∨ ∃ r : Nat, (r : Int) < (m 94 64).toInt ∧ (m 116) r = 0) → (qRv aa) → (qRL aa (m 94 18) (m 94 64) (m 94 19) (m 94 63) (m 116)) → (qEq l1.toInt (rEf aa l2.toNatClampNeg)) → zm X 0 0 233 4 [(0, .inr (.inr (some 94))), (1, .inl l1), (2, .inl l2)] m P := by
  intro n
  induction n using Nat.strongRecOn with
  | _ n IH =>
    intro m l1 l2 hmu hF hV hi0 hi1 hi2 hi3 r_EMl r_RV r_RL r_EF
    refine g_233_4 l1 l2 ?_
    have f1 : 0 ≤ (m 94 64).toInt ∧ (m 94 64).toInt ≤ 93 := rs_94_64 (m := m) hV
    have b2 := i_bd l2
    refine zd (fun (h3 : (m 94 64) ≤ l2) => ?_) (fun (h3 : ¬ (m 94 64) ≤ l2) => ?_)
    · skip
      have g4 := i_le h3
      try have rlb := (RL_b r_RL r_RV).2.1
      have b5 := i_bd l1
      exact K (l1) _ hF hV (show l1.toInt ≤ 0 ∨ ∃ r : Nat, (r : Int) < (m 94 64).toInt ∧ (m 116) r = 0 from by first | (exact r_EMl) | (exfalso; omega; done) | (exfalso; contradiction; done)) (show qEq l1.toInt (rEf aa 93) from by first | (exact EF_end r_RL r_RV r_EF (by omega) (by omega) (by omega)) | (exfalso; omega; done) | (exfalso; contradiction; done))
    · skip
      have g6 := i_nle h3
      have hg7 : (0 ≤ l2 ∧ l2.toNatClampNeg < 128) := i_ix (by omega) (by omega)
      refine ⟨hg7, ?_⟩
      first | have f8 : 0 ≤ (m 116 l2.toNatClampNeg).toInt ∧ (m 116 l2.toNatClampNeg).toInt ≤ 4600 := ra_116 (m := m) hV (k := l2.toNatClampNeg) (i_ix (n := 128) (by omega) (by omega)).2 | have b9 := i_bd (m 116 l2.toNatClampNeg)
      have li10 : (0 : Int32).toInt = 0 := rfl
      refine zd (fun (h11 : (m 116 l2.toNatClampNeg) = (0 : Int32)) => ?_) (fun (h11 : ¬ (m 116 l2.toNatClampNeg) = (0 : Int32)) => ?_)
      · skip
        have g12 := i_eq h11
        try have rlb := (RL_b r_RL r_RV).2.1
        have b13 := i_bd l1
        first | have e14 : (l1 + (1 : Int32)).toInt = l1.toInt + (1) := i_addk rfl (by omega) (by omega) | have b15 := i_bd (l1 + (1 : Int32))
        first | have e16 : (l2 + (1 : Int32)).toInt = l2.toInt + (1) := i_addk rfl (by omega) (by omega) | have b17 := i_bd (l2 + (1 : Int32))
        exact IH (128 - (l2 + (1 : Int32)).toInt).toNat (by omega) _ ((l1 + (1 : Int32))) ((l2 + (1 : Int32))) rfl hF hV (by omega) (by omega) (by omega) (show (l2 + (1 : Int32)).toInt ≤ (m 94 64).toInt from by omega) (show (l1 + (1 : Int32)).toInt ≤ 0 ∨ ∃ r : Nat, (r : Int) < (m 94 64).toInt ∧ (m 116) r = 0 from by first | (exact Or.inl (by decide)) | (exact Or.inr ⟨l2.toNatClampNeg, by rw [tn_cast (by omega)]; omega, by assumption⟩) | (exfalso; omega; done) | (exfalso; contradiction; done)) r_RV r_RL (show qEq (l1 + (1 : Int32)).toInt (rEf aa (l2 + (1 : Int32)).toNatClampNeg) from by first | (exact rfl) | (exact EF_nx r_RL r_EF (by omega) (by omega) (by omega) (Or.inl ⟨(by first | omega | exact i_ez (by assumption)), by omega⟩)) | (exact EF_nx r_RL r_EF (by omega) (by omega) (by omega) (Or.inr ⟨(by first | omega | exact i_en (by assumption)), rfl⟩)) | (exfalso; omega; done) | (exfalso; contradiction; done))
      · skip
        have g18 := i_ne h11
        try have rlb := (RL_b r_RL r_RV).2.1
        have b19 := i_bd l1
        first | have e20 : (l2 + (1 : Int32)).toInt = l2.toInt + (1) := i_addk rfl (by omega) (by omega) | have b21 := i_bd (l2 + (1 : Int32))
        exact IH (128 - (l2 + (1 : Int32)).toInt).toNat (by omega) _ (l1) ((l2 + (1 : Int32))) rfl hF hV (by omega) (by omega) (by omega) (show (l2 + (1 : Int32)).toInt ≤ (m 94 64).toInt from by omega) r_EMl r_RV r_RL (show qEq l1.toInt (rEf aa (l2 + (1 : Int32)).toNatClampNeg) from by first | (exact rfl) | (exact EF_nx r_RL r_EF (by omega) (by omega) (by omega) (Or.inl ⟨(by first | omega | exact i_ez (by assumption)), by omega⟩)) | (exact EF_nx r_RL r_EF (by omega) (by omega) (by omega) (Or.inr ⟨(by first | omega | exact i_en (by assumption)), rfl⟩)) | (exfalso; omega; done) | (exfalso; contradiction; done))
theorem sp_233rz {X : Nat × (Nat → Int32)} {P : Option ma_V → (Nat → Nat → Int32) → Prop} {aa : Nat→Nat→Int32} {m : Nat → Nat → Int32}  (hV : zV m) (r_RV : qRv aa) (r_RL : qRL aa (m 94 18) (m 94 64) (m 94 19) (m 94 63) (m 116)) (KZ : ∀ v m₉, zV (zov wr_233 m m₉) → (v.toInt ≤ 0 ∨ ∃ r : Nat, (r : Int) < (m 94 64).toInt ∧ (m 116) r = 0) → (qEq v.toInt (rEf aa 93)) → P (some (.inl v)) (zov wr_233 m m₉)) : zm X 0 0 233 0 [(0, .inr (.inr (some 94)))] m P := by
  have K : ∀ v m₉, zF wr_233 m m₉ → zV m₉ → (v.toInt ≤ 0 ∨ ∃ r : Nat, (r : Int) < (m₉ 94 64).toInt ∧ (m₉ 116) r = 0) → (qEq v.toInt (rEf aa 93)) → P (some (.inl v)) m₉ := by
    intro v m₉ hf z q0 q1
    have e := zov_eq hf
    rw [e] at z ⊢
    try rw [e] at q0
    try rw [e] at q1
    exact KZ v m₉ z q0 q1
  refine g_233_0  ?_
  try have rlb := (RL_b r_RL r_RV).2.1
  have li1 : (0 : Int32).toInt = 0 := rfl
  have f2 : 0 ≤ (m 94 64).toInt ∧ (m 94 64).toInt ≤ 93 := rs_94_64 (m := m) hV
  exact lp_233rz_4 hV K _ _ ((0 : Int32)) ((0 : Int32)) rfl zF_rfl hV (by omega) (by omega) (by omega) (show (0 : Int32).toInt ≤ (m 94 64).toInt from by omega) (show (0 : Int32).toInt ≤ 0 ∨ ∃ r : Nat, (r : Int) < (m 94 64).toInt ∧ (m 116) r = 0 from by first | (exact Or.inl (by decide)) | (exact Or.inr ⟨l2.toNatClampNeg, by rw [tn_cast (by omega)]; omega, by assumption⟩) | (exfalso; omega; done) | (exfalso; contradiction; done)) r_RV r_RL (show qEq (0 : Int32).toInt (rEf aa (0 : Int32).toNatClampNeg) from by first | (exact rfl) | (exfalso; omega; done) | (exfalso; contradiction; done))

/-! from 95.t03 -/
/-! REGIONS, the reference (written by wip/tools/gen15t.py) -/
theorem lp_236rz_4 {X : Nat × (Nat → Int32)} {P : Option ma_V → (Nat → Nat → Int32) → Prop} {aa : Nat→Nat→Int32} {tt : Int} {m0 : Nat → Nat → Int32} (h0 : zV m0) (K : ∀ v m₉, zF wr_236 m0 m₉ → zV m₉ → (v.toInt = -1 ∨ (0 ≤ v.toInt ∧ v.toInt < (m₉ 94 64).toInt ∧ (m₉ 124) v.toNatClampNeg = 0)) → (qEq v.toInt (rFw aa)) → P (some (.inl v)) m₉) : ∀ (n : Nat) (m : Nat → Nat → Int32) (l1 : Int32) (l2 : Int32), (128 - l2.toInt).toNat = n → zF wr_236 m0 m → zV m → (0 ≤ l2.toInt) → (-1 ≤ l1.toInt) → (l1.toInt ≤ 127) → (l2.toInt ≤ (m 94 64).toInt) → (l1.toInt = -1 ∨ (0 ≤ l1.toInt ∧ l1.toInt < (m 94 64).toInt ∧ (m 124) l1.toNatClampNeg = 0)) → (qRv aa) → (qRL aa (m 94 18) (m 94 64) (m 94 19) (m 94 63) (m 116)) → (qLv aa tt) → (qLR aa (m 94 64) (m 94 19) (m 94 18) (m 94 63) (m 122) (m 123) (m 124)) → (qFg aa l1.toInt l2.toNatClampNeg) → zm X 0 0 236 4 [(0, .inr (.inr (some 94))), (1, .inl l1), (2, .inl l2)] m P := by
  intro n
  induction n using Nat.strongRecOn with
  | _ n IH =>
    intro m l1 l2 hmu hF hV hi0 hi1 hi2 hi3 r_SP r_RV r_RL r_LV r_LR r_FG
    refine g_236_4 l1 l2 ?_
    have f1 : 0 ≤ (m 94 64).toInt ∧ (m 94 64).toInt ≤ 93 := rs_94_64 (m := m) hV
    have b2 := i_bd l2
    refine zd (fun (h3 : (m 94 64) ≤ l2) => ?_) (fun (h3 : ¬ (m 94 64) ≤ l2) => ?_)
    · skip
      have g4 := i_le h3
      try have rlb := (RL_b r_RL r_RV).2.1
      have b5 := i_bd l1
      exact K (l1) _ hF hV r_SP (show qEq l1.toInt (rFw aa) from by first | (exact SP_end r_RV r_LV r_RL r_FG (by omega) (by omega) (by omega)) | (exfalso; omega; done) | (exfalso; contradiction; done))
    · skip
      have g6 := i_nle h3
      have hg7 : (0 ≤ l2 ∧ l2.toNatClampNeg < 128) := i_ix (by omega) (by omega)
      refine ⟨hg7, ?_⟩
      first | have f8 : 0 ≤ (m 124 l2.toNatClampNeg).toInt ∧ (m 124 l2.toNatClampNeg).toInt ≤ 1 := ra_124 (m := m) hV (k := l2.toNatClampNeg) (i_ix (n := 128) (by omega) (by omega)).2 | have b9 := i_bd (m 124 l2.toNatClampNeg)
      have li10 : (0 : Int32).toInt = 0 := rfl
      refine zd (fun (h11 : (m 124 l2.toNatClampNeg) = (0 : Int32)) => ?_) (fun (h11 : ¬ (m 124 l2.toNatClampNeg) = (0 : Int32)) => ?_)
      · skip
        have g12 := i_eq h11
        have hg13 : (0 ≤ l2 ∧ l2.toNatClampNeg < 128) := i_ix (by omega) (by omega)
        refine ⟨hg13, ?_⟩
        first | have f14 : 0 ≤ (m 123 l2.toNatClampNeg).toInt ∧ (m 123 l2.toNatClampNeg).toInt ≤ 1 := ra_123 (m := m) hV (k := l2.toNatClampNeg) (i_ix (n := 128) (by omega) (by omega)).2 | have b15 := i_bd (m 123 l2.toNatClampNeg)
        refine zd (fun (h16 : (m 123 l2.toNatClampNeg) = (0 : Int32)) => ?_) (fun (h16 : ¬ (m 123 l2.toNatClampNeg) = (0 : Int32)) => ?_)
        · skip
          have g17 := i_eq h16
          have f18 : 0 ≤ (m 94 63).toInt ∧ (m 94 63).toInt ≤ 127 := rs_94_63 (m := m) hV
          refine zd (fun (h19 : l2 = (m 94 63)) => ?_) (fun (h19 : ¬ l2 = (m 94 63)) => ?_)
          · skip
            have g20 := i_eq h19
            try have rlb := (RL_b r_RL r_RV).2.1
            have b21 := i_bd l1
            first | have e22 : (l2 + (1 : Int32)).toInt = l2.toInt + (1) := i_addk rfl (by omega) (by omega) | have b23 := i_bd (l2 + (1 : Int32))
            exact IH (128 - (l2 + (1 : Int32)).toInt).toNat (by omega) _ (l1) ((l2 + (1 : Int32))) rfl hF hV (by omega) (by omega) (by omega) (show (l2 + (1 : Int32)).toInt ≤ (m 94 64).toInt from by omega) r_SP r_RV r_RL r_LV r_LR (show qFg aa l1.toInt (l2 + (1 : Int32)).toNatClampNeg from by first | (exact rfl) | (exact SP_no r_LR r_FG (by omega) (by omega) (by omega) (Or.inl (by assumption))) | (exact SP_no r_LR r_FG (by omega) (by omega) (by omega) (Or.inr (Or.inl (by assumption)))) | (exact SP_no r_LR r_FG (by omega) (by omega) (by omega) (Or.inr (Or.inr (Or.inl (by omega))))) | (exact SP_no r_LR r_FG (by omega) (by omega) (by omega) (Or.inr (Or.inr (Or.inr (Or.inl (by first | omega | exact i_ez (by assumption))))))) | (have b := RL_b r_RL r_RV; have sb := SP_b (x := l2) r_LR (by omega) (by omega); have pm := i_mulk (x := m 122 l2.toNatClampNeg) (y := (100 : Int32)) (k := 100) rfl (by omega) (by omega); have pn := (i_muln (x := m 94 19) (y := m 94 18) (by omega) (by omega) (by omega) (by omega)).2.2; exact SP_no r_LR r_FG (by omega) (by omega) (by omega) (Or.inr (Or.inr (Or.inr (Or.inr (by rw [← pn]; omega))))); done) | (have b := RL_b r_RL r_RV; have sb := SP_b (x := l2) r_LR (by omega) (by omega); have pm := i_mulk (x := m 122 l2.toNatClampNeg) (y := (100 : Int32)) (k := 100) rfl (by omega) (by omega); have pn := (i_muln (x := m 94 19) (y := m 94 18) (by omega) (by omega) (by omega) (by omega)).2.2; exact SP_ye r_LR r_FG (by omega) (by omega) (by omega) (by assumption) (by assumption) (by omega) (by first | omega | exact i_en (by assumption)) (by rw [← pn]; omega) (Or.inl ⟨Or.inl (by omega), rfl⟩); done) | (have b := RL_b r_RL r_RV; have sb := SP_b (x := l2) r_LR (by omega) (by omega); have pm := i_mulk (x := m 122 l2.toNatClampNeg) (y := (100 : Int32)) (k := 100) rfl (by omega) (by omega); have pn := (i_muln (x := m 94 19) (y := m 94 18) (by omega) (by omega) (by omega) (by omega)).2.2; exact SP_ye r_LR r_FG (by omega) (by omega) (by omega) (by assumption) (by assumption) (by omega) (by first | omega | exact i_en (by assumption)) (by rw [← pn]; omega) (Or.inl ⟨Or.inr ⟨by omega, by omega⟩, rfl⟩); done) | (have b := RL_b r_RL r_RV; have sb := SP_b (x := l2) r_LR (by omega) (by omega); have pm := i_mulk (x := m 122 l2.toNatClampNeg) (y := (100 : Int32)) (k := 100) rfl (by omega) (by omega); have pn := (i_muln (x := m 94 19) (y := m 94 18) (by omega) (by omega) (by omega) (by omega)).2.2; exact SP_ye r_LR r_FG (by omega) (by omega) (by omega) (by assumption) (by assumption) (by omega) (by first | omega | exact i_en (by assumption)) (by rw [← pn]; omega) (Or.inr ⟨by omega, by omega, rfl⟩); done) | (exfalso; omega; done) | (exfalso; contradiction; done))
          · skip
            have g24 := i_ne h19
            have hg25 : (0 ≤ l2 ∧ l2.toNatClampNeg < 128) := i_ix (by omega) (by omega)
            refine ⟨hg25, ?_⟩
            have b26 := i_bd (m 122 l2.toNatClampNeg)
            refine zd (fun (h27 : (m 122 l2.toNatClampNeg) = (0 : Int32)) => ?_) (fun (h27 : ¬ (m 122 l2.toNatClampNeg) = (0 : Int32)) => ?_)
            · skip
              have g28 := i_eq h27
              try have rlb := (RL_b r_RL r_RV).2.1
              have b29 := i_bd l1
              first | have e30 : (l2 + (1 : Int32)).toInt = l2.toInt + (1) := i_addk rfl (by omega) (by omega) | have b31 := i_bd (l2 + (1 : Int32))
              exact IH (128 - (l2 + (1 : Int32)).toInt).toNat (by omega) _ (l1) ((l2 + (1 : Int32))) rfl hF hV (by omega) (by omega) (by omega) (show (l2 + (1 : Int32)).toInt ≤ (m 94 64).toInt from by omega) r_SP r_RV r_RL r_LV r_LR (show qFg aa l1.toInt (l2 + (1 : Int32)).toNatClampNeg from by first | (exact rfl) | (exact SP_no r_LR r_FG (by omega) (by omega) (by omega) (Or.inl (by assumption))) | (exact SP_no r_LR r_FG (by omega) (by omega) (by omega) (Or.inr (Or.inl (by assumption)))) | (exact SP_no r_LR r_FG (by omega) (by omega) (by omega) (Or.inr (Or.inr (Or.inl (by omega))))) | (exact SP_no r_LR r_FG (by omega) (by omega) (by omega) (Or.inr (Or.inr (Or.inr (Or.inl (by first | omega | exact i_ez (by assumption))))))) | (have b := RL_b r_RL r_RV; have sb := SP_b (x := l2) r_LR (by omega) (by omega); have pm := i_mulk (x := m 122 l2.toNatClampNeg) (y := (100 : Int32)) (k := 100) rfl (by omega) (by omega); have pn := (i_muln (x := m 94 19) (y := m 94 18) (by omega) (by omega) (by omega) (by omega)).2.2; exact SP_no r_LR r_FG (by omega) (by omega) (by omega) (Or.inr (Or.inr (Or.inr (Or.inr (by rw [← pn]; omega))))); done) | (have b := RL_b r_RL r_RV; have sb := SP_b (x := l2) r_LR (by omega) (by omega); have pm := i_mulk (x := m 122 l2.toNatClampNeg) (y := (100 : Int32)) (k := 100) rfl (by omega) (by omega); have pn := (i_muln (x := m 94 19) (y := m 94 18) (by omega) (by omega) (by omega) (by omega)).2.2; exact SP_ye r_LR r_FG (by omega) (by omega) (by omega) (by assumption) (by assumption) (by omega) (by first | omega | exact i_en (by assumption)) (by rw [← pn]; omega) (Or.inl ⟨Or.inl (by omega), rfl⟩); done) | (have b := RL_b r_RL r_RV; have sb := SP_b (x := l2) r_LR (by omega) (by omega); have pm := i_mulk (x := m 122 l2.toNatClampNeg) (y := (100 : Int32)) (k := 100) rfl (by omega) (by omega); have pn := (i_muln (x := m 94 19) (y := m 94 18) (by omega) (by omega) (by omega) (by omega)).2.2; exact SP_ye r_LR r_FG (by omega) (by omega) (by omega) (by assumption) (by assumption) (by omega) (by first | omega | exact i_en (by assumption)) (by rw [← pn]; omega) (Or.inl ⟨Or.inr ⟨by omega, by omega⟩, rfl⟩); done) | (have b := RL_b r_RL r_RV; have sb := SP_b (x := l2) r_LR (by omega) (by omega); have pm := i_mulk (x := m 122 l2.toNatClampNeg) (y := (100 : Int32)) (k := 100) rfl (by omega) (by omega); have pn := (i_muln (x := m 94 19) (y := m 94 18) (by omega) (by omega) (by omega) (by omega)).2.2; exact SP_ye r_LR r_FG (by omega) (by omega) (by omega) (by assumption) (by assumption) (by omega) (by first | omega | exact i_en (by assumption)) (by rw [← pn]; omega) (Or.inr ⟨by omega, by omega, rfl⟩); done) | (exfalso; omega; done) | (exfalso; contradiction; done))
            · skip
              have g32 := i_ne h27
              have hg33 : (0 ≤ l2 ∧ l2.toNatClampNeg < 128) := i_ix (by omega) (by omega)
              refine ⟨hg33, ?_⟩
              have li34 : (100 : Int32).toInt = 100 := rfl
              first | have e35 : ((m 122 l2.toNatClampNeg) * (100 : Int32)).toInt = (m 122 l2.toNatClampNeg).toInt * 100 := i_mulk rfl (by omega) (by omega) | have b36 := i_bd ((m 122 l2.toNatClampNeg) * (100 : Int32))
              have b37 := i_bd (m 94 19)
              have f38 : 0 ≤ (m 94 18).toInt ∧ (m 94 18).toInt ≤ 256 := rs_94_18 (m := m) hV
              first | have f39 := i_muln (x := (m 94 19)) (y := (m 94 18)) (by omega) (by omega) (by omega) (by omega) | have b40 := i_bd ((m 94 19) * (m 94 18))
              refine zd (fun (h41 : ((m 122 l2.toNatClampNeg) * (100 : Int32)) ≤ ((m 94 19) * (m 94 18))) => ?_) (fun (h41 : ¬ ((m 122 l2.toNatClampNeg) * (100 : Int32)) ≤ ((m 94 19) * (m 94 18))) => ?_)
              · skip
                have g42 := i_le h41
                have b43 := i_bd l1
                refine zd (fun (h44 : l1 < (0 : Int32)) => ?_) (fun (h44 : ¬ l1 < (0 : Int32)) => ?_)
                · skip
                  have g45 := i_lt h44
                  try have rlb := (RL_b r_RL r_RV).2.1
                  first | have e46 : (l2 + (1 : Int32)).toInt = l2.toInt + (1) := i_addk rfl (by omega) (by omega) | have b47 := i_bd (l2 + (1 : Int32))
                  exact IH (128 - (l2 + (1 : Int32)).toInt).toNat (by omega) _ (l2) ((l2 + (1 : Int32))) rfl hF hV (by omega) (by omega) (by omega) (show (l2 + (1 : Int32)).toInt ≤ (m 94 64).toInt from by omega) (show l2.toInt = -1 ∨ (0 ≤ l2.toInt ∧ l2.toInt < (m 94 64).toInt ∧ (m 124) l2.toNatClampNeg = 0) from by first | (exact Or.inl (by decide)) | (exact Or.inr ⟨by omega, by omega, by assumption⟩) | (exact r_SP) | (exfalso; omega; done) | (exfalso; contradiction; done)) r_RV r_RL r_LV r_LR (show qFg aa l2.toInt (l2 + (1 : Int32)).toNatClampNeg from by first | (exact rfl) | (exact SP_no r_LR r_FG (by omega) (by omega) (by omega) (Or.inl (by assumption))) | (exact SP_no r_LR r_FG (by omega) (by omega) (by omega) (Or.inr (Or.inl (by assumption)))) | (exact SP_no r_LR r_FG (by omega) (by omega) (by omega) (Or.inr (Or.inr (Or.inl (by omega))))) | (exact SP_no r_LR r_FG (by omega) (by omega) (by omega) (Or.inr (Or.inr (Or.inr (Or.inl (by first | omega | exact i_ez (by assumption))))))) | (have b := RL_b r_RL r_RV; have sb := SP_b (x := l2) r_LR (by omega) (by omega); have pm := i_mulk (x := m 122 l2.toNatClampNeg) (y := (100 : Int32)) (k := 100) rfl (by omega) (by omega); have pn := (i_muln (x := m 94 19) (y := m 94 18) (by omega) (by omega) (by omega) (by omega)).2.2; exact SP_no r_LR r_FG (by omega) (by omega) (by omega) (Or.inr (Or.inr (Or.inr (Or.inr (by rw [← pn]; omega))))); done) | (have b := RL_b r_RL r_RV; have sb := SP_b (x := l2) r_LR (by omega) (by omega); have pm := i_mulk (x := m 122 l2.toNatClampNeg) (y := (100 : Int32)) (k := 100) rfl (by omega) (by omega); have pn := (i_muln (x := m 94 19) (y := m 94 18) (by omega) (by omega) (by omega) (by omega)).2.2; exact SP_ye r_LR r_FG (by omega) (by omega) (by omega) (by assumption) (by assumption) (by omega) (by first | omega | exact i_en (by assumption)) (by rw [← pn]; omega) (Or.inl ⟨Or.inl (by omega), rfl⟩); done) | (have b := RL_b r_RL r_RV; have sb := SP_b (x := l2) r_LR (by omega) (by omega); have pm := i_mulk (x := m 122 l2.toNatClampNeg) (y := (100 : Int32)) (k := 100) rfl (by omega) (by omega); have pn := (i_muln (x := m 94 19) (y := m 94 18) (by omega) (by omega) (by omega) (by omega)).2.2; exact SP_ye r_LR r_FG (by omega) (by omega) (by omega) (by assumption) (by assumption) (by omega) (by first | omega | exact i_en (by assumption)) (by rw [← pn]; omega) (Or.inl ⟨Or.inr ⟨by omega, by omega⟩, rfl⟩); done) | (have b := RL_b r_RL r_RV; have sb := SP_b (x := l2) r_LR (by omega) (by omega); have pm := i_mulk (x := m 122 l2.toNatClampNeg) (y := (100 : Int32)) (k := 100) rfl (by omega) (by omega); have pn := (i_muln (x := m 94 19) (y := m 94 18) (by omega) (by omega) (by omega) (by omega)).2.2; exact SP_ye r_LR r_FG (by omega) (by omega) (by omega) (by assumption) (by assumption) (by omega) (by first | omega | exact i_en (by assumption)) (by rw [← pn]; omega) (Or.inr ⟨by omega, by omega, rfl⟩); done) | (exfalso; omega; done) | (exfalso; contradiction; done))
                · skip
                  have g48 := i_nlt h44
                  have hg49 : (0 ≤ l2 ∧ l2.toNatClampNeg < 128) := i_ix (by omega) (by omega)
                  refine ⟨hg49, ?_⟩
                  have hg50 : (0 ≤ l1 ∧ l1.toNatClampNeg < 128) := i_ix (by omega) (by omega)
                  refine ⟨hg50, ?_⟩
                  have b51 := i_bd (m 122 l1.toNatClampNeg)
                  refine zd (fun (h52 : (m 122 l1.toNatClampNeg) ≤ (m 122 l2.toNatClampNeg)) => ?_) (fun (h52 : ¬ (m 122 l1.toNatClampNeg) ≤ (m 122 l2.toNatClampNeg)) => ?_)
                  · skip
                    have g53 := i_le h52
                    try have rlb := (RL_b r_RL r_RV).2.1
                    first | have e54 : (l2 + (1 : Int32)).toInt = l2.toInt + (1) := i_addk rfl (by omega) (by omega) | have b55 := i_bd (l2 + (1 : Int32))
                    exact IH (128 - (l2 + (1 : Int32)).toInt).toNat (by omega) _ (l1) ((l2 + (1 : Int32))) rfl hF hV (by omega) (by omega) (by omega) (show (l2 + (1 : Int32)).toInt ≤ (m 94 64).toInt from by omega) r_SP r_RV r_RL r_LV r_LR (show qFg aa l1.toInt (l2 + (1 : Int32)).toNatClampNeg from by first | (exact rfl) | (exact SP_no r_LR r_FG (by omega) (by omega) (by omega) (Or.inl (by assumption))) | (exact SP_no r_LR r_FG (by omega) (by omega) (by omega) (Or.inr (Or.inl (by assumption)))) | (exact SP_no r_LR r_FG (by omega) (by omega) (by omega) (Or.inr (Or.inr (Or.inl (by omega))))) | (exact SP_no r_LR r_FG (by omega) (by omega) (by omega) (Or.inr (Or.inr (Or.inr (Or.inl (by first | omega | exact i_ez (by assumption))))))) | (have b := RL_b r_RL r_RV; have sb := SP_b (x := l2) r_LR (by omega) (by omega); have pm := i_mulk (x := m 122 l2.toNatClampNeg) (y := (100 : Int32)) (k := 100) rfl (by omega) (by omega); have pn := (i_muln (x := m 94 19) (y := m 94 18) (by omega) (by omega) (by omega) (by omega)).2.2; exact SP_no r_LR r_FG (by omega) (by omega) (by omega) (Or.inr (Or.inr (Or.inr (Or.inr (by rw [← pn]; omega))))); done) | (have b := RL_b r_RL r_RV; have sb := SP_b (x := l2) r_LR (by omega) (by omega); have pm := i_mulk (x := m 122 l2.toNatClampNeg) (y := (100 : Int32)) (k := 100) rfl (by omega) (by omega); have pn := (i_muln (x := m 94 19) (y := m 94 18) (by omega) (by omega) (by omega) (by omega)).2.2; exact SP_ye r_LR r_FG (by omega) (by omega) (by omega) (by assumption) (by assumption) (by omega) (by first | omega | exact i_en (by assumption)) (by rw [← pn]; omega) (Or.inl ⟨Or.inl (by omega), rfl⟩); done) | (have b := RL_b r_RL r_RV; have sb := SP_b (x := l2) r_LR (by omega) (by omega); have pm := i_mulk (x := m 122 l2.toNatClampNeg) (y := (100 : Int32)) (k := 100) rfl (by omega) (by omega); have pn := (i_muln (x := m 94 19) (y := m 94 18) (by omega) (by omega) (by omega) (by omega)).2.2; exact SP_ye r_LR r_FG (by omega) (by omega) (by omega) (by assumption) (by assumption) (by omega) (by first | omega | exact i_en (by assumption)) (by rw [← pn]; omega) (Or.inl ⟨Or.inr ⟨by omega, by omega⟩, rfl⟩); done) | (have b := RL_b r_RL r_RV; have sb := SP_b (x := l2) r_LR (by omega) (by omega); have pm := i_mulk (x := m 122 l2.toNatClampNeg) (y := (100 : Int32)) (k := 100) rfl (by omega) (by omega); have pn := (i_muln (x := m 94 19) (y := m 94 18) (by omega) (by omega) (by omega) (by omega)).2.2; exact SP_ye r_LR r_FG (by omega) (by omega) (by omega) (by assumption) (by assumption) (by omega) (by first | omega | exact i_en (by assumption)) (by rw [← pn]; omega) (Or.inr ⟨by omega, by omega, rfl⟩); done) | (exfalso; omega; done) | (exfalso; contradiction; done))
                  · skip
                    have g56 := i_nle h52
                    try have rlb := (RL_b r_RL r_RV).2.1
                    first | have e57 : (l2 + (1 : Int32)).toInt = l2.toInt + (1) := i_addk rfl (by omega) (by omega) | have b58 := i_bd (l2 + (1 : Int32))
                    exact IH (128 - (l2 + (1 : Int32)).toInt).toNat (by omega) _ (l2) ((l2 + (1 : Int32))) rfl hF hV (by omega) (by omega) (by omega) (show (l2 + (1 : Int32)).toInt ≤ (m 94 64).toInt from by omega) (show l2.toInt = -1 ∨ (0 ≤ l2.toInt ∧ l2.toInt < (m 94 64).toInt ∧ (m 124) l2.toNatClampNeg = 0) from by first | (exact Or.inl (by decide)) | (exact Or.inr ⟨by omega, by omega, by assumption⟩) | (exact r_SP) | (exfalso; omega; done) | (exfalso; contradiction; done)) r_RV r_RL r_LV r_LR (show qFg aa l2.toInt (l2 + (1 : Int32)).toNatClampNeg from by first | (exact rfl) | (exact SP_no r_LR r_FG (by omega) (by omega) (by omega) (Or.inl (by assumption))) | (exact SP_no r_LR r_FG (by omega) (by omega) (by omega) (Or.inr (Or.inl (by assumption)))) | (exact SP_no r_LR r_FG (by omega) (by omega) (by omega) (Or.inr (Or.inr (Or.inl (by omega))))) | (exact SP_no r_LR r_FG (by omega) (by omega) (by omega) (Or.inr (Or.inr (Or.inr (Or.inl (by first | omega | exact i_ez (by assumption))))))) | (have b := RL_b r_RL r_RV; have sb := SP_b (x := l2) r_LR (by omega) (by omega); have pm := i_mulk (x := m 122 l2.toNatClampNeg) (y := (100 : Int32)) (k := 100) rfl (by omega) (by omega); have pn := (i_muln (x := m 94 19) (y := m 94 18) (by omega) (by omega) (by omega) (by omega)).2.2; exact SP_no r_LR r_FG (by omega) (by omega) (by omega) (Or.inr (Or.inr (Or.inr (Or.inr (by rw [← pn]; omega))))); done) | (have b := RL_b r_RL r_RV; have sb := SP_b (x := l2) r_LR (by omega) (by omega); have pm := i_mulk (x := m 122 l2.toNatClampNeg) (y := (100 : Int32)) (k := 100) rfl (by omega) (by omega); have pn := (i_muln (x := m 94 19) (y := m 94 18) (by omega) (by omega) (by omega) (by omega)).2.2; exact SP_ye r_LR r_FG (by omega) (by omega) (by omega) (by assumption) (by assumption) (by omega) (by first | omega | exact i_en (by assumption)) (by rw [← pn]; omega) (Or.inl ⟨Or.inl (by omega), rfl⟩); done) | (have b := RL_b r_RL r_RV; have sb := SP_b (x := l2) r_LR (by omega) (by omega); have pm := i_mulk (x := m 122 l2.toNatClampNeg) (y := (100 : Int32)) (k := 100) rfl (by omega) (by omega); have pn := (i_muln (x := m 94 19) (y := m 94 18) (by omega) (by omega) (by omega) (by omega)).2.2; exact SP_ye r_LR r_FG (by omega) (by omega) (by omega) (by assumption) (by assumption) (by omega) (by first | omega | exact i_en (by assumption)) (by rw [← pn]; omega) (Or.inl ⟨Or.inr ⟨by omega, by omega⟩, rfl⟩); done) | (have b := RL_b r_RL r_RV; have sb := SP_b (x := l2) r_LR (by omega) (by omega); have pm := i_mulk (x := m 122 l2.toNatClampNeg) (y := (100 : Int32)) (k := 100) rfl (by omega) (by omega); have pn := (i_muln (x := m 94 19) (y := m 94 18) (by omega) (by omega) (by omega) (by omega)).2.2; exact SP_ye r_LR r_FG (by omega) (by omega) (by omega) (by assumption) (by assumption) (by omega) (by first | omega | exact i_en (by assumption)) (by rw [← pn]; omega) (Or.inr ⟨by omega, by omega, rfl⟩); done) | (exfalso; omega; done) | (exfalso; contradiction; done))
              · skip
                have g59 := i_nle h41
                try have rlb := (RL_b r_RL r_RV).2.1
                have b60 := i_bd l1
                first | have e61 : (l2 + (1 : Int32)).toInt = l2.toInt + (1) := i_addk rfl (by omega) (by omega) | have b62 := i_bd (l2 + (1 : Int32))
                exact IH (128 - (l2 + (1 : Int32)).toInt).toNat (by omega) _ (l1) ((l2 + (1 : Int32))) rfl hF hV (by omega) (by omega) (by omega) (show (l2 + (1 : Int32)).toInt ≤ (m 94 64).toInt from by omega) r_SP r_RV r_RL r_LV r_LR (show qFg aa l1.toInt (l2 + (1 : Int32)).toNatClampNeg from by first | (exact rfl) | (exact SP_no r_LR r_FG (by omega) (by omega) (by omega) (Or.inl (by assumption))) | (exact SP_no r_LR r_FG (by omega) (by omega) (by omega) (Or.inr (Or.inl (by assumption)))) | (exact SP_no r_LR r_FG (by omega) (by omega) (by omega) (Or.inr (Or.inr (Or.inl (by omega))))) | (exact SP_no r_LR r_FG (by omega) (by omega) (by omega) (Or.inr (Or.inr (Or.inr (Or.inl (by first | omega | exact i_ez (by assumption))))))) | (have b := RL_b r_RL r_RV; have sb := SP_b (x := l2) r_LR (by omega) (by omega); have pm := i_mulk (x := m 122 l2.toNatClampNeg) (y := (100 : Int32)) (k := 100) rfl (by omega) (by omega); have pn := (i_muln (x := m 94 19) (y := m 94 18) (by omega) (by omega) (by omega) (by omega)).2.2; exact SP_no r_LR r_FG (by omega) (by omega) (by omega) (Or.inr (Or.inr (Or.inr (Or.inr (by rw [← pn]; omega))))); done) | (have b := RL_b r_RL r_RV; have sb := SP_b (x := l2) r_LR (by omega) (by omega); have pm := i_mulk (x := m 122 l2.toNatClampNeg) (y := (100 : Int32)) (k := 100) rfl (by omega) (by omega); have pn := (i_muln (x := m 94 19) (y := m 94 18) (by omega) (by omega) (by omega) (by omega)).2.2; exact SP_ye r_LR r_FG (by omega) (by omega) (by omega) (by assumption) (by assumption) (by omega) (by first | omega | exact i_en (by assumption)) (by rw [← pn]; omega) (Or.inl ⟨Or.inl (by omega), rfl⟩); done) | (have b := RL_b r_RL r_RV; have sb := SP_b (x := l2) r_LR (by omega) (by omega); have pm := i_mulk (x := m 122 l2.toNatClampNeg) (y := (100 : Int32)) (k := 100) rfl (by omega) (by omega); have pn := (i_muln (x := m 94 19) (y := m 94 18) (by omega) (by omega) (by omega) (by omega)).2.2; exact SP_ye r_LR r_FG (by omega) (by omega) (by omega) (by assumption) (by assumption) (by omega) (by first | omega | exact i_en (by assumption)) (by rw [← pn]; omega) (Or.inl ⟨Or.inr ⟨by omega, by omega⟩, rfl⟩); done) | (have b := RL_b r_RL r_RV; have sb := SP_b (x := l2) r_LR (by omega) (by omega); have pm := i_mulk (x := m 122 l2.toNatClampNeg) (y := (100 : Int32)) (k := 100) rfl (by omega) (by omega); have pn := (i_muln (x := m 94 19) (y := m 94 18) (by omega) (by omega) (by omega) (by omega)).2.2; exact SP_ye r_LR r_FG (by omega) (by omega) (by omega) (by assumption) (by assumption) (by omega) (by first | omega | exact i_en (by assumption)) (by rw [← pn]; omega) (Or.inr ⟨by omega, by omega, rfl⟩); done) | (exfalso; omega; done) | (exfalso; contradiction; done))
        · skip
          have g63 := i_ne h16
          try have rlb := (RL_b r_RL r_RV).2.1
          have b64 := i_bd l1
          first | have e65 : (l2 + (1 : Int32)).toInt = l2.toInt + (1) := i_addk rfl (by omega) (by omega) | have b66 := i_bd (l2 + (1 : Int32))
          exact IH (128 - (l2 + (1 : Int32)).toInt).toNat (by omega) _ (l1) ((l2 + (1 : Int32))) rfl hF hV (by omega) (by omega) (by omega) (show (l2 + (1 : Int32)).toInt ≤ (m 94 64).toInt from by omega) r_SP r_RV r_RL r_LV r_LR (show qFg aa l1.toInt (l2 + (1 : Int32)).toNatClampNeg from by first | (exact rfl) | (exact SP_no r_LR r_FG (by omega) (by omega) (by omega) (Or.inl (by assumption))) | (exact SP_no r_LR r_FG (by omega) (by omega) (by omega) (Or.inr (Or.inl (by assumption)))) | (exact SP_no r_LR r_FG (by omega) (by omega) (by omega) (Or.inr (Or.inr (Or.inl (by omega))))) | (exact SP_no r_LR r_FG (by omega) (by omega) (by omega) (Or.inr (Or.inr (Or.inr (Or.inl (by first | omega | exact i_ez (by assumption))))))) | (have b := RL_b r_RL r_RV; have sb := SP_b (x := l2) r_LR (by omega) (by omega); have pm := i_mulk (x := m 122 l2.toNatClampNeg) (y := (100 : Int32)) (k := 100) rfl (by omega) (by omega); have pn := (i_muln (x := m 94 19) (y := m 94 18) (by omega) (by omega) (by omega) (by omega)).2.2; exact SP_no r_LR r_FG (by omega) (by omega) (by omega) (Or.inr (Or.inr (Or.inr (Or.inr (by rw [← pn]; omega))))); done) | (have b := RL_b r_RL r_RV; have sb := SP_b (x := l2) r_LR (by omega) (by omega); have pm := i_mulk (x := m 122 l2.toNatClampNeg) (y := (100 : Int32)) (k := 100) rfl (by omega) (by omega); have pn := (i_muln (x := m 94 19) (y := m 94 18) (by omega) (by omega) (by omega) (by omega)).2.2; exact SP_ye r_LR r_FG (by omega) (by omega) (by omega) (by assumption) (by assumption) (by omega) (by first | omega | exact i_en (by assumption)) (by rw [← pn]; omega) (Or.inl ⟨Or.inl (by omega), rfl⟩); done) | (have b := RL_b r_RL r_RV; have sb := SP_b (x := l2) r_LR (by omega) (by omega); have pm := i_mulk (x := m 122 l2.toNatClampNeg) (y := (100 : Int32)) (k := 100) rfl (by omega) (by omega); have pn := (i_muln (x := m 94 19) (y := m 94 18) (by omega) (by omega) (by omega) (by omega)).2.2; exact SP_ye r_LR r_FG (by omega) (by omega) (by omega) (by assumption) (by assumption) (by omega) (by first | omega | exact i_en (by assumption)) (by rw [← pn]; omega) (Or.inl ⟨Or.inr ⟨by omega, by omega⟩, rfl⟩); done) | (have b := RL_b r_RL r_RV; have sb := SP_b (x := l2) r_LR (by omega) (by omega); have pm := i_mulk (x := m 122 l2.toNatClampNeg) (y := (100 : Int32)) (k := 100) rfl (by omega) (by omega); have pn := (i_muln (x := m 94 19) (y := m 94 18) (by omega) (by omega) (by omega) (by omega)).2.2; exact SP_ye r_LR r_FG (by omega) (by omega) (by omega) (by assumption) (by assumption) (by omega) (by first | omega | exact i_en (by assumption)) (by rw [← pn]; omega) (Or.inr ⟨by omega, by omega, rfl⟩); done) | (exfalso; omega; done) | (exfalso; contradiction; done))
      · skip
        have g67 := i_ne h11
        try have rlb := (RL_b r_RL r_RV).2.1
        have b68 := i_bd l1
        first | have e69 : (l2 + (1 : Int32)).toInt = l2.toInt + (1) := i_addk rfl (by omega) (by omega) | have b70 := i_bd (l2 + (1 : Int32))
        exact IH (128 - (l2 + (1 : Int32)).toInt).toNat (by omega) _ (l1) ((l2 + (1 : Int32))) rfl hF hV (by omega) (by omega) (by omega) (show (l2 + (1 : Int32)).toInt ≤ (m 94 64).toInt from by omega) r_SP r_RV r_RL r_LV r_LR (show qFg aa l1.toInt (l2 + (1 : Int32)).toNatClampNeg from by first | (exact rfl) | (exact SP_no r_LR r_FG (by omega) (by omega) (by omega) (Or.inl (by assumption))) | (exact SP_no r_LR r_FG (by omega) (by omega) (by omega) (Or.inr (Or.inl (by assumption)))) | (exact SP_no r_LR r_FG (by omega) (by omega) (by omega) (Or.inr (Or.inr (Or.inl (by omega))))) | (exact SP_no r_LR r_FG (by omega) (by omega) (by omega) (Or.inr (Or.inr (Or.inr (Or.inl (by first | omega | exact i_ez (by assumption))))))) | (have b := RL_b r_RL r_RV; have sb := SP_b (x := l2) r_LR (by omega) (by omega); have pm := i_mulk (x := m 122 l2.toNatClampNeg) (y := (100 : Int32)) (k := 100) rfl (by omega) (by omega); have pn := (i_muln (x := m 94 19) (y := m 94 18) (by omega) (by omega) (by omega) (by omega)).2.2; exact SP_no r_LR r_FG (by omega) (by omega) (by omega) (Or.inr (Or.inr (Or.inr (Or.inr (by rw [← pn]; omega))))); done) | (have b := RL_b r_RL r_RV; have sb := SP_b (x := l2) r_LR (by omega) (by omega); have pm := i_mulk (x := m 122 l2.toNatClampNeg) (y := (100 : Int32)) (k := 100) rfl (by omega) (by omega); have pn := (i_muln (x := m 94 19) (y := m 94 18) (by omega) (by omega) (by omega) (by omega)).2.2; exact SP_ye r_LR r_FG (by omega) (by omega) (by omega) (by assumption) (by assumption) (by omega) (by first | omega | exact i_en (by assumption)) (by rw [← pn]; omega) (Or.inl ⟨Or.inl (by omega), rfl⟩); done) | (have b := RL_b r_RL r_RV; have sb := SP_b (x := l2) r_LR (by omega) (by omega); have pm := i_mulk (x := m 122 l2.toNatClampNeg) (y := (100 : Int32)) (k := 100) rfl (by omega) (by omega); have pn := (i_muln (x := m 94 19) (y := m 94 18) (by omega) (by omega) (by omega) (by omega)).2.2; exact SP_ye r_LR r_FG (by omega) (by omega) (by omega) (by assumption) (by assumption) (by omega) (by first | omega | exact i_en (by assumption)) (by rw [← pn]; omega) (Or.inl ⟨Or.inr ⟨by omega, by omega⟩, rfl⟩); done) | (have b := RL_b r_RL r_RV; have sb := SP_b (x := l2) r_LR (by omega) (by omega); have pm := i_mulk (x := m 122 l2.toNatClampNeg) (y := (100 : Int32)) (k := 100) rfl (by omega) (by omega); have pn := (i_muln (x := m 94 19) (y := m 94 18) (by omega) (by omega) (by omega) (by omega)).2.2; exact SP_ye r_LR r_FG (by omega) (by omega) (by omega) (by assumption) (by assumption) (by omega) (by first | omega | exact i_en (by assumption)) (by rw [← pn]; omega) (Or.inr ⟨by omega, by omega, rfl⟩); done) | (exfalso; omega; done) | (exfalso; contradiction; done))
theorem sp_236rz {X : Nat × (Nat → Int32)} {P : Option ma_V → (Nat → Nat → Int32) → Prop} {aa : Nat→Nat→Int32} {tt : Int} {m : Nat → Nat → Int32}  (hV : zV m) (r_RV : qRv aa) (r_RL : qRL aa (m 94 18) (m 94 64) (m 94 19) (m 94 63) (m 116)) (r_LV : qLv aa tt) (r_LR : qLR aa (m 94 64) (m 94 19) (m 94 18) (m 94 63) (m 122) (m 123) (m 124)) (KZ : ∀ v m₉, zV (zov wr_236 m m₉) → (v.toInt = -1 ∨ (0 ≤ v.toInt ∧ v.toInt < (m 94 64).toInt ∧ (m 124) v.toNatClampNeg = 0)) → (qEq v.toInt (rFw aa)) → P (some (.inl v)) (zov wr_236 m m₉)) : zm X 0 0 236 0 [(0, .inr (.inr (some 94)))] m P := by
  have K : ∀ v m₉, zF wr_236 m m₉ → zV m₉ → (v.toInt = -1 ∨ (0 ≤ v.toInt ∧ v.toInt < (m₉ 94 64).toInt ∧ (m₉ 124) v.toNatClampNeg = 0)) → (qEq v.toInt (rFw aa)) → P (some (.inl v)) m₉ := by
    intro v m₉ hf z q0 q1
    have e := zov_eq hf
    rw [e] at z ⊢
    try rw [e] at q0
    try rw [e] at q1
    exact KZ v m₉ z q0 q1
  refine g_236_0  ?_
  try have rlb := (RL_b r_RL r_RV).2.1
  have li1 : (-1 : Int32).toInt = -1 := rfl
  have li2 : (0 : Int32).toInt = 0 := rfl
  have f3 : 0 ≤ (m 94 64).toInt ∧ (m 94 64).toInt ≤ 93 := rs_94_64 (m := m) hV
  exact lp_236rz_4 hV K _ _ ((-1 : Int32)) ((0 : Int32)) rfl zF_rfl hV (by omega) (by omega) (by omega) (show (0 : Int32).toInt ≤ (m 94 64).toInt from by omega) (show (-1 : Int32).toInt = -1 ∨ (0 ≤ (-1 : Int32).toInt ∧ (-1 : Int32).toInt < (m 94 64).toInt ∧ (m 124) (-1 : Int32).toNatClampNeg = 0) from by first | (exact Or.inl (by decide)) | (exact Or.inr ⟨by omega, by omega, by assumption⟩) | (exfalso; omega; done) | (exfalso; contradiction; done)) r_RV r_RL r_LV r_LR (show qFg aa (-1 : Int32).toInt (0 : Int32).toNatClampNeg from by first | (exact rfl) | (exfalso; omega; done) | (exfalso; contradiction; done))

