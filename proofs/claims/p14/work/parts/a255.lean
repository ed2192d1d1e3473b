/-! from 95.s22 -/
/-! REGIONS, the class (written by wip/tools/gen15z.py) -/
theorem g_40_91_sz_0 {X : Nat × (Nat → Int32)} {d w : Nat} {S : ma_S} {Q : Option ma_V ⊕ Nat → ma_S → Prop} (z : Int32) (hd : 5 ≤ d) (hw : 183 ≤ w) (hS : zT S) (h : if z ≤ (mI S 91 2) then (if (mI S 91 5) < 0 then (ma_wp X (d - 1) (w - 22) 42 0 [(0, .inr (.inr (some 91)))] [] S (zi (fun v2 S1 => zT S1 ∧ (if (2 : Int32) ≤ v2 then (ma_wp X d w 40 35 [(0, .inr (.inr (some 91))), (1, .inl z)] [] S1 Q) else (ma_wp X (d - 1) (w - 23) 43 0 [(0, .inr (.inr (some 91)))] [] S1 (zi (fun v4 S3 => zT S3 ∧ (ma_wp X d w 40 35 [(0, .inr (.inr (some 91))), (1, .inl z)] [] S3 Q)) (fun x S9 => Q (.inr x) S9))))) (fun x S9 => Q (.inr x) S9))) else (if (93 : Int32) ≤ (mI S 91 5) then (ma_wp X (d - 1) (w - 22) 42 0 [(0, .inr (.inr (some 91)))] [] S (zi (fun v6 S5 => zT S5 ∧ (if (2 : Int32) ≤ v6 then (ma_wp X d w 40 35 [(0, .inr (.inr (some 91))), (1, .inl z)] [] S5 Q) else (ma_wp X (d - 1) (w - 23) 43 0 [(0, .inr (.inr (some 91)))] [] S5 (zi (fun v8 S7 => zT S7 ∧ (ma_wp X d w 40 35 [(0, .inr (.inr (some 91))), (1, .inl z)] [] S7 Q)) (fun x S9 => Q (.inr x) S9))))) (fun x S9 => Q (.inr x) S9))) else ((0 ≤ (mI S 91 5) ∧ (mI S 91 5).toNatClampNeg < 93) ∧ (if (mI S 91 2) < ((mI S 92 (mI S 91 5).toNatClampNeg) + z) then (ma_wp X (d - 1) (w - 22) 42 0 [(0, .inr (.inr (some 91)))] [] S (zi (fun v10 S9 => zT S9 ∧ (if (2 : Int32) ≤ v10 then (ma_wp X d w 40 35 [(0, .inr (.inr (some 91))), (1, .inl z)] [] S9 Q) else (ma_wp X (d - 1) (w - 23) 43 0 [(0, .inr (.inr (some 91)))] [] S9 (zi (fun v12 S11 => zT S11 ∧ (ma_wp X d w 40 35 [(0, .inr (.inr (some 91))), (1, .inl z)] [] S11 Q)) (fun x S9 => Q (.inr x) S9))))) (fun x S9 => Q (.inr x) S9))) else (ma_wp X d w 40 35 [(0, .inr (.inr (some 91))), (1, .inl z)] [] S Q))))) else (Q (.inl (some (.inl (-1 : Int32)))) S)) : ma_wp X d w 40 0 [(0, .inr (.inr (some 91))), (1, .inl z)] [] S Q := by
  refine zw_push hm_40 dX4_findRoom_0 (v := .inl z) rfl ?_
  refine zw_push hm_40 dX4_findRoom_1 (v := .inr (.inr (some 91))) rfl ?_
  refine zw_gf hm_40 dX4_findRoom_2 (v := .inl (mI S 91 2)) (zT_is hS s_91) (zT_t hS s_91) rfl f_4_18_4 rfl ?_
  refine zw_if2 hm_40 dX4_findRoom_5 (t := 10) rfl zc2_le ?_ ?_
  · intro hc
    rw [if_pos hc] at h
    refine zw_push hm_40 dX4_findRoom_10 (v := .inr (.inr (some 91))) rfl ?_
    refine zw_push hm_40 dX4_findRoom_11 (v := .inr (.inr (some 91))) rfl ?_
    refine zw_gf hm_40 dX4_findRoom_12 (v := .inl (mI S 91 5)) (zT_is hS s_91) (zT_t hS s_91) rfl f_4_34_4 rfl ?_
    refine zw_push hm_40 dX4_findRoom_15 (v := .inl z) rfl ?_
    refine zw_cv hm_40 dX4_findRoom_16 v_4_43_4 hm_41 [.inl z, .inl (mI S 91 5)] [] rfl (zT_rt hS s_91 rfl) ⟨by omega, by omega⟩ rfl ?_
    show ma_wp X (d - 1) (w - 22) 41 0 [(0, .inr (.inr (some 91))), (1, .inl (mI S 91 5)), (2, .inl z)] [] S _
    refine zw_push hm_41 dX4_fits_0 (v := .inl (mI S 91 5)) rfl ?_
    refine zw_if0 hm_41 dX4_fits_1 (t := 29) rfl zc0_lt ?_ ?_
    · intro hc
      rw [if_pos hc] at h
      refine zw_push hm_41 dX4_fits_29 (v := .inl (0 : Int32)) rfl ?_
      refine zw_bret hm_41 dX4_fits_30 (by decide) ?_
      show ma_wp X d w 40 19 [(0, .inr (.inr (some 91))), (1, .inl z)] [.inl (0 : Int32)] S _
      refine zw_if0 hm_40 dX4_findRoom_19 (t := 35) rfl zc0_ne (fun hc => absurd hc (by decide)) (fun _ => ?_)
      refine zw_push hm_40 dX4_findRoom_22 (v := .inr (.inr (some 91))) rfl ?_
      refine zw_cv hm_40 dX4_findRoom_23 v_4_47_4 hm_42 [] [] rfl (zT_rt hS s_91 rfl) ⟨by omega, by omega⟩ rfl (zw_mono h (zi_go ?_ ?_))
      · intro v2 S1 hv
        obtain ⟨hS1, h⟩ := hv
        refine zw_push hm_40 dX4_findRoom_26 (v := .inl (2 : Int32)) rfl ?_
        refine zw_if2 hm_40 dX4_findRoom_27 (t := 35) rfl zc2_ge ?_ ?_
        · intro hc
          rw [if_pos hc] at h
          exact h
        · intro hc
          rw [if_neg hc] at h
          refine zw_push hm_40 dX4_findRoom_30 (v := .inr (.inr (some 91))) rfl ?_
          refine zw_cv hm_40 dX4_findRoom_31 v_4_51_4 hm_43 [] [] rfl (zT_rt hS1 s_91 rfl) ⟨by omega, by omega⟩ rfl (zw_mono h (zi_go ?_ ?_))
          · intro v4 S3 hv
            obtain ⟨hS3, h⟩ := hv
            refine zw_stk hm_40 dX4_findRoom_34 (st₉ := []) rfl rfl ?_
            exact h
          · intro x S9 hx
            exact ⟨by decide, hx⟩
      · intro x S9 hx
        exact ⟨by decide, hx⟩
    · intro hc
      rw [if_neg hc] at h
      refine zw_push hm_41 dX4_fits_4 (v := .inl (mI S 91 5)) rfl ?_
      refine zw_push hm_41 dX4_fits_5 (v := .inl (93 : Int32)) rfl ?_
      refine zw_if2 hm_41 dX4_fits_7 (t := 29) rfl zc2_ge ?_ ?_
      · intro hc
        rw [if_pos hc] at h
        refine zw_push hm_41 dX4_fits_29 (v := .inl (0 : Int32)) rfl ?_
        refine zw_bret hm_41 dX4_fits_30 (by decide) ?_
        show ma_wp X d w 40 19 [(0, .inr (.inr (some 91))), (1, .inl z)] [.inl (0 : Int32)] S _
        refine zw_if0 hm_40 dX4_findRoom_19 (t := 35) rfl zc0_ne (fun hc => absurd hc (by decide)) (fun _ => ?_)
        refine zw_push hm_40 dX4_findRoom_22 (v := .inr (.inr (some 91))) rfl ?_
        refine zw_cv hm_40 dX4_findRoom_23 v_4_47_4 hm_42 [] [] rfl (zT_rt hS s_91 rfl) ⟨by omega, by omega⟩ rfl (zw_mono h (zi_go ?_ ?_))
        · intro v6 S5 hv
          obtain ⟨hS5, h⟩ := hv
          refine zw_push hm_40 dX4_findRoom_26 (v := .inl (2 : Int32)) rfl ?_
          refine zw_if2 hm_40 dX4_findRoom_27 (t := 35) rfl zc2_ge ?_ ?_
          · intro hc
            rw [if_pos hc] at h
            exact h
          · intro hc
            rw [if_neg hc] at h
            refine zw_push hm_40 dX4_findRoom_30 (v := .inr (.inr (some 91))) rfl ?_
            refine zw_cv hm_40 dX4_findRoom_31 v_4_51_4 hm_43 [] [] rfl (zT_rt hS5 s_91 rfl) ⟨by omega, by omega⟩ rfl (zw_mono h (zi_go ?_ ?_))
            · intro v8 S7 hv
              obtain ⟨hS7, h⟩ := hv
              refine zw_stk hm_40 dX4_findRoom_34 (st₉ := []) rfl rfl ?_
              exact h
            · intro x S9 hx
              exact ⟨by decide, hx⟩
        · intro x S9 hx
          exact ⟨by decide, hx⟩
      · intro hc
        rw [if_neg hc] at h
        refine zw_push hm_41 dX4_fits_10 (v := .inr (.inr (some 91))) rfl ?_
        refine zw_gf hm_41 dX4_fits_11 (v := .inr (.inr (some 92))) (zT_is hS s_91) (zT_t hS s_91) rfl f_4_9_4 (zT_f hS r_91_7) ?_
        refine zw_push hm_41 dX4_fits_14 (v := .inl (mI S 91 5)) rfl ?_
        obtain ⟨hg, h⟩ := h
        refine zw_ia hm_41 dX4_fits_15 (zT_is hS s_92) (zT_h hS s_92) rfl hg ?_
        show ma_wp X (d - 1) (w - 22) 41 16 [(0, .inr (.inr (some 91))), (1, .inl (mI S 91 5)), (2, .inl z)] [.inl (mI S 92 (mI S 91 5).toNatClampNeg)] S _
        refine zw_push hm_41 dX4_fits_16 (v := .inl z) rfl ?_
        refine zw_stk hm_41 dX4_fits_17 (st₉ := [.inl ((mI S 92 (mI S 91 5).toNatClampNeg) + z)]) rfl rfl ?_
        refine zw_push hm_41 dX4_fits_18 (v := .inr (.inr (some 91))) rfl ?_
        refine zw_gf hm_41 dX4_fits_19 (v := .inl (mI S 91 2)) (zT_is hS s_91) (zT_t hS s_91) rfl f_4_18_4 rfl ?_
        refine zw_if2 hm_41 dX4_fits_22 (t := 29) rfl zc2_gt ?_ ?_
        · intro hc
          rw [if_pos hc] at h
          refine zw_push hm_41 dX4_fits_29 (v := .inl (0 : Int32)) rfl ?_
          refine zw_bret hm_41 dX4_fits_30 (by decide) ?_
          show ma_wp X d w 40 19 [(0, .inr (.inr (some 91))), (1, .inl z)] [.inl (0 : Int32)] S _
          refine zw_if0 hm_40 dX4_findRoom_19 (t := 35) rfl zc0_ne (fun hc => absurd hc (by decide)) (fun _ => ?_)
          refine zw_push hm_40 dX4_findRoom_22 (v := .inr (.inr (some 91))) rfl ?_
          refine zw_cv hm_40 dX4_findRoom_23 v_4_47_4 hm_42 [] [] rfl (zT_rt hS s_91 rfl) ⟨by omega, by omega⟩ rfl (zw_mono h (zi_go ?_ ?_))
          · intro v10 S9 hv
            obtain ⟨hS9, h⟩ := hv
            refine zw_push hm_40 dX4_findRoom_26 (v := .inl (2 : Int32)) rfl ?_
            refine zw_if2 hm_40 dX4_findRoom_27 (t := 35) rfl zc2_ge ?_ ?_
            · intro hc
              rw [if_pos hc] at h
              exact h
            · intro hc
              rw [if_neg hc] at h
              refine zw_push hm_40 dX4_findRoom_30 (v := .inr (.inr (some 91))) rfl ?_
              refine zw_cv hm_40 dX4_findRoom_31 v_4_51_4 hm_43 [] [] rfl (zT_rt hS9 s_91 rfl) ⟨by omega, by omega⟩ rfl (zw_mono h (zi_go ?_ ?_))
              · intro v12 S11 hv
                obtain ⟨hS11, h⟩ := hv
                refine zw_stk hm_40 dX4_findRoom_34 (st₉ := []) rfl rfl ?_
                exact h
              · intro x S9 hx
                exact ⟨by decide, hx⟩
          · intro x S9 hx
            exact ⟨by decide, hx⟩
        · intro hc
          rw [if_neg hc] at h
          refine zw_push hm_41 dX4_fits_25 (v := .inl (1 : Int32)) rfl ?_
          refine zw_goto hm_41 dX4_fits_26 (t := 30) rfl ?_
          refine zw_bret hm_41 dX4_fits_30 (by decide) ?_
          show ma_wp X d w 40 19 [(0, .inr (.inr (some 91))), (1, .inl z)] [.inl (1 : Int32)] S _
          refine zw_if0 hm_40 dX4_findRoom_19 (t := 35) rfl zc0_ne (fun _ => ?_) (fun hc => absurd (by decide) hc)
          exact h
  · intro hc
    rw [if_neg hc] at h
    refine zw_push hm_40 dX4_findRoom_8 (v := .inl (-1 : Int32)) rfl ?_
    exact zw_iret hm_40 dX4_findRoom_9 h
theorem g_40_91_sz_35 {X : Nat × (Nat → Int32)} {d w : Nat} {S : ma_S} {Q : Option ma_V ⊕ Nat → ma_S → Prop} (l1 : Int32) (hd : 5 ≤ d) (hw : 183 ≤ w) (hS : zT S) (h : if (mI S 91 5) < 0 then (ma_wp X (d - 1) (w - 21) 52 0 [(0, .inr (.inr (some 91)))] [] S (zi (fun v2 S1 => zT S1 ∧ (if v2 = (-1 : Int32) then (ma_wp X d w 40 62 [(0, .inr (.inr (some 91))), (1, .inl l1)] [] (ma_put S1 91 5 (.inl (mI S1 91 5))) Q) else (ma_wp X d w 40 62 [(0, .inr (.inr (some 91))), (1, .inl l1)] [] (ma_put S1 91 5 (.inl v2)) Q))) (fun x S9 => Q (.inr x) S9))) else (if (93 : Int32) ≤ (mI S 91 5) then (ma_wp X (d - 1) (w - 21) 52 0 [(0, .inr (.inr (some 91)))] [] S (zi (fun v4 S3 => zT S3 ∧ (if v4 = (-1 : Int32) then (ma_wp X d w 40 62 [(0, .inr (.inr (some 91))), (1, .inl l1)] [] (ma_put S3 91 5 (.inl (mI S3 91 5))) Q) else (ma_wp X d w 40 62 [(0, .inr (.inr (some 91))), (1, .inl l1)] [] (ma_put S3 91 5 (.inl v4)) Q))) (fun x S9 => Q (.inr x) S9))) else ((0 ≤ (mI S 91 5) ∧ (mI S 91 5).toNatClampNeg < 93) ∧ (if (mI S 91 2) < ((mI S 92 (mI S 91 5).toNatClampNeg) + l1) then (ma_wp X (d - 1) (w - 21) 52 0 [(0, .inr (.inr (some 91)))] [] S (zi (fun v6 S5 => zT S5 ∧ (if v6 = (-1 : Int32) then (ma_wp X d w 40 62 [(0, .inr (.inr (some 91))), (1, .inl l1)] [] (ma_put S5 91 5 (.inl (mI S5 91 5))) Q) else (ma_wp X d w 40 62 [(0, .inr (.inr (some 91))), (1, .inl l1)] [] (ma_put S5 91 5 (.inl v6)) Q))) (fun x S9 => Q (.inr x) S9))) else (ma_wp X d w 40 62 [(0, .inr (.inr (some 91))), (1, .inl l1)] [] S Q))))) : ma_wp X d w 40 35 [(0, .inr (.inr (some 91))), (1, .inl l1)] [] S Q := by
  refine zw_push hm_40 dX4_findRoom_35 (v := .inr (.inr (some 91))) rfl ?_
  refine zw_push hm_40 dX4_findRoom_36 (v := .inr (.inr (some 91))) rfl ?_
  refine zw_gf hm_40 dX4_findRoom_37 (v := .inl (mI S 91 5)) (zT_is hS s_91) (zT_t hS s_91) rfl f_4_34_4 rfl ?_
  refine zw_push hm_40 dX4_findRoom_40 (v := .inl l1) rfl ?_
  refine zw_cv hm_40 dX4_findRoom_41 v_4_43_4 hm_41 [.inl l1, .inl (mI S 91 5)] [] rfl (zT_rt hS s_91 rfl) ⟨by omega, by omega⟩ rfl ?_
  show ma_wp X (d - 1) (w - 22) 41 0 [(0, .inr (.inr (some 91))), (1, .inl (mI S 91 5)), (2, .inl l1)] [] S _
  refine zw_push hm_41 dX4_fits_0 (v := .inl (mI S 91 5)) rfl ?_
  refine zw_if0 hm_41 dX4_fits_1 (t := 29) rfl zc0_lt ?_ ?_
  · intro hc
    rw [if_pos hc] at h
    refine zw_push hm_41 dX4_fits_29 (v := .inl (0 : Int32)) rfl ?_
    refine zw_bret hm_41 dX4_fits_30 (by decide) ?_
    show ma_wp X d w 40 44 [(0, .inr (.inr (some 91))), (1, .inl l1)] [.inl (0 : Int32)] S _
    refine zw_if0 hm_40 dX4_findRoom_44 (t := 62) rfl zc0_ne (fun hc => absurd hc (by decide)) (fun _ => ?_)
    refine zw_push hm_40 dX4_findRoom_47 (v := .inr (.inr (some 91))) rfl ?_
    refine zw_push hm_40 dX4_findRoom_48 (v := .inr (.inr (some 91))) rfl ?_
    refine zw_cv hm_40 dX4_findRoom_49 v_4_54_4 hm_52 [] [.inr (.inr (some 91))] rfl (zT_rt hS s_91 rfl) ⟨by omega, by omega⟩ rfl (zw_mono h (zi_go ?_ ?_))
    · intro v2 S1 hv
      obtain ⟨hS1, h⟩ := hv
      refine zw_push hm_40 dX4_findRoom_52 (v := .inr (.inr (some 91))) rfl ?_
      refine zw_gf hm_40 dX4_findRoom_53 (v := .inl (mI S1 91 5)) (zT_is hS1 s_91) (zT_t hS1 s_91) rfl f_4_34_4 rfl ?_
      refine zw_cs hm_40 dX4_findRoom_56 pn_4_57 sl_4_57 hm_54 [.inl (mI S1 91 5), .inl v2] [.inr (.inr (some 91))] rfl ⟨by omega, by omega⟩ rfl ?_
      show ma_wp X (d - 1) (w - 21) 54 0 [(0, .inl v2), (1, .inl (mI S1 91 5))] [] S1 _
      refine zw_push hm_54 dX4_orElse_0 (v := .inl v2) rfl ?_
      refine zw_push hm_54 dX4_orElse_1 (v := .inl (-1 : Int32)) rfl ?_
      refine zw_if2 hm_54 dX4_orElse_2 (t := 9) rfl zc2_ne ?_ ?_
      · intro hc
        rw [if_neg hc] at h
        refine zw_push hm_54 dX4_orElse_9 (v := .inl v2) rfl ?_
        refine zw_iret hm_54 dX4_orElse_10 ?_
        show ma_wp X d w 40 59 [(0, .inr (.inr (some 91))), (1, .inl l1)] [.inl v2, .inr (.inr (some 91))] S1 _
        refine zw_pf hm_40 dX4_findRoom_59 (zT_is hS1 s_91) (zT_t hS1 s_91) p_4_34_4 zk_int ?_
        exact h
      · intro hc
        rw [if_pos (Classical.not_not.mp hc)] at h
        refine zw_push hm_54 dX4_orElse_5 (v := .inl (mI S1 91 5)) rfl ?_
        refine zw_goto hm_54 dX4_orElse_6 (t := 10) rfl ?_
        refine zw_iret hm_54 dX4_orElse_10 ?_
        show ma_wp X d w 40 59 [(0, .inr (.inr (some 91))), (1, .inl l1)] [.inl (mI S1 91 5), .inr (.inr (some 91))] S1 _
        refine zw_pf hm_40 dX4_findRoom_59 (zT_is hS1 s_91) (zT_t hS1 s_91) p_4_34_4 zk_int ?_
        exact h
    · intro x S9 hx
      exact ⟨by decide, hx⟩
  · intro hc
    rw [if_neg hc] at h
    refine zw_push hm_41 dX4_fits_4 (v := .inl (mI S 91 5)) rfl ?_
    refine zw_push hm_41 dX4_fits_5 (v := .inl (93 : Int32)) rfl ?_
    refine zw_if2 hm_41 dX4_fits_7 (t := 29) rfl zc2_ge ?_ ?_
    · intro hc
      rw [if_pos hc] at h
      refine zw_push hm_41 dX4_fits_29 (v := .inl (0 : Int32)) rfl ?_
      refine zw_bret hm_41 dX4_fits_30 (by decide) ?_
      show ma_wp X d w 40 44 [(0, .inr (.inr (some 91))), (1, .inl l1)] [.inl (0 : Int32)] S _
      refine zw_if0 hm_40 dX4_findRoom_44 (t := 62) rfl zc0_ne (fun hc => absurd hc (by decide)) (fun _ => ?_)
      refine zw_push hm_40 dX4_findRoom_47 (v := .inr (.inr (some 91))) rfl ?_
      refine zw_push hm_40 dX4_findRoom_48 (v := .inr (.inr (some 91))) rfl ?_
      refine zw_cv hm_40 dX4_findRoom_49 v_4_54_4 hm_52 [] [.inr (.inr (some 91))] rfl (zT_rt hS s_91 rfl) ⟨by omega, by omega⟩ rfl (zw_mono h (zi_go ?_ ?_))
      · intro v4 S3 hv
        obtain ⟨hS3, h⟩ := hv
        refine zw_push hm_40 dX4_findRoom_52 (v := .inr (.inr (some 91))) rfl ?_
        refine zw_gf hm_40 dX4_findRoom_53 (v := .inl (mI S3 91 5)) (zT_is hS3 s_91) (zT_t hS3 s_91) rfl f_4_34_4 rfl ?_
        refine zw_cs hm_40 dX4_findRoom_56 pn_4_57 sl_4_57 hm_54 [.inl (mI S3 91 5), .inl v4] [.inr (.inr (some 91))] rfl ⟨by omega, by omega⟩ rfl ?_
        show ma_wp X (d - 1) (w - 21) 54 0 [(0, .inl v4), (1, .inl (mI S3 91 5))] [] S3 _
        refine zw_push hm_54 dX4_orElse_0 (v := .inl v4) rfl ?_
        refine zw_push hm_54 dX4_orElse_1 (v := .inl (-1 : Int32)) rfl ?_
        refine zw_if2 hm_54 dX4_orElse_2 (t := 9) rfl zc2_ne ?_ ?_
        · intro hc
          rw [if_neg hc] at h
          refine zw_push hm_54 dX4_orElse_9 (v := .inl v4) rfl ?_
          refine zw_iret hm_54 dX4_orElse_10 ?_
          show ma_wp X d w 40 59 [(0, .inr (.inr (some 91))), (1, .inl l1)] [.inl v4, .inr (.inr (some 91))] S3 _
          refine zw_pf hm_40 dX4_findRoom_59 (zT_is hS3 s_91) (zT_t hS3 s_91) p_4_34_4 zk_int ?_
          exact h
        · intro hc
          rw [if_pos (Classical.not_not.mp hc)] at h
          refine zw_push hm_54 dX4_orElse_5 (v := .inl (mI S3 91 5)) rfl ?_
          refine zw_goto hm_54 dX4_orElse_6 (t := 10) rfl ?_
          refine zw_iret hm_54 dX4_orElse_10 ?_
          show ma_wp X d w 40 59 [(0, .inr (.inr (some 91))), (1, .inl l1)] [.inl (mI S3 91 5), .inr (.inr (some 91))] S3 _
          refine zw_pf hm_40 dX4_findRoom_59 (zT_is hS3 s_91) (zT_t hS3 s_91) p_4_34_4 zk_int ?_
          exact h
      · intro x S9 hx
        exact ⟨by decide, hx⟩
    · intro hc
      rw [if_neg hc] at h
      refine zw_push hm_41 dX4_fits_10 (v := .inr (.inr (some 91))) rfl ?_
      refine zw_gf hm_41 dX4_fits_11 (v := .inr (.inr (some 92))) (zT_is hS s_91) (zT_t hS s_91) rfl f_4_9_4 (zT_f hS r_91_7) ?_
      refine zw_push hm_41 dX4_fits_14 (v := .inl (mI S 91 5)) rfl ?_
      obtain ⟨hg, h⟩ := h
      refine zw_ia hm_41 dX4_fits_15 (zT_is hS s_92) (zT_h hS s_92) rfl hg ?_
      show ma_wp X (d - 1) (w - 22) 41 16 [(0, .inr (.inr (some 91))), (1, .inl (mI S 91 5)), (2, .inl l1)] [.inl (mI S 92 (mI S 91 5).toNatClampNeg)] S _
      refine zw_push hm_41 dX4_fits_16 (v := .inl l1) rfl ?_
      refine zw_stk hm_41 dX4_fits_17 (st₉ := [.inl ((mI S 92 (mI S 91 5).toNatClampNeg) + l1)]) rfl rfl ?_
      refine zw_push hm_41 dX4_fits_18 (v := .inr (.inr (some 91))) rfl ?_
      refine zw_gf hm_41 dX4_fits_19 (v := .inl (mI S 91 2)) (zT_is hS s_91) (zT_t hS s_91) rfl f_4_18_4 rfl ?_
      refine zw_if2 hm_41 dX4_fits_22 (t := 29) rfl zc2_gt ?_ ?_
      · intro hc
        rw [if_pos hc] at h
        refine zw_push hm_41 dX4_fits_29 (v := .inl (0 : Int32)) rfl ?_
        refine zw_bret hm_41 dX4_fits_30 (by decide) ?_
        show ma_wp X d w 40 44 [(0, .inr (.inr (some 91))), (1, .inl l1)] [.inl (0 : Int32)] S _
        refine zw_if0 hm_40 dX4_findRoom_44 (t := 62) rfl zc0_ne (fun hc => absurd hc (by decide)) (fun _ => ?_)
        refine zw_push hm_40 dX4_findRoom_47 (v := .inr (.inr (some 91))) rfl ?_
        refine zw_push hm_40 dX4_findRoom_48 (v := .inr (.inr (some 91))) rfl ?_
        refine zw_cv hm_40 dX4_findRoom_49 v_4_54_4 hm_52 [] [.inr (.inr (some 91))] rfl (zT_rt hS s_91 rfl) ⟨by omega, by omega⟩ rfl (zw_mono h (zi_go ?_ ?_))
        · intro v6 S5 hv
          obtain ⟨hS5, h⟩ := hv
          refine zw_push hm_40 dX4_findRoom_52 (v := .inr (.inr (some 91))) rfl ?_
          refine zw_gf hm_40 dX4_findRoom_53 (v := .inl (mI S5 91 5)) (zT_is hS5 s_91) (zT_t hS5 s_91) rfl f_4_34_4 rfl ?_
          refine zw_cs hm_40 dX4_findRoom_56 pn_4_57 sl_4_57 hm_54 [.inl (mI S5 91 5), .inl v6] [.inr (.inr (some 91))] rfl ⟨by omega, by omega⟩ rfl ?_
          show ma_wp X (d - 1) (w - 21) 54 0 [(0, .inl v6), (1, .inl (mI S5 91 5))] [] S5 _
          refine zw_push hm_54 dX4_orElse_0 (v := .inl v6) rfl ?_
          refine zw_push hm_54 dX4_orElse_1 (v := .inl (-1 : Int32)) rfl ?_
          refine zw_if2 hm_54 dX4_orElse_2 (t := 9) rfl zc2_ne ?_ ?_
          · intro hc
            rw [if_neg hc] at h
            refine zw_push hm_54 dX4_orElse_9 (v := .inl v6) rfl ?_
            refine zw_iret hm_54 dX4_orElse_10 ?_
            show ma_wp X d w 40 59 [(0, .inr (.inr (some 91))), (1, .inl l1)] [.inl v6, .inr (.inr (some 91))] S5 _
            refine zw_pf hm_40 dX4_findRoom_59 (zT_is hS5 s_91) (zT_t hS5 s_91) p_4_34_4 zk_int ?_
            exact h
          · intro hc
            rw [if_pos (Classical.not_not.mp hc)] at h
            refine zw_push hm_54 dX4_orElse_5 (v := .inl (mI S5 91 5)) rfl ?_
            refine zw_goto hm_54 dX4_orElse_6 (t := 10) rfl ?_
            refine zw_iret hm_54 dX4_orElse_10 ?_
            show ma_wp X d w 40 59 [(0, .inr (.inr (some 91))), (1, .inl l1)] [.inl (mI S5 91 5), .inr (.inr (some 91))] S5 _
            refine zw_pf hm_40 dX4_findRoom_59 (zT_is hS5 s_91) (zT_t hS5 s_91) p_4_34_4 zk_int ?_
            exact h
        · intro x S9 hx
          exact ⟨by decide, hx⟩
      · intro hc
        rw [if_neg hc] at h
        refine zw_push hm_41 dX4_fits_25 (v := .inl (1 : Int32)) rfl ?_
        refine zw_goto hm_41 dX4_fits_26 (t := 30) rfl ?_
        refine zw_bret hm_41 dX4_fits_30 (by decide) ?_
        show ma_wp X d w 40 44 [(0, .inr (.inr (some 91))), (1, .inl l1)] [.inl (1 : Int32)] S _
        refine zw_if0 hm_40 dX4_findRoom_44 (t := 62) rfl zc0_ne (fun _ => ?_) (fun hc => absurd (by decide) hc)
        exact h
theorem g_40_91_sz_62 {X : Nat × (Nat → Int32)} {d w : Nat} {S : ma_S} {Q : Option ma_V ⊕ Nat → ma_S → Prop} (l1 : Int32) (hd : 5 ≤ d) (hw : 183 ≤ w) (hS : zT S) (h : if (mI S 91 5) < 0 then (Q (.inl (some (.inl (-1 : Int32)))) S) else (if (93 : Int32) ≤ (mI S 91 5) then (Q (.inl (some (.inl (-1 : Int32)))) S) else ((0 ≤ (mI S 91 5) ∧ (mI S 91 5).toNatClampNeg < 93) ∧ (if (mI S 91 2) < ((mI S 92 (mI S 91 5).toNatClampNeg) + l1) then (Q (.inl (some (.inl (-1 : Int32)))) S) else (if (mI S 91 5) < 0 then (Q (.inl (some (.inl (((mI S 91 5) * (mI S 91 2)) + (0 : Int32))))) S) else (if (93 : Int32) ≤ (mI S 91 5) then (Q (.inl (some (.inl (((mI S 91 5) * (mI S 91 2)) + (0 : Int32))))) S) else ((0 ≤ (mI S 91 5) ∧ (mI S 91 5).toNatClampNeg < 93) ∧ (Q (.inl (some (.inl (((mI S 91 5) * (mI S 91 2)) + (mI S 92 (mI S 91 5).toNatClampNeg))))) S)))))))) : ma_wp X d w 40 62 [(0, .inr (.inr (some 91))), (1, .inl l1)] [] S Q := by
  refine zw_push hm_40 dX4_findRoom_62 (v := .inr (.inr (some 91))) rfl ?_
  refine zw_push hm_40 dX4_findRoom_63 (v := .inr (.inr (some 91))) rfl ?_
  refine zw_gf hm_40 dX4_findRoom_64 (v := .inl (mI S 91 5)) (zT_is hS s_91) (zT_t hS s_91) rfl f_4_34_4 rfl ?_
  refine zw_push hm_40 dX4_findRoom_67 (v := .inl l1) rfl ?_
  refine zw_cv hm_40 dX4_findRoom_68 v_4_43_4 hm_41 [.inl l1, .inl (mI S 91 5)] [] rfl (zT_rt hS s_91 rfl) ⟨by omega, by omega⟩ rfl ?_
  show ma_wp X (d - 1) (w - 22) 41 0 [(0, .inr (.inr (some 91))), (1, .inl (mI S 91 5)), (2, .inl l1)] [] S _
  refine zw_push hm_41 dX4_fits_0 (v := .inl (mI S 91 5)) rfl ?_
  refine zw_if0 hm_41 dX4_fits_1 (t := 29) rfl zc0_lt ?_ ?_
  · intro hc
    rw [if_pos hc] at h
    refine zw_push hm_41 dX4_fits_29 (v := .inl (0 : Int32)) rfl ?_
    refine zw_bret hm_41 dX4_fits_30 (by decide) ?_
    show ma_wp X d w 40 71 [(0, .inr (.inr (some 91))), (1, .inl l1)] [.inl (0 : Int32)] S _
    refine zw_if0 hm_40 dX4_findRoom_71 (t := 81) rfl zc0_eq (fun _ => ?_) (fun hc => absurd (by decide) hc)
    refine zw_push hm_40 dX4_findRoom_81 (v := .inl (-1 : Int32)) rfl ?_
    exact zw_iret hm_40 dX4_findRoom_82 h
  · intro hc
    rw [if_neg hc] at h
    refine zw_push hm_41 dX4_fits_4 (v := .inl (mI S 91 5)) rfl ?_
    refine zw_push hm_41 dX4_fits_5 (v := .inl (93 : Int32)) rfl ?_
    refine zw_if2 hm_41 dX4_fits_7 (t := 29) rfl zc2_ge ?_ ?_
    · intro hc
      rw [if_pos hc] at h
      refine zw_push hm_41 dX4_fits_29 (v := .inl (0 : Int32)) rfl ?_
      refine zw_bret hm_41 dX4_fits_30 (by decide) ?_
      show ma_wp X d w 40 71 [(0, .inr (.inr (some 91))), (1, .inl l1)] [.inl (0 : Int32)] S _
      refine zw_if0 hm_40 dX4_findRoom_71 (t := 81) rfl zc0_eq (fun _ => ?_) (fun hc => absurd (by decide) hc)
      refine zw_push hm_40 dX4_findRoom_81 (v := .inl (-1 : Int32)) rfl ?_
      exact zw_iret hm_40 dX4_findRoom_82 h
    · intro hc
      rw [if_neg hc] at h
      refine zw_push hm_41 dX4_fits_10 (v := .inr (.inr (some 91))) rfl ?_
      refine zw_gf hm_41 dX4_fits_11 (v := .inr (.inr (some 92))) (zT_is hS s_91) (zT_t hS s_91) rfl f_4_9_4 (zT_f hS r_91_7) ?_
      refine zw_push hm_41 dX4_fits_14 (v := .inl (mI S 91 5)) rfl ?_
      obtain ⟨hg, h⟩ := h
      refine zw_ia hm_41 dX4_fits_15 (zT_is hS s_92) (zT_h hS s_92) rfl hg ?_
      show ma_wp X (d - 1) (w - 22) 41 16 [(0, .inr (.inr (some 91))), (1, .inl (mI S 91 5)), (2, .inl l1)] [.inl (mI S 92 (mI S 91 5).toNatClampNeg)] S _
      refine zw_push hm_41 dX4_fits_16 (v := .inl l1) rfl ?_
      refine zw_stk hm_41 dX4_fits_17 (st₉ := [.inl ((mI S 92 (mI S 91 5).toNatClampNeg) + l1)]) rfl rfl ?_
      refine zw_push hm_41 dX4_fits_18 (v := .inr (.inr (some 91))) rfl ?_
      refine zw_gf hm_41 dX4_fits_19 (v := .inl (mI S 91 2)) (zT_is hS s_91) (zT_t hS s_91) rfl f_4_18_4 rfl ?_
      refine zw_if2 hm_41 dX4_fits_22 (t := 29) rfl zc2_gt ?_ ?_
      · intro hc
        rw [if_pos hc] at h
        refine zw_push hm_41 dX4_fits_29 (v := .inl (0 : Int32)) rfl ?_
        refine zw_bret hm_41 dX4_fits_30 (by decide) ?_
        show ma_wp X d w 40 71 [(0, .inr (.inr (some 91))), (1, .inl l1)] [.inl (0 : Int32)] S _
        refine zw_if0 hm_40 dX4_findRoom_71 (t := 81) rfl zc0_eq (fun _ => ?_) (fun hc => absurd (by decide) hc)
        refine zw_push hm_40 dX4_findRoom_81 (v := .inl (-1 : Int32)) rfl ?_
        exact zw_iret hm_40 dX4_findRoom_82 h
      · intro hc
        rw [if_neg hc] at h
        refine zw_push hm_41 dX4_fits_25 (v := .inl (1 : Int32)) rfl ?_
        refine zw_goto hm_41 dX4_fits_26 (t := 30) rfl ?_
        refine zw_bret hm_41 dX4_fits_30 (by decide) ?_
        show ma_wp X d w 40 71 [(0, .inr (.inr (some 91))), (1, .inl l1)] [.inl (1 : Int32)] S _
        refine zw_if0 hm_40 dX4_findRoom_71 (t := 81) rfl zc0_eq (fun hc => absurd hc (by decide)) (fun _ => ?_)
        refine zw_push hm_40 dX4_findRoom_74 (v := .inr (.inr (some 91))) rfl ?_
        refine zw_cv hm_40 dX4_findRoom_75 v_4_60_4 hm_55 [] [] rfl (zT_rt hS s_91 rfl) ⟨by omega, by omega⟩ rfl ?_
        show ma_wp X (d - 1) (w - 20) 55 0 [(0, .inr (.inr (some 91)))] [] S _
        refine zw_push hm_55 dX4_topPlace_0 (v := .inr (.inr (some 91))) rfl ?_
        refine zw_gf hm_55 dX4_topPlace_1 (v := .inl (mI S 91 5)) (zT_is hS s_91) (zT_t hS s_91) rfl f_4_34_4 rfl ?_
        refine zw_push hm_55 dX4_topPlace_4 (v := .inr (.inr (some 91))) rfl ?_
        refine zw_gf hm_55 dX4_topPlace_5 (v := .inl (mI S 91 2)) (zT_is hS s_91) (zT_t hS s_91) rfl f_4_18_4 rfl ?_
        refine zw_stk hm_55 dX4_topPlace_8 (st₉ := [.inl ((mI S 91 5) * (mI S 91 2))]) rfl rfl ?_
        refine zw_push hm_55 dX4_topPlace_9 (v := .inr (.inr (some 91))) rfl ?_
        refine zw_push hm_55 dX4_topPlace_10 (v := .inr (.inr (some 91))) rfl ?_
        refine zw_gf hm_55 dX4_topPlace_11 (v := .inl (mI S 91 5)) (zT_is hS s_91) (zT_t hS s_91) rfl f_4_34_4 rfl ?_
        refine zw_cv hm_55 dX4_topPlace_14 v_4_93_4 hm_50 [.inl (mI S 91 5)] [.inl ((mI S 91 5) * (mI S 91 2))] rfl (zT_rt hS s_91 rfl) ⟨by omega, by omega⟩ rfl ?_
        show ma_wp X ((d - 1) - 1) ((w - 20) - 21) 50 0 [(0, .inr (.inr (some 91))), (1, .inl (mI S 91 5))] [] S _
        refine zw_push hm_50 dX4_topOf_0 (v := .inl (mI S 91 5)) rfl ?_
        refine zw_if0 hm_50 dX4_topOf_1 (t := 19) rfl zc0_lt ?_ ?_
        · intro hc
          rw [if_pos hc] at h
          refine zw_push hm_50 dX4_topOf_19 (v := .inl (0 : Int32)) rfl ?_
          refine zw_iret hm_50 dX4_topOf_20 ?_
          show ma_wp X (d - 1) (w - 20) 55 17 [(0, .inr (.inr (some 91)))] [.inl (0 : Int32), .inl ((mI S 91 5) * (mI S 91 2))] S _
          refine zw_stk hm_55 dX4_topPlace_17 (st₉ := [.inl (((mI S 91 5) * (mI S 91 2)) + (0 : Int32))]) rfl rfl ?_
          refine zw_iret hm_55 dX4_topPlace_18 ?_
          show ma_wp X d w 40 78 [(0, .inr (.inr (some 91))), (1, .inl l1)] [.inl (((mI S 91 5) * (mI S 91 2)) + (0 : Int32))] S _
          refine zw_goto hm_40 dX4_findRoom_78 (t := 82) rfl ?_
          exact zw_iret hm_40 dX4_findRoom_82 h
        · intro hc
          rw [if_neg hc] at h
          refine zw_push hm_50 dX4_topOf_4 (v := .inl (mI S 91 5)) rfl ?_
          refine zw_push hm_50 dX4_topOf_5 (v := .inl (93 : Int32)) rfl ?_
          refine zw_if2 hm_50 dX4_topOf_7 (t := 19) rfl zc2_ge ?_ ?_
          · intro hc
            rw [if_pos hc] at h
            refine zw_push hm_50 dX4_topOf_19 (v := .inl (0 : Int32)) rfl ?_
            refine zw_iret hm_50 dX4_topOf_20 ?_
            show ma_wp X (d - 1) (w - 20) 55 17 [(0, .inr (.inr (some 91)))] [.inl (0 : Int32), .inl ((mI S 91 5) * (mI S 91 2))] S _
            refine zw_stk hm_55 dX4_topPlace_17 (st₉ := [.inl (((mI S 91 5) * (mI S 91 2)) + (0 : Int32))]) rfl rfl ?_
            refine zw_iret hm_55 dX4_topPlace_18 ?_
            show ma_wp X d w 40 78 [(0, .inr (.inr (some 91))), (1, .inl l1)] [.inl (((mI S 91 5) * (mI S 91 2)) + (0 : Int32))] S _
            refine zw_goto hm_40 dX4_findRoom_78 (t := 82) rfl ?_
            exact zw_iret hm_40 dX4_findRoom_82 h
          · intro hc
            rw [if_neg hc] at h
            refine zw_push hm_50 dX4_topOf_10 (v := .inr (.inr (some 91))) rfl ?_
            refine zw_gf hm_50 dX4_topOf_11 (v := .inr (.inr (some 92))) (zT_is hS s_91) (zT_t hS s_91) rfl f_4_9_4 (zT_f hS r_91_7) ?_
            refine zw_push hm_50 dX4_topOf_14 (v := .inl (mI S 91 5)) rfl ?_
            obtain ⟨hg, h⟩ := h
            refine zw_ia hm_50 dX4_topOf_15 (zT_is hS s_92) (zT_h hS s_92) rfl hg ?_
            show ma_wp X ((d - 1) - 1) ((w - 20) - 21) 50 16 [(0, .inr (.inr (some 91))), (1, .inl (mI S 91 5))] [.inl (mI S 92 (mI S 91 5).toNatClampNeg)] S _
            refine zw_goto hm_50 dX4_topOf_16 (t := 20) rfl ?_
            refine zw_iret hm_50 dX4_topOf_20 ?_
            show ma_wp X (d - 1) (w - 20) 55 17 [(0, .inr (.inr (some 91)))] [.inl (mI S 92 (mI S 91 5).toNatClampNeg), .inl ((mI S 91 5) * (mI S 91 2))] S _
            refine zw_stk hm_55 dX4_topPlace_17 (st₉ := [.inl (((mI S 91 5) * (mI S 91 2)) + (mI S 92 (mI S 91 5).toNatClampNeg))]) rfl rfl ?_
            refine zw_iret hm_55 dX4_topPlace_18 ?_
            show ma_wp X d w 40 78 [(0, .inr (.inr (some 91))), (1, .inl l1)] [.inl (((mI S 91 5) * (mI S 91 2)) + (mI S 92 (mI S 91 5).toNatClampNeg))] S _
            refine zw_goto hm_40 dX4_findRoom_78 (t := 82) rfl ?_
            exact zw_iret hm_40 dX4_findRoom_82 h
theorem lp_40_91_sz_62 {X : Nat × (Nat → Int32)} {d w : Nat} {f : Nat → Nat → Int32} {r : Nat → Nat → Option Nat} {C Z N : Nat} {Q : Option ma_V ⊕ Nat → ma_S → Prop} {ab : Nat→Nat→Int32} {z : Int32} (hd : 5 ≤ d) (hw : 183 ≤ w) (K : ∀ v S₉, zL91 f r C Z N S₉ → (-1 ≤ v.toInt ∧ v.toInt ≤ 300000 ∧ (v.toInt < 0 ∨ (mI S₉ 92 (mI S₉ 91 5).toNatClampNeg).toInt ≤ 1500)) → (xB S₉ (mR S₉ 70)) → (aZ S₉ = rRs ab z.toInt ∧ v.toInt = rRp ab z.toInt) → (v.toInt = -1 ∨ (0 ≤ v.toInt ∧ v.toInt + z.toInt ≤ 1500)) → (qRv (aZ S₉)) → Q (.inl (some (.inl v))) S₉) : ∀ (n : Nat) (S : ma_S) (l1 : Int32), ((0 : Int)).toNat = n → zL91 f r C Z N S → (1 ≤ l1.toInt) → (l1.toInt ≤ 61) → (xB S (mR S 70)) → (l1 = z) → (¬ (ab 87 3).toInt < l1.toInt) → (qRv (aZ S)) → (aZ S = rR2 (rR1 ab l1.toInt) l1.toInt) → ma_wp X d w 40 62 [(0, .inr (.inr (some 91))), (1, .inl l1)] [] S Q := by
  intro n
  induction n using Nat.strongRecOn with
  | _ n IH =>
    intro S l1 hmu hI  hi0 hi1 hi2 hi3 hi4 hi5 hi6
    refine g_40_91_sz_62 l1 (by omega) (by omega) (zG_T hI) ?_
    have f1 := zG_s hI (0) (92) (c := 91) (k := 5) (by decide)
    have li2 : (0 : Int32).toInt = 0 := rfl
    refine zd (fun h3 => ?_) (fun h3 => ?_)
    · skip
      have g4 := i_lt h3
      have li5 : (-1 : Int32).toInt = -1 := rfl
      first | have f6 := zG_a hI 93 (0) (3000) (c := 92) (k := (mI S 91 5).toNatClampNeg) (by decide) (i_ix (n := 93) (by omega) (by omega)).2 | have b7 := i_bd (mI S 92 (mI S 91 5).toNatClampNeg)
      exact K ((-1 : Int32)) _ hI (show -1 ≤ (-1 : Int32).toInt ∧ (-1 : Int32).toInt ≤ 300000 ∧ ((-1 : Int32).toInt < 0 ∨ (mI S 92 (mI S 91 5).toNatClampNeg).toInt ≤ 1500) from by omega) (show xB S (mR S 70) from by first | (exact xB_x (xC_o (W := 75) hi2).2)) (show aZ S = rRs ab z.toInt ∧ (-1 : Int32).toInt = rRp ab z.toInt from by first | (have p3 := congrArg Int32.toInt (show aZ S 87 3 = mI S 91 2 from rfl); have p9 := congrArg Int32.toInt (show aZ S 87 9 = mI S 91 5 from rfl); have p92 : (aZ S 92 (aZ S 87 9).toNatClampNeg).toInt = (mI S 92 (mI S 91 5).toNatClampNeg).toInt := congrArg Int32.toInt (aZ_9 (Or.inl rfl)); have h39 := hi5.2.2.1.2.2.1; have h38 := hi5.2.2.1.2.1; exfalso; omega) | (have p3 := congrArg Int32.toInt (show aZ S 87 3 = mI S 91 2 from rfl); have p9 := congrArg Int32.toInt (show aZ S 87 9 = mI S 91 5 from rfl); have p92 : (aZ S 92 (aZ S 87 9).toNatClampNeg).toInt = (mI S 92 (mI S 91 5).toNatClampNeg).toInt := congrArg Int32.toInt (aZ_9 (Or.inl rfl)); have h39 := hi5.2.2.1.2.2.1; have h38 := hi5.2.2.1.2.1; have g := Rs_g hi4 rfl rfl; rw [← hi6] at g; rw [← hi3]; refine ⟨g.1.symm, ?_⟩; rw [g.2.2 (by unfold rFi; omega)]; rfl) | (have p3 := congrArg Int32.toInt (show aZ S 87 3 = mI S 91 2 from rfl); have p9 := congrArg Int32.toInt (show aZ S 87 9 = mI S 91 5 from rfl); have p92 : (aZ S 92 (aZ S 87 9).toNatClampNeg).toInt = (mI S 92 (mI S 91 5).toNatClampNeg).toInt := congrArg Int32.toInt (aZ_9 (Or.inl rfl)); have h39 := hi5.2.2.1.2.2.1; have h38 := hi5.2.2.1.2.1; have g := Rs_g hi4 rfl rfl; rw [← hi6] at g; rw [← hi3]; refine ⟨g.1.symm, ?_⟩; have fi : rFi (aZ S) l1.toInt := (by unfold rFi; omega); have bd := Rp_bd hi5 (by omega) fi; have mm := i_muln (x := mI S 91 5) (y := mI S 91 2) (by omega) (by omega) (by omega) (by omega); rw [g.2.1 fi, i_add (by omega) (by omega), mm.2.2, p3, p9, p92]) | (have p3 := congrArg Int32.toInt (show aZ S 87 3 = mI S 91 2 from rfl); have p9 := congrArg Int32.toInt (show aZ S 87 9 = mI S 91 5 from rfl); have p92 : (aZ S 92 (aZ S 87 9).toNatClampNeg).toInt = (mI S 92 (mI S 91 5).toNatClampNeg).toInt := congrArg Int32.toInt (aZ_9 (Or.inl rfl)); have h39 := hi5.2.2.1.2.2.1; have h38 := hi5.2.2.1.2.1; exfalso; omega)) (show (-1 : Int32).toInt = -1 ∨ (0 ≤ (-1 : Int32).toInt ∧ (-1 : Int32).toInt + z.toInt ≤ 1500) from by first | (exact Or.inl rfl) | (have p3 := congrArg Int32.toInt (show aZ S 87 3 = mI S 91 2 from rfl); have p9 := congrArg Int32.toInt (show aZ S 87 9 = mI S 91 5 from rfl); have p92 : (aZ S 92 (aZ S 87 9).toNatClampNeg).toInt = (mI S 92 (mI S 91 5).toNatClampNeg).toInt := congrArg Int32.toInt (aZ_9 (Or.inl rfl)); have h39 := hi5.2.2.1.2.2.1; have h38 := hi5.2.2.1.2.1; exfalso; omega) | (have p3 := congrArg Int32.toInt (show aZ S 87 3 = mI S 91 2 from rfl); have p9 := congrArg Int32.toInt (show aZ S 87 9 = mI S 91 5 from rfl); have p92 : (aZ S 92 (aZ S 87 9).toNatClampNeg).toInt = (mI S 92 (mI S 91 5).toNatClampNeg).toInt := congrArg Int32.toInt (aZ_9 (Or.inl rfl)); have h39 := hi5.2.2.1.2.2.1; have h38 := hi5.2.2.1.2.1; have fi : rFi (aZ S) l1.toInt := (by unfold rFi; omega); have bd := Rp_bd hi5 (by omega) fi; have mm := i_muln (x := mI S 91 5) (y := mI S 91 2) (by omega) (by omega) (by omega) (by omega); rw [← hi3, i_add (by omega) (by omega), mm.2.2, ← p3, ← p9, ← p92]; exact Or.inr bd) | (have p3 := congrArg Int32.toInt (show aZ S 87 3 = mI S 91 2 from rfl); have p9 := congrArg Int32.toInt (show aZ S 87 9 = mI S 91 5 from rfl); have p92 : (aZ S 92 (aZ S 87 9).toNatClampNeg).toInt = (mI S 92 (mI S 91 5).toNatClampNeg).toInt := congrArg Int32.toInt (aZ_9 (Or.inl rfl)); have h39 := hi5.2.2.1.2.2.1; have h38 := hi5.2.2.1.2.1; exfalso; omega)) (show qRv (aZ S) from by first | (exact hi5))
    · skip
      have g8 := i_nlt h3
      have li9 : (93 : Int32).toInt = 93 := rfl
      refine zd (fun h10 => ?_) (fun h10 => ?_)
      · skip
        have g11 := i_le h10
        have li12 : (-1 : Int32).toInt = -1 := rfl
        first | have f13 := zG_a hI 93 (0) (3000) (c := 92) (k := (mI S 91 5).toNatClampNeg) (by decide) (i_ix (n := 93) (by omega) (by omega)).2 | have b14 := i_bd (mI S 92 (mI S 91 5).toNatClampNeg)
        exact K ((-1 : Int32)) _ hI (show -1 ≤ (-1 : Int32).toInt ∧ (-1 : Int32).toInt ≤ 300000 ∧ ((-1 : Int32).toInt < 0 ∨ (mI S 92 (mI S 91 5).toNatClampNeg).toInt ≤ 1500) from by omega) (show xB S (mR S 70) from by first | (exact xB_x (xC_o (W := 75) hi2).2)) (show aZ S = rRs ab z.toInt ∧ (-1 : Int32).toInt = rRp ab z.toInt from by first | (have p3 := congrArg Int32.toInt (show aZ S 87 3 = mI S 91 2 from rfl); have p9 := congrArg Int32.toInt (show aZ S 87 9 = mI S 91 5 from rfl); have p92 : (aZ S 92 (aZ S 87 9).toNatClampNeg).toInt = (mI S 92 (mI S 91 5).toNatClampNeg).toInt := congrArg Int32.toInt (aZ_9 (Or.inl rfl)); have h39 := hi5.2.2.1.2.2.1; have h38 := hi5.2.2.1.2.1; exfalso; omega) | (have p3 := congrArg Int32.toInt (show aZ S 87 3 = mI S 91 2 from rfl); have p9 := congrArg Int32.toInt (show aZ S 87 9 = mI S 91 5 from rfl); have p92 : (aZ S 92 (aZ S 87 9).toNatClampNeg).toInt = (mI S 92 (mI S 91 5).toNatClampNeg).toInt := congrArg Int32.toInt (aZ_9 (Or.inl rfl)); have h39 := hi5.2.2.1.2.2.1; have h38 := hi5.2.2.1.2.1; have g := Rs_g hi4 rfl rfl; rw [← hi6] at g; rw [← hi3]; refine ⟨g.1.symm, ?_⟩; rw [g.2.2 (by unfold rFi; omega)]; rfl) | (have p3 := congrArg Int32.toInt (show aZ S 87 3 = mI S 91 2 from rfl); have p9 := congrArg Int32.toInt (show aZ S 87 9 = mI S 91 5 from rfl); have p92 : (aZ S 92 (aZ S 87 9).toNatClampNeg).toInt = (mI S 92 (mI S 91 5).toNatClampNeg).toInt := congrArg Int32.toInt (aZ_9 (Or.inl rfl)); have h39 := hi5.2.2.1.2.2.1; have h38 := hi5.2.2.1.2.1; have g := Rs_g hi4 rfl rfl; rw [← hi6] at g; rw [← hi3]; refine ⟨g.1.symm, ?_⟩; have fi : rFi (aZ S) l1.toInt := (by unfold rFi; omega); have bd := Rp_bd hi5 (by omega) fi; have mm := i_muln (x := mI S 91 5) (y := mI S 91 2) (by omega) (by omega) (by omega) (by omega); rw [g.2.1 fi, i_add (by omega) (by omega), mm.2.2, p3, p9, p92]) | (have p3 := congrArg Int32.toInt (show aZ S 87 3 = mI S 91 2 from rfl); have p9 := congrArg Int32.toInt (show aZ S 87 9 = mI S 91 5 from rfl); have p92 : (aZ S 92 (aZ S 87 9).toNatClampNeg).toInt = (mI S 92 (mI S 91 5).toNatClampNeg).toInt := congrArg Int32.toInt (aZ_9 (Or.inl rfl)); have h39 := hi5.2.2.1.2.2.1; have h38 := hi5.2.2.1.2.1; exfalso; omega)) (show (-1 : Int32).toInt = -1 ∨ (0 ≤ (-1 : Int32).toInt ∧ (-1 : Int32).toInt + z.toInt ≤ 1500) from by first | (exact Or.inl rfl) | (have p3 := congrArg Int32.toInt (show aZ S 87 3 = mI S 91 2 from rfl); have p9 := congrArg Int32.toInt (show aZ S 87 9 = mI S 91 5 from rfl); have p92 : (aZ S 92 (aZ S 87 9).toNatClampNeg).toInt = (mI S 92 (mI S 91 5).toNatClampNeg).toInt := congrArg Int32.toInt (aZ_9 (Or.inl rfl)); have h39 := hi5.2.2.1.2.2.1; have h38 := hi5.2.2.1.2.1; exfalso; omega) | (have p3 := congrArg Int32.toInt (show aZ S 87 3 = mI S 91 2 from rfl); have p9 := congrArg Int32.toInt (show aZ S 87 9 = mI S 91 5 from rfl); have p92 : (aZ S 92 (aZ S 87 9).toNatClampNeg).toInt = (mI S 92 (mI S 91 5).toNatClampNeg).toInt := congrArg Int32.toInt (aZ_9 (Or.inl rfl)); have h39 := hi5.2.2.1.2.2.1; have h38 := hi5.2.2.1.2.1; have fi : rFi (aZ S) l1.toInt := (by unfold rFi; omega); have bd := Rp_bd hi5 (by omega) fi; have mm := i_muln (x := mI S 91 5) (y := mI S 91 2) (by omega) (by omega) (by omega) (by omega); rw [← hi3, i_add (by omega) (by omega), mm.2.2, ← p3, ← p9, ← p92]; exact Or.inr bd) | (have p3 := congrArg Int32.toInt (show aZ S 87 3 = mI S 91 2 from rfl); have p9 := congrArg Int32.toInt (show aZ S 87 9 = mI S 91 5 from rfl); have p92 : (aZ S 92 (aZ S 87 9).toNatClampNeg).toInt = (mI S 92 (mI S 91 5).toNatClampNeg).toInt := congrArg Int32.toInt (aZ_9 (Or.inl rfl)); have h39 := hi5.2.2.1.2.2.1; have h38 := hi5.2.2.1.2.1; exfalso; omega)) (show qRv (aZ S) from by first | (exact hi5))
      · skip
        have g15 := i_nle h10
        refine ⟨i_ix (by omega) (by omega), ?_⟩
        have f16 := zG_s hI (0) (1500) (c := 91) (k := 2) (by decide)
        first | have f17 := zG_a hI 93 (0) (3000) (c := 92) (k := (mI S 91 5).toNatClampNeg) (by decide) (i_ix (n := 93) (by omega) (by omega)).2 | have b18 := i_bd (mI S 92 (mI S 91 5).toNatClampNeg)
        have b19 := i_bd l1
        first | have e20 : ((mI S 92 (mI S 91 5).toNatClampNeg) + l1).toInt = (mI S 92 (mI S 91 5).toNatClampNeg).toInt + l1.toInt := i_add (by omega) (by omega) | have b21 := i_bd ((mI S 92 (mI S 91 5).toNatClampNeg) + l1)
        refine zd (fun h22 => ?_) (fun h22 => ?_)
        · skip
          have g23 := i_lt h22
          have li24 : (-1 : Int32).toInt = -1 := rfl
          exact K ((-1 : Int32)) _ hI (show -1 ≤ (-1 : Int32).toInt ∧ (-1 : Int32).toInt ≤ 300000 ∧ ((-1 : Int32).toInt < 0 ∨ (mI S 92 (mI S 91 5).toNatClampNeg).toInt ≤ 1500) from by omega) (show xB S (mR S 70) from by first | (exact xB_x (xC_o (W := 75) hi2).2)) (show aZ S = rRs ab z.toInt ∧ (-1 : Int32).toInt = rRp ab z.toInt from by first | (have p3 := congrArg Int32.toInt (show aZ S 87 3 = mI S 91 2 from rfl); have p9 := congrArg Int32.toInt (show aZ S 87 9 = mI S 91 5 from rfl); have p92 : (aZ S 92 (aZ S 87 9).toNatClampNeg).toInt = (mI S 92 (mI S 91 5).toNatClampNeg).toInt := congrArg Int32.toInt (aZ_9 (Or.inl rfl)); have h39 := hi5.2.2.1.2.2.1; have h38 := hi5.2.2.1.2.1; exfalso; omega) | (have p3 := congrArg Int32.toInt (show aZ S 87 3 = mI S 91 2 from rfl); have p9 := congrArg Int32.toInt (show aZ S 87 9 = mI S 91 5 from rfl); have p92 : (aZ S 92 (aZ S 87 9).toNatClampNeg).toInt = (mI S 92 (mI S 91 5).toNatClampNeg).toInt := congrArg Int32.toInt (aZ_9 (Or.inl rfl)); have h39 := hi5.2.2.1.2.2.1; have h38 := hi5.2.2.1.2.1; have g := Rs_g hi4 rfl rfl; rw [← hi6] at g; rw [← hi3]; refine ⟨g.1.symm, ?_⟩; rw [g.2.2 (by unfold rFi; omega)]; rfl) | (have p3 := congrArg Int32.toInt (show aZ S 87 3 = mI S 91 2 from rfl); have p9 := congrArg Int32.toInt (show aZ S 87 9 = mI S 91 5 from rfl); have p92 : (aZ S 92 (aZ S 87 9).toNatClampNeg).toInt = (mI S 92 (mI S 91 5).toNatClampNeg).toInt := congrArg Int32.toInt (aZ_9 (Or.inl rfl)); have h39 := hi5.2.2.1.2.2.1; have h38 := hi5.2.2.1.2.1; have g := Rs_g hi4 rfl rfl; rw [← hi6] at g; rw [← hi3]; refine ⟨g.1.symm, ?_⟩; have fi : rFi (aZ S) l1.toInt := (by unfold rFi; omega); have bd := Rp_bd hi5 (by omega) fi; have mm := i_muln (x := mI S 91 5) (y := mI S 91 2) (by omega) (by omega) (by omega) (by omega); rw [g.2.1 fi, i_add (by omega) (by omega), mm.2.2, p3, p9, p92]) | (have p3 := congrArg Int32.toInt (show aZ S 87 3 = mI S 91 2 from rfl); have p9 := congrArg Int32.toInt (show aZ S 87 9 = mI S 91 5 from rfl); have p92 : (aZ S 92 (aZ S 87 9).toNatClampNeg).toInt = (mI S 92 (mI S 91 5).toNatClampNeg).toInt := congrArg Int32.toInt (aZ_9 (Or.inl rfl)); have h39 := hi5.2.2.1.2.2.1; have h38 := hi5.2.2.1.2.1; exfalso; omega)) (show (-1 : Int32).toInt = -1 ∨ (0 ≤ (-1 : Int32).toInt ∧ (-1 : Int32).toInt + z.toInt ≤ 1500) from by first | (exact Or.inl rfl) | (have p3 := congrArg Int32.toInt (show aZ S 87 3 = mI S 91 2 from rfl); have p9 := congrArg Int32.toInt (show aZ S 87 9 = mI S 91 5 from rfl); have p92 : (aZ S 92 (aZ S 87 9).toNatClampNeg).toInt = (mI S 92 (mI S 91 5).toNatClampNeg).toInt := congrArg Int32.toInt (aZ_9 (Or.inl rfl)); have h39 := hi5.2.2.1.2.2.1; have h38 := hi5.2.2.1.2.1; exfalso; omega) | (have p3 := congrArg Int32.toInt (show aZ S 87 3 = mI S 91 2 from rfl); have p9 := congrArg Int32.toInt (show aZ S 87 9 = mI S 91 5 from rfl); have p92 : (aZ S 92 (aZ S 87 9).toNatClampNeg).toInt = (mI S 92 (mI S 91 5).toNatClampNeg).toInt := congrArg Int32.toInt (aZ_9 (Or.inl rfl)); have h39 := hi5.2.2.1.2.2.1; have h38 := hi5.2.2.1.2.1; have fi : rFi (aZ S) l1.toInt := (by unfold rFi; omega); have bd := Rp_bd hi5 (by omega) fi; have mm := i_muln (x := mI S 91 5) (y := mI S 91 2) (by omega) (by omega) (by omega) (by omega); rw [← hi3, i_add (by omega) (by omega), mm.2.2, ← p3, ← p9, ← p92]; exact Or.inr bd) | (have p3 := congrArg Int32.toInt (show aZ S 87 3 = mI S 91 2 from rfl); have p9 := congrArg Int32.toInt (show aZ S 87 9 = mI S 91 5 from rfl); have p92 : (aZ S 92 (aZ S 87 9).toNatClampNeg).toInt = (mI S 92 (mI S 91 5).toNatClampNeg).toInt := congrArg Int32.toInt (aZ_9 (Or.inl rfl)); have h39 := hi5.2.2.1.2.2.1; have h38 := hi5.2.2.1.2.1; exfalso; omega)) (show qRv (aZ S) from by first | (exact hi5))
        · skip
          have g25 := i_nlt h22
          refine zd (fun h26 => ?_) (fun h26 => ?_)
          · skip
            have g27 := i_lt h26
            first | have f28 := i_muln (x := (mI S 91 5)) (y := (mI S 91 2)) (by omega) (by omega) (by omega) (by omega) | have b29 := i_bd ((mI S 91 5) * (mI S 91 2))
            first | have e30 : (((mI S 91 5) * (mI S 91 2)) + (0 : Int32)).toInt = ((mI S 91 5) * (mI S 91 2)).toInt + (0) := i_addk rfl (by omega) (by omega) | have b31 := i_bd (((mI S 91 5) * (mI S 91 2)) + (0 : Int32))
            exact K ((((mI S 91 5) * (mI S 91 2)) + (0 : Int32))) _ hI (show -1 ≤ (((mI S 91 5) * (mI S 91 2)) + (0 : Int32)).toInt ∧ (((mI S 91 5) * (mI S 91 2)) + (0 : Int32)).toInt ≤ 300000 ∧ ((((mI S 91 5) * (mI S 91 2)) + (0 : Int32)).toInt < 0 ∨ (mI S 92 (mI S 91 5).toNatClampNeg).toInt ≤ 1500) from by omega) (show xB S (mR S 70) from by first | (exact xB_x (xC_o (W := 75) hi2).2)) (show aZ S = rRs ab z.toInt ∧ (((mI S 91 5) * (mI S 91 2)) + (0 : Int32)).toInt = rRp ab z.toInt from by first | (have p3 := congrArg Int32.toInt (show aZ S 87 3 = mI S 91 2 from rfl); have p9 := congrArg Int32.toInt (show aZ S 87 9 = mI S 91 5 from rfl); have p92 : (aZ S 92 (aZ S 87 9).toNatClampNeg).toInt = (mI S 92 (mI S 91 5).toNatClampNeg).toInt := congrArg Int32.toInt (aZ_9 (Or.inl rfl)); have h39 := hi5.2.2.1.2.2.1; have h38 := hi5.2.2.1.2.1; exfalso; omega) | (have p3 := congrArg Int32.toInt (show aZ S 87 3 = mI S 91 2 from rfl); have p9 := congrArg Int32.toInt (show aZ S 87 9 = mI S 91 5 from rfl); have p92 : (aZ S 92 (aZ S 87 9).toNatClampNeg).toInt = (mI S 92 (mI S 91 5).toNatClampNeg).toInt := congrArg Int32.toInt (aZ_9 (Or.inl rfl)); have h39 := hi5.2.2.1.2.2.1; have h38 := hi5.2.2.1.2.1; have g := Rs_g hi4 rfl rfl; rw [← hi6] at g; rw [← hi3]; refine ⟨g.1.symm, ?_⟩; rw [g.2.2 (by unfold rFi; omega)]; rfl) | (have p3 := congrArg Int32.toInt (show aZ S 87 3 = mI S 91 2 from rfl); have p9 := congrArg Int32.toInt (show aZ S 87 9 = mI S 91 5 from rfl); have p92 : (aZ S 92 (aZ S 87 9).toNatClampNeg).toInt = (mI S 92 (mI S 91 5).toNatClampNeg).toInt := congrArg Int32.toInt (aZ_9 (Or.inl rfl)); have h39 := hi5.2.2.1.2.2.1; have h38 := hi5.2.2.1.2.1; have g := Rs_g hi4 rfl rfl; rw [← hi6] at g; rw [← hi3]; refine ⟨g.1.symm, ?_⟩; have fi : rFi (aZ S) l1.toInt := (by unfold rFi; omega); have bd := Rp_bd hi5 (by omega) fi; have mm := i_muln (x := mI S 91 5) (y := mI S 91 2) (by omega) (by omega) (by omega) (by omega); rw [g.2.1 fi, i_add (by omega) (by omega), mm.2.2, p3, p9, p92]) | (have p3 := congrArg Int32.toInt (show aZ S 87 3 = mI S 91 2 from rfl); have p9 := congrArg Int32.toInt (show aZ S 87 9 = mI S 91 5 from rfl); have p92 : (aZ S 92 (aZ S 87 9).toNatClampNeg).toInt = (mI S 92 (mI S 91 5).toNatClampNeg).toInt := congrArg Int32.toInt (aZ_9 (Or.inl rfl)); have h39 := hi5.2.2.1.2.2.1; have h38 := hi5.2.2.1.2.1; exfalso; omega)) (show (((mI S 91 5) * (mI S 91 2)) + (0 : Int32)).toInt = -1 ∨ (0 ≤ (((mI S 91 5) * (mI S 91 2)) + (0 : Int32)).toInt ∧ (((mI S 91 5) * (mI S 91 2)) + (0 : Int32)).toInt + z.toInt ≤ 1500) from by first | (exact Or.inl rfl) | (have p3 := congrArg Int32.toInt (show aZ S 87 3 = mI S 91 2 from rfl); have p9 := congrArg Int32.toInt (show aZ S 87 9 = mI S 91 5 from rfl); have p92 : (aZ S 92 (aZ S 87 9).toNatClampNeg).toInt = (mI S 92 (mI S 91 5).toNatClampNeg).toInt := congrArg Int32.toInt (aZ_9 (Or.inl rfl)); have h39 := hi5.2.2.1.2.2.1; have h38 := hi5.2.2.1.2.1; exfalso; omega) | (have p3 := congrArg Int32.toInt (show aZ S 87 3 = mI S 91 2 from rfl); have p9 := congrArg Int32.toInt (show aZ S 87 9 = mI S 91 5 from rfl); have p92 : (aZ S 92 (aZ S 87 9).toNatClampNeg).toInt = (mI S 92 (mI S 91 5).toNatClampNeg).toInt := congrArg Int32.toInt (aZ_9 (Or.inl rfl)); have h39 := hi5.2.2.1.2.2.1; have h38 := hi5.2.2.1.2.1; have fi : rFi (aZ S) l1.toInt := (by unfold rFi; omega); have bd := Rp_bd hi5 (by omega) fi; have mm := i_muln (x := mI S 91 5) (y := mI S 91 2) (by omega) (by omega) (by omega) (by omega); rw [← hi3, i_add (by omega) (by omega), mm.2.2, ← p3, ← p9, ← p92]; exact Or.inr bd) | (have p3 := congrArg Int32.toInt (show aZ S 87 3 = mI S 91 2 from rfl); have p9 := congrArg Int32.toInt (show aZ S 87 9 = mI S 91 5 from rfl); have p92 : (aZ S 92 (aZ S 87 9).toNatClampNeg).toInt = (mI S 92 (mI S 91 5).toNatClampNeg).toInt := congrArg Int32.toInt (aZ_9 (Or.inl rfl)); have h39 := hi5.2.2.1.2.2.1; have h38 := hi5.2.2.1.2.1; exfalso; omega)) (show qRv (aZ S) from by first | (exact hi5))
          · skip
            have g32 := i_nlt h26
            refine zd (fun h33 => ?_) (fun h33 => ?_)
            · skip
              have g34 := i_le h33
              first | have f35 := i_muln (x := (mI S 91 5)) (y := (mI S 91 2)) (by omega) (by omega) (by omega) (by omega) | have b36 := i_bd ((mI S 91 5) * (mI S 91 2))
              first | have e37 : (((mI S 91 5) * (mI S 91 2)) + (0 : Int32)).toInt = ((mI S 91 5) * (mI S 91 2)).toInt + (0) := i_addk rfl (by omega) (by omega) | have b38 := i_bd (((mI S 91 5) * (mI S 91 2)) + (0 : Int32))
              exact K ((((mI S 91 5) * (mI S 91 2)) + (0 : Int32))) _ hI (show -1 ≤ (((mI S 91 5) * (mI S 91 2)) + (0 : Int32)).toInt ∧ (((mI S 91 5) * (mI S 91 2)) + (0 : Int32)).toInt ≤ 300000 ∧ ((((mI S 91 5) * (mI S 91 2)) + (0 : Int32)).toInt < 0 ∨ (mI S 92 (mI S 91 5).toNatClampNeg).toInt ≤ 1500) from by omega) (show xB S (mR S 70) from by first | (exact xB_x (xC_o (W := 75) hi2).2)) (show aZ S = rRs ab z.toInt ∧ (((mI S 91 5) * (mI S 91 2)) + (0 : Int32)).toInt = rRp ab z.toInt from by first | (have p3 := congrArg Int32.toInt (show aZ S 87 3 = mI S 91 2 from rfl); have p9 := congrArg Int32.toInt (show aZ S 87 9 = mI S 91 5 from rfl); have p92 : (aZ S 92 (aZ S 87 9).toNatClampNeg).toInt = (mI S 92 (mI S 91 5).toNatClampNeg).toInt := congrArg Int32.toInt (aZ_9 (Or.inl rfl)); have h39 := hi5.2.2.1.2.2.1; have h38 := hi5.2.2.1.2.1; exfalso; omega) | (have p3 := congrArg Int32.toInt (show aZ S 87 3 = mI S 91 2 from rfl); have p9 := congrArg Int32.toInt (show aZ S 87 9 = mI S 91 5 from rfl); have p92 : (aZ S 92 (aZ S 87 9).toNatClampNeg).toInt = (mI S 92 (mI S 91 5).toNatClampNeg).toInt := congrArg Int32.toInt (aZ_9 (Or.inl rfl)); have h39 := hi5.2.2.1.2.2.1; have h38 := hi5.2.2.1.2.1; have g := Rs_g hi4 rfl rfl; rw [← hi6] at g; rw [← hi3]; refine ⟨g.1.symm, ?_⟩; rw [g.2.2 (by unfold rFi; omega)]; rfl) | (have p3 := congrArg Int32.toInt (show aZ S 87 3 = mI S 91 2 from rfl); have p9 := congrArg Int32.toInt (show aZ S 87 9 = mI S 91 5 from rfl); have p92 : (aZ S 92 (aZ S 87 9).toNatClampNeg).toInt = (mI S 92 (mI S 91 5).toNatClampNeg).toInt := congrArg Int32.toInt (aZ_9 (Or.inl rfl)); have h39 := hi5.2.2.1.2.2.1; have h38 := hi5.2.2.1.2.1; have g := Rs_g hi4 rfl rfl; rw [← hi6] at g; rw [← hi3]; refine ⟨g.1.symm, ?_⟩; have fi : rFi (aZ S) l1.toInt := (by unfold rFi; omega); have bd := Rp_bd hi5 (by omega) fi; have mm := i_muln (x := mI S 91 5) (y := mI S 91 2) (by omega) (by omega) (by omega) (by omega); rw [g.2.1 fi, i_add (by omega) (by omega), mm.2.2, p3, p9, p92]) | (have p3 := congrArg Int32.toInt (show aZ S 87 3 = mI S 91 2 from rfl); have p9 := congrArg Int32.toInt (show aZ S 87 9 = mI S 91 5 from rfl); have p92 : (aZ S 92 (aZ S 87 9).toNatClampNeg).toInt = (mI S 92 (mI S 91 5).toNatClampNeg).toInt := congrArg Int32.toInt (aZ_9 (Or.inl rfl)); have h39 := hi5.2.2.1.2.2.1; have h38 := hi5.2.2.1.2.1; exfalso; omega)) (show (((mI S 91 5) * (mI S 91 2)) + (0 : Int32)).toInt = -1 ∨ (0 ≤ (((mI S 91 5) * (mI S 91 2)) + (0 : Int32)).toInt ∧ (((mI S 91 5) * (mI S 91 2)) + (0 : Int32)).toInt + z.toInt ≤ 1500) from by first | (exact Or.inl rfl) | (have p3 := congrArg Int32.toInt (show aZ S 87 3 = mI S 91 2 from rfl); have p9 := congrArg Int32.toInt (show aZ S 87 9 = mI S 91 5 from rfl); have p92 : (aZ S 92 (aZ S 87 9).toNatClampNeg).toInt = (mI S 92 (mI S 91 5).toNatClampNeg).toInt := congrArg Int32.toInt (aZ_9 (Or.inl rfl)); have h39 := hi5.2.2.1.2.2.1; have h38 := hi5.2.2.1.2.1; exfalso; omega) | (have p3 := congrArg Int32.toInt (show aZ S 87 3 = mI S 91 2 from rfl); have p9 := congrArg Int32.toInt (show aZ S 87 9 = mI S 91 5 from rfl); have p92 : (aZ S 92 (aZ S 87 9).toNatClampNeg).toInt = (mI S 92 (mI S 91 5).toNatClampNeg).toInt := congrArg Int32.toInt (aZ_9 (Or.inl rfl)); have h39 := hi5.2.2.1.2.2.1; have h38 := hi5.2.2.1.2.1; have fi : rFi (aZ S) l1.toInt := (by unfold rFi; omega); have bd := Rp_bd hi5 (by omega) fi; have mm := i_muln (x := mI S 91 5) (y := mI S 91 2) (by omega) (by omega) (by omega) (by omega); rw [← hi3, i_add (by omega) (by omega), mm.2.2, ← p3, ← p9, ← p92]; exact Or.inr bd) | (have p3 := congrArg Int32.toInt (show aZ S 87 3 = mI S 91 2 from rfl); have p9 := congrArg Int32.toInt (show aZ S 87 9 = mI S 91 5 from rfl); have p92 : (aZ S 92 (aZ S 87 9).toNatClampNeg).toInt = (mI S 92 (mI S 91 5).toNatClampNeg).toInt := congrArg Int32.toInt (aZ_9 (Or.inl rfl)); have h39 := hi5.2.2.1.2.2.1; have h38 := hi5.2.2.1.2.1; exfalso; omega)) (show qRv (aZ S) from by first | (exact hi5))
            · skip
              have g39 := i_nle h33
              refine ⟨i_ix (by omega) (by omega), ?_⟩
              first | have f40 := i_muln (x := (mI S 91 5)) (y := (mI S 91 2)) (by omega) (by omega) (by omega) (by omega) | have b41 := i_bd ((mI S 91 5) * (mI S 91 2))
              first | have e42 : (((mI S 91 5) * (mI S 91 2)) + (mI S 92 (mI S 91 5).toNatClampNeg)).toInt = ((mI S 91 5) * (mI S 91 2)).toInt + (mI S 92 (mI S 91 5).toNatClampNeg).toInt := i_add (by omega) (by omega) | have b43 := i_bd (((mI S 91 5) * (mI S 91 2)) + (mI S 92 (mI S 91 5).toNatClampNeg))
              exact K ((((mI S 91 5) * (mI S 91 2)) + (mI S 92 (mI S 91 5).toNatClampNeg))) _ hI (show -1 ≤ (((mI S 91 5) * (mI S 91 2)) + (mI S 92 (mI S 91 5).toNatClampNeg)).toInt ∧ (((mI S 91 5) * (mI S 91 2)) + (mI S 92 (mI S 91 5).toNatClampNeg)).toInt ≤ 300000 ∧ ((((mI S 91 5) * (mI S 91 2)) + (mI S 92 (mI S 91 5).toNatClampNeg)).toInt < 0 ∨ (mI S 92 (mI S 91 5).toNatClampNeg).toInt ≤ 1500) from by omega) (show xB S (mR S 70) from by first | (exact xB_x (xC_o (W := 75) hi2).2)) (show aZ S = rRs ab z.toInt ∧ (((mI S 91 5) * (mI S 91 2)) + (mI S 92 (mI S 91 5).toNatClampNeg)).toInt = rRp ab z.toInt from by first | (have p3 := congrArg Int32.toInt (show aZ S 87 3 = mI S 91 2 from rfl); have p9 := congrArg Int32.toInt (show aZ S 87 9 = mI S 91 5 from rfl); have p92 : (aZ S 92 (aZ S 87 9).toNatClampNeg).toInt = (mI S 92 (mI S 91 5).toNatClampNeg).toInt := congrArg Int32.toInt (aZ_9 (Or.inl rfl)); have h39 := hi5.2.2.1.2.2.1; have h38 := hi5.2.2.1.2.1; exfalso; omega) | (have p3 := congrArg Int32.toInt (show aZ S 87 3 = mI S 91 2 from rfl); have p9 := congrArg Int32.toInt (show aZ S 87 9 = mI S 91 5 from rfl); have p92 : (aZ S 92 (aZ S 87 9).toNatClampNeg).toInt = (mI S 92 (mI S 91 5).toNatClampNeg).toInt := congrArg Int32.toInt (aZ_9 (Or.inl rfl)); have h39 := hi5.2.2.1.2.2.1; have h38 := hi5.2.2.1.2.1; have g := Rs_g hi4 rfl rfl; rw [← hi6] at g; rw [← hi3]; refine ⟨g.1.symm, ?_⟩; rw [g.2.2 (by unfold rFi; omega)]; rfl) | (have p3 := congrArg Int32.toInt (show aZ S 87 3 = mI S 91 2 from rfl); have p9 := congrArg Int32.toInt (show aZ S 87 9 = mI S 91 5 from rfl); have p92 : (aZ S 92 (aZ S 87 9).toNatClampNeg).toInt = (mI S 92 (mI S 91 5).toNatClampNeg).toInt := congrArg Int32.toInt (aZ_9 (Or.inl rfl)); have h39 := hi5.2.2.1.2.2.1; have h38 := hi5.2.2.1.2.1; have g := Rs_g hi4 rfl rfl; rw [← hi6] at g; rw [← hi3]; refine ⟨g.1.symm, ?_⟩; have fi : rFi (aZ S) l1.toInt := (by unfold rFi; omega); have bd := Rp_bd hi5 (by omega) fi; have mm := i_muln (x := mI S 91 5) (y := mI S 91 2) (by omega) (by omega) (by omega) (by omega); rw [g.2.1 fi, i_add (by omega) (by omega), mm.2.2, p3, p9, p92]) | (have p3 := congrArg Int32.toInt (show aZ S 87 3 = mI S 91 2 from rfl); have p9 := congrArg Int32.toInt (show aZ S 87 9 = mI S 91 5 from rfl); have p92 : (aZ S 92 (aZ S 87 9).toNatClampNeg).toInt = (mI S 92 (mI S 91 5).toNatClampNeg).toInt := congrArg Int32.toInt (aZ_9 (Or.inl rfl)); have h39 := hi5.2.2.1.2.2.1; have h38 := hi5.2.2.1.2.1; exfalso; omega)) (show (((mI S 91 5) * (mI S 91 2)) + (mI S 92 (mI S 91 5).toNatClampNeg)).toInt = -1 ∨ (0 ≤ (((mI S 91 5) * (mI S 91 2)) + (mI S 92 (mI S 91 5).toNatClampNeg)).toInt ∧ (((mI S 91 5) * (mI S 91 2)) + (mI S 92 (mI S 91 5).toNatClampNeg)).toInt + z.toInt ≤ 1500) from by first | (exact Or.inl rfl) | (have p3 := congrArg Int32.toInt (show aZ S 87 3 = mI S 91 2 from rfl); have p9 := congrArg Int32.toInt (show aZ S 87 9 = mI S 91 5 from rfl); have p92 : (aZ S 92 (aZ S 87 9).toNatClampNeg).toInt = (mI S 92 (mI S 91 5).toNatClampNeg).toInt := congrArg Int32.toInt (aZ_9 (Or.inl rfl)); have h39 := hi5.2.2.1.2.2.1; have h38 := hi5.2.2.1.2.1; exfalso; omega) | (have p3 := congrArg Int32.toInt (show aZ S 87 3 = mI S 91 2 from rfl); have p9 := congrArg Int32.toInt (show aZ S 87 9 = mI S 91 5 from rfl); have p92 : (aZ S 92 (aZ S 87 9).toNatClampNeg).toInt = (mI S 92 (mI S 91 5).toNatClampNeg).toInt := congrArg Int32.toInt (aZ_9 (Or.inl rfl)); have h39 := hi5.2.2.1.2.2.1; have h38 := hi5.2.2.1.2.1; have fi : rFi (aZ S) l1.toInt := (by unfold rFi; omega); have bd := Rp_bd hi5 (by omega) fi; have mm := i_muln (x := mI S 91 5) (y := mI S 91 2) (by omega) (by omega) (by omega) (by omega); rw [← hi3, i_add (by omega) (by omega), mm.2.2, ← p3, ← p9, ← p92]; exact Or.inr bd) | (have p3 := congrArg Int32.toInt (show aZ S 87 3 = mI S 91 2 from rfl); have p9 := congrArg Int32.toInt (show aZ S 87 9 = mI S 91 5 from rfl); have p92 : (aZ S 92 (aZ S 87 9).toNatClampNeg).toInt = (mI S 92 (mI S 91 5).toNatClampNeg).toInt := congrArg Int32.toInt (aZ_9 (Or.inl rfl)); have h39 := hi5.2.2.1.2.2.1; have h38 := hi5.2.2.1.2.1; exfalso; omega)) (show qRv (aZ S) from by first | (exact hi5))
theorem lp_40_91_sz_35 {X : Nat × (Nat → Int32)} {d w : Nat} {f : Nat → Nat → Int32} {r : Nat → Nat → Option Nat} {C Z N : Nat} {Q : Option ma_V ⊕ Nat → ma_S → Prop} {ab : Nat→Nat→Int32} {z : Int32} (hd : 5 ≤ d) (hw : 183 ≤ w) (K : ∀ v S₉, zL91 f r C Z N S₉ → (-1 ≤ v.toInt ∧ v.toInt ≤ 300000 ∧ (v.toInt < 0 ∨ (mI S₉ 92 (mI S₉ 91 5).toNatClampNeg).toInt ≤ 1500)) → (xB S₉ (mR S₉ 70)) → (aZ S₉ = rRs ab z.toInt ∧ v.toInt = rRp ab z.toInt) → (v.toInt = -1 ∨ (0 ≤ v.toInt ∧ v.toInt + z.toInt ≤ 1500)) → (qRv (aZ S₉)) → Q (.inl (some (.inl v))) S₉) : ∀ (n : Nat) (S : ma_S) (l1 : Int32), ((0 : Int)).toNat = n → zL91 f r C Z N S → (1 ≤ l1.toInt) → (l1.toInt ≤ 61) → (xB S (mR S 70)) → (l1 = z) → (¬ (ab 87 3).toInt < l1.toInt) → (qRv (aZ S)) → (aZ S = rR1 ab l1.toInt) → ma_wp X d w 40 35 [(0, .inr (.inr (some 91))), (1, .inl l1)] [] S Q := by
  intro n
  induction n using Nat.strongRecOn with
  | _ n IH =>
    intro S l1 hmu hI  hi0 hi1 hi2 hi3 hi4 hi5 hi6
    refine g_40_91_sz_35 l1 (by omega) (by omega) (zG_T hI) ?_
    have f1 := zG_s hI (0) (92) (c := 91) (k := 5) (by decide)
    have li2 : (0 : Int32).toInt = 0 := rfl
    refine zd (fun h3 => ?_) (fun h3 => ?_)
    · skip
      have g4 := i_lt h3
      refine sp_52_91_sz  (by omega) (by omega) hI  (fun v2 S1 eS_S1 hp_v2 rp0_S1 => zi_n ⟨(by rw [eS_S1]; exact zG_T hI), ?_⟩)
      replace eS_S1 := eS_S1.symm; subst eS_S1
      have rp0_S1 : v2.toInt = rLe (aZ S) := rp0_S1
      have b5 := i_bd v2
      have li6 : (-1 : Int32).toInt = -1 := rfl
      refine zd (fun h7 => ?_) (fun h7 => ?_)
      · skip
        have g8 := i_eq h7
        have hI9 : zL91 f r C Z N (ma_put S 91 5 (.inl (mI S 91 5))) := zG_sp hI (0) (92) rfl (by decide) (by decide) (by decide) trivial (by omega) (by omega)
        have b10 := i_bd l1
        exact lp_40_91_sz_62 (by omega) (by omega) K _ _ (l1) rfl hI9 (by omega) (by omega) (show xB (ma_put S 91 5 (.inl (mI S 91 5))) (mR (ma_put S 91 5 (.inl (mI S 91 5))) 70) from by first | (exact xB_x (xC_n (c := 91) (k := 5) (x := (mI S 91 5)) (xC_o (W := 75) hi2) ⟨by decide, Or.inl ⟨rfl, rfl⟩⟩).2)) (show (l1) = z from by first | (exact rfl) | (exact hi3)) (show ¬ (ab 87 3).toInt < (l1).toInt from by first | (exact hi4)) (show qRv (aZ (ma_put S 91 5 (.inl (mI S 91 5)))) from by first | (have p3 := congrArg Int32.toInt (show aZ S 87 3 = mI S 91 2 from rfl); have p9 := congrArg Int32.toInt (show aZ S 87 9 = mI S 91 5 from rfl); have p92 : (aZ S 92 (aZ S 87 9).toNatClampNeg).toInt = (mI S 92 (mI S 91 5).toNatClampNeg).toInt := congrArg Int32.toInt (aZ_9 (Or.inl rfl)); have h39 := hi5.2.2.1.2.2.1; have h38 := hi5.2.2.1.2.1; have lz := rp0_S1; have ly := Le_y (a := aZ S) (by omega); rw [((Z_p5 (x := (mI S 91 5)) (xC_o (W := 75) hi2).2).trans (congrArg (fun q => ma_u q 87 9 (mI S 91 5)) (show aZ S = aZ S from rfl)))]; exact Rv_9 hi5 (by omega) (by omega)) | (have p3 := congrArg Int32.toInt (show aZ S 87 3 = mI S 91 2 from rfl); have p9 := congrArg Int32.toInt (show aZ S 87 9 = mI S 91 5 from rfl); have p92 : (aZ S 92 (aZ S 87 9).toNatClampNeg).toInt = (mI S 92 (mI S 91 5).toNatClampNeg).toInt := congrArg Int32.toInt (aZ_9 (Or.inl rfl)); have h39 := hi5.2.2.1.2.2.1; have h38 := hi5.2.2.1.2.1; rw [((Z_p5 (x := (mI S 91 5)) (xC_o (W := 75) hi2).2).trans (congrArg (fun q => ma_u q 87 9 (mI S 91 5)) (show aZ S = aZ S from rfl)))]; exact Rv_9 hi5 (by omega) (by omega))) (show aZ (ma_put S 91 5 (.inl (mI S 91 5))) = rR2 (rR1 ab (l1).toInt) (l1).toInt from by first | (have p3 := congrArg Int32.toInt (show aZ S 87 3 = mI S 91 2 from rfl); have p9 := congrArg Int32.toInt (show aZ S 87 9 = mI S 91 5 from rfl); have p92 : (aZ S 92 (aZ S 87 9).toNatClampNeg).toInt = (mI S 92 (mI S 91 5).toNatClampNeg).toInt := congrArg Int32.toInt (aZ_9 (Or.inl rfl)); have h39 := hi5.2.2.1.2.2.1; have h38 := hi5.2.2.1.2.1; have lz := rp0_S1; rw [((Z_p5 (x := (mI S 91 5)) (xC_o (W := 75) hi2).2).trans (congrArg (fun q => ma_u q 87 9 (mI S 91 5)) (show aZ S = aZ S from rfl))), ← hi6]; exact (R2_l (x := v2) (by unfold rFi; omega) lz (by omega)).symm) | (have p3 := congrArg Int32.toInt (show aZ S 87 3 = mI S 91 2 from rfl); have p9 := congrArg Int32.toInt (show aZ S 87 9 = mI S 91 5 from rfl); have p92 : (aZ S 92 (aZ S 87 9).toNatClampNeg).toInt = (mI S 92 (mI S 91 5).toNatClampNeg).toInt := congrArg Int32.toInt (aZ_9 (Or.inl rfl)); have h39 := hi5.2.2.1.2.2.1; have h38 := hi5.2.2.1.2.1; have lz := rp0_S1; rw [((Z_p5 (x := (mI S 91 5)) (xC_o (W := 75) hi2).2).trans (congrArg (fun q => ma_u q 87 9 (mI S 91 5)) (show aZ S = aZ S from rfl))), ← hi6, R2_n (by unfold rFi; omega) (by omega)]; exact u_sm9 (a := aZ S) (c := 87) (k := 9)) | (have p3 := congrArg Int32.toInt (show aZ S 87 3 = mI S 91 2 from rfl); have p9 := congrArg Int32.toInt (show aZ S 87 9 = mI S 91 5 from rfl); have p92 : (aZ S 92 (aZ S 87 9).toNatClampNeg).toInt = (mI S 92 (mI S 91 5).toNatClampNeg).toInt := congrArg Int32.toInt (aZ_9 (Or.inl rfl)); have h39 := hi5.2.2.1.2.2.1; have h38 := hi5.2.2.1.2.1; exfalso; omega))
      · skip
        have g11 := i_ne h7
        have hI12 : zL91 f r C Z N (ma_put S 91 5 (.inl v2)) := zG_sp hI (0) (92) rfl (by decide) (by decide) (by decide) trivial (by omega) (by omega)
        have b13 := i_bd l1
        exact lp_40_91_sz_62 (by omega) (by omega) K _ _ (l1) rfl hI12 (by omega) (by omega) (show xB (ma_put S 91 5 (.inl v2)) (mR (ma_put S 91 5 (.inl v2)) 70) from by first | (exact xB_x (xC_n (c := 91) (k := 5) (x := v2) (xC_o (W := 75) hi2) ⟨by decide, Or.inl ⟨rfl, rfl⟩⟩).2)) (show (l1) = z from by first | (exact rfl) | (exact hi3)) (show ¬ (ab 87 3).toInt < (l1).toInt from by first | (exact hi4)) (show qRv (aZ (ma_put S 91 5 (.inl v2))) from by first | (have p3 := congrArg Int32.toInt (show aZ S 87 3 = mI S 91 2 from rfl); have p9 := congrArg Int32.toInt (show aZ S 87 9 = mI S 91 5 from rfl); have p92 : (aZ S 92 (aZ S 87 9).toNatClampNeg).toInt = (mI S 92 (mI S 91 5).toNatClampNeg).toInt := congrArg Int32.toInt (aZ_9 (Or.inl rfl)); have h39 := hi5.2.2.1.2.2.1; have h38 := hi5.2.2.1.2.1; have lz := rp0_S1; have ly := Le_y (a := aZ S) (by omega); rw [((Z_p5 (x := v2) (xC_o (W := 75) hi2).2).trans (congrArg (fun q => ma_u q 87 9 v2) (show aZ S = aZ S from rfl)))]; exact Rv_9 hi5 (by omega) (by omega)) | (have p3 := congrArg Int32.toInt (show aZ S 87 3 = mI S 91 2 from rfl); have p9 := congrArg Int32.toInt (show aZ S 87 9 = mI S 91 5 from rfl); have p92 : (aZ S 92 (aZ S 87 9).toNatClampNeg).toInt = (mI S 92 (mI S 91 5).toNatClampNeg).toInt := congrArg Int32.toInt (aZ_9 (Or.inl rfl)); have h39 := hi5.2.2.1.2.2.1; have h38 := hi5.2.2.1.2.1; rw [((Z_p5 (x := v2) (xC_o (W := 75) hi2).2).trans (congrArg (fun q => ma_u q 87 9 v2) (show aZ S = aZ S from rfl)))]; exact Rv_9 hi5 (by omega) (by omega))) (show aZ (ma_put S 91 5 (.inl v2)) = rR2 (rR1 ab (l1).toInt) (l1).toInt from by first | (have p3 := congrArg Int32.toInt (show aZ S 87 3 = mI S 91 2 from rfl); have p9 := congrArg Int32.toInt (show aZ S 87 9 = mI S 91 5 from rfl); have p92 : (aZ S 92 (aZ S 87 9).toNatClampNeg).toInt = (mI S 92 (mI S 91 5).toNatClampNeg).toInt := congrArg Int32.toInt (aZ_9 (Or.inl rfl)); have h39 := hi5.2.2.1.2.2.1; have h38 := hi5.2.2.1.2.1; have lz := rp0_S1; rw [((Z_p5 (x := v2) (xC_o (W := 75) hi2).2).trans (congrArg (fun q => ma_u q 87 9 v2) (show aZ S = aZ S from rfl))), ← hi6]; exact (R2_l (x := v2) (by unfold rFi; omega) lz (by omega)).symm) | (have p3 := congrArg Int32.toInt (show aZ S 87 3 = mI S 91 2 from rfl); have p9 := congrArg Int32.toInt (show aZ S 87 9 = mI S 91 5 from rfl); have p92 : (aZ S 92 (aZ S 87 9).toNatClampNeg).toInt = (mI S 92 (mI S 91 5).toNatClampNeg).toInt := congrArg Int32.toInt (aZ_9 (Or.inl rfl)); have h39 := hi5.2.2.1.2.2.1; have h38 := hi5.2.2.1.2.1; have lz := rp0_S1; rw [((Z_p5 (x := v2) (xC_o (W := 75) hi2).2).trans (congrArg (fun q => ma_u q 87 9 v2) (show aZ S = aZ S from rfl))), ← hi6, R2_n (by unfold rFi; omega) (by omega)]; exact u_sm9 (a := aZ S) (c := 87) (k := 9)) | (have p3 := congrArg Int32.toInt (show aZ S 87 3 = mI S 91 2 from rfl); have p9 := congrArg Int32.toInt (show aZ S 87 9 = mI S 91 5 from rfl); have p92 : (aZ S 92 (aZ S 87 9).toNatClampNeg).toInt = (mI S 92 (mI S 91 5).toNatClampNeg).toInt := congrArg Int32.toInt (aZ_9 (Or.inl rfl)); have h39 := hi5.2.2.1.2.2.1; have h38 := hi5.2.2.1.2.1; exfalso; omega))
    · skip
      have g14 := i_nlt h3
      have li15 : (93 : Int32).toInt = 93 := rfl
      refine zd (fun h16 => ?_) (fun h16 => ?_)
      · skip
        have g17 := i_le h16
        refine sp_52_91_sz  (by omega) (by omega) hI  (fun v4 S3 eS_S3 hp_v4 rp0_S3 => zi_n ⟨(by rw [eS_S3]; exact zG_T hI), ?_⟩)
        replace eS_S3 := eS_S3.symm; subst eS_S3
        have rp0_S3 : v4.toInt = rLe (aZ S) := rp0_S3
        have b18 := i_bd v4
        have li19 : (-1 : Int32).toInt = -1 := rfl
        refine zd (fun h20 => ?_) (fun h20 => ?_)
        · skip
          have g21 := i_eq h20
          have hI22 : zL91 f r C Z N (ma_put S 91 5 (.inl (mI S 91 5))) := zG_sp hI (0) (92) rfl (by decide) (by decide) (by decide) trivial (by omega) (by omega)
          have b23 := i_bd l1
          exact lp_40_91_sz_62 (by omega) (by omega) K _ _ (l1) rfl hI22 (by omega) (by omega) (show xB (ma_put S 91 5 (.inl (mI S 91 5))) (mR (ma_put S 91 5 (.inl (mI S 91 5))) 70) from by first | (exact xB_x (xC_n (c := 91) (k := 5) (x := (mI S 91 5)) (xC_o (W := 75) hi2) ⟨by decide, Or.inl ⟨rfl, rfl⟩⟩).2)) (show (l1) = z from by first | (exact rfl) | (exact hi3)) (show ¬ (ab 87 3).toInt < (l1).toInt from by first | (exact hi4)) (show qRv (aZ (ma_put S 91 5 (.inl (mI S 91 5)))) from by first | (have p3 := congrArg Int32.toInt (show aZ S 87 3 = mI S 91 2 from rfl); have p9 := congrArg Int32.toInt (show aZ S 87 9 = mI S 91 5 from rfl); have p92 : (aZ S 92 (aZ S 87 9).toNatClampNeg).toInt = (mI S 92 (mI S 91 5).toNatClampNeg).toInt := congrArg Int32.toInt (aZ_9 (Or.inl rfl)); have h39 := hi5.2.2.1.2.2.1; have h38 := hi5.2.2.1.2.1; have lz := rp0_S3; have ly := Le_y (a := aZ S) (by omega); rw [((Z_p5 (x := (mI S 91 5)) (xC_o (W := 75) hi2).2).trans (congrArg (fun q => ma_u q 87 9 (mI S 91 5)) (show aZ S = aZ S from rfl)))]; exact Rv_9 hi5 (by omega) (by omega)) | (have p3 := congrArg Int32.toInt (show aZ S 87 3 = mI S 91 2 from rfl); have p9 := congrArg Int32.toInt (show aZ S 87 9 = mI S 91 5 from rfl); have p92 : (aZ S 92 (aZ S 87 9).toNatClampNeg).toInt = (mI S 92 (mI S 91 5).toNatClampNeg).toInt := congrArg Int32.toInt (aZ_9 (Or.inl rfl)); have h39 := hi5.2.2.1.2.2.1; have h38 := hi5.2.2.1.2.1; rw [((Z_p5 (x := (mI S 91 5)) (xC_o (W := 75) hi2).2).trans (congrArg (fun q => ma_u q 87 9 (mI S 91 5)) (show aZ S = aZ S from rfl)))]; exact Rv_9 hi5 (by omega) (by omega))) (show aZ (ma_put S 91 5 (.inl (mI S 91 5))) = rR2 (rR1 ab (l1).toInt) (l1).toInt from by first | (have p3 := congrArg Int32.toInt (show aZ S 87 3 = mI S 91 2 from rfl); have p9 := congrArg Int32.toInt (show aZ S 87 9 = mI S 91 5 from rfl); have p92 : (aZ S 92 (aZ S 87 9).toNatClampNeg).toInt = (mI S 92 (mI S 91 5).toNatClampNeg).toInt := congrArg Int32.toInt (aZ_9 (Or.inl rfl)); have h39 := hi5.2.2.1.2.2.1; have h38 := hi5.2.2.1.2.1; have lz := rp0_S3; rw [((Z_p5 (x := (mI S 91 5)) (xC_o (W := 75) hi2).2).trans (congrArg (fun q => ma_u q 87 9 (mI S 91 5)) (show aZ S = aZ S from rfl))), ← hi6]; exact (R2_l (x := v4) (by unfold rFi; omega) lz (by omega)).symm) | (have p3 := congrArg Int32.toInt (show aZ S 87 3 = mI S 91 2 from rfl); have p9 := congrArg Int32.toInt (show aZ S 87 9 = mI S 91 5 from rfl); have p92 : (aZ S 92 (aZ S 87 9).toNatClampNeg).toInt = (mI S 92 (mI S 91 5).toNatClampNeg).toInt := congrArg Int32.toInt (aZ_9 (Or.inl rfl)); have h39 := hi5.2.2.1.2.2.1; have h38 := hi5.2.2.1.2.1; have lz := rp0_S3; rw [((Z_p5 (x := (mI S 91 5)) (xC_o (W := 75) hi2).2).trans (congrArg (fun q => ma_u q 87 9 (mI S 91 5)) (show aZ S = aZ S from rfl))), ← hi6, R2_n (by unfold rFi; omega) (by omega)]; exact u_sm9 (a := aZ S) (c := 87) (k := 9)) | (have p3 := congrArg Int32.toInt (show aZ S 87 3 = mI S 91 2 from rfl); have p9 := congrArg Int32.toInt (show aZ S 87 9 = mI S 91 5 from rfl); have p92 : (aZ S 92 (aZ S 87 9).toNatClampNeg).toInt = (mI S 92 (mI S 91 5).toNatClampNeg).toInt := congrArg Int32.toInt (aZ_9 (Or.inl rfl)); have h39 := hi5.2.2.1.2.2.1; have h38 := hi5.2.2.1.2.1; exfalso; omega))
        · skip
          have g24 := i_ne h20
          have hI25 : zL91 f r C Z N (ma_put S 91 5 (.inl v4)) := zG_sp hI (0) (92) rfl (by decide) (by decide) (by decide) trivial (by omega) (by omega)
          have b26 := i_bd l1
          exact lp_40_91_sz_62 (by omega) (by omega) K _ _ (l1) rfl hI25 (by omega) (by omega) (show xB (ma_put S 91 5 (.inl v4)) (mR (ma_put S 91 5 (.inl v4)) 70) from by first | (exact xB_x (xC_n (c := 91) (k := 5) (x := v4) (xC_o (W := 75) hi2) ⟨by decide, Or.inl ⟨rfl, rfl⟩⟩).2)) (show (l1) = z from by first | (exact rfl) | (exact hi3)) (show ¬ (ab 87 3).toInt < (l1).toInt from by first | (exact hi4)) (show qRv (aZ (ma_put S 91 5 (.inl v4))) from by first | (have p3 := congrArg Int32.toInt (show aZ S 87 3 = mI S 91 2 from rfl); have p9 := congrArg Int32.toInt (show aZ S 87 9 = mI S 91 5 from rfl); have p92 : (aZ S 92 (aZ S 87 9).toNatClampNeg).toInt = (mI S 92 (mI S 91 5).toNatClampNeg).toInt := congrArg Int32.toInt (aZ_9 (Or.inl rfl)); have h39 := hi5.2.2.1.2.2.1; have h38 := hi5.2.2.1.2.1; have lz := rp0_S3; have ly := Le_y (a := aZ S) (by omega); rw [((Z_p5 (x := v4) (xC_o (W := 75) hi2).2).trans (congrArg (fun q => ma_u q 87 9 v4) (show aZ S = aZ S from rfl)))]; exact Rv_9 hi5 (by omega) (by omega)) | (have p3 := congrArg Int32.toInt (show aZ S 87 3 = mI S 91 2 from rfl); have p9 := congrArg Int32.toInt (show aZ S 87 9 = mI S 91 5 from rfl); have p92 : (aZ S 92 (aZ S 87 9).toNatClampNeg).toInt = (mI S 92 (mI S 91 5).toNatClampNeg).toInt := congrArg Int32.toInt (aZ_9 (Or.inl rfl)); have h39 := hi5.2.2.1.2.2.1; have h38 := hi5.2.2.1.2.1; rw [((Z_p5 (x := v4) (xC_o (W := 75) hi2).2).trans (congrArg (fun q => ma_u q 87 9 v4) (show aZ S = aZ S from rfl)))]; exact Rv_9 hi5 (by omega) (by omega))) (show aZ (ma_put S 91 5 (.inl v4)) = rR2 (rR1 ab (l1).toInt) (l1).toInt from by first | (have p3 := congrArg Int32.toInt (show aZ S 87 3 = mI S 91 2 from rfl); have p9 := congrArg Int32.toInt (show aZ S 87 9 = mI S 91 5 from rfl); have p92 : (aZ S 92 (aZ S 87 9).toNatClampNeg).toInt = (mI S 92 (mI S 91 5).toNatClampNeg).toInt := congrArg Int32.toInt (aZ_9 (Or.inl rfl)); have h39 := hi5.2.2.1.2.2.1; have h38 := hi5.2.2.1.2.1; have lz := rp0_S3; rw [((Z_p5 (x := v4) (xC_o (W := 75) hi2).2).trans (congrArg (fun q => ma_u q 87 9 v4) (show aZ S = aZ S from rfl))), ← hi6]; exact (R2_l (x := v4) (by unfold rFi; omega) lz (by omega)).symm) | (have p3 := congrArg Int32.toInt (show aZ S 87 3 = mI S 91 2 from rfl); have p9 := congrArg Int32.toInt (show aZ S 87 9 = mI S 91 5 from rfl); have p92 : (aZ S 92 (aZ S 87 9).toNatClampNeg).toInt = (mI S 92 (mI S 91 5).toNatClampNeg).toInt := congrArg Int32.toInt (aZ_9 (Or.inl rfl)); have h39 := hi5.2.2.1.2.2.1; have h38 := hi5.2.2.1.2.1; have lz := rp0_S3; rw [((Z_p5 (x := v4) (xC_o (W := 75) hi2).2).trans (congrArg (fun q => ma_u q 87 9 v4) (show aZ S = aZ S from rfl))), ← hi6, R2_n (by unfold rFi; omega) (by omega)]; exact u_sm9 (a := aZ S) (c := 87) (k := 9)) | (have p3 := congrArg Int32.toInt (show aZ S 87 3 = mI S 91 2 from rfl); have p9 := congrArg Int32.toInt (show aZ S 87 9 = mI S 91 5 from rfl); have p92 : (aZ S 92 (aZ S 87 9).toNatClampNeg).toInt = (mI S 92 (mI S 91 5).toNatClampNeg).toInt := congrArg Int32.toInt (aZ_9 (Or.inl rfl)); have h39 := hi5.2.2.1.2.2.1; have h38 := hi5.2.2.1.2.1; exfalso; omega))
      · skip
        have g27 := i_nle h16
        refine ⟨i_ix (by omega) (by omega), ?_⟩
        have f28 := zG_s hI (0) (1500) (c := 91) (k := 2) (by decide)
        first | have f29 := zG_a hI 93 (0) (3000) (c := 92) (k := (mI S 91 5).toNatClampNeg) (by decide) (i_ix (n := 93) (by omega) (by omega)).2 | have b30 := i_bd (mI S 92 (mI S 91 5).toNatClampNeg)
        have b31 := i_bd l1
        first | have e32 : ((mI S 92 (mI S 91 5).toNatClampNeg) + l1).toInt = (mI S 92 (mI S 91 5).toNatClampNeg).toInt + l1.toInt := i_add (by omega) (by omega) | have b33 := i_bd ((mI S 92 (mI S 91 5).toNatClampNeg) + l1)
        refine zd (fun h34 => ?_) (fun h34 => ?_)
        · skip
          have g35 := i_lt h34
          refine sp_52_91_sz  (by omega) (by omega) hI  (fun v6 S5 eS_S5 hp_v6 rp0_S5 => zi_n ⟨(by rw [eS_S5]; exact zG_T hI), ?_⟩)
          replace eS_S5 := eS_S5.symm; subst eS_S5
          have rp0_S5 : v6.toInt = rLe (aZ S) := rp0_S5
          have b36 := i_bd v6
          have li37 : (-1 : Int32).toInt = -1 := rfl
          refine zd (fun h38 => ?_) (fun h38 => ?_)
          · skip
            have g39 := i_eq h38
            have hI40 : zL91 f r C Z N (ma_put S 91 5 (.inl (mI S 91 5))) := zG_sp hI (0) (92) rfl (by decide) (by decide) (by decide) trivial (by omega) (by omega)
            exact lp_40_91_sz_62 (by omega) (by omega) K _ _ (l1) rfl hI40 (by omega) (by omega) (show xB (ma_put S 91 5 (.inl (mI S 91 5))) (mR (ma_put S 91 5 (.inl (mI S 91 5))) 70) from by first | (exact xB_x (xC_n (c := 91) (k := 5) (x := (mI S 91 5)) (xC_o (W := 75) hi2) ⟨by decide, Or.inl ⟨rfl, rfl⟩⟩).2)) (show (l1) = z from by first | (exact rfl) | (exact hi3)) (show ¬ (ab 87 3).toInt < (l1).toInt from by first | (exact hi4)) (show qRv (aZ (ma_put S 91 5 (.inl (mI S 91 5)))) from by first | (have p3 := congrArg Int32.toInt (show aZ S 87 3 = mI S 91 2 from rfl); have p9 := congrArg Int32.toInt (show aZ S 87 9 = mI S 91 5 from rfl); have p92 : (aZ S 92 (aZ S 87 9).toNatClampNeg).toInt = (mI S 92 (mI S 91 5).toNatClampNeg).toInt := congrArg Int32.toInt (aZ_9 (Or.inl rfl)); have h39 := hi5.2.2.1.2.2.1; have h38 := hi5.2.2.1.2.1; have lz := rp0_S5; have ly := Le_y (a := aZ S) (by omega); rw [((Z_p5 (x := (mI S 91 5)) (xC_o (W := 75) hi2).2).trans (congrArg (fun q => ma_u q 87 9 (mI S 91 5)) (show aZ S = aZ S from rfl)))]; exact Rv_9 hi5 (by omega) (by omega)) | (have p3 := congrArg Int32.toInt (show aZ S 87 3 = mI S 91 2 from rfl); have p9 := congrArg Int32.toInt (show aZ S 87 9 = mI S 91 5 from rfl); have p92 : (aZ S 92 (aZ S 87 9).toNatClampNeg).toInt = (mI S 92 (mI S 91 5).toNatClampNeg).toInt := congrArg Int32.toInt (aZ_9 (Or.inl rfl)); have h39 := hi5.2.2.1.2.2.1; have h38 := hi5.2.2.1.2.1; rw [((Z_p5 (x := (mI S 91 5)) (xC_o (W := 75) hi2).2).trans (congrArg (fun q => ma_u q 87 9 (mI S 91 5)) (show aZ S = aZ S from rfl)))]; exact Rv_9 hi5 (by omega) (by omega))) (show aZ (ma_put S 91 5 (.inl (mI S 91 5))) = rR2 (rR1 ab (l1).toInt) (l1).toInt from by first | (have p3 := congrArg Int32.toInt (show aZ S 87 3 = mI S 91 2 from rfl); have p9 := congrArg Int32.toInt (show aZ S 87 9 = mI S 91 5 from rfl); have p92 : (aZ S 92 (aZ S 87 9).toNatClampNeg).toInt = (mI S 92 (mI S 91 5).toNatClampNeg).toInt := congrArg Int32.toInt (aZ_9 (Or.inl rfl)); have h39 := hi5.2.2.1.2.2.1; have h38 := hi5.2.2.1.2.1; have lz := rp0_S5; rw [((Z_p5 (x := (mI S 91 5)) (xC_o (W := 75) hi2).2).trans (congrArg (fun q => ma_u q 87 9 (mI S 91 5)) (show aZ S = aZ S from rfl))), ← hi6]; exact (R2_l (x := v6) (by unfold rFi; omega) lz (by omega)).symm) | (have p3 := congrArg Int32.toInt (show aZ S 87 3 = mI S 91 2 from rfl); have p9 := congrArg Int32.toInt (show aZ S 87 9 = mI S 91 5 from rfl); have p92 : (aZ S 92 (aZ S 87 9).toNatClampNeg).toInt = (mI S 92 (mI S 91 5).toNatClampNeg).toInt := congrArg Int32.toInt (aZ_9 (Or.inl rfl)); have h39 := hi5.2.2.1.2.2.1; have h38 := hi5.2.2.1.2.1; have lz := rp0_S5; rw [((Z_p5 (x := (mI S 91 5)) (xC_o (W := 75) hi2).2).trans (congrArg (fun q => ma_u q 87 9 (mI S 91 5)) (show aZ S = aZ S from rfl))), ← hi6, R2_n (by unfold rFi; omega) (by omega)]; exact u_sm9 (a := aZ S) (c := 87) (k := 9)) | (have p3 := congrArg Int32.toInt (show aZ S 87 3 = mI S 91 2 from rfl); have p9 := congrArg Int32.toInt (show aZ S 87 9 = mI S 91 5 from rfl); have p92 : (aZ S 92 (aZ S 87 9).toNatClampNeg).toInt = (mI S 92 (mI S 91 5).toNatClampNeg).toInt := congrArg Int32.toInt (aZ_9 (Or.inl rfl)); have h39 := hi5.2.2.1.2.2.1; have h38 := hi5.2.2.1.2.1; exfalso; omega))
          · skip
            have g41 := i_ne h38
            have hI42 : zL91 f r C Z N (ma_put S 91 5 (.inl v6)) := zG_sp hI (0) (92) rfl (by decide) (by decide) (by decide) trivial (by omega) (by omega)
            exact lp_40_91_sz_62 (by omega) (by omega) K _ _ (l1) rfl hI42 (by omega) (by omega) (show xB (ma_put S 91 5 (.inl v6)) (mR (ma_put S 91 5 (.inl v6)) 70) from by first | (exact xB_x (xC_n (c := 91) (k := 5) (x := v6) (xC_o (W := 75) hi2) ⟨by decide, Or.inl ⟨rfl, rfl⟩⟩).2)) (show (l1) = z from by first | (exact rfl) | (exact hi3)) (show ¬ (ab 87 3).toInt < (l1).toInt from by first | (exact hi4)) (show qRv (aZ (ma_put S 91 5 (.inl v6))) from by first | (have p3 := congrArg Int32.toInt (show aZ S 87 3 = mI S 91 2 from rfl); have p9 := congrArg Int32.toInt (show aZ S 87 9 = mI S 91 5 from rfl); have p92 : (aZ S 92 (aZ S 87 9).toNatClampNeg).toInt = (mI S 92 (mI S 91 5).toNatClampNeg).toInt := congrArg Int32.toInt (aZ_9 (Or.inl rfl)); have h39 := hi5.2.2.1.2.2.1; have h38 := hi5.2.2.1.2.1; have lz := rp0_S5; have ly := Le_y (a := aZ S) (by omega); rw [((Z_p5 (x := v6) (xC_o (W := 75) hi2).2).trans (congrArg (fun q => ma_u q 87 9 v6) (show aZ S = aZ S from rfl)))]; exact Rv_9 hi5 (by omega) (by omega)) | (have p3 := congrArg Int32.toInt (show aZ S 87 3 = mI S 91 2 from rfl); have p9 := congrArg Int32.toInt (show aZ S 87 9 = mI S 91 5 from rfl); have p92 : (aZ S 92 (aZ S 87 9).toNatClampNeg).toInt = (mI S 92 (mI S 91 5).toNatClampNeg).toInt := congrArg Int32.toInt (aZ_9 (Or.inl rfl)); have h39 := hi5.2.2.1.2.2.1; have h38 := hi5.2.2.1.2.1; rw [((Z_p5 (x := v6) (xC_o (W := 75) hi2).2).trans (congrArg (fun q => ma_u q 87 9 v6) (show aZ S = aZ S from rfl)))]; exact Rv_9 hi5 (by omega) (by omega))) (show aZ (ma_put S 91 5 (.inl v6)) = rR2 (rR1 ab (l1).toInt) (l1).toInt from by first | (have p3 := congrArg Int32.toInt (show aZ S 87 3 = mI S 91 2 from rfl); have p9 := congrArg Int32.toInt (show aZ S 87 9 = mI S 91 5 from rfl); have p92 : (aZ S 92 (aZ S 87 9).toNatClampNeg).toInt = (mI S 92 (mI S 91 5).toNatClampNeg).toInt := congrArg Int32.toInt (aZ_9 (Or.inl rfl)); have h39 := hi5.2.2.1.2.2.1; have h38 := hi5.2.2.1.2.1; have lz := rp0_S5; rw [((Z_p5 (x := v6) (xC_o (W := 75) hi2).2).trans (congrArg (fun q => ma_u q 87 9 v6) (show aZ S = aZ S from rfl))), ← hi6]; exact (R2_l (x := v6) (by unfold rFi; omega) lz (by omega)).symm) | (have p3 := congrArg Int32.toInt (show aZ S 87 3 = mI S 91 2 from rfl); have p9 := congrArg Int32.toInt (show aZ S 87 9 = mI S 91 5 from rfl); have p92 : (aZ S 92 (aZ S 87 9).toNatClampNeg).toInt = (mI S 92 (mI S 91 5).toNatClampNeg).toInt := congrArg Int32.toInt (aZ_9 (Or.inl rfl)); have h39 := hi5.2.2.1.2.2.1; have h38 := hi5.2.2.1.2.1; have lz := rp0_S5; rw [((Z_p5 (x := v6) (xC_o (W := 75) hi2).2).trans (congrArg (fun q => ma_u q 87 9 v6) (show aZ S = aZ S from rfl))), ← hi6, R2_n (by unfold rFi; omega) (by omega)]; exact u_sm9 (a := aZ S) (c := 87) (k := 9)) | (have p3 := congrArg Int32.toInt (show aZ S 87 3 = mI S 91 2 from rfl); have p9 := congrArg Int32.toInt (show aZ S 87 9 = mI S 91 5 from rfl); have p92 : (aZ S 92 (aZ S 87 9).toNatClampNeg).toInt = (mI S 92 (mI S 91 5).toNatClampNeg).toInt := congrArg Int32.toInt (aZ_9 (Or.inl rfl)); have h39 := hi5.2.2.1.2.2.1; have h38 := hi5.2.2.1.2.1; exfalso; omega))
        · skip
          have g43 := i_nlt h34
          exact lp_40_91_sz_62 (by omega) (by omega) K _ _ (l1) rfl hI (by omega) (by omega) (show xB S (mR S 70) from by first | (exact xB_x (xC_o (W := 75) hi2).2)) (show (l1) = z from by first | (exact rfl) | (exact hi3)) (show ¬ (ab 87 3).toInt < (l1).toInt from by first | (exact hi4)) (show qRv (aZ S) from by first | (exact hi5) | (have p3 := congrArg Int32.toInt (show aZ S 87 3 = mI S 91 2 from rfl); have p9 := congrArg Int32.toInt (show aZ S 87 9 = mI S 91 5 from rfl); have p92 : (aZ S 92 (aZ S 87 9).toNatClampNeg).toInt = (mI S 92 (mI S 91 5).toNatClampNeg).toInt := congrArg Int32.toInt (aZ_9 (Or.inl rfl)); have h39 := hi5.2.2.1.2.2.1; have h38 := hi5.2.2.1.2.1; exfalso; omega)) (show aZ S = rR2 (rR1 ab (l1).toInt) (l1).toInt from by first | (have p3 := congrArg Int32.toInt (show aZ S 87 3 = mI S 91 2 from rfl); have p9 := congrArg Int32.toInt (show aZ S 87 9 = mI S 91 5 from rfl); have p92 : (aZ S 92 (aZ S 87 9).toNatClampNeg).toInt = (mI S 92 (mI S 91 5).toNatClampNeg).toInt := congrArg Int32.toInt (aZ_9 (Or.inl rfl)); have h39 := hi5.2.2.1.2.2.1; have h38 := hi5.2.2.1.2.1; rw [← hi6, R2_y (by unfold rFi; omega)]) | (have p3 := congrArg Int32.toInt (show aZ S 87 3 = mI S 91 2 from rfl); have p9 := congrArg Int32.toInt (show aZ S 87 9 = mI S 91 5 from rfl); have p92 : (aZ S 92 (aZ S 87 9).toNatClampNeg).toInt = (mI S 92 (mI S 91 5).toNatClampNeg).toInt := congrArg Int32.toInt (aZ_9 (Or.inl rfl)); have h39 := hi5.2.2.1.2.2.1; have h38 := hi5.2.2.1.2.1; exfalso; omega))
theorem sp_40_91_sz {X : Nat × (Nat → Int32)} {d w : Nat} {f : Nat → Nat → Int32} {r : Nat → Nat → Option Nat} {C Z N : Nat} {Q : Option ma_V ⊕ Nat → ma_S → Prop} {ab : Nat→Nat→Int32} {S : ma_S} (z : Int32) (hd : 5 ≤ d) (hw : 183 ≤ w) (hI : zL91 f r C Z N S) (hpre0 : xB S (mR S 70)) (hpre1 : aZ S = ab) (hpre2 : qRv ab) (hpre3 : 1 ≤ z.toInt) (hpre4 : z.toInt ≤ 61) (K : ∀ v S₉, zL91 f r C Z N S₉ → (-1 ≤ v.toInt ∧ v.toInt ≤ 300000 ∧ (v.toInt < 0 ∨ (mI S₉ 92 (mI S₉ 91 5).toNatClampNeg).toInt ≤ 1500)) → (xB S₉ (mR S₉ 70)) → (aZ S₉ = rRs ab z.toInt ∧ v.toInt = rRp ab z.toInt) → (v.toInt = -1 ∨ (0 ≤ v.toInt ∧ v.toInt + z.toInt ≤ 1500)) → (qRv (aZ S₉)) → Q (.inl (some (.inl v))) S₉) : ma_wp X d w 40 0 [(0, .inr (.inr (some 91))), (1, .inl z)] [] S Q := by
  refine g_40_91_sz_0 z (by omega) (by omega) (zG_T hI) ?_
  have b1 := i_bd z
  have f2 := zG_s hI (0) (1500) (c := 91) (k := 2) (by decide)
  refine zd (fun h3 => ?_) (fun h3 => ?_)
  · skip
    have g4 := i_le h3
    have f5 := zG_s hI (0) (92) (c := 91) (k := 5) (by decide)
    have li6 : (0 : Int32).toInt = 0 := rfl
    refine zd (fun h7 => ?_) (fun h7 => ?_)
    · skip
      have g8 := i_lt h7
      refine sp_42_91_sz  (by omega) (by omega) hI  (fun v2 S1 eS_S1 hp_v2 rp0_S1 => zi_n ⟨(by rw [eS_S1]; exact zG_T hI), ?_⟩)
      replace eS_S1 := eS_S1.symm; subst eS_S1
      have rp0_S1 : v2.toInt = rEf (aZ S) 93 := rp0_S1
      have li9 : (2 : Int32).toInt = 2 := rfl
      have b10 := i_bd v2
      refine zd (fun h11 => ?_) (fun h11 => ?_)
      · skip
        have g12 := i_le h11
        exact lp_40_91_sz_35 (by omega) (by omega) K _ _ (z) rfl hI (by omega) (by omega) (show xB S (mR S 70) from by first | (exact xB_x (xC_o (W := 75) hpre0).2)) (show (z) = z from by first | (exact rfl)) (show ¬ (ab 87 3).toInt < (z).toInt from by first | (have p3 := congrArg Int32.toInt (show ab 87 3 = mI S 91 2 from by rw [← hpre1]; rfl); have p9 := congrArg Int32.toInt (show ab 87 9 = mI S 91 5 from by rw [← hpre1]; rfl); have p92 : (ab 92 (ab 87 9).toNatClampNeg).toInt = (mI S 92 (mI S 91 5).toNatClampNeg).toInt := (by rw [← hpre1]; exact congrArg Int32.toInt (aZ_9 (Or.inl rfl))); have h39 := hpre2.2.2.1.2.2.1; have h38 := hpre2.2.2.1.2.1; omega)) (show qRv (aZ S) from by first | (rw [hpre1]; exact hpre2)) (show aZ S = rR1 ab (z).toInt from by first | (have p3 := congrArg Int32.toInt (show ab 87 3 = mI S 91 2 from by rw [← hpre1]; rfl); have p9 := congrArg Int32.toInt (show ab 87 9 = mI S 91 5 from by rw [← hpre1]; rfl); have p92 : (ab 92 (ab 87 9).toNatClampNeg).toInt = (mI S 92 (mI S 91 5).toNatClampNeg).toInt := (by rw [← hpre1]; exact congrArg Int32.toInt (aZ_9 (Or.inl rfl))); have h39 := hpre2.2.2.1.2.2.1; have h38 := hpre2.2.2.1.2.1; have ef := rp0_S1; rw [hpre1] at ef; rw [R1_n (by unfold rFi; omega) (by omega)]; exact hpre1) | (have p3 := congrArg Int32.toInt (show ab 87 3 = mI S 91 2 from by rw [← hpre1]; rfl); have p9 := congrArg Int32.toInt (show ab 87 9 = mI S 91 5 from by rw [← hpre1]; rfl); have p92 : (ab 92 (ab 87 9).toNatClampNeg).toInt = (mI S 92 (mI S 91 5).toNatClampNeg).toInt := (by rw [← hpre1]; exact congrArg Int32.toInt (aZ_9 (Or.inl rfl))); have h39 := hpre2.2.2.1.2.2.1; have h38 := hpre2.2.2.1.2.1; exfalso; omega))
      · skip
        have g13 := i_nle h11
        refine sp_43_91_sz (ab := (aZ S)) (by omega) (by omega) hI (show xB S (mR S 70) from by first | (exact xB_x (xC_o (W := 75) hpre0).2)) (show aZ S = (aZ S) from by first | (exact rfl)) (show qRv (aZ S) from by first | (rw [hpre1]; exact hpre2) | (rw [hpre1]; exact hpre2) | (exact hpre2)) (fun v4 S3 hI_S3 hp_v4 rp0_S3 rp1_S3 => zi_n ⟨zG_T hI_S3, ?_⟩)
        have rp0_S3 : xB S3 (mR S3 70) := rp0_S3
        have rp1_S3 : aZ S3 = rCl (aZ S) ∧ v4 = aSv (aZ S) ∧ qRv (aZ S3) := rp1_S3
        exact lp_40_91_sz_35 (by omega) (by omega) K _ _ (z) rfl hI_S3 (by omega) (by omega) (show xB S3 (mR S3 70) from by first | (exact xB_x (xC_o (W := 75) rp0_S3).2)) (show (z) = z from by first | (exact rfl)) (show ¬ (ab 87 3).toInt < (z).toInt from by first | (have p3 := congrArg Int32.toInt (show ab 87 3 = mI S 91 2 from by rw [← hpre1]; rfl); have p9 := congrArg Int32.toInt (show ab 87 9 = mI S 91 5 from by rw [← hpre1]; rfl); have p92 : (ab 92 (ab 87 9).toNatClampNeg).toInt = (mI S 92 (mI S 91 5).toNatClampNeg).toInt := (by rw [← hpre1]; exact congrArg Int32.toInt (aZ_9 (Or.inl rfl))); have h39 := hpre2.2.2.1.2.2.1; have h38 := hpre2.2.2.1.2.1; omega)) (show qRv (aZ S3) from by first | (exact rp1_S3.2.2)) (show aZ S3 = rR1 ab (z).toInt from by first | (have p3 := congrArg Int32.toInt (show ab 87 3 = mI S 91 2 from by rw [← hpre1]; rfl); have p9 := congrArg Int32.toInt (show ab 87 9 = mI S 91 5 from by rw [← hpre1]; rfl); have p92 : (ab 92 (ab 87 9).toNatClampNeg).toInt = (mI S 92 (mI S 91 5).toNatClampNeg).toInt := (by rw [← hpre1]; exact congrArg Int32.toInt (aZ_9 (Or.inl rfl))); have h39 := hpre2.2.2.1.2.2.1; have h38 := hpre2.2.2.1.2.1; have ef := rp0_S1; rw [hpre1] at ef; rw [R1_c (by unfold rFi; omega) (by omega)]; have zc := rp1_S3.1; rw [hpre1] at zc; exact zc) | (have p3 := congrArg Int32.toInt (show ab 87 3 = mI S 91 2 from by rw [← hpre1]; rfl); have p9 := congrArg Int32.toInt (show ab 87 9 = mI S 91 5 from by rw [← hpre1]; rfl); have p92 : (ab 92 (ab 87 9).toNatClampNeg).toInt = (mI S 92 (mI S 91 5).toNatClampNeg).toInt := (by rw [← hpre1]; exact congrArg Int32.toInt (aZ_9 (Or.inl rfl))); have h39 := hpre2.2.2.1.2.2.1; have h38 := hpre2.2.2.1.2.1; exfalso; omega))
    · skip
      have g14 := i_nlt h7
      have li15 : (93 : Int32).toInt = 93 := rfl
      refine zd (fun h16 => ?_) (fun h16 => ?_)
      · skip
        have g17 := i_le h16
        refine sp_42_91_sz  (by omega) (by omega) hI  (fun v6 S5 eS_S5 hp_v6 rp0_S5 => zi_n ⟨(by rw [eS_S5]; exact zG_T hI), ?_⟩)
        replace eS_S5 := eS_S5.symm; subst eS_S5
        have rp0_S5 : v6.toInt = rEf (aZ S) 93 := rp0_S5
        have li18 : (2 : Int32).toInt = 2 := rfl
        have b19 := i_bd v6
        refine zd (fun h20 => ?_) (fun h20 => ?_)
        · skip
          have g21 := i_le h20
          exact lp_40_91_sz_35 (by omega) (by omega) K _ _ (z) rfl hI (by omega) (by omega) (show xB S (mR S 70) from by first | (exact xB_x (xC_o (W := 75) hpre0).2)) (show (z) = z from by first | (exact rfl)) (show ¬ (ab 87 3).toInt < (z).toInt from by first | (have p3 := congrArg Int32.toInt (show ab 87 3 = mI S 91 2 from by rw [← hpre1]; rfl); have p9 := congrArg Int32.toInt (show ab 87 9 = mI S 91 5 from by rw [← hpre1]; rfl); have p92 : (ab 92 (ab 87 9).toNatClampNeg).toInt = (mI S 92 (mI S 91 5).toNatClampNeg).toInt := (by rw [← hpre1]; exact congrArg Int32.toInt (aZ_9 (Or.inl rfl))); have h39 := hpre2.2.2.1.2.2.1; have h38 := hpre2.2.2.1.2.1; omega)) (show qRv (aZ S) from by first | (rw [hpre1]; exact hpre2)) (show aZ S = rR1 ab (z).toInt from by first | (have p3 := congrArg Int32.toInt (show ab 87 3 = mI S 91 2 from by rw [← hpre1]; rfl); have p9 := congrArg Int32.toInt (show ab 87 9 = mI S 91 5 from by rw [← hpre1]; rfl); have p92 : (ab 92 (ab 87 9).toNatClampNeg).toInt = (mI S 92 (mI S 91 5).toNatClampNeg).toInt := (by rw [← hpre1]; exact congrArg Int32.toInt (aZ_9 (Or.inl rfl))); have h39 := hpre2.2.2.1.2.2.1; have h38 := hpre2.2.2.1.2.1; have ef := rp0_S5; rw [hpre1] at ef; rw [R1_n (by unfold rFi; omega) (by omega)]; exact hpre1) | (have p3 := congrArg Int32.toInt (show ab 87 3 = mI S 91 2 from by rw [← hpre1]; rfl); have p9 := congrArg Int32.toInt (show ab 87 9 = mI S 91 5 from by rw [← hpre1]; rfl); have p92 : (ab 92 (ab 87 9).toNatClampNeg).toInt = (mI S 92 (mI S 91 5).toNatClampNeg).toInt := (by rw [← hpre1]; exact congrArg Int32.toInt (aZ_9 (Or.inl rfl))); have h39 := hpre2.2.2.1.2.2.1; have h38 := hpre2.2.2.1.2.1; exfalso; omega))
        · skip
          have g22 := i_nle h20
          refine sp_43_91_sz (ab := (aZ S)) (by omega) (by omega) hI (show xB S (mR S 70) from by first | (exact xB_x (xC_o (W := 75) hpre0).2)) (show aZ S = (aZ S) from by first | (exact rfl)) (show qRv (aZ S) from by first | (rw [hpre1]; exact hpre2) | (rw [hpre1]; exact hpre2) | (exact hpre2)) (fun v8 S7 hI_S7 hp_v8 rp0_S7 rp1_S7 => zi_n ⟨zG_T hI_S7, ?_⟩)
          have rp0_S7 : xB S7 (mR S7 70) := rp0_S7
          have rp1_S7 : aZ S7 = rCl (aZ S) ∧ v8 = aSv (aZ S) ∧ qRv (aZ S7) := rp1_S7
          exact lp_40_91_sz_35 (by omega) (by omega) K _ _ (z) rfl hI_S7 (by omega) (by omega) (show xB S7 (mR S7 70) from by first | (exact xB_x (xC_o (W := 75) rp0_S7).2)) (show (z) = z from by first | (exact rfl)) (show ¬ (ab 87 3).toInt < (z).toInt from by first | (have p3 := congrArg Int32.toInt (show ab 87 3 = mI S 91 2 from by rw [← hpre1]; rfl); have p9 := congrArg Int32.toInt (show ab 87 9 = mI S 91 5 from by rw [← hpre1]; rfl); have p92 : (ab 92 (ab 87 9).toNatClampNeg).toInt = (mI S 92 (mI S 91 5).toNatClampNeg).toInt := (by rw [← hpre1]; exact congrArg Int32.toInt (aZ_9 (Or.inl rfl))); have h39 := hpre2.2.2.1.2.2.1; have h38 := hpre2.2.2.1.2.1; omega)) (show qRv (aZ S7) from by first | (exact rp1_S7.2.2)) (show aZ S7 = rR1 ab (z).toInt from by first | (have p3 := congrArg Int32.toInt (show ab 87 3 = mI S 91 2 from by rw [← hpre1]; rfl); have p9 := congrArg Int32.toInt (show ab 87 9 = mI S 91 5 from by rw [← hpre1]; rfl); have p92 : (ab 92 (ab 87 9).toNatClampNeg).toInt = (mI S 92 (mI S 91 5).toNatClampNeg).toInt := (by rw [← hpre1]; exact congrArg Int32.toInt (aZ_9 (Or.inl rfl))); have h39 := hpre2.2.2.1.2.2.1; have h38 := hpre2.2.2.1.2.1; have ef := rp0_S5; rw [hpre1] at ef; rw [R1_c (by unfold rFi; omega) (by omega)]; have zc := rp1_S7.1; rw [hpre1] at zc; exact zc) | (have p3 := congrArg Int32.toInt (show ab 87 3 = mI S 91 2 from by rw [← hpre1]; rfl); have p9 := congrArg Int32.toInt (show ab 87 9 = mI S 91 5 from by rw [← hpre1]; rfl); have p92 : (ab 92 (ab 87 9).toNatClampNeg).toInt = (mI S 92 (mI S 91 5).toNatClampNeg).toInt := (by rw [← hpre1]; exact congrArg Int32.toInt (aZ_9 (Or.inl rfl))); have h39 := hpre2.2.2.1.2.2.1; have h38 := hpre2.2.2.1.2.1; exfalso; omega))
      · skip
        have g23 := i_nle h16
        refine ⟨i_ix (by omega) (by omega), ?_⟩
        first | have f24 := zG_a hI 93 (0) (3000) (c := 92) (k := (mI S 91 5).toNatClampNeg) (by decide) (i_ix (n := 93) (by omega) (by omega)).2 | have b25 := i_bd (mI S 92 (mI S 91 5).toNatClampNeg)
        first | have e26 : ((mI S 92 (mI S 91 5).toNatClampNeg) + z).toInt = (mI S 92 (mI S 91 5).toNatClampNeg).toInt + z.toInt := i_add (by omega) (by omega) | have b27 := i_bd ((mI S 92 (mI S 91 5).toNatClampNeg) + z)
        refine zd (fun h28 => ?_) (fun h28 => ?_)
        · skip
          have g29 := i_lt h28
          refine sp_42_91_sz  (by omega) (by omega) hI  (fun v10 S9 eS_S9 hp_v10 rp0_S9 => zi_n ⟨(by rw [eS_S9]; exact zG_T hI), ?_⟩)
          replace eS_S9 := eS_S9.symm; subst eS_S9
          have rp0_S9 : v10.toInt = rEf (aZ S) 93 := rp0_S9
          have li30 : (2 : Int32).toInt = 2 := rfl
          have b31 := i_bd v10
          refine zd (fun h32 => ?_) (fun h32 => ?_)
          · skip
            have g33 := i_le h32
            exact lp_40_91_sz_35 (by omega) (by omega) K _ _ (z) rfl hI (by omega) (by omega) (show xB S (mR S 70) from by first | (exact xB_x (xC_o (W := 75) hpre0).2)) (show (z) = z from by first | (exact rfl)) (show ¬ (ab 87 3).toInt < (z).toInt from by first | (have p3 := congrArg Int32.toInt (show ab 87 3 = mI S 91 2 from by rw [← hpre1]; rfl); have p9 := congrArg Int32.toInt (show ab 87 9 = mI S 91 5 from by rw [← hpre1]; rfl); have p92 : (ab 92 (ab 87 9).toNatClampNeg).toInt = (mI S 92 (mI S 91 5).toNatClampNeg).toInt := (by rw [← hpre1]; exact congrArg Int32.toInt (aZ_9 (Or.inl rfl))); have h39 := hpre2.2.2.1.2.2.1; have h38 := hpre2.2.2.1.2.1; omega)) (show qRv (aZ S) from by first | (rw [hpre1]; exact hpre2)) (show aZ S = rR1 ab (z).toInt from by first | (have p3 := congrArg Int32.toInt (show ab 87 3 = mI S 91 2 from by rw [← hpre1]; rfl); have p9 := congrArg Int32.toInt (show ab 87 9 = mI S 91 5 from by rw [← hpre1]; rfl); have p92 : (ab 92 (ab 87 9).toNatClampNeg).toInt = (mI S 92 (mI S 91 5).toNatClampNeg).toInt := (by rw [← hpre1]; exact congrArg Int32.toInt (aZ_9 (Or.inl rfl))); have h39 := hpre2.2.2.1.2.2.1; have h38 := hpre2.2.2.1.2.1; have ef := rp0_S9; rw [hpre1] at ef; rw [R1_n (by unfold rFi; omega) (by omega)]; exact hpre1) | (have p3 := congrArg Int32.toInt (show ab 87 3 = mI S 91 2 from by rw [← hpre1]; rfl); have p9 := congrArg Int32.toInt (show ab 87 9 = mI S 91 5 from by rw [← hpre1]; rfl); have p92 : (ab 92 (ab 87 9).toNatClampNeg).toInt = (mI S 92 (mI S 91 5).toNatClampNeg).toInt := (by rw [← hpre1]; exact congrArg Int32.toInt (aZ_9 (Or.inl rfl))); have h39 := hpre2.2.2.1.2.2.1; have h38 := hpre2.2.2.1.2.1; exfalso; omega))
          · skip
            have g34 := i_nle h32
            refine sp_43_91_sz (ab := (aZ S)) (by omega) (by omega) hI (show xB S (mR S 70) from by first | (exact xB_x (xC_o (W := 75) hpre0).2)) (show aZ S = (aZ S) from by first | (exact rfl)) (show qRv (aZ S) from by first | (rw [hpre1]; exact hpre2) | (rw [hpre1]; exact hpre2) | (exact hpre2)) (fun v12 S11 hI_S11 hp_v12 rp0_S11 rp1_S11 => zi_n ⟨zG_T hI_S11, ?_⟩)
            have rp0_S11 : xB S11 (mR S11 70) := rp0_S11
            have rp1_S11 : aZ S11 = rCl (aZ S) ∧ v12 = aSv (aZ S) ∧ qRv (aZ S11) := rp1_S11
            exact lp_40_91_sz_35 (by omega) (by omega) K _ _ (z) rfl hI_S11 (by omega) (by omega) (show xB S11 (mR S11 70) from by first | (exact xB_x (xC_o (W := 75) rp0_S11).2)) (show (z) = z from by first | (exact rfl)) (show ¬ (ab 87 3).toInt < (z).toInt from by first | (have p3 := congrArg Int32.toInt (show ab 87 3 = mI S 91 2 from by rw [← hpre1]; rfl); have p9 := congrArg Int32.toInt (show ab 87 9 = mI S 91 5 from by rw [← hpre1]; rfl); have p92 : (ab 92 (ab 87 9).toNatClampNeg).toInt = (mI S 92 (mI S 91 5).toNatClampNeg).toInt := (by rw [← hpre1]; exact congrArg Int32.toInt (aZ_9 (Or.inl rfl))); have h39 := hpre2.2.2.1.2.2.1; have h38 := hpre2.2.2.1.2.1; omega)) (show qRv (aZ S11) from by first | (exact rp1_S11.2.2)) (show aZ S11 = rR1 ab (z).toInt from by first | (have p3 := congrArg Int32.toInt (show ab 87 3 = mI S 91 2 from by rw [← hpre1]; rfl); have p9 := congrArg Int32.toInt (show ab 87 9 = mI S 91 5 from by rw [← hpre1]; rfl); have p92 : (ab 92 (ab 87 9).toNatClampNeg).toInt = (mI S 92 (mI S 91 5).toNatClampNeg).toInt := (by rw [← hpre1]; exact congrArg Int32.toInt (aZ_9 (Or.inl rfl))); have h39 := hpre2.2.2.1.2.2.1; have h38 := hpre2.2.2.1.2.1; have ef := rp0_S9; rw [hpre1] at ef; rw [R1_c (by unfold rFi; omega) (by omega)]; have zc := rp1_S11.1; rw [hpre1] at zc; exact zc) | (have p3 := congrArg Int32.toInt (show ab 87 3 = mI S 91 2 from by rw [← hpre1]; rfl); have p9 := congrArg Int32.toInt (show ab 87 9 = mI S 91 5 from by rw [← hpre1]; rfl); have p92 : (ab 92 (ab 87 9).toNatClampNeg).toInt = (mI S 92 (mI S 91 5).toNatClampNeg).toInt := (by rw [← hpre1]; exact congrArg Int32.toInt (aZ_9 (Or.inl rfl))); have h39 := hpre2.2.2.1.2.2.1; have h38 := hpre2.2.2.1.2.1; exfalso; omega))
        · skip
          have g35 := i_nlt h28
          exact lp_40_91_sz_35 (by omega) (by omega) K _ _ (z) rfl hI (by omega) (by omega) (show xB S (mR S 70) from by first | (exact xB_x (xC_o (W := 75) hpre0).2)) (show (z) = z from by first | (exact rfl)) (show ¬ (ab 87 3).toInt < (z).toInt from by first | (have p3 := congrArg Int32.toInt (show ab 87 3 = mI S 91 2 from by rw [← hpre1]; rfl); have p9 := congrArg Int32.toInt (show ab 87 9 = mI S 91 5 from by rw [← hpre1]; rfl); have p92 : (ab 92 (ab 87 9).toNatClampNeg).toInt = (mI S 92 (mI S 91 5).toNatClampNeg).toInt := (by rw [← hpre1]; exact congrArg Int32.toInt (aZ_9 (Or.inl rfl))); have h39 := hpre2.2.2.1.2.2.1; have h38 := hpre2.2.2.1.2.1; omega)) (show qRv (aZ S) from by first | (rw [hpre1]; exact hpre2)) (show aZ S = rR1 ab (z).toInt from by first | (have p3 := congrArg Int32.toInt (show ab 87 3 = mI S 91 2 from by rw [← hpre1]; rfl); have p9 := congrArg Int32.toInt (show ab 87 9 = mI S 91 5 from by rw [← hpre1]; rfl); have p92 : (ab 92 (ab 87 9).toNatClampNeg).toInt = (mI S 92 (mI S 91 5).toNatClampNeg).toInt := (by rw [← hpre1]; exact congrArg Int32.toInt (aZ_9 (Or.inl rfl))); have h39 := hpre2.2.2.1.2.2.1; have h38 := hpre2.2.2.1.2.1; rw [R1_y (by unfold rFi; omega)]; exact hpre1) | (have p3 := congrArg Int32.toInt (show ab 87 3 = mI S 91 2 from by rw [← hpre1]; rfl); have p9 := congrArg Int32.toInt (show ab 87 9 = mI S 91 5 from by rw [← hpre1]; rfl); have p92 : (ab 92 (ab 87 9).toNatClampNeg).toInt = (mI S 92 (mI S 91 5).toNatClampNeg).toInt := (by rw [← hpre1]; exact congrArg Int32.toInt (aZ_9 (Or.inl rfl))); have h39 := hpre2.2.2.1.2.2.1; have h38 := hpre2.2.2.1.2.1; exfalso; omega))
  · skip
    have g36 := i_nle h3
    have li37 : (-1 : Int32).toInt = -1 := rfl
    have f38 := zG_s hI (0) (92) (c := 91) (k := 5) (by decide)
    first | have f39 := zG_a hI 93 (0) (3000) (c := 92) (k := (mI S 91 5).toNatClampNeg) (by decide) (i_ix (n := 93) (by omega) (by omega)).2 | have b40 := i_bd (mI S 92 (mI S 91 5).toNatClampNeg)
    exact K ((-1 : Int32)) _ hI (show -1 ≤ (-1 : Int32).toInt ∧ (-1 : Int32).toInt ≤ 300000 ∧ ((-1 : Int32).toInt < 0 ∨ (mI S 92 (mI S 91 5).toNatClampNeg).toInt ≤ 1500) from by omega) (show xB S (mR S 70) from by first | (exact xB_x (xC_o (W := 75) hpre0).2)) (show aZ S = rRs ab z.toInt ∧ (-1 : Int32).toInt = rRp ab z.toInt from by first | (have p3 := congrArg Int32.toInt (show ab 87 3 = mI S 91 2 from by rw [← hpre1]; rfl); have p9 := congrArg Int32.toInt (show ab 87 9 = mI S 91 5 from by rw [← hpre1]; rfl); have p92 : (ab 92 (ab 87 9).toNatClampNeg).toInt = (mI S 92 (mI S 91 5).toNatClampNeg).toInt := (by rw [← hpre1]; exact congrArg Int32.toInt (aZ_9 (Or.inl rfl))); have h39 := hpre2.2.2.1.2.2.1; have h38 := hpre2.2.2.1.2.1; have s := Rs_s (a := ab) (z := z.toInt) (by omega); exact ⟨hpre1.trans s.1.symm, by rw [s.2]; rfl⟩)) (show (-1 : Int32).toInt = -1 ∨ (0 ≤ (-1 : Int32).toInt ∧ (-1 : Int32).toInt + z.toInt ≤ 1500) from by first | (exact Or.inl rfl)) (show qRv (aZ S) from by first | (rw [hpre1]; exact hpre2))

