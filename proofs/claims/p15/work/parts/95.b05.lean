/-! regions (written by wip/tools/gen95a.py) -/
theorem g_40_91_0 {X : Nat × (Nat → Int32)} {d w : Nat} {S : ma_S} {Q : Option ma_V ⊕ Nat → ma_S → Prop} (n : Int32) (hd : 5 ≤ d) (hw : 183 ≤ w) (hS : zT S) (h : if n ≤ (mI S 91 2) then (if (mI S 91 5) < 0 then (ma_wp X (d - 1) (w - 22) 42 0 [(0, .inr (.inr (some 91)))] [] S (zi (fun v2 S1 => zT S1 ∧ (if (2 : Int32) ≤ v2 then (ma_wp X d w 40 35 [(0, .inr (.inr (some 91))), (1, .inl n)] [] S1 Q) else (ma_wp X (d - 1) (w - 23) 43 0 [(0, .inr (.inr (some 91)))] [] S1 (zi (fun v4 S3 => zT S3 ∧ (ma_wp X d w 40 35 [(0, .inr (.inr (some 91))), (1, .inl n)] [] S3 Q)) (fun x S9 => Q (.inr x) S9))))) (fun x S9 => Q (.inr x) S9))) else (if (93 : Int32) ≤ (mI S 91 5) then (ma_wp X (d - 1) (w - 22) 42 0 [(0, .inr (.inr (some 91)))] [] S (zi (fun v6 S5 => zT S5 ∧ (if (2 : Int32) ≤ v6 then (ma_wp X d w 40 35 [(0, .inr (.inr (some 91))), (1, .inl n)] [] S5 Q) else (ma_wp X (d - 1) (w - 23) 43 0 [(0, .inr (.inr (some 91)))] [] S5 (zi (fun v8 S7 => zT S7 ∧ (ma_wp X d w 40 35 [(0, .inr (.inr (some 91))), (1, .inl n)] [] S7 Q)) (fun x S9 => Q (.inr x) S9))))) (fun x S9 => Q (.inr x) S9))) else ((0 ≤ (mI S 91 5) ∧ (mI S 91 5).toNatClampNeg < 93) ∧ (if (mI S 91 2) < ((mI S 92 (mI S 91 5).toNatClampNeg) + n) then (ma_wp X (d - 1) (w - 22) 42 0 [(0, .inr (.inr (some 91)))] [] S (zi (fun v10 S9 => zT S9 ∧ (if (2 : Int32) ≤ v10 then (ma_wp X d w 40 35 [(0, .inr (.inr (some 91))), (1, .inl n)] [] S9 Q) else (ma_wp X (d - 1) (w - 23) 43 0 [(0, .inr (.inr (some 91)))] [] S9 (zi (fun v12 S11 => zT S11 ∧ (ma_wp X d w 40 35 [(0, .inr (.inr (some 91))), (1, .inl n)] [] S11 Q)) (fun x S9 => Q (.inr x) S9))))) (fun x S9 => Q (.inr x) S9))) else (ma_wp X d w 40 35 [(0, .inr (.inr (some 91))), (1, .inl n)] [] S Q))))) else (Q (.inl (some (.inl (-1 : Int32)))) S)) : ma_wp X d w 40 0 [(0, .inr (.inr (some 91))), (1, .inl n)] [] S Q := by
  refine zw_push hm_40 dX4_findRoom_0 (v := .inl n) rfl ?_
  refine zw_push hm_40 dX4_findRoom_1 (v := .inr (.inr (some 91))) rfl ?_
  refine zw_gf hm_40 dX4_findRoom_2 (v := .inl (mI S 91 2)) (zT_is hS s_91) (zT_t hS s_91) rfl f_4_18_4 rfl ?_
  refine zw_if2 hm_40 dX4_findRoom_5 (t := 10) rfl zc2_le ?_ ?_
  · intro hc
    rw [if_pos hc] at h
    refine zw_push hm_40 dX4_findRoom_10 (v := .inr (.inr (some 91))) rfl ?_
    refine zw_push hm_40 dX4_findRoom_11 (v := .inr (.inr (some 91))) rfl ?_
    refine zw_gf hm_40 dX4_findRoom_12 (v := .inl (mI S 91 5)) (zT_is hS s_91) (zT_t hS s_91) rfl f_4_34_4 rfl ?_
    refine zw_push hm_40 dX4_findRoom_15 (v := .inl n) rfl ?_
    refine zw_cv hm_40 dX4_findRoom_16 v_4_43_4 hm_41 [.inl n, .inl (mI S 91 5)] [] rfl (zT_rt hS s_91 rfl) ⟨by omega, by omega⟩ rfl ?_
    show ma_wp X (d - 1) (w - 22) 41 0 [(0, .inr (.inr (some 91))), (1, .inl (mI S 91 5)), (2, .inl n)] [] S _
    refine zw_push hm_41 dX4_fits_0 (v := .inl (mI S 91 5)) rfl ?_
    refine zw_if0 hm_41 dX4_fits_1 (t := 29) rfl zc0_lt ?_ ?_
    · intro hc
      rw [if_pos hc] at h
      refine zw_push hm_41 dX4_fits_29 (v := .inl (0 : Int32)) rfl ?_
      refine zw_bret hm_41 dX4_fits_30 (by decide) ?_
      show ma_wp X d w 40 19 [(0, .inr (.inr (some 91))), (1, .inl n)] [.inl (0 : Int32)] S _
      refine zw_if0 hm_40 dX4_findRoom_19 (t := 35) rfl zc0_ne (fun hc => absurd hc (by decide)) (fun _ => ?_)
      refine zw_push hm_40 dX4_findRoom_22 (v := .inr (.inr (some 91))) rfl ?_
      refine zw_cv hm_40 dX4_findRoom_23 v_4_47_4 hm_42 [] [] rfl (zT_rt hS s_91 rfl) ⟨by omega, by omega⟩ rfl (zw_mono h (zi_go ?_ ?_))
      · intro v2 S1 hv
        obtain ⟨hS1, h⟩ := hv
        refine zw_push hm_40 dX4_findRoom_26 (v := .inl (2 : Int32)) rfl ?_
        refine zw_if2 hm_40 dX4_findRoom_27 (t := 35) rfl zc2_ge ?_ ?_
        · intro hc
          rw [if_pos hc] at h
          exact h
        · intro hc
          rw [if_neg hc] at h
          refine zw_push hm_40 dX4_findRoom_30 (v := .inr (.inr (some 91))) rfl ?_
          refine zw_cv hm_40 dX4_findRoom_31 v_4_51_4 hm_43 [] [] rfl (zT_rt hS1 s_91 rfl) ⟨by omega, by omega⟩ rfl (zw_mono h (zi_go ?_ ?_))
          · intro v4 S3 hv
            obtain ⟨hS3, h⟩ := hv
            refine zw_stk hm_40 dX4_findRoom_34 (st' := []) rfl rfl ?_
            exact h
          · intro x S9 hx
            exact ⟨by decide, hx⟩
      · intro x S9 hx
        exact ⟨by decide, hx⟩
    · intro hc
      rw [if_neg hc] at h
      refine zw_push hm_41 dX4_fits_4 (v := .inl (mI S 91 5)) rfl ?_
      refine zw_push hm_41 dX4_fits_5 (v := .inl (93 : Int32)) rfl ?_
      refine zw_if2 hm_41 dX4_fits_7 (t := 29) rfl zc2_ge ?_ ?_
      · intro hc
        rw [if_pos hc] at h
        refine zw_push hm_41 dX4_fits_29 (v := .inl (0 : Int32)) rfl ?_
        refine zw_bret hm_41 dX4_fits_30 (by decide) ?_
        show ma_wp X d w 40 19 [(0, .inr (.inr (some 91))), (1, .inl n)] [.inl (0 : Int32)] S _
        refine zw_if0 hm_40 dX4_findRoom_19 (t := 35) rfl zc0_ne (fun hc => absurd hc (by decide)) (fun _ => ?_)
        refine zw_push hm_40 dX4_findRoom_22 (v := .inr (.inr (some 91))) rfl ?_
        refine zw_cv hm_40 dX4_findRoom_23 v_4_47_4 hm_42 [] [] rfl (zT_rt hS s_91 rfl) ⟨by omega, by omega⟩ rfl (zw_mono h (zi_go ?_ ?_))
        · intro v6 S5 hv
          obtain ⟨hS5, h⟩ := hv
          refine zw_push hm_40 dX4_findRoom_26 (v := .inl (2 : Int32)) rfl ?_
          refine zw_if2 hm_40 dX4_findRoom_27 (t := 35) rfl zc2_ge ?_ ?_
          · intro hc
            rw [if_pos hc] at h
            exact h
          · intro hc
            rw [if_neg hc] at h
            refine zw_push hm_40 dX4_findRoom_30 (v := .inr (.inr (some 91))) rfl ?_
            refine zw_cv hm_40 dX4_findRoom_31 v_4_51_4 hm_43 [] [] rfl (zT_rt hS5 s_91 rfl) ⟨by omega, by omega⟩ rfl (zw_mono h (zi_go ?_ ?_))
            · intro v8 S7 hv
              obtain ⟨hS7, h⟩ := hv
              refine zw_stk hm_40 dX4_findRoom_34 (st' := []) rfl rfl ?_
              exact h
            · intro x S9 hx
              exact ⟨by decide, hx⟩
        · intro x S9 hx
          exact ⟨by decide, hx⟩
      · intro hc
        rw [if_neg hc] at h
        refine zw_push hm_41 dX4_fits_10 (v := .inr (.inr (some 91))) rfl ?_
        refine zw_gf hm_41 dX4_fits_11 (v := .inr (.inr (some 92))) (zT_is hS s_91) (zT_t hS s_91) rfl f_4_9_4 (zT_f hS r_91_7) ?_
        refine zw_push hm_41 dX4_fits_14 (v := .inl (mI S 91 5)) rfl ?_
        obtain ⟨hg, h⟩ := h
        refine zw_ia hm_41 dX4_fits_15 (zT_is hS s_92) (zT_h hS s_92) rfl hg ?_
        show ma_wp X (d - 1) (w - 22) 41 16 [(0, .inr (.inr (some 91))), (1, .inl (mI S 91 5)), (2, .inl n)] [.inl (mI S 92 (mI S 91 5).toNatClampNeg)] S _
        refine zw_push hm_41 dX4_fits_16 (v := .inl n) rfl ?_
        refine zw_stk hm_41 dX4_fits_17 (st' := [.inl ((mI S 92 (mI S 91 5).toNatClampNeg) + n)]) rfl rfl ?_
        refine zw_push hm_41 dX4_fits_18 (v := .inr (.inr (some 91))) rfl ?_
        refine zw_gf hm_41 dX4_fits_19 (v := .inl (mI S 91 2)) (zT_is hS s_91) (zT_t hS s_91) rfl f_4_18_4 rfl ?_
        refine zw_if2 hm_41 dX4_fits_22 (t := 29) rfl zc2_gt ?_ ?_
        · intro hc
          rw [if_pos hc] at h
          refine zw_push hm_41 dX4_fits_29 (v := .inl (0 : Int32)) rfl ?_
          refine zw_bret hm_41 dX4_fits_30 (by decide) ?_
          show ma_wp X d w 40 19 [(0, .inr (.inr (some 91))), (1, .inl n)] [.inl (0 : Int32)] S _
          refine zw_if0 hm_40 dX4_findRoom_19 (t := 35) rfl zc0_ne (fun hc => absurd hc (by decide)) (fun _ => ?_)
          refine zw_push hm_40 dX4_findRoom_22 (v := .inr (.inr (some 91))) rfl ?_
          refine zw_cv hm_40 dX4_findRoom_23 v_4_47_4 hm_42 [] [] rfl (zT_rt hS s_91 rfl) ⟨by omega, by omega⟩ rfl (zw_mono h (zi_go ?_ ?_))
          · intro v10 S9 hv
            obtain ⟨hS9, h⟩ := hv
            refine zw_push hm_40 dX4_findRoom_26 (v := .inl (2 : Int32)) rfl ?_
            refine zw_if2 hm_40 dX4_findRoom_27 (t := 35) rfl zc2_ge ?_ ?_
            · intro hc
              rw [if_pos hc] at h
              exact h
            · intro hc
              rw [if_neg hc] at h
              refine zw_push hm_40 dX4_findRoom_30 (v := .inr (.inr (some 91))) rfl ?_
              refine zw_cv hm_40 dX4_findRoom_31 v_4_51_4 hm_43 [] [] rfl (zT_rt hS9 s_91 rfl) ⟨by omega, by omega⟩ rfl (zw_mono h (zi_go ?_ ?_))
              · intro v12 S11 hv
                obtain ⟨hS11, h⟩ := hv
                refine zw_stk hm_40 dX4_findRoom_34 (st' := []) rfl rfl ?_
                exact h
              · intro x S9 hx
                exact ⟨by decide, hx⟩
          · intro x S9 hx
            exact ⟨by decide, hx⟩
        · intro hc
          rw [if_neg hc] at h
          refine zw_push hm_41 dX4_fits_25 (v := .inl (1 : Int32)) rfl ?_
          refine zw_goto hm_41 dX4_fits_26 (t := 30) rfl ?_
          refine zw_bret hm_41 dX4_fits_30 (by decide) ?_
          show ma_wp X d w 40 19 [(0, .inr (.inr (some 91))), (1, .inl n)] [.inl (1 : Int32)] S _
          refine zw_if0 hm_40 dX4_findRoom_19 (t := 35) rfl zc0_ne (fun _ => ?_) (fun hc => absurd (by decide) hc)
          exact h
  · intro hc
    rw [if_neg hc] at h
    refine zw_push hm_40 dX4_findRoom_8 (v := .inl (-1 : Int32)) rfl ?_
    exact zw_iret hm_40 dX4_findRoom_9 h
theorem g_40_91_35 {X : Nat × (Nat → Int32)} {d w : Nat} {S : ma_S} {Q : Option ma_V ⊕ Nat → ma_S → Prop} (l1 : Int32) (hd : 5 ≤ d) (hw : 183 ≤ w) (hS : zT S) (h : if (mI S 91 5) < 0 then (ma_wp X (d - 1) (w - 21) 52 0 [(0, .inr (.inr (some 91)))] [] S (zi (fun v2 S1 => zT S1 ∧ (if v2 = (-1 : Int32) then (ma_wp X d w 40 62 [(0, .inr (.inr (some 91))), (1, .inl l1)] [] (ma_put S1 91 5 (.inl (mI S1 91 5))) Q) else (ma_wp X d w 40 62 [(0, .inr (.inr (some 91))), (1, .inl l1)] [] (ma_put S1 91 5 (.inl v2)) Q))) (fun x S9 => Q (.inr x) S9))) else (if (93 : Int32) ≤ (mI S 91 5) then (ma_wp X (d - 1) (w - 21) 52 0 [(0, .inr (.inr (some 91)))] [] S (zi (fun v4 S3 => zT S3 ∧ (if v4 = (-1 : Int32) then (ma_wp X d w 40 62 [(0, .inr (.inr (some 91))), (1, .inl l1)] [] (ma_put S3 91 5 (.inl (mI S3 91 5))) Q) else (ma_wp X d w 40 62 [(0, .inr (.inr (some 91))), (1, .inl l1)] [] (ma_put S3 91 5 (.inl v4)) Q))) (fun x S9 => Q (.inr x) S9))) else ((0 ≤ (mI S 91 5) ∧ (mI S 91 5).toNatClampNeg < 93) ∧ (if (mI S 91 2) < ((mI S 92 (mI S 91 5).toNatClampNeg) + l1) then (ma_wp X (d - 1) (w - 21) 52 0 [(0, .inr (.inr (some 91)))] [] S (zi (fun v6 S5 => zT S5 ∧ (if v6 = (-1 : Int32) then (ma_wp X d w 40 62 [(0, .inr (.inr (some 91))), (1, .inl l1)] [] (ma_put S5 91 5 (.inl (mI S5 91 5))) Q) else (ma_wp X d w 40 62 [(0, .inr (.inr (some 91))), (1, .inl l1)] [] (ma_put S5 91 5 (.inl v6)) Q))) (fun x S9 => Q (.inr x) S9))) else (ma_wp X d w 40 62 [(0, .inr (.inr (some 91))), (1, .inl l1)] [] S Q))))) : ma_wp X d w 40 35 [(0, .inr (.inr (some 91))), (1, .inl l1)] [] S Q := by
  refine zw_push hm_40 dX4_findRoom_35 (v := .inr (.inr (some 91))) rfl ?_
  refine zw_push hm_40 dX4_findRoom_36 (v := .inr (.inr (some 91))) rfl ?_
  refine zw_gf hm_40 dX4_findRoom_37 (v := .inl (mI S 91 5)) (zT_is hS s_91) (zT_t hS s_91) rfl f_4_34_4 rfl ?_
  refine zw_push hm_40 dX4_findRoom_40 (v := .inl l1) rfl ?_
  refine zw_cv hm_40 dX4_findRoom_41 v_4_43_4 hm_41 [.inl l1, .inl (mI S 91 5)] [] rfl (zT_rt hS s_91 rfl) ⟨by omega, by omega⟩ rfl ?_
  show ma_wp X (d - 1) (w - 22) 41 0 [(0, .inr (.inr (some 91))), (1, .inl (mI S 91 5)), (2, .inl l1)] [] S _
  refine zw_push hm_41 dX4_fits_0 (v := .inl (mI S 91 5)) rfl ?_
  refine zw_if0 hm_41 dX4_fits_1 (t := 29) rfl zc0_lt ?_ ?_
  · intro hc
    rw [if_pos hc] at h
    refine zw_push hm_41 dX4_fits_29 (v := .inl (0 : Int32)) rfl ?_
    refine zw_bret hm_41 dX4_fits_30 (by decide) ?_
    show ma_wp X d w 40 44 [(0, .inr (.inr (some 91))), (1, .inl l1)] [.inl (0 : Int32)] S _
    refine zw_if0 hm_40 dX4_findRoom_44 (t := 62) rfl zc0_ne (fun hc => absurd hc (by decide)) (fun _ => ?_)
    refine zw_push hm_40 dX4_findRoom_47 (v := .inr (.inr (some 91))) rfl ?_
    refine zw_push hm_40 dX4_findRoom_48 (v := .inr (.inr (some 91))) rfl ?_
    refine zw_cv hm_40 dX4_findRoom_49 v_4_54_4 hm_52 [] [.inr (.inr (some 91))] rfl (zT_rt hS s_91 rfl) ⟨by omega, by omega⟩ rfl (zw_mono h (zi_go ?_ ?_))
    · intro v2 S1 hv
      obtain ⟨hS1, h⟩ := hv
      refine zw_push hm_40 dX4_findRoom_52 (v := .inr (.inr (some 91))) rfl ?_
      refine zw_gf hm_40 dX4_findRoom_53 (v := .inl (mI S1 91 5)) (zT_is hS1 s_91) (zT_t hS1 s_91) rfl f_4_34_4 rfl ?_
      refine zw_cs hm_40 dX4_findRoom_56 pn_4_57 sl_4_57 hm_54 [.inl (mI S1 91 5), .inl v2] [.inr (.inr (some 91))] rfl ⟨by omega, by omega⟩ rfl ?_
      show ma_wp X (d - 1) (w - 21) 54 0 [(0, .inl v2), (1, .inl (mI S1 91 5))] [] S1 _
      refine zw_push hm_54 dX4_orElse_0 (v := .inl v2) rfl ?_
      refine zw_push hm_54 dX4_orElse_1 (v := .inl (-1 : Int32)) rfl ?_
      refine zw_if2 hm_54 dX4_orElse_2 (t := 9) rfl zc2_ne ?_ ?_
      · intro hc
        rw [if_neg hc] at h
        refine zw_push hm_54 dX4_orElse_9 (v := .inl v2) rfl ?_
        refine zw_iret hm_54 dX4_orElse_10 ?_
        show ma_wp X d w 40 59 [(0, .inr (.inr (some 91))), (1, .inl l1)] [.inl v2, .inr (.inr (some 91))] S1 _
        refine zw_pf hm_40 dX4_findRoom_59 (zT_is hS1 s_91) (zT_t hS1 s_91) p_4_34_4 zk_int ?_
        exact h
      · intro hc
        rw [if_pos (Classical.not_not.mp hc)] at h
        refine zw_push hm_54 dX4_orElse_5 (v := .inl (mI S1 91 5)) rfl ?_
        refine zw_goto hm_54 dX4_orElse_6 (t := 10) rfl ?_
        refine zw_iret hm_54 dX4_orElse_10 ?_
        show ma_wp X d w 40 59 [(0, .inr (.inr (some 91))), (1, .inl l1)] [.inl (mI S1 91 5), .inr (.inr (some 91))] S1 _
        refine zw_pf hm_40 dX4_findRoom_59 (zT_is hS1 s_91) (zT_t hS1 s_91) p_4_34_4 zk_int ?_
        exact h
    · intro x S9 hx
      exact ⟨by decide, hx⟩
  · intro hc
    rw [if_neg hc] at h
    refine zw_push hm_41 dX4_fits_4 (v := .inl (mI S 91 5)) rfl ?_
    refine zw_push hm_41 dX4_fits_5 (v := .inl (93 : Int32)) rfl ?_
    refine zw_if2 hm_41 dX4_fits_7 (t := 29) rfl zc2_ge ?_ ?_
    · intro hc
      rw [if_pos hc] at h
      refine zw_push hm_41 dX4_fits_29 (v := .inl (0 : Int32)) rfl ?_
      refine zw_bret hm_41 dX4_fits_30 (by decide) ?_
      show ma_wp X d w 40 44 [(0, .inr (.inr (some 91))), (1, .inl l1)] [.inl (0 : Int32)] S _
      refine zw_if0 hm_40 dX4_findRoom_44 (t := 62) rfl zc0_ne (fun hc => absurd hc (by decide)) (fun _ => ?_)
      refine zw_push hm_40 dX4_findRoom_47 (v := .inr (.inr (some 91))) rfl ?_
      refine zw_push hm_40 dX4_findRoom_48 (v := .inr (.inr (some 91))) rfl ?_
      refine zw_cv hm_40 dX4_findRoom_49 v_4_54_4 hm_52 [] [.inr (.inr (some 91))] rfl (zT_rt hS s_91 rfl) ⟨by omega, by omega⟩ rfl (zw_mono h (zi_go ?_ ?_))
      · intro v4 S3 hv
        obtain ⟨hS3, h⟩ := hv
        refine zw_push hm_40 dX4_findRoom_52 (v := .inr (.inr (some 91))) rfl ?_
        refine zw_gf hm_40 dX4_findRoom_53 (v := .inl (mI S3 91 5)) (zT_is hS3 s_91) (zT_t hS3 s_91) rfl f_4_34_4 rfl ?_
        refine zw_cs hm_40 dX4_findRoom_56 pn_4_57 sl_4_57 hm_54 [.inl (mI S3 91 5), .inl v4] [.inr (.inr (some 91))] rfl ⟨by omega, by omega⟩ rfl ?_
        show ma_wp X (d - 1) (w - 21) 54 0 [(0, .inl v4), (1, .inl (mI S3 91 5))] [] S3 _
        refine zw_push hm_54 dX4_orElse_0 (v := .inl v4) rfl ?_
        refine zw_push hm_54 dX4_orElse_1 (v := .inl (-1 : Int32)) rfl ?_
        refine zw_if2 hm_54 dX4_orElse_2 (t := 9) rfl zc2_ne ?_ ?_
        · intro hc
          rw [if_neg hc] at h
          refine zw_push hm_54 dX4_orElse_9 (v := .inl v4) rfl ?_
          refine zw_iret hm_54 dX4_orElse_10 ?_
          show ma_wp X d w 40 59 [(0, .inr (.inr (some 91))), (1, .inl l1)] [.inl v4, .inr (.inr (some 91))] S3 _
          refine zw_pf hm_40 dX4_findRoom_59 (zT_is hS3 s_91) (zT_t hS3 s_91) p_4_34_4 zk_int ?_
          exact h
        · intro hc
          rw [if_pos (Classical.not_not.mp hc)] at h
          refine zw_push hm_54 dX4_orElse_5 (v := .inl (mI S3 91 5)) rfl ?_
          refine zw_goto hm_54 dX4_orElse_6 (t := 10) rfl ?_
          refine zw_iret hm_54 dX4_orElse_10 ?_
          show ma_wp X d w 40 59 [(0, .inr (.inr (some 91))), (1, .inl l1)] [.inl (mI S3 91 5), .inr (.inr (some 91))] S3 _
          refine zw_pf hm_40 dX4_findRoom_59 (zT_is hS3 s_91) (zT_t hS3 s_91) p_4_34_4 zk_int ?_
          exact h
      · intro x S9 hx
        exact ⟨by decide, hx⟩
    · intro hc
      rw [if_neg hc] at h
      refine zw_push hm_41 dX4_fits_10 (v := .inr (.inr (some 91))) rfl ?_
      refine zw_gf hm_41 dX4_fits_11 (v := .inr (.inr (some 92))) (zT_is hS s_91) (zT_t hS s_91) rfl f_4_9_4 (zT_f hS r_91_7) ?_
      refine zw_push hm_41 dX4_fits_14 (v := .inl (mI S 91 5)) rfl ?_
      obtain ⟨hg, h⟩ := h
      refine zw_ia hm_41 dX4_fits_15 (zT_is hS s_92) (zT_h hS s_92) rfl hg ?_
      show ma_wp X (d - 1) (w - 22) 41 16 [(0, .inr (.inr (some 91))), (1, .inl (mI S 91 5)), (2, .inl l1)] [.inl (mI S 92 (mI S 91 5).toNatClampNeg)] S _
      refine zw_push hm_41 dX4_fits_16 (v := .inl l1) rfl ?_
      refine zw_stk hm_41 dX4_fits_17 (st' := [.inl ((mI S 92 (mI S 91 5).toNatClampNeg) + l1)]) rfl rfl ?_
      refine zw_push hm_41 dX4_fits_18 (v := .inr (.inr (some 91))) rfl ?_
      refine zw_gf hm_41 dX4_fits_19 (v := .inl (mI S 91 2)) (zT_is hS s_91) (zT_t hS s_91) rfl f_4_18_4 rfl ?_
      refine zw_if2 hm_41 dX4_fits_22 (t := 29) rfl zc2_gt ?_ ?_
      · intro hc
        rw [if_pos hc] at h
        refine zw_push hm_41 dX4_fits_29 (v := .inl (0 : Int32)) rfl ?_
        refine zw_bret hm_41 dX4_fits_30 (by decide) ?_
        show ma_wp X d w 40 44 [(0, .inr (.inr (some 91))), (1, .inl l1)] [.inl (0 : Int32)] S _
        refine zw_if0 hm_40 dX4_findRoom_44 (t := 62) rfl zc0_ne (fun hc => absurd hc (by decide)) (fun _ => ?_)
        refine zw_push hm_40 dX4_findRoom_47 (v := .inr (.inr (some 91))) rfl ?_
        refine zw_push hm_40 dX4_findRoom_48 (v := .inr (.inr (some 91))) rfl ?_
        refine zw_cv hm_40 dX4_findRoom_49 v_4_54_4 hm_52 [] [.inr (.inr (some 91))] rfl (zT_rt hS s_91 rfl) ⟨by omega, by omega⟩ rfl (zw_mono h (zi_go ?_ ?_))
        · intro v6 S5 hv
          obtain ⟨hS5, h⟩ := hv
          refine zw_push hm_40 dX4_findRoom_52 (v := .inr (.inr (some 91))) rfl ?_
          refine zw_gf hm_40 dX4_findRoom_53 (v := .inl (mI S5 91 5)) (zT_is hS5 s_91) (zT_t hS5 s_91) rfl f_4_34_4 rfl ?_
          refine zw_cs hm_40 dX4_findRoom_56 pn_4_57 sl_4_57 hm_54 [.inl (mI S5 91 5), .inl v6] [.inr (.inr (some 91))] rfl ⟨by omega, by omega⟩ rfl ?_
          show ma_wp X (d - 1) (w - 21) 54 0 [(0, .inl v6), (1, .inl (mI S5 91 5))] [] S5 _
          refine zw_push hm_54 dX4_orElse_0 (v := .inl v6) rfl ?_
          refine zw_push hm_54 dX4_orElse_1 (v := .inl (-1 : Int32)) rfl ?_
          refine zw_if2 hm_54 dX4_orElse_2 (t := 9) rfl zc2_ne ?_ ?_
          · intro hc
            rw [if_neg hc] at h
            refine zw_push hm_54 dX4_orElse_9 (v := .inl v6) rfl ?_
            refine zw_iret hm_54 dX4_orElse_10 ?_
            show ma_wp X d w 40 59 [(0, .inr (.inr (some 91))), (1, .inl l1)] [.inl v6, .inr (.inr (some 91))] S5 _
            refine zw_pf hm_40 dX4_findRoom_59 (zT_is hS5 s_91) (zT_t hS5 s_91) p_4_34_4 zk_int ?_
            exact h
          · intro hc
            rw [if_pos (Classical.not_not.mp hc)] at h
            refine zw_push hm_54 dX4_orElse_5 (v := .inl (mI S5 91 5)) rfl ?_
            refine zw_goto hm_54 dX4_orElse_6 (t := 10) rfl ?_
            refine zw_iret hm_54 dX4_orElse_10 ?_
            show ma_wp X d w 40 59 [(0, .inr (.inr (some 91))), (1, .inl l1)] [.inl (mI S5 91 5), .inr (.inr (some 91))] S5 _
            refine zw_pf hm_40 dX4_findRoom_59 (zT_is hS5 s_91) (zT_t hS5 s_91) p_4_34_4 zk_int ?_
            exact h
        · intro x S9 hx
          exact ⟨by decide, hx⟩
      · intro hc
        rw [if_neg hc] at h
        refine zw_push hm_41 dX4_fits_25 (v := .inl (1 : Int32)) rfl ?_
        refine zw_goto hm_41 dX4_fits_26 (t := 30) rfl ?_
        refine zw_bret hm_41 dX4_fits_30 (by decide) ?_
        show ma_wp X d w 40 44 [(0, .inr (.inr (some 91))), (1, .inl l1)] [.inl (1 : Int32)] S _
        refine zw_if0 hm_40 dX4_findRoom_44 (t := 62) rfl zc0_ne (fun _ => ?_) (fun hc => absurd (by decide) hc)
        exact h
theorem g_40_91_62 {X : Nat × (Nat → Int32)} {d w : Nat} {S : ma_S} {Q : Option ma_V ⊕ Nat → ma_S → Prop} (l1 : Int32) (hd : 5 ≤ d) (hw : 183 ≤ w) (hS : zT S) (h : if (mI S 91 5) < 0 then (Q (.inl (some (.inl (-1 : Int32)))) S) else (if (93 : Int32) ≤ (mI S 91 5) then (Q (.inl (some (.inl (-1 : Int32)))) S) else ((0 ≤ (mI S 91 5) ∧ (mI S 91 5).toNatClampNeg < 93) ∧ (if (mI S 91 2) < ((mI S 92 (mI S 91 5).toNatClampNeg) + l1) then (Q (.inl (some (.inl (-1 : Int32)))) S) else (if (mI S 91 5) < 0 then (Q (.inl (some (.inl (((mI S 91 5) * (mI S 91 2)) + (0 : Int32))))) S) else (if (93 : Int32) ≤ (mI S 91 5) then (Q (.inl (some (.inl (((mI S 91 5) * (mI S 91 2)) + (0 : Int32))))) S) else ((0 ≤ (mI S 91 5) ∧ (mI S 91 5).toNatClampNeg < 93) ∧ (Q (.inl (some (.inl (((mI S 91 5) * (mI S 91 2)) + (mI S 92 (mI S 91 5).toNatClampNeg))))) S)))))))) : ma_wp X d w 40 62 [(0, .inr (.inr (some 91))), (1, .inl l1)] [] S Q := by
  refine zw_push hm_40 dX4_findRoom_62 (v := .inr (.inr (some 91))) rfl ?_
  refine zw_push hm_40 dX4_findRoom_63 (v := .inr (.inr (some 91))) rfl ?_
  refine zw_gf hm_40 dX4_findRoom_64 (v := .inl (mI S 91 5)) (zT_is hS s_91) (zT_t hS s_91) rfl f_4_34_4 rfl ?_
  refine zw_push hm_40 dX4_findRoom_67 (v := .inl l1) rfl ?_
  refine zw_cv hm_40 dX4_findRoom_68 v_4_43_4 hm_41 [.inl l1, .inl (mI S 91 5)] [] rfl (zT_rt hS s_91 rfl) ⟨by omega, by omega⟩ rfl ?_
  show ma_wp X (d - 1) (w - 22) 41 0 [(0, .inr (.inr (some 91))), (1, .inl (mI S 91 5)), (2, .inl l1)] [] S _
  refine zw_push hm_41 dX4_fits_0 (v := .inl (mI S 91 5)) rfl ?_
  refine zw_if0 hm_41 dX4_fits_1 (t := 29) rfl zc0_lt ?_ ?_
  · intro hc
    rw [if_pos hc] at h
    refine zw_push hm_41 dX4_fits_29 (v := .inl (0 : Int32)) rfl ?_
    refine zw_bret hm_41 dX4_fits_30 (by decide) ?_
    show ma_wp X d w 40 71 [(0, .inr (.inr (some 91))), (1, .inl l1)] [.inl (0 : Int32)] S _
    refine zw_if0 hm_40 dX4_findRoom_71 (t := 81) rfl zc0_eq (fun _ => ?_) (fun hc => absurd (by decide) hc)
    refine zw_push hm_40 dX4_findRoom_81 (v := .inl (-1 : Int32)) rfl ?_
    exact zw_iret hm_40 dX4_findRoom_82 h
  · intro hc
    rw [if_neg hc] at h
    refine zw_push hm_41 dX4_fits_4 (v := .inl (mI S 91 5)) rfl ?_
    refine zw_push hm_41 dX4_fits_5 (v := .inl (93 : Int32)) rfl ?_
    refine zw_if2 hm_41 dX4_fits_7 (t := 29) rfl zc2_ge ?_ ?_
    · intro hc
      rw [if_pos hc] at h
      refine zw_push hm_41 dX4_fits_29 (v := .inl (0 : Int32)) rfl ?_
      refine zw_bret hm_41 dX4_fits_30 (by decide) ?_
      show ma_wp X d w 40 71 [(0, .inr (.inr (some 91))), (1, .inl l1)] [.inl (0 : Int32)] S _
      refine zw_if0 hm_40 dX4_findRoom_71 (t := 81) rfl zc0_eq (fun _ => ?_) (fun hc => absurd (by decide) hc)
      refine zw_push hm_40 dX4_findRoom_81 (v := .inl (-1 : Int32)) rfl ?_
      exact zw_iret hm_40 dX4_findRoom_82 h
    · intro hc
      rw [if_neg hc] at h
      refine zw_push hm_41 dX4_fits_10 (v := .inr (.inr (some 91))) rfl ?_
      refine zw_gf hm_41 dX4_fits_11 (v := .inr (.inr (some 92))) (zT_is hS s_91) (zT_t hS s_91) rfl f_4_9_4 (zT_f hS r_91_7) ?_
      refine zw_push hm_41 dX4_fits_14 (v := .inl (mI S 91 5)) rfl ?_
      obtain ⟨hg, h⟩ := h
      refine zw_ia hm_41 dX4_fits_15 (zT_is hS s_92) (zT_h hS s_92) rfl hg ?_
      show ma_wp X (d - 1) (w - 22) 41 16 [(0, .inr (.inr (some 91))), (1, .inl (mI S 91 5)), (2, .inl l1)] [.inl (mI S 92 (mI S 91 5).toNatClampNeg)] S _
      refine zw_push hm_41 dX4_fits_16 (v := .inl l1) rfl ?_
      refine zw_stk hm_41 dX4_fits_17 (st' := [.inl ((mI S 92 (mI S 91 5).toNatClampNeg) + l1)]) rfl rfl ?_
      refine zw_push hm_41 dX4_fits_18 (v := .inr (.inr (some 91))) rfl ?_
      refine zw_gf hm_41 dX4_fits_19 (v := .inl (mI S 91 2)) (zT_is hS s_91) (zT_t hS s_91) rfl f_4_18_4 rfl ?_
      refine zw_if2 hm_41 dX4_fits_22 (t := 29) rfl zc2_gt ?_ ?_
      · intro hc
        rw [if_pos hc] at h
        refine zw_push hm_41 dX4_fits_29 (v := .inl (0 : Int32)) rfl ?_
        refine zw_bret hm_41 dX4_fits_30 (by decide) ?_
        show ma_wp X d w 40 71 [(0, .inr (.inr (some 91))), (1, .inl l1)] [.inl (0 : Int32)] S _
        refine zw_if0 hm_40 dX4_findRoom_71 (t := 81) rfl zc0_eq (fun _ => ?_) (fun hc => absurd (by decide) hc)
        refine zw_push hm_40 dX4_findRoom_81 (v := .inl (-1 : Int32)) rfl ?_
        exact zw_iret hm_40 dX4_findRoom_82 h
      · intro hc
        rw [if_neg hc] at h
        refine zw_push hm_41 dX4_fits_25 (v := .inl (1 : Int32)) rfl ?_
        refine zw_goto hm_41 dX4_fits_26 (t := 30) rfl ?_
        refine zw_bret hm_41 dX4_fits_30 (by decide) ?_
        show ma_wp X d w 40 71 [(0, .inr (.inr (some 91))), (1, .inl l1)] [.inl (1 : Int32)] S _
        refine zw_if0 hm_40 dX4_findRoom_71 (t := 81) rfl zc0_eq (fun hc => absurd hc (by decide)) (fun _ => ?_)
        refine zw_push hm_40 dX4_findRoom_74 (v := .inr (.inr (some 91))) rfl ?_
        refine zw_cv hm_40 dX4_findRoom_75 v_4_60_4 hm_55 [] [] rfl (zT_rt hS s_91 rfl) ⟨by omega, by omega⟩ rfl ?_
        show ma_wp X (d - 1) (w - 20) 55 0 [(0, .inr (.inr (some 91)))] [] S _
        refine zw_push hm_55 dX4_topPlace_0 (v := .inr (.inr (some 91))) rfl ?_
        refine zw_gf hm_55 dX4_topPlace_1 (v := .inl (mI S 91 5)) (zT_is hS s_91) (zT_t hS s_91) rfl f_4_34_4 rfl ?_
        refine zw_push hm_55 dX4_topPlace_4 (v := .inr (.inr (some 91))) rfl ?_
        refine zw_gf hm_55 dX4_topPlace_5 (v := .inl (mI S 91 2)) (zT_is hS s_91) (zT_t hS s_91) rfl f_4_18_4 rfl ?_
        refine zw_stk hm_55 dX4_topPlace_8 (st' := [.inl ((mI S 91 5) * (mI S 91 2))]) rfl rfl ?_
        refine zw_push hm_55 dX4_topPlace_9 (v := .inr (.inr (some 91))) rfl ?_
        refine zw_push hm_55 dX4_topPlace_10 (v := .inr (.inr (some 91))) rfl ?_
        refine zw_gf hm_55 dX4_topPlace_11 (v := .inl (mI S 91 5)) (zT_is hS s_91) (zT_t hS s_91) rfl f_4_34_4 rfl ?_
        refine zw_cv hm_55 dX4_topPlace_14 v_4_93_4 hm_50 [.inl (mI S 91 5)] [.inl ((mI S 91 5) * (mI S 91 2))] rfl (zT_rt hS s_91 rfl) ⟨by omega, by omega⟩ rfl ?_
        show ma_wp X ((d - 1) - 1) ((w - 20) - 21) 50 0 [(0, .inr (.inr (some 91))), (1, .inl (mI S 91 5))] [] S _
        refine zw_push hm_50 dX4_topOf_0 (v := .inl (mI S 91 5)) rfl ?_
        refine zw_if0 hm_50 dX4_topOf_1 (t := 19) rfl zc0_lt ?_ ?_
        · intro hc
          rw [if_pos hc] at h
          refine zw_push hm_50 dX4_topOf_19 (v := .inl (0 : Int32)) rfl ?_
          refine zw_iret hm_50 dX4_topOf_20 ?_
          show ma_wp X (d - 1) (w - 20) 55 17 [(0, .inr (.inr (some 91)))] [.inl (0 : Int32), .inl ((mI S 91 5) * (mI S 91 2))] S _
          refine zw_stk hm_55 dX4_topPlace_17 (st' := [.inl (((mI S 91 5) * (mI S 91 2)) + (0 : Int32))]) rfl rfl ?_
          refine zw_iret hm_55 dX4_topPlace_18 ?_
          show ma_wp X d w 40 78 [(0, .inr (.inr (some 91))), (1, .inl l1)] [.inl (((mI S 91 5) * (mI S 91 2)) + (0 : Int32))] S _
          refine zw_goto hm_40 dX4_findRoom_78 (t := 82) rfl ?_
          exact zw_iret hm_40 dX4_findRoom_82 h
        · intro hc
          rw [if_neg hc] at h
          refine zw_push hm_50 dX4_topOf_4 (v := .inl (mI S 91 5)) rfl ?_
          refine zw_push hm_50 dX4_topOf_5 (v := .inl (93 : Int32)) rfl ?_
          refine zw_if2 hm_50 dX4_topOf_7 (t := 19) rfl zc2_ge ?_ ?_
          · intro hc
            rw [if_pos hc] at h
            refine zw_push hm_50 dX4_topOf_19 (v := .inl (0 : Int32)) rfl ?_
            refine zw_iret hm_50 dX4_topOf_20 ?_
            show ma_wp X (d - 1) (w - 20) 55 17 [(0, .inr (.inr (some 91)))] [.inl (0 : Int32), .inl ((mI S 91 5) * (mI S 91 2))] S _
            refine zw_stk hm_55 dX4_topPlace_17 (st' := [.inl (((mI S 91 5) * (mI S 91 2)) + (0 : Int32))]) rfl rfl ?_
            refine zw_iret hm_55 dX4_topPlace_18 ?_
            show ma_wp X d w 40 78 [(0, .inr (.inr (some 91))), (1, .inl l1)] [.inl (((mI S 91 5) * (mI S 91 2)) + (0 : Int32))] S _
            refine zw_goto hm_40 dX4_findRoom_78 (t := 82) rfl ?_
            exact zw_iret hm_40 dX4_findRoom_82 h
          · intro hc
            rw [if_neg hc] at h
            refine zw_push hm_50 dX4_topOf_10 (v := .inr (.inr (some 91))) rfl ?_
            refine zw_gf hm_50 dX4_topOf_11 (v := .inr (.inr (some 92))) (zT_is hS s_91) (zT_t hS s_91) rfl f_4_9_4 (zT_f hS r_91_7) ?_
            refine zw_push hm_50 dX4_topOf_14 (v := .inl (mI S 91 5)) rfl ?_
            obtain ⟨hg, h⟩ := h
            refine zw_ia hm_50 dX4_topOf_15 (zT_is hS s_92) (zT_h hS s_92) rfl hg ?_
            show ma_wp X ((d - 1) - 1) ((w - 20) - 21) 50 16 [(0, .inr (.inr (some 91))), (1, .inl (mI S 91 5))] [.inl (mI S 92 (mI S 91 5).toNatClampNeg)] S _
            refine zw_goto hm_50 dX4_topOf_16 (t := 20) rfl ?_
            refine zw_iret hm_50 dX4_topOf_20 ?_
            show ma_wp X (d - 1) (w - 20) 55 17 [(0, .inr (.inr (some 91)))] [.inl (mI S 92 (mI S 91 5).toNatClampNeg), .inl ((mI S 91 5) * (mI S 91 2))] S _
            refine zw_stk hm_55 dX4_topPlace_17 (st' := [.inl (((mI S 91 5) * (mI S 91 2)) + (mI S 92 (mI S 91 5).toNatClampNeg))]) rfl rfl ?_
            refine zw_iret hm_55 dX4_topPlace_18 ?_
            show ma_wp X d w 40 78 [(0, .inr (.inr (some 91))), (1, .inl l1)] [.inl (((mI S 91 5) * (mI S 91 2)) + (mI S 92 (mI S 91 5).toNatClampNeg))] S _
            refine zw_goto hm_40 dX4_findRoom_78 (t := 82) rfl ?_
            exact zw_iret hm_40 dX4_findRoom_82 h
theorem lp_40_91_62 {X : Nat × (Nat → Int32)} {d w : Nat} {f : Nat → Nat → Int32} {r : Nat → Nat → Option Nat} {C Z N : Nat} {Q : Option ma_V ⊕ Nat → ma_S → Prop} (hd : 5 ≤ d) (hw : 183 ≤ w) (K : ∀ v S', zL91 f r C Z N S' → (-1 ≤ v.toInt ∧ v.toInt ≤ 300000 ∧ (v.toInt < 0 ∨ (mI S' 92 (mI S' 91 5).toNatClampNeg).toInt ≤ 1500)) → Q (.inl (some (.inl v))) S') : ∀ (n : Nat) (S : ma_S) (l1 : Int32), ((0 : Int)).toNat = n → zL91 f r C Z N S → (1 ≤ l1.toInt) → (l1.toInt ≤ 61) → ma_wp X d w 40 62 [(0, .inr (.inr (some 91))), (1, .inl l1)] [] S Q := by
  intro n
  induction n using Nat.strongRecOn with
  | _ n IH =>
    intro S l1 hmu hI  hi0 hi1
    refine g_40_91_62 l1 (by omega) (by omega) (zG_T hI) ?_
    have f1 := zG_s hI (0) (92) (c := 91) (k := 5) (by decide)
    have li2 : (0 : Int32).toInt = 0 := rfl
    refine zd (fun h3 => ?_) (fun h3 => ?_)
    · skip
      have g4 := i_lt h3
      have li5 : (-1 : Int32).toInt = -1 := rfl
      first | have f6 := zG_a hI 93 (0) (3000) (c := 92) (k := (mI S 91 5).toNatClampNeg) (by decide) (i_ix (n := 93) (by omega) (by omega)).2 | have b7 := i_bd (mI S 92 (mI S 91 5).toNatClampNeg)
      exact K ((-1 : Int32)) _ hI (show -1 ≤ (-1 : Int32).toInt ∧ (-1 : Int32).toInt ≤ 300000 ∧ ((-1 : Int32).toInt < 0 ∨ (mI S 92 (mI S 91 5).toNatClampNeg).toInt ≤ 1500) from by omega)
    · skip
      have g8 := i_nlt h3
      have li9 : (93 : Int32).toInt = 93 := rfl
      refine zd (fun h10 => ?_) (fun h10 => ?_)
      · skip
        have g11 := i_le h10
        have li12 : (-1 : Int32).toInt = -1 := rfl
        first | have f13 := zG_a hI 93 (0) (3000) (c := 92) (k := (mI S 91 5).toNatClampNeg) (by decide) (i_ix (n := 93) (by omega) (by omega)).2 | have b14 := i_bd (mI S 92 (mI S 91 5).toNatClampNeg)
        exact K ((-1 : Int32)) _ hI (show -1 ≤ (-1 : Int32).toInt ∧ (-1 : Int32).toInt ≤ 300000 ∧ ((-1 : Int32).toInt < 0 ∨ (mI S 92 (mI S 91 5).toNatClampNeg).toInt ≤ 1500) from by omega)
      · skip
        have g15 := i_nle h10
        refine ⟨i_ix (by omega) (by omega), ?_⟩
        have f16 := zG_s hI (0) (1500) (c := 91) (k := 2) (by decide)
        first | have f17 := zG_a hI 93 (0) (3000) (c := 92) (k := (mI S 91 5).toNatClampNeg) (by decide) (i_ix (n := 93) (by omega) (by omega)).2 | have b18 := i_bd (mI S 92 (mI S 91 5).toNatClampNeg)
        have b19 := i_bd l1
        first | have e20 : ((mI S 92 (mI S 91 5).toNatClampNeg) + l1).toInt = (mI S 92 (mI S 91 5).toNatClampNeg).toInt + l1.toInt := i_add (by omega) (by omega) | have b21 := i_bd ((mI S 92 (mI S 91 5).toNatClampNeg) + l1)
        refine zd (fun h22 => ?_) (fun h22 => ?_)
        · skip
          have g23 := i_lt h22
          have li24 : (-1 : Int32).toInt = -1 := rfl
          exact K ((-1 : Int32)) _ hI (show -1 ≤ (-1 : Int32).toInt ∧ (-1 : Int32).toInt ≤ 300000 ∧ ((-1 : Int32).toInt < 0 ∨ (mI S 92 (mI S 91 5).toNatClampNeg).toInt ≤ 1500) from by omega)
        · skip
          have g25 := i_nlt h22
          refine zd (fun h26 => ?_) (fun h26 => ?_)
          · skip
            have g27 := i_lt h26
            first | have f28 := i_muln (x := (mI S 91 5)) (y := (mI S 91 2)) (by omega) (by omega) (by omega) (by omega) | have b29 := i_bd ((mI S 91 5) * (mI S 91 2))
            first | have e30 : (((mI S 91 5) * (mI S 91 2)) + (0 : Int32)).toInt = ((mI S 91 5) * (mI S 91 2)).toInt + (0) := i_addk rfl (by omega) (by omega) | have b31 := i_bd (((mI S 91 5) * (mI S 91 2)) + (0 : Int32))
            exact K ((((mI S 91 5) * (mI S 91 2)) + (0 : Int32))) _ hI (show -1 ≤ (((mI S 91 5) * (mI S 91 2)) + (0 : Int32)).toInt ∧ (((mI S 91 5) * (mI S 91 2)) + (0 : Int32)).toInt ≤ 300000 ∧ ((((mI S 91 5) * (mI S 91 2)) + (0 : Int32)).toInt < 0 ∨ (mI S 92 (mI S 91 5).toNatClampNeg).toInt ≤ 1500) from by omega)
          · skip
            have g32 := i_nlt h26
            refine zd (fun h33 => ?_) (fun h33 => ?_)
            · skip
              have g34 := i_le h33
              first | have f35 := i_muln (x := (mI S 91 5)) (y := (mI S 91 2)) (by omega) (by omega) (by omega) (by omega) | have b36 := i_bd ((mI S 91 5) * (mI S 91 2))
              first | have e37 : (((mI S 91 5) * (mI S 91 2)) + (0 : Int32)).toInt = ((mI S 91 5) * (mI S 91 2)).toInt + (0) := i_addk rfl (by omega) (by omega) | have b38 := i_bd (((mI S 91 5) * (mI S 91 2)) + (0 : Int32))
              exact K ((((mI S 91 5) * (mI S 91 2)) + (0 : Int32))) _ hI (show -1 ≤ (((mI S 91 5) * (mI S 91 2)) + (0 : Int32)).toInt ∧ (((mI S 91 5) * (mI S 91 2)) + (0 : Int32)).toInt ≤ 300000 ∧ ((((mI S 91 5) * (mI S 91 2)) + (0 : Int32)).toInt < 0 ∨ (mI S 92 (mI S 91 5).toNatClampNeg).toInt ≤ 1500) from by omega)
            · skip
              have g39 := i_nle h33
              refine ⟨i_ix (by omega) (by omega), ?_⟩
              first | have f40 := i_muln (x := (mI S 91 5)) (y := (mI S 91 2)) (by omega) (by omega) (by omega) (by omega) | have b41 := i_bd ((mI S 91 5) * (mI S 91 2))
              first | have e42 : (((mI S 91 5) * (mI S 91 2)) + (mI S 92 (mI S 91 5).toNatClampNeg)).toInt = ((mI S 91 5) * (mI S 91 2)).toInt + (mI S 92 (mI S 91 5).toNatClampNeg).toInt := i_add (by omega) (by omega) | have b43 := i_bd (((mI S 91 5) * (mI S 91 2)) + (mI S 92 (mI S 91 5).toNatClampNeg))
              exact K ((((mI S 91 5) * (mI S 91 2)) + (mI S 92 (mI S 91 5).toNatClampNeg))) _ hI (show -1 ≤ (((mI S 91 5) * (mI S 91 2)) + (mI S 92 (mI S 91 5).toNatClampNeg)).toInt ∧ (((mI S 91 5) * (mI S 91 2)) + (mI S 92 (mI S 91 5).toNatClampNeg)).toInt ≤ 300000 ∧ ((((mI S 91 5) * (mI S 91 2)) + (mI S 92 (mI S 91 5).toNatClampNeg)).toInt < 0 ∨ (mI S 92 (mI S 91 5).toNatClampNeg).toInt ≤ 1500) from by omega)
theorem lp_40_91_35 {X : Nat × (Nat → Int32)} {d w : Nat} {f : Nat → Nat → Int32} {r : Nat → Nat → Option Nat} {C Z N : Nat} {Q : Option ma_V ⊕ Nat → ma_S → Prop} (hd : 5 ≤ d) (hw : 183 ≤ w) (K : ∀ v S', zL91 f r C Z N S' → (-1 ≤ v.toInt ∧ v.toInt ≤ 300000 ∧ (v.toInt < 0 ∨ (mI S' 92 (mI S' 91 5).toNatClampNeg).toInt ≤ 1500)) → Q (.inl (some (.inl v))) S') : ∀ (n : Nat) (S : ma_S) (l1 : Int32), ((0 : Int)).toNat = n → zL91 f r C Z N S → (1 ≤ l1.toInt) → (l1.toInt ≤ 61) → ma_wp X d w 40 35 [(0, .inr (.inr (some 91))), (1, .inl l1)] [] S Q := by
  intro n
  induction n using Nat.strongRecOn with
  | _ n IH =>
    intro S l1 hmu hI  hi0 hi1
    refine g_40_91_35 l1 (by omega) (by omega) (zG_T hI) ?_
    have f1 := zG_s hI (0) (92) (c := 91) (k := 5) (by decide)
    have li2 : (0 : Int32).toInt = 0 := rfl
    refine zd (fun h3 => ?_) (fun h3 => ?_)
    · skip
      have g4 := i_lt h3
      refine sp_52_91  (by omega) (by omega) hI  (fun v2 S1 hI_S1 hp_v2 => zi_n ⟨zG_T hI_S1, ?_⟩)
      have b5 := i_bd v2
      have li6 : (-1 : Int32).toInt = -1 := rfl
      refine zd (fun h7 => ?_) (fun h7 => ?_)
      · skip
        have g8 := i_eq h7
        have f10 := zG_s hI_S1 (0) (92) (c := 91) (k := 5) (by decide)
        have hI9 : zL91 f r C Z N (ma_put S1 91 5 (.inl (mI S1 91 5))) := zG_sp hI_S1 (0) (92) rfl (by decide) (by decide) (by decide) trivial (by omega) (by omega)
        have b11 := i_bd l1
        exact lp_40_91_62 (by omega) (by omega) K _ _ (l1) rfl hI9 (by omega) (by omega)
      · skip
        have g12 := i_ne h7
        have hI13 : zL91 f r C Z N (ma_put S1 91 5 (.inl v2)) := zG_sp hI_S1 (0) (92) rfl (by decide) (by decide) (by decide) trivial (by omega) (by omega)
        have b14 := i_bd l1
        exact lp_40_91_62 (by omega) (by omega) K _ _ (l1) rfl hI13 (by omega) (by omega)
    · skip
      have g15 := i_nlt h3
      have li16 : (93 : Int32).toInt = 93 := rfl
      refine zd (fun h17 => ?_) (fun h17 => ?_)
      · skip
        have g18 := i_le h17
        refine sp_52_91  (by omega) (by omega) hI  (fun v4 S3 hI_S3 hp_v4 => zi_n ⟨zG_T hI_S3, ?_⟩)
        have b19 := i_bd v4
        have li20 : (-1 : Int32).toInt = -1 := rfl
        refine zd (fun h21 => ?_) (fun h21 => ?_)
        · skip
          have g22 := i_eq h21
          have f24 := zG_s hI_S3 (0) (92) (c := 91) (k := 5) (by decide)
          have hI23 : zL91 f r C Z N (ma_put S3 91 5 (.inl (mI S3 91 5))) := zG_sp hI_S3 (0) (92) rfl (by decide) (by decide) (by decide) trivial (by omega) (by omega)
          have b25 := i_bd l1
          exact lp_40_91_62 (by omega) (by omega) K _ _ (l1) rfl hI23 (by omega) (by omega)
        · skip
          have g26 := i_ne h21
          have hI27 : zL91 f r C Z N (ma_put S3 91 5 (.inl v4)) := zG_sp hI_S3 (0) (92) rfl (by decide) (by decide) (by decide) trivial (by omega) (by omega)
          have b28 := i_bd l1
          exact lp_40_91_62 (by omega) (by omega) K _ _ (l1) rfl hI27 (by omega) (by omega)
      · skip
        have g29 := i_nle h17
        refine ⟨i_ix (by omega) (by omega), ?_⟩
        have f30 := zG_s hI (0) (1500) (c := 91) (k := 2) (by decide)
        first | have f31 := zG_a hI 93 (0) (3000) (c := 92) (k := (mI S 91 5).toNatClampNeg) (by decide) (i_ix (n := 93) (by omega) (by omega)).2 | have b32 := i_bd (mI S 92 (mI S 91 5).toNatClampNeg)
        have b33 := i_bd l1
        first | have e34 : ((mI S 92 (mI S 91 5).toNatClampNeg) + l1).toInt = (mI S 92 (mI S 91 5).toNatClampNeg).toInt + l1.toInt := i_add (by omega) (by omega) | have b35 := i_bd ((mI S 92 (mI S 91 5).toNatClampNeg) + l1)
        refine zd (fun h36 => ?_) (fun h36 => ?_)
        · skip
          have g37 := i_lt h36
          refine sp_52_91  (by omega) (by omega) hI  (fun v6 S5 hI_S5 hp_v6 => zi_n ⟨zG_T hI_S5, ?_⟩)
          have b38 := i_bd v6
          have li39 : (-1 : Int32).toInt = -1 := rfl
          refine zd (fun h40 => ?_) (fun h40 => ?_)
          · skip
            have g41 := i_eq h40
            have f43 := zG_s hI_S5 (0) (92) (c := 91) (k := 5) (by decide)
            have hI42 : zL91 f r C Z N (ma_put S5 91 5 (.inl (mI S5 91 5))) := zG_sp hI_S5 (0) (92) rfl (by decide) (by decide) (by decide) trivial (by omega) (by omega)
            exact lp_40_91_62 (by omega) (by omega) K _ _ (l1) rfl hI42 (by omega) (by omega)
          · skip
            have g44 := i_ne h40
            have hI45 : zL91 f r C Z N (ma_put S5 91 5 (.inl v6)) := zG_sp hI_S5 (0) (92) rfl (by decide) (by decide) (by decide) trivial (by omega) (by omega)
            exact lp_40_91_62 (by omega) (by omega) K _ _ (l1) rfl hI45 (by omega) (by omega)
        · skip
          have g46 := i_nlt h36
          exact lp_40_91_62 (by omega) (by omega) K _ _ (l1) rfl hI (by omega) (by omega)
theorem sp_40_91 {X : Nat × (Nat → Int32)} {d w : Nat} {f : Nat → Nat → Int32} {r : Nat → Nat → Option Nat} {C Z N : Nat} {Q : Option ma_V ⊕ Nat → ma_S → Prop} {S : ma_S} (n : Int32) (hd : 5 ≤ d) (hw : 183 ≤ w) (hI : zL91 f r C Z N S) (hpre0 : 1 ≤ n.toInt) (hpre1 : n.toInt ≤ 61) (K : ∀ v S', zL91 f r C Z N S' → (-1 ≤ v.toInt ∧ v.toInt ≤ 300000 ∧ (v.toInt < 0 ∨ (mI S' 92 (mI S' 91 5).toNatClampNeg).toInt ≤ 1500)) → Q (.inl (some (.inl v))) S') : ma_wp X d w 40 0 [(0, .inr (.inr (some 91))), (1, .inl n)] [] S Q := by
  refine g_40_91_0 n (by omega) (by omega) (zG_T hI) ?_
  have b1 := i_bd n
  have f2 := zG_s hI (0) (1500) (c := 91) (k := 2) (by decide)
  refine zd (fun h3 => ?_) (fun h3 => ?_)
  · skip
    have g4 := i_le h3
    have f5 := zG_s hI (0) (92) (c := 91) (k := 5) (by decide)
    have li6 : (0 : Int32).toInt = 0 := rfl
    refine zd (fun h7 => ?_) (fun h7 => ?_)
    · skip
      have g8 := i_lt h7
      refine sp_42_91  (by omega) (by omega) hI  (fun v2 S1 hI_S1 hp_v2 => zi_n ⟨zG_T hI_S1, ?_⟩)
      have li9 : (2 : Int32).toInt = 2 := rfl
      have b10 := i_bd v2
      refine zd (fun h11 => ?_) (fun h11 => ?_)
      · skip
        have g12 := i_le h11
        exact lp_40_91_35 (by omega) (by omega) K _ _ (n) rfl hI_S1 (by omega) (by omega)
      · skip
        have g13 := i_nle h11
        refine sp_43_91  (by omega) (by omega) hI_S1  (fun v4 S3 hI_S3 hp_v4 => zi_n ⟨zG_T hI_S3, ?_⟩)
        exact lp_40_91_35 (by omega) (by omega) K _ _ (n) rfl hI_S3 (by omega) (by omega)
    · skip
      have g14 := i_nlt h7
      have li15 : (93 : Int32).toInt = 93 := rfl
      refine zd (fun h16 => ?_) (fun h16 => ?_)
      · skip
        have g17 := i_le h16
        refine sp_42_91  (by omega) (by omega) hI  (fun v6 S5 hI_S5 hp_v6 => zi_n ⟨zG_T hI_S5, ?_⟩)
        have li18 : (2 : Int32).toInt = 2 := rfl
        have b19 := i_bd v6
        refine zd (fun h20 => ?_) (fun h20 => ?_)
        · skip
          have g21 := i_le h20
          exact lp_40_91_35 (by omega) (by omega) K _ _ (n) rfl hI_S5 (by omega) (by omega)
        · skip
          have g22 := i_nle h20
          refine sp_43_91  (by omega) (by omega) hI_S5  (fun v8 S7 hI_S7 hp_v8 => zi_n ⟨zG_T hI_S7, ?_⟩)
          exact lp_40_91_35 (by omega) (by omega) K _ _ (n) rfl hI_S7 (by omega) (by omega)
      · skip
        have g23 := i_nle h16
        refine ⟨i_ix (by omega) (by omega), ?_⟩
        first | have f24 := zG_a hI 93 (0) (3000) (c := 92) (k := (mI S 91 5).toNatClampNeg) (by decide) (i_ix (n := 93) (by omega) (by omega)).2 | have b25 := i_bd (mI S 92 (mI S 91 5).toNatClampNeg)
        first | have e26 : ((mI S 92 (mI S 91 5).toNatClampNeg) + n).toInt = (mI S 92 (mI S 91 5).toNatClampNeg).toInt + n.toInt := i_add (by omega) (by omega) | have b27 := i_bd ((mI S 92 (mI S 91 5).toNatClampNeg) + n)
        refine zd (fun h28 => ?_) (fun h28 => ?_)
        · skip
          have g29 := i_lt h28
          refine sp_42_91  (by omega) (by omega) hI  (fun v10 S9 hI_S9 hp_v10 => zi_n ⟨zG_T hI_S9, ?_⟩)
          have li30 : (2 : Int32).toInt = 2 := rfl
          have b31 := i_bd v10
          refine zd (fun h32 => ?_) (fun h32 => ?_)
          · skip
            have g33 := i_le h32
            exact lp_40_91_35 (by omega) (by omega) K _ _ (n) rfl hI_S9 (by omega) (by omega)
          · skip
            have g34 := i_nle h32
            refine sp_43_91  (by omega) (by omega) hI_S9  (fun v12 S11 hI_S11 hp_v12 => zi_n ⟨zG_T hI_S11, ?_⟩)
            exact lp_40_91_35 (by omega) (by omega) K _ _ (n) rfl hI_S11 (by omega) (by omega)
        · skip
          have g35 := i_nlt h28
          exact lp_40_91_35 (by omega) (by omega) K _ _ (n) rfl hI (by omega) (by omega)
  · skip
    have g36 := i_nle h3
    have li37 : (-1 : Int32).toInt = -1 := rfl
    have f38 := zG_s hI (0) (92) (c := 91) (k := 5) (by decide)
    first | have f39 := zG_a hI 93 (0) (3000) (c := 92) (k := (mI S 91 5).toNatClampNeg) (by decide) (i_ix (n := 93) (by omega) (by omega)).2 | have b40 := i_bd (mI S 92 (mI S 91 5).toNatClampNeg)
    exact K ((-1 : Int32)) _ hI (show -1 ≤ (-1 : Int32).toInt ∧ (-1 : Int32).toInt ≤ 300000 ∧ ((-1 : Int32).toInt < 0 ∨ (mI S 92 (mI S 91 5).toNatClampNeg).toInt ≤ 1500) from by omega)
theorem g_56_91_0 {X : Nat × (Nat → Int32)} {d w : Nat} {S : ma_S} {Q : Option ma_V ⊕ Nat → ma_S → Prop} (t : Nat) (hd : 1 ≤ d) (hw : 22 ≤ w) (hS : zT S) (h : (126 ≤ t ∧ t < mN S) ∧ (if (mI S 91 5) < 0 then (Q (.inl none) S) else (if (93 : Int32) ≤ (mI S 91 5) then (Q (.inl none) S) else ((0 ≤ (mI S 91 5) ∧ (mI S 91 5).toNatClampNeg < 93) ∧ ((0 ≤ (mI S 91 5) ∧ (mI S 91 5).toNatClampNeg < 93) ∧ (Q (.inl none) (ma_put S 92 (mI S 91 5).toNatClampNeg (.inl ((mI S 92 (mI S 91 5).toNatClampNeg) + (mI S t 2)))))))))) : ma_wp X d w 56 0 [(0, .inr (.inr (some 91))), (1, .inr (.inr (some t)))] [] S Q := by
  refine zw_push hm_56 dX4_noteMade_0 (v := .inr (.inr (some 91))) rfl ?_
  refine zw_push hm_56 dX4_noteMade_1 (v := .inr (.inr (some 91))) rfl ?_
  refine zw_gf hm_56 dX4_noteMade_2 (v := .inl (mI S 91 5)) (zT_is hS s_91) (zT_t hS s_91) rfl f_4_34_4 rfl ?_
  refine zw_push hm_56 dX4_noteMade_5 (v := .inr (.inr (some t))) rfl ?_
  obtain ⟨hg, h⟩ := h
  refine zw_gf hm_56 dX4_noteMade_6 (v := .inl (mI S t 2)) (zT_tis hS hg) (zT_tt hS hg) rfl f_4_63_9 rfl ?_
  refine zw_cv hm_56 dX4_noteMade_9 v_4_66_4 hm_53 [.inl (mI S t 2), .inl (mI S 91 5)] [] rfl (zT_rt hS s_91 rfl) ⟨by omega, by omega⟩ rfl ?_
  show ma_wp X (d - 1) (w - 22) 53 0 [(0, .inr (.inr (some 91))), (1, .inl (mI S 91 5)), (2, .inl (mI S t 2))] [] S _
  refine zw_push hm_53 dX4_raiseTop_0 (v := .inl (mI S 91 5)) rfl ?_
  refine zw_if0 hm_53 dX4_raiseTop_1 (t := 20) rfl zc0_lt ?_ ?_
  · intro hc
    rw [if_pos hc] at h
    refine zw_vret hm_53 dX4_raiseTop_20 ?_
    show ma_wp X d w 56 12 [(0, .inr (.inr (some 91))), (1, .inr (.inr (some t)))] [] S _
    exact zw_vret hm_56 dX4_noteMade_12 h
  · intro hc
    rw [if_neg hc] at h
    refine zw_push hm_53 dX4_raiseTop_4 (v := .inl (mI S 91 5)) rfl ?_
    refine zw_push hm_53 dX4_raiseTop_5 (v := .inl (93 : Int32)) rfl ?_
    refine zw_if2 hm_53 dX4_raiseTop_7 (t := 20) rfl zc2_ge ?_ ?_
    · intro hc
      rw [if_pos hc] at h
      refine zw_vret hm_53 dX4_raiseTop_20 ?_
      show ma_wp X d w 56 12 [(0, .inr (.inr (some 91))), (1, .inr (.inr (some t)))] [] S _
      exact zw_vret hm_56 dX4_noteMade_12 h
    · intro hc
      rw [if_neg hc] at h
      refine zw_push hm_53 dX4_raiseTop_10 (v := .inr (.inr (some 91))) rfl ?_
      refine zw_gf hm_53 dX4_raiseTop_11 (v := .inr (.inr (some 92))) (zT_is hS s_91) (zT_t hS s_91) rfl f_4_9_4 (zT_f hS r_91_7) ?_
      refine zw_push hm_53 dX4_raiseTop_14 (v := .inl (mI S 91 5)) rfl ?_
      refine zw_stk hm_53 dX4_raiseTop_15 (st' := [.inl (mI S 91 5), .inr (.inr (some 92)), .inl (mI S 91 5), .inr (.inr (some 92))]) rfl rfl ?_
      obtain ⟨hg, h⟩ := h
      refine zw_ia hm_53 dX4_raiseTop_16 (zT_is hS s_92) (zT_h hS s_92) rfl hg ?_
      show ma_wp X (d - 1) (w - 22) 53 17 [(0, .inr (.inr (some 91))), (1, .inl (mI S 91 5)), (2, .inl (mI S t 2))] [.inl (mI S 92 (mI S 91 5).toNatClampNeg), .inl (mI S 91 5), .inr (.inr (some 92))] S _
      refine zw_push hm_53 dX4_raiseTop_17 (v := .inl (mI S t 2)) rfl ?_
      refine zw_stk hm_53 dX4_raiseTop_18 (st' := [.inl ((mI S 92 (mI S 91 5).toNatClampNeg) + (mI S t 2)), .inl (mI S 91 5), .inr (.inr (some 92))]) rfl rfl ?_
      obtain ⟨hg, h⟩ := h
      refine zw_ias hm_53 dX4_raiseTop_19 (zT_is hS s_92) (zT_h hS s_92) rfl hg ?_
      refine zw_vret hm_53 dX4_raiseTop_20 ?_
      show ma_wp X d w 56 12 [(0, .inr (.inr (some 91))), (1, .inr (.inr (some t)))] [] (ma_put S 92 (mI S 91 5).toNatClampNeg (.inl ((mI S 92 (mI S 91 5).toNatClampNeg) + (mI S t 2)))) _
      exact zw_vret hm_56 dX4_noteMade_12 h
theorem sp_56_91 {X : Nat × (Nat → Int32)} {d w : Nat} {f : Nat → Nat → Int32} {r : Nat → Nat → Option Nat} {C Z N : Nat} {Q : Option ma_V ⊕ Nat → ma_S → Prop} {S : ma_S} (t : Nat) (hd : 1 ≤ d) (hw : 22 ≤ w) (hI : zL91 f r C Z N S) (th_t : 126 ≤ t ∧ t < N) (hpre0 : (mI S 92 (mI S 91 5).toNatClampNeg).toInt ≤ 1500) (K : ∀ S', zL91 f r C Z N S' → Q (.inl none) S') : ma_wp X d w 56 0 [(0, .inr (.inr (some 91))), (1, .inr (.inr (some t)))] [] S Q := by
  refine g_56_91_0 t (by omega) (by omega) (zG_T hI) ?_
  refine ⟨zG_n hI th_t, ?_⟩
  have f1 := zG_s hI (0) (92) (c := 91) (k := 5) (by decide)
  have li2 : (0 : Int32).toInt = 0 := rfl
  refine zd (fun h3 => ?_) (fun h3 => ?_)
  · skip
    have g4 := i_lt h3
    exact K _ hI
  · skip
    have g5 := i_nlt h3
    have li6 : (93 : Int32).toInt = 93 := rfl
    refine zd (fun h7 => ?_) (fun h7 => ?_)
    · skip
      have g8 := i_le h7
      exact K _ hI
    · skip
      have g9 := i_nle h7
      refine ⟨i_ix (by omega) (by omega), ?_⟩
      refine ⟨i_ix (by omega) (by omega), ?_⟩
      first | have f11 := zG_a hI 93 (0) (3000) (c := 92) (k := (mI S 91 5).toNatClampNeg) (by decide) (i_ix (n := 93) (by omega) (by omega)).2 | have b12 := i_bd (mI S 92 (mI S 91 5).toNatClampNeg)
      have f13 := zG_th hI th_t
      first | have e14 : ((mI S 92 (mI S 91 5).toNatClampNeg) + (mI S t 2)).toInt = (mI S 92 (mI S 91 5).toNatClampNeg).toInt + (mI S t 2).toInt := i_add (by omega) (by omega) | have b15 := i_bd ((mI S 92 (mI S 91 5).toNatClampNeg) + (mI S t 2))
      have hI10 : zL91 f r C Z N (ma_put S 92 (mI S 91 5).toNatClampNeg (.inl ((mI S 92 (mI S 91 5).toNatClampNeg) + (mI S t 2)))) := zG_sa hI (0) (3000) rfl (by decide) (by decide) (by decide) trivial (by omega) (by omega)
      exact K _ hI10
theorem g_276_92_0 {X : Nat × (Nat → Int32)} {d w : Nat} {S : ma_S} {Q : Option ma_V ⊕ Nat → ma_S → Prop} (x : Int32) (hd : 0 ≤ d) (hw : 0 ≤ w) (hS : zT S) (h : ma_wp X d w 276 5 [(0, .inr (.inr (some 92))), (1, .inl x), (2, .inl (0 : Int32)), (3, .inl (93 : Int32))] [] S Q) : ma_wp X d w 276 0 [(0, .inr (.inr (some 92))), (1, .inl x)] [] S Q := by
  refine zw_push hm_276 dJ7_fill_53178_0 (v := .inl (0 : Int32)) rfl ?_
  refine zw_sto hm_276 dJ7_fill_53178_1 [(2, .inl (0 : Int32)), (0, .inr (.inr (some 92))), (1, .inl x)] rfl rfl rfl ?_
  refine zw_push hm_276 dJ7_fill_53178_2 (v := .inr (.inr (some 92))) rfl ?_
  refine zw_len hm_276 dJ7_fill_53178_3 (zT_is hS s_92) (zT_h hS s_92) rfl rfl ?_
  refine zw_sto hm_276 dJ7_fill_53178_4 [(3, .inl (93 : Int32)), (2, .inl (0 : Int32)), (0, .inr (.inr (some 92))), (1, .inl x)] rfl rfl rfl ?_
  exact zw_sub (ma_nd_of (ks := [0, 1, 2, 3]) rfl (by decide)) (ma_nd_of (ks := [3, 2, 0, 1]) rfl (by decide)) (ma_le_cons rfl (ma_le_cons rfl (ma_le_cons rfl (ma_le_cons rfl (ma_le_nil _))))) h
theorem g_276_92_5 {X : Nat × (Nat → Int32)} {d w : Nat} {S : ma_S} {Q : Option ma_V ⊕ Nat → ma_S → Prop} (l1 : Int32) (l2 : Int32) (l3 : Int32) (hd : 0 ≤ d) (hw : 0 ≤ w) (hS : zT S) (h : if l3 ≤ l2 then (Q (.inl none) S) else ((0 ≤ l2 ∧ l2.toNatClampNeg < 93) ∧ (ma_wp X d w 276 5 [(0, .inr (.inr (some 92))), (1, .inl l1), (2, .inl (l2 + (1 : Int32))), (3, .inl l3)] [] (ma_put S 92 l2.toNatClampNeg (.inl l1)) Q))) : ma_wp X d w 276 5 [(0, .inr (.inr (some 92))), (1, .inl l1), (2, .inl l2), (3, .inl l3)] [] S Q := by
  refine zw_push hm_276 dJ7_fill_53178_5 (v := .inl l2) rfl ?_
  refine zw_push hm_276 dJ7_fill_53178_6 (v := .inl l3) rfl ?_
  refine zw_if2 hm_276 dJ7_fill_53178_7 (t := 20) rfl zc2_ge ?_ ?_
  · intro hc
    rw [if_pos hc] at h
    exact zw_vret hm_276 dJ7_fill_53178_20 h
  · intro hc
    rw [if_neg hc] at h
    refine zw_push hm_276 dJ7_fill_53178_10 (v := .inr (.inr (some 92))) rfl ?_
    refine zw_push hm_276 dJ7_fill_53178_11 (v := .inl l2) rfl ?_
    refine zw_push hm_276 dJ7_fill_53178_12 (v := .inl l1) rfl ?_
    obtain ⟨hg, h⟩ := h
    refine zw_ias hm_276 dJ7_fill_53178_13 (zT_is hS s_92) (zT_h hS s_92) rfl hg ?_
    refine zw_sto hm_276 dJ7_fill_53178_14 [(2, .inl (l2 + (1 : Int32))), (0, .inr (.inr (some 92))), (1, .inl l1), (3, .inl l3)] rfl rfl rfl ?_
    refine zw_goto hm_276 dJ7_fill_53178_17 (t := 5) rfl ?_
    exact zw_sub (ma_nd_of (ks := [0, 1, 2, 3]) rfl (by decide)) (ma_nd_of (ks := [2, 0, 1, 3]) rfl (by decide)) (ma_le_cons rfl (ma_le_cons rfl (ma_le_cons rfl (ma_le_cons rfl (ma_le_nil _))))) h
theorem lp_276_92_5 {X : Nat × (Nat → Int32)} {d w : Nat} {f : Nat → Nat → Int32} {r : Nat → Nat → Option Nat} {C Z N : Nat} {Q : Option ma_V ⊕ Nat → ma_S → Prop} (hd : 0 ≤ d) (hw : 0 ≤ w) (K : ∀ S', zL91 f r C Z N S' → Q (.inl none) S') : ∀ (n : Nat) (S : ma_S) (l1 : Int32) (l2 : Int32) (l3 : Int32), (l3.toInt - l2.toInt).toNat = n → zL91 f r C Z N S → (0 ≤ l2.toInt) → (l3.toInt = 93) → (0 ≤ l1.toInt) → (l1.toInt ≤ 3000) → ma_wp X d w 276 5 [(0, .inr (.inr (some 92))), (1, .inl l1), (2, .inl l2), (3, .inl l3)] [] S Q := by
  intro n
  induction n using Nat.strongRecOn with
  | _ n IH =>
    intro S l1 l2 l3 hmu hI  hi0 hi1 hi2 hi3
    refine g_276_92_5 l1 l2 l3 (by omega) (by omega) (zG_T hI) ?_
    have b1 := i_bd l3
    have b2 := i_bd l2
    refine zd (fun h3 => ?_) (fun h3 => ?_)
    · skip
      have g4 := i_le h3
      exact K _ hI
    · skip
      have g5 := i_nle h3
      refine ⟨i_ix (by omega) (by omega), ?_⟩
      have b7 := i_bd l1
      have hI6 : zL91 f r C Z N (ma_put S 92 l2.toNatClampNeg (.inl l1)) := zG_sa hI (0) (3000) rfl (by decide) (by decide) (by decide) trivial (by omega) (by omega)
      first | have e8 : (l2 + (1 : Int32)).toInt = l2.toInt + (1) := i_addk rfl (by omega) (by omega) | have b9 := i_bd (l2 + (1 : Int32))
      exact IH _ (by omega) _ (l1) ((l2 + (1 : Int32))) (l3) rfl hI6 (by omega) (by omega) (by omega) (by omega)
theorem sp_276_92 {X : Nat × (Nat → Int32)} {d w : Nat} {f : Nat → Nat → Int32} {r : Nat → Nat → Option Nat} {C Z N : Nat} {Q : Option ma_V ⊕ Nat → ma_S → Prop} {S : ma_S} (x : Int32) (hd : 0 ≤ d) (hw : 0 ≤ w) (hI : zL91 f r C Z N S) (hpre0 : 0 ≤ x.toInt) (hpre1 : x.toInt ≤ 3000) (K : ∀ S', zL91 f r C Z N S' → Q (.inl none) S') : ma_wp X d w 276 0 [(0, .inr (.inr (some 92))), (1, .inl x)] [] S Q := by
  refine g_276_92_0 x (by omega) (by omega) (zG_T hI) ?_
  have b1 := i_bd x
  have li2 : (0 : Int32).toInt = 0 := rfl
  have li3 : (93 : Int32).toInt = 93 := rfl
  exact lp_276_92_5 (by omega) (by omega) K _ _ (x) ((0 : Int32)) ((93 : Int32)) rfl hI (by omega) (by omega) (by omega) (by omega)
