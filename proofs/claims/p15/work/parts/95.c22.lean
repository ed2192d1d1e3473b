/-! the class behind (written by wip/tools/gen95c.py) -/
theorem g_40_91_t_0 {X : Nat × (Nat → Int32)} {d w : Nat} {S : ma_S} {Q : Option ma_V ⊕ Nat → ma_S → Prop} (n : Int32) (hd : 5 ≤ d) (hw : 183 ≤ w) (hS : zT S) (h : if n ≤ (mI S 91 2) then (if (mI S 91 5) < 0 then (ma_wp X (d - 1) (w - 22) 42 0 [(0, .inr (.inr (some 91)))] [] S (zi (fun v2 S1 => zT S1 ∧ (if (2 : Int32) ≤ v2 then (ma_wp X d w 40 35 [(0, .inr (.inr (some 91))), (1, .inl n)] [] S1 Q) else (ma_wp X (d - 1) (w - 23) 43 0 [(0, .inr (.inr (some 91)))] [] S1 (zi (fun v4 S3 => zT S3 ∧ (ma_wp X d w 40 35 [(0, .inr (.inr (some 91))), (1, .inl n)] [] S3 Q)) (fun x S9 => Q (.inr x) S9))))) (fun x S9 => Q (.inr x) S9))) else (if (93 : Int32) ≤ (mI S 91 5) then (ma_wp X (d - 1) (w - 22) 42 0 [(0, .inr (.inr (some 91)))] [] S (zi (fun v6 S5 => zT S5 ∧ (if (2 : Int32) ≤ v6 then (ma_wp X d w 40 35 [(0, .inr (.inr (some 91))), (1, .inl n)] [] S5 Q) else (ma_wp X (d - 1) (w - 23) 43 0 [(0, .inr (.inr (some 91)))] [] S5 (zi (fun v8 S7 => zT S7 ∧ (ma_wp X d w 40 35 [(0, .inr (.inr (some 91))), (1, .inl n)] [] S7 Q)) (fun x S9 => Q (.inr x) S9))))) (fun x S9 => Q (.inr x) S9))) else ((0 ≤ (mI S 91 5) ∧ (mI S 91 5).toNatClampNeg < 93) ∧ (if (mI S 91 2) < ((mI S 92 (mI S 91 5).toNatClampNeg) + n) then (ma_wp X (d - 1) (w - 22) 42 0 [(0, .inr (.inr (some 91)))] [] S (zi (fun v10 S9 => zT S9 ∧ (if (2 : Int32) ≤ v10 then (ma_wp X d w 40 35 [(0, .inr (.inr (some 91))), (1, .inl n)] [] S9 Q) else (ma_wp X (d - 1) (w - 23) 43 0 [(0, .inr (.inr (some 91)))] [] S9 (zi (fun v12 S11 => zT S11 ∧ (ma_wp X d w 40 35 [(0, .inr (.inr (some 91))), (1, .inl n)] [] S11 Q)) (fun x S9 => Q (.inr x) S9))))) (fun x S9 => Q (.inr x) S9))) else (ma_wp X d w 40 35 [(0, .inr (.inr (some 91))), (1, .inl n)] [] S Q))))) else (Q (.inl (some (.inl (-1 : Int32)))) S)) : ma_wp X d w 40 0 [(0, .inr (.inr (some 91))), (1, .inl n)] [] S Q := by
  refine zw_push hm_40 dX4_findRoom_0 (v := .inl n) rfl ?_
  refine zw_push hm_40 dX4_findRoom_1 (v := .inr (.inr (some 91))) rfl ?_
  refine zw_gf hm_40 dX4_findRoom_2 (v := .inl (mI S 91 2)) (zT_is hS s_91) (zT_t hS s_91) rfl f_4_18_4 rfl ?_
  refine zw_if2 hm_40 dX4_findRoom_5 (t := 10) rfl zc2_le ?_ ?_
  · intro hc
    rw [if_pos hc] at h
    refine zw_push hm_40 dX4_findRoom_10 (v := .inr (.inr (some 91))) rfl ?_
    refine zw_push hm_40 dX4_findRoom_11 (v := .inr (.inr (some 91))) rfl ?_
    refine zw_gf hm_40 dX4_findRoom_12 (v := .inl (mI S 91 5)) (zT_is hS s_91) (zT_t hS s_91) rfl f_4_34_4 rfl ?_
    refine zw_push hm_40 dX4_findRoom_15 (v := .inl n) rfl ?_
    refine zw_cv hm_40 dX4_findRoom_16 v_4_43_4 hm_41 [.inl n, .inl (mI S 91 5)] [] rfl (zT_rt hS s_91 rfl) ⟨by omega, by omega⟩ rfl ?_
    show ma_wp X (d - 1) (w - 22) 41 0 [(0, .inr (.inr (some 91))), (1, .inl (mI S 91 5)), (2, .inl n)] [] S _
    refine zw_push hm_41 dX4_fits_0 (v := .inl (mI S 91 5)) rfl ?_
    refine zw_if0 hm_41 dX4_fits_1 (t := 29) rfl zc0_lt ?_ ?_
    · intro hc
      rw [if_pos hc] at h
      refine zw_push hm_41 dX4_fits_29 (v := .inl (0 : Int32)) rfl ?_
      refine zw_bret hm_41 dX4_fits_30 (by decide) ?_
      show ma_wp X d w 40 19 [(0, .inr (.inr (some 91))), (1, .inl n)] [.inl (0 : Int32)] S _
      refine zw_if0 hm_40 dX4_findRoom_19 (t := 35) rfl zc0_ne (fun hc => absurd hc (by decide)) (fun _ => ?_)
      refine zw_push hm_40 dX4_findRoom_22 (v := .inr (.inr (some 91))) rfl ?_
      refine zw_cv hm_40 dX4_findRoom_23 v_4_47_4 hm_42 [] [] rfl (zT_rt hS s_91 rfl) ⟨by omega, by omega⟩ rfl (zw_mono h (zi_go ?_ ?_))
      · intro v2 S1 hv
        obtain ⟨hS1, h⟩ := hv
        refine zw_push hm_40 dX4_findRoom_26 (v := .inl (2 : Int32)) rfl ?_
        refine zw_if2 hm_40 dX4_findRoom_27 (t := 35) rfl zc2_ge ?_ ?_
        · intro hc
          rw [if_pos hc] at h
          exact h
        · intro hc
          rw [if_neg hc] at h
          refine zw_push hm_40 dX4_findRoom_30 (v := .inr (.inr (some 91))) rfl ?_
          refine zw_cv hm_40 dX4_findRoom_31 v_4_51_4 hm_43 [] [] rfl (zT_rt hS1 s_91 rfl) ⟨by omega, by omega⟩ rfl (zw_mono h (zi_go ?_ ?_))
          · intro v4 S3 hv
            obtain ⟨hS3, h⟩ := hv
            refine zw_stk hm_40 dX4_findRoom_34 (st' := []) rfl rfl ?_
            exact h
          · intro x S9 hx
            exact ⟨by decide, hx⟩
      · intro x S9 hx
        exact ⟨by decide, hx⟩
    · intro hc
      rw [if_neg hc] at h
      refine zw_push hm_41 dX4_fits_4 (v := .inl (mI S 91 5)) rfl ?_
      refine zw_push hm_41 dX4_fits_5 (v := .inl (93 : Int32)) rfl ?_
      refine zw_if2 hm_41 dX4_fits_7 (t := 29) rfl zc2_ge ?_ ?_
      · intro hc
        rw [if_pos hc] at h
        refine zw_push hm_41 dX4_fits_29 (v := .inl (0 : Int32)) rfl ?_
        refine zw_bret hm_41 dX4_fits_30 (by decide) ?_
        show ma_wp X d w 40 19 [(0, .inr (.inr (some 91))), (1, .inl n)] [.inl (0 : Int32)] S _
        refine zw_if0 hm_40 dX4_findRoom_19 (t := 35) rfl zc0_ne (fun hc => absurd hc (by decide)) (fun _ => ?_)
        refine zw_push hm_40 dX4_findRoom_22 (v := .inr (.inr (some 91))) rfl ?_
        refine zw_cv hm_40 dX4_findRoom_23 v_4_47_4 hm_42 [] [] rfl (zT_rt hS s_91 rfl) ⟨by omega, by omega⟩ rfl (zw_mono h (zi_go ?_ ?_))
        · intro v6 S5 hv
          obtain ⟨hS5, h⟩ := hv
          refine zw_push hm_40 dX4_findRoom_26 (v := .inl (2 : Int32)) rfl ?_
          refine zw_if2 hm_40 dX4_findRoom_27 (t := 35) rfl zc2_ge ?_ ?_
          · intro hc
            rw [if_pos hc] at h
            exact h
          · intro hc
            rw [if_neg hc] at h
            refine zw_push hm_40 dX4_findRoom_30 (v := .inr (.inr (some 91))) rfl ?_
            refine zw_cv hm_40 dX4_findRoom_31 v_4_51_4 hm_43 [] [] rfl (zT_rt hS5 s_91 rfl) ⟨by omega, by omega⟩ rfl (zw_mono h (zi_go ?_ ?_))
            · intro v8 S7 hv
              obtain ⟨hS7, h⟩ := hv
              refine zw_stk hm_40 dX4_findRoom_34 (st' := []) rfl rfl ?_
              exact h
            · intro x S9 hx
              exact ⟨by decide, hx⟩
        · intro x S9 hx
          exact ⟨by decide, hx⟩
      · intro hc
        rw [if_neg hc] at h
        refine zw_push hm_41 dX4_fits_10 (v := .inr (.inr (some 91))) rfl ?_
        refine zw_gf hm_41 dX4_fits_11 (v := .inr (.inr (some 92))) (zT_is hS s_91) (zT_t hS s_91) rfl f_4_9_4 (zT_f hS r_91_7) ?_
        refine zw_push hm_41 dX4_fits_14 (v := .inl (mI S 91 5)) rfl ?_
        obtain ⟨hg, h⟩ := h
        refine zw_ia hm_41 dX4_fits_15 (zT_is hS s_92) (zT_h hS s_92) rfl hg ?_
        show ma_wp X (d - 1) (w - 22) 41 16 [(0, .inr (.inr (some 91))), (1, .inl (mI S 91 5)), (2, .inl n)] [.inl (mI S 92 (mI S 91 5).toNatClampNeg)] S _
        refine zw_push hm_41 dX4_fits_16 (v := .inl n) rfl ?_
        refine zw_stk hm_41 dX4_fits_17 (st' := [.inl ((mI S 92 (mI S 91 5).toNatClampNeg) + n)]) rfl rfl ?_
        refine zw_push hm_41 dX4_fits_18 (v := .inr (.inr (some 91))) rfl ?_
        refine zw_gf hm_41 dX4_fits_19 (v := .inl (mI S 91 2)) (zT_is hS s_91) (zT_t hS s_91) rfl f_4_18_4 rfl ?_
        refine zw_if2 hm_41 dX4_fits_22 (t := 29) rfl zc2_gt ?_ ?_
        · intro hc
          rw [if_pos hc] at h
          refine zw_push hm_41 dX4_fits_29 (v := .inl (0 : Int32)) rfl ?_
          refine zw_bret hm_41 dX4_fits_30 (by decide) ?_
          show ma_wp X d w 40 19 [(0, .inr (.inr (some 91))), (1, .inl n)] [.inl (0 : Int32)] S _
          refine zw_if0 hm_40 dX4_findRoom_19 (t := 35) rfl zc0_ne (fun hc => absurd hc (by decide)) (fun _ => ?_)
          refine zw_push hm_40 dX4_findRoom_22 (v := .inr (.inr (some 91))) rfl ?_
          refine zw_cv hm_40 dX4_findRoom_23 v_4_47_4 hm_42 [] [] rfl (zT_rt hS s_91 rfl) ⟨by omega, by omega⟩ rfl (zw_mono h (zi_go ?_ ?_))
          · intro v10 S9 hv
            obtain ⟨hS9, h⟩ := hv
            refine zw_push hm_40 dX4_findRoom_26 (v := .inl (2 : Int32)) rfl ?_
            refine zw_if2 hm_40 dX4_findRoom_27 (t := 35) rfl zc2_ge ?_ ?_
            · intro hc
              rw [if_pos hc] at h
              exact h
            · intro hc
              rw [if_neg hc] at h
              refine zw_push hm_40 dX4_findRoom_30 (v := .inr (.inr (some 91))) rfl ?_
              refine zw_cv hm_40 dX4_findRoom_31 v_4_51_4 hm_43 [] [] rfl (zT_rt hS9 s_91 rfl) ⟨by omega, by omega⟩ rfl (zw_mono h (zi_go ?_ ?_))
              · intro v12 S11 hv
                obtain ⟨hS11, h⟩ := hv
                refine zw_stk hm_40 dX4_findRoom_34 (st' := []) rfl rfl ?_
                exact h
              · intro x S9 hx
                exact ⟨by decide, hx⟩
          · intro x S9 hx
            exact ⟨by decide, hx⟩
        · intro hc
          rw [if_neg hc] at h
          refine zw_push hm_41 dX4_fits_25 (v := .inl (1 : Int32)) rfl ?_
          refine zw_goto hm_41 dX4_fits_26 (t := 30) rfl ?_
          refine zw_bret hm_41 dX4_fits_30 (by decide) ?_
          show ma_wp X d w 40 19 [(0, .inr (.inr (some 91))), (1, .inl n)] [.inl (1 : Int32)] S _
          refine zw_if0 hm_40 dX4_findRoom_19 (t := 35) rfl zc0_ne (fun _ => ?_) (fun hc => absurd (by decide) hc)
          exact h
  · intro hc
    rw [if_neg hc] at h
    refine zw_push hm_40 dX4_findRoom_8 (v := .inl (-1 : Int32)) rfl ?_
    exact zw_iret hm_40 dX4_findRoom_9 h
theorem g_40_91_t_35 {X : Nat × (Nat → Int32)} {d w : Nat} {S : ma_S} {Q : Option ma_V ⊕ Nat → ma_S → Prop} (l1 : Int32) (hd : 5 ≤ d) (hw : 183 ≤ w) (hS : zT S) (h : if (mI S 91 5) < 0 then (ma_wp X (d - 1) (w - 21) 52 0 [(0, .inr (.inr (some 91)))] [] S (zi (fun v2 S1 => zT S1 ∧ (if v2 = (-1 : Int32) then (ma_wp X d w 40 62 [(0, .inr (.inr (some 91))), (1, .inl l1)] [] (ma_put S1 91 5 (.inl (mI S1 91 5))) Q) else (ma_wp X d w 40 62 [(0, .inr (.inr (some 91))), (1, .inl l1)] [] (ma_put S1 91 5 (.inl v2)) Q))) (fun x S9 => Q (.inr x) S9))) else (if (93 : Int32) ≤ (mI S 91 5) then (ma_wp X (d - 1) (w - 21) 52 0 [(0, .inr (.inr (some 91)))] [] S (zi (fun v4 S3 => zT S3 ∧ (if v4 = (-1 : Int32) then (ma_wp X d w 40 62 [(0, .inr (.inr (some 91))), (1, .inl l1)] [] (ma_put S3 91 5 (.inl (mI S3 91 5))) Q) else (ma_wp X d w 40 62 [(0, .inr (.inr (some 91))), (1, .inl l1)] [] (ma_put S3 91 5 (.inl v4)) Q))) (fun x S9 => Q (.inr x) S9))) else ((0 ≤ (mI S 91 5) ∧ (mI S 91 5).toNatClampNeg < 93) ∧ (if (mI S 91 2) < ((mI S 92 (mI S 91 5).toNatClampNeg) + l1) then (ma_wp X (d - 1) (w - 21) 52 0 [(0, .inr (.inr (some 91)))] [] S (zi (fun v6 S5 => zT S5 ∧ (if v6 = (-1 : Int32) then (ma_wp X d w 40 62 [(0, .inr (.inr (some 91))), (1, .inl l1)] [] (ma_put S5 91 5 (.inl (mI S5 91 5))) Q) else (ma_wp X d w 40 62 [(0, .inr (.inr (some 91))), (1, .inl l1)] [] (ma_put S5 91 5 (.inl v6)) Q))) (fun x S9 => Q (.inr x) S9))) else (ma_wp X d w 40 62 [(0, .inr (.inr (some 91))), (1, .inl l1)] [] S Q))))) : ma_wp X d w 40 35 [(0, .inr (.inr (some 91))), (1, .inl l1)] [] S Q := by
  refine zw_push hm_40 dX4_findRoom_35 (v := .inr (.inr (some 91))) rfl ?_
  refine zw_push hm_40 dX4_findRoom_36 (v := .inr (.inr (some 91))) rfl ?_
  refine zw_gf hm_40 dX4_findRoom_37 (v := .inl (mI S 91 5)) (zT_is hS s_91) (zT_t hS s_91) rfl f_4_34_4 rfl ?_
  refine zw_push hm_40 dX4_findRoom_40 (v := .inl l1) rfl ?_
  refine zw_cv hm_40 dX4_findRoom_41 v_4_43_4 hm_41 [.inl l1, .inl (mI S 91 5)] [] rfl (zT_rt hS s_91 rfl) ⟨by omega, by omega⟩ rfl ?_
  show ma_wp X (d - 1) (w - 22) 41 0 [(0, .inr (.inr (some 91))), (1, .inl (mI S 91 5)), (2, .inl l1)] [] S _
  refine zw_push hm_41 dX4_fits_0 (v := .inl (mI S 91 5)) rfl ?_
  refine zw_if0 hm_41 dX4_fits_1 (t := 29) rfl zc0_lt ?_ ?_
  · intro hc
    rw [if_pos hc] at h
    refine zw_push hm_41 dX4_fits_29 (v := .inl (0 : Int32)) rfl ?_
    refine zw_bret hm_41 dX4_fits_30 (by decide) ?_
    show ma_wp X d w 40 44 [(0, .inr (.inr (some 91))), (1, .inl l1)] [.inl (0 : Int32)] S _
    refine zw_if0 hm_40 dX4_findRoom_44 (t := 62) rfl zc0_ne (fun hc => absurd hc (by decide)) (fun _ => ?_)
    refine zw_push hm_40 dX4_findRoom_47 (v := .inr (.inr (some 91))) rfl ?_
    refine zw_push hm_40 dX4_findRoom_48 (v := .inr (.inr (some 91))) rfl ?_
    refine zw_cv hm_40 dX4_findRoom_49 v_4_54_4 hm_52 [] [.inr (.inr (some 91))] rfl (zT_rt hS s_91 rfl) ⟨by omega, by omega⟩ rfl (zw_mono h (zi_go ?_ ?_))
    · intro v2 S1 hv
      obtain ⟨hS1, h⟩ := hv
      refine zw_push hm_40 dX4_findRoom_52 (v := .inr (.inr (some 91))) rfl ?_
      refine zw_gf hm_40 dX4_findRoom_53 (v := .inl (mI S1 91 5)) (zT_is hS1 s_91) (zT_t hS1 s_91) rfl f_4_34_4 rfl ?_
      refine zw_cs hm_40 dX4_findRoom_56 pn_4_57 sl_4_57 hm_54 [.inl (mI S1 91 5), .inl v2] [.inr (.inr (some 91))] rfl ⟨by omega, by omega⟩ rfl ?_
      show ma_wp X (d - 1) (w - 21) 54 0 [(0, .inl v2), (1, .inl (mI S1 91 5))] [] S1 _
      refine zw_push hm_54 dX4_orElse_0 (v := .inl v2) rfl ?_
      refine zw_push hm_54 dX4_orElse_1 (v := .inl (-1 : Int32)) rfl ?_
      refine zw_if2 hm_54 dX4_orElse_2 (t := 9) rfl zc2_ne ?_ ?_
      · intro hc
        rw [if_neg hc] at h
        refine zw_push hm_54 dX4_orElse_9 (v := .inl v2) rfl ?_
        refine zw_iret hm_54 dX4_orElse_10 ?_
        show ma_wp X d w 40 59 [(0, .inr (.inr (some 91))), (1, .inl l1)] [.inl v2, .inr (.inr (some 91))] S1 _
        refine zw_pf hm_40 dX4_findRoom_59 (zT_is hS1 s_91) (zT_t hS1 s_91) p_4_34_4 zk_int ?_
        exact h
      · intro hc
        rw [if_pos (Classical.not_not.mp hc)] at h
        refine zw_push hm_54 dX4_orElse_5 (v := .inl (mI S1 91 5)) rfl ?_
        refine zw_goto hm_54 dX4_orElse_6 (t := 10) rfl ?_
        refine zw_iret hm_54 dX4_orElse_10 ?_
        show ma_wp X d w 40 59 [(0, .inr (.inr (some 91))), (1, .inl l1)] [.inl (mI S1 91 5), .inr (.inr (some 91))] S1 _
        refine zw_pf hm_40 dX4_findRoom_59 (zT_is hS1 s_91) (zT_t hS1 s_91) p_4_34_4 zk_int ?_
        exact h
    · intro x S9 hx
      exact ⟨by decide, hx⟩
  · intro hc
    rw [if_neg hc] at h
    refine zw_push hm_41 dX4_fits_4 (v := .inl (mI S 91 5)) rfl ?_
    refine zw_push hm_41 dX4_fits_5 (v := .inl (93 : Int32)) rfl ?_
    refine zw_if2 hm_41 dX4_fits_7 (t := 29) rfl zc2_ge ?_ ?_
    · intro hc
      rw [if_pos hc] at h
      refine zw_push hm_41 dX4_fits_29 (v := .inl (0 : Int32)) rfl ?_
      refine zw_bret hm_41 dX4_fits_30 (by decide) ?_
      show ma_wp X d w 40 44 [(0, .inr (.inr (some 91))), (1, .inl l1)] [.inl (0 : Int32)] S _
      refine zw_if0 hm_40 dX4_findRoom_44 (t := 62) rfl zc0_ne (fun hc => absurd hc (by decide)) (fun _ => ?_)
      refine zw_push hm_40 dX4_findRoom_47 (v := .inr (.inr (some 91))) rfl ?_
      refine zw_push hm_40 dX4_findRoom_48 (v := .inr (.inr (some 91))) rfl ?_
      refine zw_cv hm_40 dX4_findRoom_49 v_4_54_4 hm_52 [] [.inr (.inr (some 91))] rfl (zT_rt hS s_91 rfl) ⟨by omega, by omega⟩ rfl (zw_mono h (zi_go ?_ ?_))
      · intro v4 S3 hv
        obtain ⟨hS3, h⟩ := hv
        refine zw_push hm_40 dX4_findRoom_52 (v := .inr (.inr (some 91))) rfl ?_
        refine zw_gf hm_40 dX4_findRoom_53 (v := .inl (mI S3 91 5)) (zT_is hS3 s_91) (zT_t hS3 s_91) rfl f_4_34_4 rfl ?_
        refine zw_cs hm_40 dX4_findRoom_56 pn_4_57 sl_4_57 hm_54 [.inl (mI S3 91 5), .inl v4] [.inr (.inr (some 91))] rfl ⟨by omega, by omega⟩ rfl ?_
        show ma_wp X (d - 1) (w - 21) 54 0 [(0, .inl v4), (1, .inl (mI S3 91 5))] [] S3 _
        refine zw_push hm_54 dX4_orElse_0 (v := .inl v4) rfl ?_
        refine zw_push hm_54 dX4_orElse_1 (v := .inl (-1 : Int32)) rfl ?_
        refine zw_if2 hm_54 dX4_orElse_2 (t := 9) rfl zc2_ne ?_ ?_
        · intro hc
          rw [if_neg hc] at h
          refine zw_push hm_54 dX4_orElse_9 (v := .inl v4) rfl ?_
          refine zw_iret hm_54 dX4_orElse_10 ?_
          show ma_wp X d w 40 59 [(0, .inr (.inr (some 91))), (1, .inl l1)] [.inl v4, .inr (.inr (some 91))] S3 _
          refine zw_pf hm_40 dX4_findRoom_59 (zT_is hS3 s_91) (zT_t hS3 s_91) p_4_34_4 zk_int ?_
          exact h
        · intro hc
          rw [if_pos (Classical.not_not.mp hc)] at h
          refine zw_push hm_54 dX4_orElse_5 (v := .inl (mI S3 91 5)) rfl ?_
          refine zw_goto hm_54 dX4_orElse_6 (t := 10) rfl ?_
          refine zw_iret hm_54 dX4_orElse_10 ?_
          show ma_wp X d w 40 59 [(0, .inr (.inr (some 91))), (1, .inl l1)] [.inl (mI S3 91 5), .inr (.inr (some 91))] S3 _
          refine zw_pf hm_40 dX4_findRoom_59 (zT_is hS3 s_91) (zT_t hS3 s_91) p_4_34_4 zk_int ?_
          exact h
      · intro x S9 hx
        exact ⟨by decide, hx⟩
    · intro hc
      rw [if_neg hc] at h
      refine zw_push hm_41 dX4_fits_10 (v := .inr (.inr (some 91))) rfl ?_
      refine zw_gf hm_41 dX4_fits_11 (v := .inr (.inr (some 92))) (zT_is hS s_91) (zT_t hS s_91) rfl f_4_9_4 (zT_f hS r_91_7) ?_
      refine zw_push hm_41 dX4_fits_14 (v := .inl (mI S 91 5)) rfl ?_
      obtain ⟨hg, h⟩ := h
      refine zw_ia hm_41 dX4_fits_15 (zT_is hS s_92) (zT_h hS s_92) rfl hg ?_
      show ma_wp X (d - 1) (w - 22) 41 16 [(0, .inr (.inr (some 91))), (1, .inl (mI S 91 5)), (2, .inl l1)] [.inl (mI S 92 (mI S 91 5).toNatClampNeg)] S _
      refine zw_push hm_41 dX4_fits_16 (v := .inl l1) rfl ?_
      refine zw_stk hm_41 dX4_fits_17 (st' := [.inl ((mI S 92 (mI S 91 5).toNatClampNeg) + l1)]) rfl rfl ?_
      refine zw_push hm_41 dX4_fits_18 (v := .inr (.inr (some 91))) rfl ?_
      refine zw_gf hm_41 dX4_fits_19 (v := .inl (mI S 91 2)) (zT_is hS s_91) (zT_t hS s_91) rfl f_4_18_4 rfl ?_
      refine zw_if2 hm_41 dX4_fits_22 (t := 29) rfl zc2_gt ?_ ?_
      · intro hc
        rw [if_pos hc] at h
        refine zw_push hm_41 dX4_fits_29 (v := .inl (0 : Int32)) rfl ?_
        refine zw_bret hm_41 dX4_fits_30 (by decide) ?_
        show ma_wp X d w 40 44 [(0, .inr (.inr (some 91))), (1, .inl l1)] [.inl (0 : Int32)] S _
        refine zw_if0 hm_40 dX4_findRoom_44 (t := 62) rfl zc0_ne (fun hc => absurd hc (by decide)) (fun _ => ?_)
        refine zw_push hm_40 dX4_findRoom_47 (v := .inr (.inr (some 91))) rfl ?_
        refine zw_push hm_40 dX4_findRoom_48 (v := .inr (.inr (some 91))) rfl ?_
        refine zw_cv hm_40 dX4_findRoom_49 v_4_54_4 hm_52 [] [.inr (.inr (some 91))] rfl (zT_rt hS s_91 rfl) ⟨by omega, by omega⟩ rfl (zw_mono h (zi_go ?_ ?_))
        · intro v6 S5 hv
          obtain ⟨hS5, h⟩ := hv
          refine zw_push hm_40 dX4_findRoom_52 (v := .inr (.inr (some 91))) rfl ?_
          refine zw_gf hm_40 dX4_findRoom_53 (v := .inl (mI S5 91 5)) (zT_is hS5 s_91) (zT_t hS5 s_91) rfl f_4_34_4 rfl ?_
          refine zw_cs hm_40 dX4_findRoom_56 pn_4_57 sl_4_57 hm_54 [.inl (mI S5 91 5), .inl v6] [.inr (.inr (some 91))] rfl ⟨by omega, by omega⟩ rfl ?_
          show ma_wp X (d - 1) (w - 21) 54 0 [(0, .inl v6), (1, .inl (mI S5 91 5))] [] S5 _
          refine zw_push hm_54 dX4_orElse_0 (v := .inl v6) rfl ?_
          refine zw_push hm_54 dX4_orElse_1 (v := .inl (-1 : Int32)) rfl ?_
          refine zw_if2 hm_54 dX4_orElse_2 (t := 9) rfl zc2_ne ?_ ?_
          · intro hc
            rw [if_neg hc] at h
            refine zw_push hm_54 dX4_orElse_9 (v := .inl v6) rfl ?_
            refine zw_iret hm_54 dX4_orElse_10 ?_
            show ma_wp X d w 40 59 [(0, .inr (.inr (some 91))), (1, .inl l1)] [.inl v6, .inr (.inr (some 91))] S5 _
            refine zw_pf hm_40 dX4_findRoom_59 (zT_is hS5 s_91) (zT_t hS5 s_91) p_4_34_4 zk_int ?_
            exact h
          · intro hc
            rw [if_pos (Classical.not_not.mp hc)] at h
            refine zw_push hm_54 dX4_orElse_5 (v := .inl (mI S5 91 5)) rfl ?_
            refine zw_goto hm_54 dX4_orElse_6 (t := 10) rfl ?_
            refine zw_iret hm_54 dX4_orElse_10 ?_
            show ma_wp X d w 40 59 [(0, .inr (.inr (some 91))), (1, .inl l1)] [.inl (mI S5 91 5), .inr (.inr (some 91))] S5 _
            refine zw_pf hm_40 dX4_findRoom_59 (zT_is hS5 s_91) (zT_t hS5 s_91) p_4_34_4 zk_int ?_
            exact h
        · intro x S9 hx
          exact ⟨by decide, hx⟩
      · intro hc
        rw [if_neg hc] at h
        refine zw_push hm_41 dX4_fits_25 (v := .inl (1 : Int32)) rfl ?_
        refine zw_goto hm_41 dX4_fits_26 (t := 30) rfl ?_
        refine zw_bret hm_41 dX4_fits_30 (by decide) ?_
        show ma_wp X d w 40 44 [(0, .inr (.inr (some 91))), (1, .inl l1)] [.inl (1 : Int32)] S _
        refine zw_if0 hm_40 dX4_findRoom_44 (t := 62) rfl zc0_ne (fun _ => ?_) (fun hc => absurd (by decide) hc)
        exact h
theorem g_40_91_t_62 {X : Nat × (Nat → Int32)} {d w : Nat} {S : ma_S} {Q : Option ma_V ⊕ Nat → ma_S → Prop} (l1 : Int32) (hd : 5 ≤ d) (hw : 183 ≤ w) (hS : zT S) (h : if (mI S 91 5) < 0 then (Q (.inl (some (.inl (-1 : Int32)))) S) else (if (93 : Int32) ≤ (mI S 91 5) then (Q (.inl (some (.inl (-1 : Int32)))) S) else ((0 ≤ (mI S 91 5) ∧ (mI S 91 5).toNatClampNeg < 93) ∧ (if (mI S 91 2) < ((mI S 92 (mI S 91 5).toNatClampNeg) + l1) then (Q (.inl (some (.inl (-1 : Int32)))) S) else (if (mI S 91 5) < 0 then (Q (.inl (some (.inl (((mI S 91 5) * (mI S 91 2)) + (0 : Int32))))) S) else (if (93 : Int32) ≤ (mI S 91 5) then (Q (.inl (some (.inl (((mI S 91 5) * (mI S 91 2)) + (0 : Int32))))) S) else ((0 ≤ (mI S 91 5) ∧ (mI S 91 5).toNatClampNeg < 93) ∧ (Q (.inl (some (.inl (((mI S 91 5) * (mI S 91 2)) + (mI S 92 (mI S 91 5).toNatClampNeg))))) S)))))))) : ma_wp X d w 40 62 [(0, .inr (.inr (some 91))), (1, .inl l1)] [] S Q := by
  refine zw_push hm_40 dX4_findRoom_62 (v := .inr (.inr (some 91))) rfl ?_
  refine zw_push hm_40 dX4_findRoom_63 (v := .inr (.inr (some 91))) rfl ?_
  refine zw_gf hm_40 dX4_findRoom_64 (v := .inl (mI S 91 5)) (zT_is hS s_91) (zT_t hS s_91) rfl f_4_34_4 rfl ?_
  refine zw_push hm_40 dX4_findRoom_67 (v := .inl l1) rfl ?_
  refine zw_cv hm_40 dX4_findRoom_68 v_4_43_4 hm_41 [.inl l1, .inl (mI S 91 5)] [] rfl (zT_rt hS s_91 rfl) ⟨by omega, by omega⟩ rfl ?_
  show ma_wp X (d - 1) (w - 22) 41 0 [(0, .inr (.inr (some 91))), (1, .inl (mI S 91 5)), (2, .inl l1)] [] S _
  refine zw_push hm_41 dX4_fits_0 (v := .inl (mI S 91 5)) rfl ?_
  refine zw_if0 hm_41 dX4_fits_1 (t := 29) rfl zc0_lt ?_ ?_
  · intro hc
    rw [if_pos hc] at h
    refine zw_push hm_41 dX4_fits_29 (v := .inl (0 : Int32)) rfl ?_
    refine zw_bret hm_41 dX4_fits_30 (by decide) ?_
    show ma_wp X d w 40 71 [(0, .inr (.inr (some 91))), (1, .inl l1)] [.inl (0 : Int32)] S _
    refine zw_if0 hm_40 dX4_findRoom_71 (t := 81) rfl zc0_eq (fun _ => ?_) (fun hc => absurd (by decide) hc)
    refine zw_push hm_40 dX4_findRoom_81 (v := .inl (-1 : Int32)) rfl ?_
    exact zw_iret hm_40 dX4_findRoom_82 h
  · intro hc
    rw [if_neg hc] at h
    refine zw_push hm_41 dX4_fits_4 (v := .inl (mI S 91 5)) rfl ?_
    refine zw_push hm_41 dX4_fits_5 (v := .inl (93 : Int32)) rfl ?_
    refine zw_if2 hm_41 dX4_fits_7 (t := 29) rfl zc2_ge ?_ ?_
    · intro hc
      rw [if_pos hc] at h
      refine zw_push hm_41 dX4_fits_29 (v := .inl (0 : Int32)) rfl ?_
      refine zw_bret hm_41 dX4_fits_30 (by decide) ?_
      show ma_wp X d w 40 71 [(0, .inr (.inr (some 91))), (1, .inl l1)] [.inl (0 : Int32)] S _
      refine zw_if0 hm_40 dX4_findRoom_71 (t := 81) rfl zc0_eq (fun _ => ?_) (fun hc => absurd (by decide) hc)
      refine zw_push hm_40 dX4_findRoom_81 (v := .inl (-1 : Int32)) rfl ?_
      exact zw_iret hm_40 dX4_findRoom_82 h
    · intro hc
      rw [if_neg hc] at h
      refine zw_push hm_41 dX4_fits_10 (v := .inr (.inr (some 91))) rfl ?_
      refine zw_gf hm_41 dX4_fits_11 (v := .inr (.inr (some 92))) (zT_is hS s_91) (zT_t hS s_91) rfl f_4_9_4 (zT_f hS r_91_7) ?_
      refine zw_push hm_41 dX4_fits_14 (v := .inl (mI S 91 5)) rfl ?_
      obtain ⟨hg, h⟩ := h
      refine zw_ia hm_41 dX4_fits_15 (zT_is hS s_92) (zT_h hS s_92) rfl hg ?_
      show ma_wp X (d - 1) (w - 22) 41 16 [(0, .inr (.inr (some 91))), (1, .inl (mI S 91 5)), (2, .inl l1)] [.inl (mI S 92 (mI S 91 5).toNatClampNeg)] S _
      refine zw_push hm_41 dX4_fits_16 (v := .inl l1) rfl ?_
      refine zw_stk hm_41 dX4_fits_17 (st' := [.inl ((mI S 92 (mI S 91 5).toNatClampNeg) + l1)]) rfl rfl ?_
      refine zw_push hm_41 dX4_fits_18 (v := .inr (.inr (some 91))) rfl ?_
      refine zw_gf hm_41 dX4_fits_19 (v := .inl (mI S 91 2)) (zT_is hS s_91) (zT_t hS s_91) rfl f_4_18_4 rfl ?_
      refine zw_if2 hm_41 dX4_fits_22 (t := 29) rfl zc2_gt ?_ ?_
      · intro hc
        rw [if_pos hc] at h
        refine zw_push hm_41 dX4_fits_29 (v := .inl (0 : Int32)) rfl ?_
        refine zw_bret hm_41 dX4_fits_30 (by decide) ?_
        show ma_wp X d w 40 71 [(0, .inr (.inr (some 91))), (1, .inl l1)] [.inl (0 : Int32)] S _
        refine zw_if0 hm_40 dX4_findRoom_71 (t := 81) rfl zc0_eq (fun _ => ?_) (fun hc => absurd (by decide) hc)
        refine zw_push hm_40 dX4_findRoom_81 (v := .inl (-1 : Int32)) rfl ?_
        exact zw_iret hm_40 dX4_findRoom_82 h
      · intro hc
        rw [if_neg hc] at h
        refine zw_push hm_41 dX4_fits_25 (v := .inl (1 : Int32)) rfl ?_
        refine zw_goto hm_41 dX4_fits_26 (t := 30) rfl ?_
        refine zw_bret hm_41 dX4_fits_30 (by decide) ?_
        show ma_wp X d w 40 71 [(0, .inr (.inr (some 91))), (1, .inl l1)] [.inl (1 : Int32)] S _
        refine zw_if0 hm_40 dX4_findRoom_71 (t := 81) rfl zc0_eq (fun hc => absurd hc (by decide)) (fun _ => ?_)
        refine zw_push hm_40 dX4_findRoom_74 (v := .inr (.inr (some 91))) rfl ?_
        refine zw_cv hm_40 dX4_findRoom_75 v_4_60_4 hm_55 [] [] rfl (zT_rt hS s_91 rfl) ⟨by omega, by omega⟩ rfl ?_
        show ma_wp X (d - 1) (w - 20) 55 0 [(0, .inr (.inr (some 91)))] [] S _
        refine zw_push hm_55 dX4_topPlace_0 (v := .inr (.inr (some 91))) rfl ?_
        refine zw_gf hm_55 dX4_topPlace_1 (v := .inl (mI S 91 5)) (zT_is hS s_91) (zT_t hS s_91) rfl f_4_34_4 rfl ?_
        refine zw_push hm_55 dX4_topPlace_4 (v := .inr (.inr (some 91))) rfl ?_
        refine zw_gf hm_55 dX4_topPlace_5 (v := .inl (mI S 91 2)) (zT_is hS s_91) (zT_t hS s_91) rfl f_4_18_4 rfl ?_
        refine zw_stk hm_55 dX4_topPlace_8 (st' := [.inl ((mI S 91 5) * (mI S 91 2))]) rfl rfl ?_
        refine zw_push hm_55 dX4_topPlace_9 (v := .inr (.inr (some 91))) rfl ?_
        refine zw_push hm_55 dX4_topPlace_10 (v := .inr (.inr (some 91))) rfl ?_
        refine zw_gf hm_55 dX4_topPlace_11 (v := .inl (mI S 91 5)) (zT_is hS s_91) (zT_t hS s_91) rfl f_4_34_4 rfl ?_
        refine zw_cv hm_55 dX4_topPlace_14 v_4_93_4 hm_50 [.inl (mI S 91 5)] [.inl ((mI S 91 5) * (mI S 91 2))] rfl (zT_rt hS s_91 rfl) ⟨by omega, by omega⟩ rfl ?_
        show ma_wp X ((d - 1) - 1) ((w - 20) - 21) 50 0 [(0, .inr (.inr (some 91))), (1, .inl (mI S 91 5))] [] S _
        refine zw_push hm_50 dX4_topOf_0 (v := .inl (mI S 91 5)) rfl ?_
        refine zw_if0 hm_50 dX4_topOf_1 (t := 19) rfl zc0_lt ?_ ?_
        · intro hc
          rw [if_pos hc] at h
          refine zw_push hm_50 dX4_topOf_19 (v := .inl (0 : Int32)) rfl ?_
          refine zw_iret hm_50 dX4_topOf_20 ?_
          show ma_wp X (d - 1) (w - 20) 55 17 [(0, .inr (.inr (some 91)))] [.inl (0 : Int32), .inl ((mI S 91 5) * (mI S 91 2))] S _
          refine zw_stk hm_55 dX4_topPlace_17 (st' := [.inl (((mI S 91 5) * (mI S 91 2)) + (0 : Int32))]) rfl rfl ?_
          refine zw_iret hm_55 dX4_topPlace_18 ?_
          show ma_wp X d w 40 78 [(0, .inr (.inr (some 91))), (1, .inl l1)] [.inl (((mI S 91 5) * (mI S 91 2)) + (0 : Int32))] S _
          refine zw_goto hm_40 dX4_findRoom_78 (t := 82) rfl ?_
          exact zw_iret hm_40 dX4_findRoom_82 h
        · intro hc
          rw [if_neg hc] at h
          refine zw_push hm_50 dX4_topOf_4 (v := .inl (mI S 91 5)) rfl ?_
          refine zw_push hm_50 dX4_topOf_5 (v := .inl (93 : Int32)) rfl ?_
          refine zw_if2 hm_50 dX4_topOf_7 (t := 19) rfl zc2_ge ?_ ?_
          · intro hc
            rw [if_pos hc] at h
            refine zw_push hm_50 dX4_topOf_19 (v := .inl (0 : Int32)) rfl ?_
            refine zw_iret hm_50 dX4_topOf_20 ?_
            show ma_wp X (d - 1) (w - 20) 55 17 [(0, .inr (.inr (some 91)))] [.inl (0 : Int32), .inl ((mI S 91 5) * (mI S 91 2))] S _
            refine zw_stk hm_55 dX4_topPlace_17 (st' := [.inl (((mI S 91 5) * (mI S 91 2)) + (0 : Int32))]) rfl rfl ?_
            refine zw_iret hm_55 dX4_topPlace_18 ?_
            show ma_wp X d w 40 78 [(0, .inr (.inr (some 91))), (1, .inl l1)] [.inl (((mI S 91 5) * (mI S 91 2)) + (0 : Int32))] S _
            refine zw_goto hm_40 dX4_findRoom_78 (t := 82) rfl ?_
            exact zw_iret hm_40 dX4_findRoom_82 h
          · intro hc
            rw [if_neg hc] at h
            refine zw_push hm_50 dX4_topOf_10 (v := .inr (.inr (some 91))) rfl ?_
            refine zw_gf hm_50 dX4_topOf_11 (v := .inr (.inr (some 92))) (zT_is hS s_91) (zT_t hS s_91) rfl f_4_9_4 (zT_f hS r_91_7) ?_
            refine zw_push hm_50 dX4_topOf_14 (v := .inl (mI S 91 5)) rfl ?_
            obtain ⟨hg, h⟩ := h
            refine zw_ia hm_50 dX4_topOf_15 (zT_is hS s_92) (zT_h hS s_92) rfl hg ?_
            show ma_wp X ((d - 1) - 1) ((w - 20) - 21) 50 16 [(0, .inr (.inr (some 91))), (1, .inl (mI S 91 5))] [.inl (mI S 92 (mI S 91 5).toNatClampNeg)] S _
            refine zw_goto hm_50 dX4_topOf_16 (t := 20) rfl ?_
            refine zw_iret hm_50 dX4_topOf_20 ?_
            show ma_wp X (d - 1) (w - 20) 55 17 [(0, .inr (.inr (some 91)))] [.inl (mI S 92 (mI S 91 5).toNatClampNeg), .inl ((mI S 91 5) * (mI S 91 2))] S _
            refine zw_stk hm_55 dX4_topPlace_17 (st' := [.inl (((mI S 91 5) * (mI S 91 2)) + (mI S 92 (mI S 91 5).toNatClampNeg))]) rfl rfl ?_
            refine zw_iret hm_55 dX4_topPlace_18 ?_
            show ma_wp X d w 40 78 [(0, .inr (.inr (some 91))), (1, .inl l1)] [.inl (((mI S 91 5) * (mI S 91 2)) + (mI S 92 (mI S 91 5).toNatClampNeg))] S _
            refine zw_goto hm_40 dX4_findRoom_78 (t := 82) rfl ?_
            exact zw_iret hm_40 dX4_findRoom_82 h
theorem lp_40_91_t_62 {X : Nat × (Nat → Int32)} {d w : Nat} {f : Nat → Nat → Int32} {r : Nat → Nat → Option Nat} {C Z N : Nat} {Q : Option ma_V ⊕ Nat → ma_S → Prop} (hd : 5 ≤ d) (hw : 183 ≤ w) (K : ∀ v S', zL91 f r C Z N S' → (-1 ≤ v.toInt ∧ v.toInt ≤ 150000 ∧ (v.toInt < 0 ∨ (mI S' 92 (mI S' 91 5).toNatClampNeg).toInt ≤ 1500)) → Q (.inl (some (.inl v))) S') : ∀ (n : Nat) (S : ma_S) (l1 : Int32), ((0 : Int)).toNat = n → zL91 f r C Z N S → (1 ≤ l1.toInt) → (l1.toInt ≤ 61) → ma_wp X d w 40 62 [(0, .inr (.inr (some 91))), (1, .inl l1)] [] S Q := by
  intro n
  induction n using Nat.strongRecOn with
  | _ n IH =>
    intro S l1 hmu hI  hi0 hi1
    refine g_40_91_t_62 l1 (by omega) (by omega) (zG_T hI) ?_
    have f1 := zG_s hI (0) (92) (c := 91) (k := 5) (by decide)
    have li2 : (0 : Int32).toInt = 0 := rfl
    refine zd (fun h3 => ?_) (fun h3 => ?_)
    · skip
      have g4 := i_lt h3
      have li5 : (-1 : Int32).toInt = -1 := rfl
      first | have f6 := zG_a hI 93 (0) (3000) (c := 92) (k := (mI S 91 5).toNatClampNeg) (by decide) (i_ix (n := 93) (by omega) (by omega)).2 | have b7 := i_bd (mI S 92 (mI S 91 5).toNatClampNeg)
      exact K ((-1 : Int32)) _ hI (show -1 ≤ (-1 : Int32).toInt ∧ (-1 : Int32).toInt ≤ 150000 ∧ ((-1 : Int32).toInt < 0 ∨ (mI S 92 (mI S 91 5).toNatClampNeg).toInt ≤ 1500) from by omega)
    · skip
      have g8 := i_nlt h3
      have li9 : (93 : Int32).toInt = 93 := rfl
      refine zd (fun h10 => ?_) (fun h10 => ?_)
      · skip
        have g11 := i_le h10
        have li12 : (-1 : Int32).toInt = -1 := rfl
        first | have f13 := zG_a hI 93 (0) (3000) (c := 92) (k := (mI S 91 5).toNatClampNeg) (by decide) (i_ix (n := 93) (by omega) (by omega)).2 | have b14 := i_bd (mI S 92 (mI S 91 5).toNatClampNeg)
        exact K ((-1 : Int32)) _ hI (show -1 ≤ (-1 : Int32).toInt ∧ (-1 : Int32).toInt ≤ 150000 ∧ ((-1 : Int32).toInt < 0 ∨ (mI S 92 (mI S 91 5).toNatClampNeg).toInt ≤ 1500) from by omega)
      · skip
        have g15 := i_nle h10
        refine ⟨i_ix (by omega) (by omega), ?_⟩
        have f16 := zG_s hI (0) (1500) (c := 91) (k := 2) (by decide)
        first | have f17 := zG_a hI 93 (0) (3000) (c := 92) (k := (mI S 91 5).toNatClampNeg) (by decide) (i_ix (n := 93) (by omega) (by omega)).2 | have b18 := i_bd (mI S 92 (mI S 91 5).toNatClampNeg)
        have b19 := i_bd l1
        first | have e20 : ((mI S 92 (mI S 91 5).toNatClampNeg) + l1).toInt = (mI S 92 (mI S 91 5).toNatClampNeg).toInt + l1.toInt := i_add (by omega) (by omega) | have b21 := i_bd ((mI S 92 (mI S 91 5).toNatClampNeg) + l1)
        refine zd (fun h22 => ?_) (fun h22 => ?_)
        · skip
          have g23 := i_lt h22
          have li24 : (-1 : Int32).toInt = -1 := rfl
          exact K ((-1 : Int32)) _ hI (show -1 ≤ (-1 : Int32).toInt ∧ (-1 : Int32).toInt ≤ 150000 ∧ ((-1 : Int32).toInt < 0 ∨ (mI S 92 (mI S 91 5).toNatClampNeg).toInt ≤ 1500) from by omega)
        · skip
          have g25 := i_nlt h22
          refine zd (fun h26 => ?_) (fun h26 => ?_)
          · skip
            have g27 := i_lt h26
            first | have f28 := i_mul15 (x := (mI S 91 5)) (y := (mI S 91 2)) (by omega) (by omega) (by omega) (by omega) | have b29 := i_bd ((mI S 91 5) * (mI S 91 2))
            first | have e30 : (((mI S 91 5) * (mI S 91 2)) + (0 : Int32)).toInt = ((mI S 91 5) * (mI S 91 2)).toInt + (0) := i_addk rfl (by omega) (by omega) | have b31 := i_bd (((mI S 91 5) * (mI S 91 2)) + (0 : Int32))
            exact K ((((mI S 91 5) * (mI S 91 2)) + (0 : Int32))) _ hI (show -1 ≤ (((mI S 91 5) * (mI S 91 2)) + (0 : Int32)).toInt ∧ (((mI S 91 5) * (mI S 91 2)) + (0 : Int32)).toInt ≤ 150000 ∧ ((((mI S 91 5) * (mI S 91 2)) + (0 : Int32)).toInt < 0 ∨ (mI S 92 (mI S 91 5).toNatClampNeg).toInt ≤ 1500) from by omega)
          · skip
            have g32 := i_nlt h26
            refine zd (fun h33 => ?_) (fun h33 => ?_)
            · skip
              have g34 := i_le h33
              first | have f35 := i_mul15 (x := (mI S 91 5)) (y := (mI S 91 2)) (by omega) (by omega) (by omega) (by omega) | have b36 := i_bd ((mI S 91 5) * (mI S 91 2))
              first | have e37 : (((mI S 91 5) * (mI S 91 2)) + (0 : Int32)).toInt = ((mI S 91 5) * (mI S 91 2)).toInt + (0) := i_addk rfl (by omega) (by omega) | have b38 := i_bd (((mI S 91 5) * (mI S 91 2)) + (0 : Int32))
              exact K ((((mI S 91 5) * (mI S 91 2)) + (0 : Int32))) _ hI (show -1 ≤ (((mI S 91 5) * (mI S 91 2)) + (0 : Int32)).toInt ∧ (((mI S 91 5) * (mI S 91 2)) + (0 : Int32)).toInt ≤ 150000 ∧ ((((mI S 91 5) * (mI S 91 2)) + (0 : Int32)).toInt < 0 ∨ (mI S 92 (mI S 91 5).toNatClampNeg).toInt ≤ 1500) from by omega)
            · skip
              have g39 := i_nle h33
              refine ⟨i_ix (by omega) (by omega), ?_⟩
              first | have f40 := i_mul15 (x := (mI S 91 5)) (y := (mI S 91 2)) (by omega) (by omega) (by omega) (by omega) | have b41 := i_bd ((mI S 91 5) * (mI S 91 2))
              first | have e42 : (((mI S 91 5) * (mI S 91 2)) + (mI S 92 (mI S 91 5).toNatClampNeg)).toInt = ((mI S 91 5) * (mI S 91 2)).toInt + (mI S 92 (mI S 91 5).toNatClampNeg).toInt := i_add (by omega) (by omega) | have b43 := i_bd (((mI S 91 5) * (mI S 91 2)) + (mI S 92 (mI S 91 5).toNatClampNeg))
              exact K ((((mI S 91 5) * (mI S 91 2)) + (mI S 92 (mI S 91 5).toNatClampNeg))) _ hI (show -1 ≤ (((mI S 91 5) * (mI S 91 2)) + (mI S 92 (mI S 91 5).toNatClampNeg)).toInt ∧ (((mI S 91 5) * (mI S 91 2)) + (mI S 92 (mI S 91 5).toNatClampNeg)).toInt ≤ 150000 ∧ ((((mI S 91 5) * (mI S 91 2)) + (mI S 92 (mI S 91 5).toNatClampNeg)).toInt < 0 ∨ (mI S 92 (mI S 91 5).toNatClampNeg).toInt ≤ 1500) from by omega)
theorem lp_40_91_t_35 {X : Nat × (Nat → Int32)} {d w : Nat} {f : Nat → Nat → Int32} {r : Nat → Nat → Option Nat} {C Z N : Nat} {Q : Option ma_V ⊕ Nat → ma_S → Prop} (hd : 5 ≤ d) (hw : 183 ≤ w) (K : ∀ v S', zL91 f r C Z N S' → (-1 ≤ v.toInt ∧ v.toInt ≤ 150000 ∧ (v.toInt < 0 ∨ (mI S' 92 (mI S' 91 5).toNatClampNeg).toInt ≤ 1500)) → Q (.inl (some (.inl v))) S') : ∀ (n : Nat) (S : ma_S) (l1 : Int32), ((0 : Int)).toNat = n → zL91 f r C Z N S → (1 ≤ l1.toInt) → (l1.toInt ≤ 61) → ma_wp X d w 40 35 [(0, .inr (.inr (some 91))), (1, .inl l1)] [] S Q := by
  intro n
  induction n using Nat.strongRecOn with
  | _ n IH =>
    intro S l1 hmu hI  hi0 hi1
    refine g_40_91_t_35 l1 (by omega) (by omega) (zG_T hI) ?_
    have f1 := zG_s hI (0) (92) (c := 91) (k := 5) (by decide)
    have li2 : (0 : Int32).toInt = 0 := rfl
    refine zd (fun h3 => ?_) (fun h3 => ?_)
    · skip
      have g4 := i_lt h3
      refine sp_52_91  (by omega) (by omega) hI  (fun v2 S1 hI_S1 hp_v2 => zi_n ⟨zG_T hI_S1, ?_⟩)
      have b5 := i_bd v2
      have li6 : (-1 : Int32).toInt = -1 := rfl
      refine zd (fun h7 => ?_) (fun h7 => ?_)
      · skip
        have g8 := i_eq h7
        have f10 := zG_s hI_S1 (0) (92) (c := 91) (k := 5) (by decide)
        have hI9 : zL91 f r C Z N (ma_put S1 91 5 (.inl (mI S1 91 5))) := zG_sp hI_S1 (0) (92) rfl (by decide) (by decide) (by decide) trivial (by omega) (by omega)
        have b11 := i_bd l1
        exact lp_40_91_t_62 (by omega) (by omega) K _ _ (l1) rfl hI9 (by omega) (by omega)
      · skip
        have g12 := i_ne h7
        have hI13 : zL91 f r C Z N (ma_put S1 91 5 (.inl v2)) := zG_sp hI_S1 (0) (92) rfl (by decide) (by decide) (by decide) trivial (by omega) (by omega)
        have b14 := i_bd l1
        exact lp_40_91_t_62 (by omega) (by omega) K _ _ (l1) rfl hI13 (by omega) (by omega)
    · skip
      have g15 := i_nlt h3
      have li16 : (93 : Int32).toInt = 93 := rfl
      refine zd (fun h17 => ?_) (fun h17 => ?_)
      · skip
        have g18 := i_le h17
        refine sp_52_91  (by omega) (by omega) hI  (fun v4 S3 hI_S3 hp_v4 => zi_n ⟨zG_T hI_S3, ?_⟩)
        have b19 := i_bd v4
        have li20 : (-1 : Int32).toInt = -1 := rfl
        refine zd (fun h21 => ?_) (fun h21 => ?_)
        · skip
          have g22 := i_eq h21
          have f24 := zG_s hI_S3 (0) (92) (c := 91) (k := 5) (by decide)
          have hI23 : zL91 f r C Z N (ma_put S3 91 5 (.inl (mI S3 91 5))) := zG_sp hI_S3 (0) (92) rfl (by decide) (by decide) (by decide) trivial (by omega) (by omega)
          have b25 := i_bd l1
          exact lp_40_91_t_62 (by omega) (by omega) K _ _ (l1) rfl hI23 (by omega) (by omega)
        · skip
          have g26 := i_ne h21
          have hI27 : zL91 f r C Z N (ma_put S3 91 5 (.inl v4)) := zG_sp hI_S3 (0) (92) rfl (by decide) (by decide) (by decide) trivial (by omega) (by omega)
          have b28 := i_bd l1
          exact lp_40_91_t_62 (by omega) (by omega) K _ _ (l1) rfl hI27 (by omega) (by omega)
      · skip
        have g29 := i_nle h17
        refine ⟨i_ix (by omega) (by omega), ?_⟩
        have f30 := zG_s hI (0) (1500) (c := 91) (k := 2) (by decide)
        first | have f31 := zG_a hI 93 (0) (3000) (c := 92) (k := (mI S 91 5).toNatClampNeg) (by decide) (i_ix (n := 93) (by omega) (by omega)).2 | have b32 := i_bd (mI S 92 (mI S 91 5).toNatClampNeg)
        have b33 := i_bd l1
        first | have e34 : ((mI S 92 (mI S 91 5).toNatClampNeg) + l1).toInt = (mI S 92 (mI S 91 5).toNatClampNeg).toInt + l1.toInt := i_add (by omega) (by omega) | have b35 := i_bd ((mI S 92 (mI S 91 5).toNatClampNeg) + l1)
        refine zd (fun h36 => ?_) (fun h36 => ?_)
        · skip
          have g37 := i_lt h36
          refine sp_52_91  (by omega) (by omega) hI  (fun v6 S5 hI_S5 hp_v6 => zi_n ⟨zG_T hI_S5, ?_⟩)
          have b38 := i_bd v6
          have li39 : (-1 : Int32).toInt = -1 := rfl
          refine zd (fun h40 => ?_) (fun h40 => ?_)
          · skip
            have g41 := i_eq h40
            have f43 := zG_s hI_S5 (0) (92) (c := 91) (k := 5) (by decide)
            have hI42 : zL91 f r C Z N (ma_put S5 91 5 (.inl (mI S5 91 5))) := zG_sp hI_S5 (0) (92) rfl (by decide) (by decide) (by decide) trivial (by omega) (by omega)
            exact lp_40_91_t_62 (by omega) (by omega) K _ _ (l1) rfl hI42 (by omega) (by omega)
          · skip
            have g44 := i_ne h40
            have hI45 : zL91 f r C Z N (ma_put S5 91 5 (.inl v6)) := zG_sp hI_S5 (0) (92) rfl (by decide) (by decide) (by decide) trivial (by omega) (by omega)
            exact lp_40_91_t_62 (by omega) (by omega) K _ _ (l1) rfl hI45 (by omega) (by omega)
        · skip
          have g46 := i_nlt h36
          exact lp_40_91_t_62 (by omega) (by omega) K _ _ (l1) rfl hI (by omega) (by omega)
theorem sp_40_91_t {X : Nat × (Nat → Int32)} {d w : Nat} {f : Nat → Nat → Int32} {r : Nat → Nat → Option Nat} {C Z N : Nat} {Q : Option ma_V ⊕ Nat → ma_S → Prop} {S : ma_S} (n : Int32) (hd : 5 ≤ d) (hw : 183 ≤ w) (hI : zL91 f r C Z N S) (hpre0 : 1 ≤ n.toInt) (hpre1 : n.toInt ≤ 61) (K : ∀ v S', zL91 f r C Z N S' → (-1 ≤ v.toInt ∧ v.toInt ≤ 150000 ∧ (v.toInt < 0 ∨ (mI S' 92 (mI S' 91 5).toNatClampNeg).toInt ≤ 1500)) → Q (.inl (some (.inl v))) S') : ma_wp X d w 40 0 [(0, .inr (.inr (some 91))), (1, .inl n)] [] S Q := by
  refine g_40_91_t_0 n (by omega) (by omega) (zG_T hI) ?_
  have b1 := i_bd n
  have f2 := zG_s hI (0) (1500) (c := 91) (k := 2) (by decide)
  refine zd (fun h3 => ?_) (fun h3 => ?_)
  · skip
    have g4 := i_le h3
    have f5 := zG_s hI (0) (92) (c := 91) (k := 5) (by decide)
    have li6 : (0 : Int32).toInt = 0 := rfl
    refine zd (fun h7 => ?_) (fun h7 => ?_)
    · skip
      have g8 := i_lt h7
      refine sp_42_91  (by omega) (by omega) hI  (fun v2 S1 hI_S1 hp_v2 => zi_n ⟨zG_T hI_S1, ?_⟩)
      have li9 : (2 : Int32).toInt = 2 := rfl
      have b10 := i_bd v2
      refine zd (fun h11 => ?_) (fun h11 => ?_)
      · skip
        have g12 := i_le h11
        exact lp_40_91_t_35 (by omega) (by omega) K _ _ (n) rfl hI_S1 (by omega) (by omega)
      · skip
        have g13 := i_nle h11
        refine sp_43_91  (by omega) (by omega) hI_S1  (fun v4 S3 hI_S3 hp_v4 => zi_n ⟨zG_T hI_S3, ?_⟩)
        exact lp_40_91_t_35 (by omega) (by omega) K _ _ (n) rfl hI_S3 (by omega) (by omega)
    · skip
      have g14 := i_nlt h7
      have li15 : (93 : Int32).toInt = 93 := rfl
      refine zd (fun h16 => ?_) (fun h16 => ?_)
      · skip
        have g17 := i_le h16
        refine sp_42_91  (by omega) (by omega) hI  (fun v6 S5 hI_S5 hp_v6 => zi_n ⟨zG_T hI_S5, ?_⟩)
        have li18 : (2 : Int32).toInt = 2 := rfl
        have b19 := i_bd v6
        refine zd (fun h20 => ?_) (fun h20 => ?_)
        · skip
          have g21 := i_le h20
          exact lp_40_91_t_35 (by omega) (by omega) K _ _ (n) rfl hI_S5 (by omega) (by omega)
        · skip
          have g22 := i_nle h20
          refine sp_43_91  (by omega) (by omega) hI_S5  (fun v8 S7 hI_S7 hp_v8 => zi_n ⟨zG_T hI_S7, ?_⟩)
          exact lp_40_91_t_35 (by omega) (by omega) K _ _ (n) rfl hI_S7 (by omega) (by omega)
      · skip
        have g23 := i_nle h16
        refine ⟨i_ix (by omega) (by omega), ?_⟩
        first | have f24 := zG_a hI 93 (0) (3000) (c := 92) (k := (mI S 91 5).toNatClampNeg) (by decide) (i_ix (n := 93) (by omega) (by omega)).2 | have b25 := i_bd (mI S 92 (mI S 91 5).toNatClampNeg)
        first | have e26 : ((mI S 92 (mI S 91 5).toNatClampNeg) + n).toInt = (mI S 92 (mI S 91 5).toNatClampNeg).toInt + n.toInt := i_add (by omega) (by omega) | have b27 := i_bd ((mI S 92 (mI S 91 5).toNatClampNeg) + n)
        refine zd (fun h28 => ?_) (fun h28 => ?_)
        · skip
          have g29 := i_lt h28
          refine sp_42_91  (by omega) (by omega) hI  (fun v10 S9 hI_S9 hp_v10 => zi_n ⟨zG_T hI_S9, ?_⟩)
          have li30 : (2 : Int32).toInt = 2 := rfl
          have b31 := i_bd v10
          refine zd (fun h32 => ?_) (fun h32 => ?_)
          · skip
            have g33 := i_le h32
            exact lp_40_91_t_35 (by omega) (by omega) K _ _ (n) rfl hI_S9 (by omega) (by omega)
          · skip
            have g34 := i_nle h32
            refine sp_43_91  (by omega) (by omega) hI_S9  (fun v12 S11 hI_S11 hp_v12 => zi_n ⟨zG_T hI_S11, ?_⟩)
            exact lp_40_91_t_35 (by omega) (by omega) K _ _ (n) rfl hI_S11 (by omega) (by omega)
        · skip
          have g35 := i_nlt h28
          exact lp_40_91_t_35 (by omega) (by omega) K _ _ (n) rfl hI (by omega) (by omega)
  · skip
    have g36 := i_nle h3
    have li37 : (-1 : Int32).toInt = -1 := rfl
    have f38 := zG_s hI (0) (92) (c := 91) (k := 5) (by decide)
    first | have f39 := zG_a hI 93 (0) (3000) (c := 92) (k := (mI S 91 5).toNatClampNeg) (by decide) (i_ix (n := 93) (by omega) (by omega)).2 | have b40 := i_bd (mI S 92 (mI S 91 5).toNatClampNeg)
    exact K ((-1 : Int32)) _ hI (show -1 ≤ (-1 : Int32).toInt ∧ (-1 : Int32).toInt ≤ 150000 ∧ ((-1 : Int32).toInt < 0 ∨ (mI S 92 (mI S 91 5).toNatClampNeg).toInt ≤ 1500) from by omega)
theorem g_149_64_0 {X : Nat × (Nat → Int32)} {d w : Nat} {S : ma_S} {Q : Option ma_V ⊕ Nat → ma_S → Prop} (n : Int32) (hd : 6 ≤ d) (hw : 89 ≤ w) (hS : zT S) (h : ma_wp X (d - 1) (w - 20) 116 0 [(0, .inr (.inr (some 75)))] [] S (zv (fun S1 => zT S1 ∧ (if n < 0 then (Q (.inr 4) (ma_bump S1)) else (if (512 : Int32) ≤ n then (Q (.inr 4) (ma_bump S1)) else ((0 ≤ n ∧ n.toNatClampNeg < 512) ∧ (((mR S1 70 n.toNatClampNeg) = none → Q (.inr 4) (ma_bump S1)) ∧ (∀ c3, (mR S1 70 n.toNatClampNeg) = some c3 → ma_wp X (d - 1) (w - 21) 122 0 [(0, .inr (.inr (some 75))), (1, .inr (.inr (some c3)))] [] S1 (zi (fun v5 S4 => zT S4 ∧ (if v5 = 0 then (Q (.inr 4) (ma_bump S4)) else (Q (.inl (some (.inr (.inr (some c3))))) S4))) (fun x S9 => Q (.inr x) S9)))))))) (fun x S9 => Q (.inr x) S9))) : ma_wp X d w 149 0 [(0, .inr (.inr (some 64))), (1, .inl n)] [] S Q := by
  refine zw_push hm_149 dX11_needReached_0 (v := .inr (.inr (some 64))) rfl ?_
  refine zw_gf hm_149 dX11_needReached_1 (v := .inr (.inr (some 75))) (zT_is hS s_64) (zT_t hS s_64) rfl f_11_35_11 (zT_f hS r_64_9) ?_
  refine zw_cv hm_149 dX11_needReached_4 v_11_358_10 hm_116 [] [] rfl (zT_rt hS s_75 rfl) ⟨by omega, by omega⟩ rfl (zw_mono h (zv_go ?_ ?_))
  · intro S1 hv
    obtain ⟨hS1, h⟩ := hv
    refine zw_push hm_149 dX11_needReached_7 (v := .inr (.inr (some 64))) rfl ?_
    refine zw_gf hm_149 dX11_needReached_8 (v := .inr (.inr (some 69))) (zT_is hS1 s_64) (zT_t hS1 s_64) rfl f_11_26_11 (zT_f hS1 r_64_8) ?_
    refine zw_push hm_149 dX11_needReached_11 (v := .inl n) rfl ?_
    refine zw_cv hm_149 dX11_needReached_12 v_11_176_7 hm_81 [.inl n] [] rfl (zT_rt hS1 s_69 rfl) ⟨by omega, by omega⟩ rfl ?_
    show ma_wp X (d - 1) (w - 21) 81 0 [(0, .inr (.inr (some 69))), (1, .inl n)] [] S1 _
    refine zw_push hm_81 dX7_thingAt_0 (v := .inl n) rfl ?_
    refine zw_if0 hm_81 dX7_thingAt_1 (t := 20) rfl zc0_lt ?_ ?_
    · intro hc
      rw [if_pos hc] at h
      refine zw_push hm_81 dX7_thingAt_20 (v := .inr (.inr none)) rfl ?_
      refine zw_aret hm_81 dX7_thingAt_21 ?_
      show ma_wp X d w 149 15 [(0, .inr (.inr (some 64))), (1, .inl n)] [.inr (.inr none)] S1 _
      refine zw_sto hm_149 dX11_needReached_15 [(2, .inr (.inr none)), (0, .inr (.inr (some 64))), (1, .inl n)] rfl rfl rfl ?_
      refine zw_push hm_149 dX11_needReached_16 (v := .inr (.inr none)) rfl ?_
      refine zw_ifnull hm_149 dX11_needReached_17 (t := 31) rfl (fun _ => ?_) (fun _ z => by cases z)
      exact zw_thr hm_149 dX11_needReached_31 dX11_needReached_34 dX11_needReached_35 dX11_needReached_38 x_11_364_366 n_11_364 (by omega) (by show 0 + 81 ≤ w; omega) h
    · intro hc
      rw [if_neg hc] at h
      refine zw_push hm_81 dX7_thingAt_4 (v := .inl n) rfl ?_
      refine zw_push hm_81 dX7_thingAt_5 (v := .inl (512 : Int32)) rfl ?_
      refine zw_if2 hm_81 dX7_thingAt_8 (t := 20) rfl zc2_ge ?_ ?_
      · intro hc
        rw [if_pos hc] at h
        refine zw_push hm_81 dX7_thingAt_20 (v := .inr (.inr none)) rfl ?_
        refine zw_aret hm_81 dX7_thingAt_21 ?_
        show ma_wp X d w 149 15 [(0, .inr (.inr (some 64))), (1, .inl n)] [.inr (.inr none)] S1 _
        refine zw_sto hm_149 dX11_needReached_15 [(2, .inr (.inr none)), (0, .inr (.inr (some 64))), (1, .inl n)] rfl rfl rfl ?_
        refine zw_push hm_149 dX11_needReached_16 (v := .inr (.inr none)) rfl ?_
        refine zw_ifnull hm_149 dX11_needReached_17 (t := 31) rfl (fun _ => ?_) (fun _ z => by cases z)
        exact zw_thr hm_149 dX11_needReached_31 dX11_needReached_34 dX11_needReached_35 dX11_needReached_38 x_11_364_366 n_11_364 (by omega) (by show 0 + 81 ≤ w; omega) h
      · intro hc
        rw [if_neg hc] at h
        refine zw_push hm_81 dX7_thingAt_11 (v := .inr (.inr (some 69))) rfl ?_
        refine zw_gf hm_81 dX7_thingAt_12 (v := .inr (.inr (some 70))) (zT_is hS1 s_69) (zT_t hS1 s_69) rfl f_7_11_7 (zT_f hS1 r_69_0) ?_
        refine zw_push hm_81 dX7_thingAt_15 (v := .inl n) rfl ?_
        obtain ⟨hg, h⟩ := h
        refine zw_aa hm_81 dX7_thingAt_16 (zT_is hS1 s_70) (zT_h hS1 s_70) rfl rfl hg rfl ?_
        show ma_wp X (d - 1) (w - 21) 81 17 [(0, .inr (.inr (some 69))), (1, .inl n)] [.inr (.inr (mR S1 70 n.toNatClampNeg))] S1 _
        refine zw_goto hm_81 dX7_thingAt_17 (t := 21) rfl ?_
        refine zw_aret hm_81 dX7_thingAt_21 ?_
        show ma_wp X d w 149 15 [(0, .inr (.inr (some 64))), (1, .inl n)] [.inr (.inr (mR S1 70 n.toNatClampNeg))] S1 _
        refine zw_sto hm_149 dX11_needReached_15 [(2, .inr (.inr (mR S1 70 n.toNatClampNeg))), (0, .inr (.inr (some 64))), (1, .inl n)] rfl rfl rfl ?_
        refine zw_push hm_149 dX11_needReached_16 (v := .inr (.inr (mR S1 70 n.toNatClampNeg))) rfl ?_
        refine zw_ifnull hm_149 dX11_needReached_17 (t := 31) rfl ?_ ?_
        · intro hc
          have h := h.1 hc
          (try rw [hc])
          show ma_wp X d w 149 31 [(2, .inr (.inr none)), (0, .inr (.inr (some 64))), (1, .inl n)] [] S1 _
          exact zw_thr hm_149 dX11_needReached_31 dX11_needReached_34 dX11_needReached_35 dX11_needReached_38 x_11_364_366 n_11_364 (by omega) (by show 0 + 81 ≤ w; omega) h
        · intro c3 hc
          have h := h.2 c3 hc
          (try rw [hc])
          show ma_wp X d w 149 20 [(2, .inr (.inr (some c3))), (0, .inr (.inr (some 64))), (1, .inl n)] [] S1 _
          refine zw_push hm_149 dX11_needReached_20 (v := .inr (.inr (some 64))) rfl ?_
          refine zw_gf hm_149 dX11_needReached_21 (v := .inr (.inr (some 75))) (zT_is hS1 s_64) (zT_t hS1 s_64) rfl f_11_35_11 (zT_f hS1 r_64_9) ?_
          refine zw_push hm_149 dX11_needReached_24 (v := .inr (.inr (some c3))) rfl ?_
          refine zw_cv hm_149 dX11_needReached_25 v_11_361_10 hm_122 [.inr (.inr (some c3))] [] rfl (zT_rt hS1 s_75 rfl) ⟨by omega, by omega⟩ rfl (zw_mono h (zi_go ?_ ?_))
          · intro v5 S4 hv
            obtain ⟨hS4, h⟩ := hv
            refine zw_if0 hm_149 dX11_needReached_28 (t := 39) rfl zc0_ne ?_ ?_
            · intro hc
              rw [if_neg hc] at h
              refine zw_push hm_149 dX11_needReached_39 (v := .inr (.inr (some c3))) rfl ?_
              exact zw_aret hm_149 dX11_needReached_40 h
            · intro hc
              rw [if_pos (Classical.not_not.mp hc)] at h
              exact zw_thr hm_149 dX11_needReached_31 dX11_needReached_34 dX11_needReached_35 dX11_needReached_38 x_11_364_366 n_11_364 (by omega) (by show 0 + 81 ≤ w; omega) h
          · intro x S9 hx
            exact ⟨by decide, hx⟩
  · intro x S9 hx
    exact ⟨by decide, hx⟩
theorem sp_149_64 {X : Nat × (Nat → Int32)} {d w : Nat} {f : Nat → Nat → Int32} {r : Nat → Nat → Option Nat} {C Z N : Nat} {Q : Option ma_V ⊕ Nat → ma_S → Prop} {S : ma_S} (n : Int32) (hd : 6 ≤ d) (hw : 89 ≤ w) (hI : zI f r C Z N S)  (K : ∀ v S', zI f r C Z N S' → (∃ c, v = some c ∧ 126 ≤ c ∧ c < N) → Q (.inl (some (.inr (.inr v)))) S') (KX : ∀ x S', (x = 4) → zI f r C Z N S' → Q (.inr x) (ma_bump S')) : ma_wp X d w 149 0 [(0, .inr (.inr (some 64))), (1, .inl n)] [] S Q := by
  refine g_149_64_0 n (by omega) (by omega) (zG_T hI) ?_
  refine sp_116_75  (by omega) (by omega) hI  (fun S1 hI_S1 => zv_n ⟨zG_T hI_S1, ?_⟩)
  have b1 := i_bd n
  have li2 : (0 : Int32).toInt = 0 := rfl
  refine zd (fun h3 => ?_) (fun h3 => ?_)
  · skip
    have g4 := i_lt h3
    exact KX 4 _ (by decide) hI_S1
  · skip
    have g5 := i_nlt h3
    have li6 : (512 : Int32).toInt = 512 := rfl
    refine zd (fun h7 => ?_) (fun h7 => ?_)
    · skip
      have g8 := i_le h7
      exact KX 4 _ (by decide) hI_S1
    · skip
      have g9 := i_nle h7
      refine ⟨i_ix (by omega) (by omega), ?_⟩
      refine ⟨fun _ => ?_, fun c3 hc => ?_⟩
      · skip
        exact KX 4 _ (by decide) hI_S1
      · skip
        have th_c3 := (fun _ z => zG_70 hI_S1 (c := 70) (by decide) z) c3 hc
        refine sp_122_75 c3 (by omega) (by omega) hI_S1 th_c3 (fun v5 S4 hI_S4 hp_v5 => zi_n ⟨zG_T hI_S4, ?_⟩)
        have b10 := i_bd v5
        refine zd (fun h11 => ?_) (fun h11 => ?_)
        · skip
          have g12 := i_eq h11
          exact KX 4 _ (by decide) hI_S4
        · skip
          have g13 := i_ne h11
          exact K ((some c3)) _ hI_S4 ⟨c3, rfl, th_c3⟩
theorem g_151_64_0 {X : Nat × (Nat → Int32)} {d w : Nat} {S : ma_S} {Q : Option ma_V ⊕ Nat → ma_S → Prop} (n : Int32) (hd : 7 ≤ d) (hw : 111 ≤ w) (hS : zT S) (h : if n = (-1 : Int32) then (Q (.inl (some (.inr (.inr none)))) S) else (ma_wp X (d - 1) (w - 22) 149 0 [(0, .inr (.inr (some 64))), (1, .inl n)] [] S (zo (fun v2 S1 => zT S1 ∧ ((∃ c3, v2 = some c3 ∧ (Q (.inl (some (.inr (.inr (some c3))))) S1)))) (fun x S9 => Q (.inr x) S9)))) : ma_wp X d w 151 0 [(0, .inr (.inr (some 64))), (1, .inl n)] [] S Q := by
  refine zw_push hm_151 dX11_needReachedOrNothing_0 (v := .inl n) rfl ?_
  refine zw_push hm_151 dX11_needReachedOrNothing_1 (v := .inl (-1 : Int32)) rfl ?_
  refine zw_if2 hm_151 dX11_needReachedOrNothing_2 (t := 9) rfl zc2_ne ?_ ?_
  · intro hc
    rw [if_neg hc] at h
    refine zw_push hm_151 dX11_needReachedOrNothing_9 (v := .inr (.inr (some 64))) rfl ?_
    refine zw_push hm_151 dX11_needReachedOrNothing_10 (v := .inl n) rfl ?_
    refine zw_cv hm_151 dX11_needReachedOrNothing_11 v_11_123_11 hm_149 [.inl n] [] rfl (zT_rt hS s_64 rfl) ⟨by omega, by omega⟩ rfl (zw_mono h (zo_go ?_ ?_))
    · intro v2 S1 hv
      obtain ⟨hS1, h⟩ := hv
      obtain ⟨c3, hc, h⟩ := h
      subst hc
      show ma_wp X d w 151 14 [(0, .inr (.inr (some 64))), (1, .inl n)] [.inr (.inr (some c3))] S1 _
      exact zw_aret hm_151 dX11_needReachedOrNothing_14 h
    · intro x S9 hx
      exact ⟨by decide, hx⟩
  · intro hc
    rw [if_pos (Classical.not_not.mp hc)] at h
    refine zw_push hm_151 dX11_needReachedOrNothing_5 (v := .inr (.inr none)) rfl ?_
    refine zw_goto hm_151 dX11_needReachedOrNothing_6 (t := 14) rfl ?_
    exact zw_aret hm_151 dX11_needReachedOrNothing_14 h
theorem sp_151_64 {X : Nat × (Nat → Int32)} {d w : Nat} {f : Nat → Nat → Int32} {r : Nat → Nat → Option Nat} {C Z N : Nat} {Q : Option ma_V ⊕ Nat → ma_S → Prop} {S : ma_S} (n : Int32) (hd : 7 ≤ d) (hw : 111 ≤ w) (hI : zI f r C Z N S)  (K : ∀ v S', zI f r C Z N S' → (∀ c, v = some c → 126 ≤ c ∧ c < N) → Q (.inl (some (.inr (.inr v)))) S') (KX : ∀ x S', (x = 4) → zI f r C Z N S' → Q (.inr x) (ma_bump S')) : ma_wp X d w 151 0 [(0, .inr (.inr (some 64))), (1, .inl n)] [] S Q := by
  refine g_151_64_0 n (by omega) (by omega) (zG_T hI) ?_
  have b1 := i_bd n
  have li2 : (-1 : Int32).toInt = -1 := rfl
  refine zd (fun h3 => ?_) (fun h3 => ?_)
  · skip
    have g4 := i_eq h3
    exact K (none) _ hI (fun _ z => by cases z)
  · skip
    have g5 := i_ne h3
    refine sp_149_64 (n) (by omega) (by omega) hI  (fun v2 S1 hI_S1 hq_v2 => zo_n ⟨zG_T hI_S1, ?_⟩) (fun x S9 hx h9 => zo_x (KX x S9 (by omega) h9))
    obtain ⟨c3, hc, th_c3⟩ := hq_v2
    refine ⟨c3, hc, ?_⟩
    exact K ((some c3)) _ hI_S1 (fun _ z => by cases z; exact th_c3)
theorem g_145_64_79_0 {X : Nat × (Nat → Int32)} {d w : Nat} {S : ma_S} {Q : Option ma_V ⊕ Nat → ma_S → Prop} (i : Int32) (x : Option Nat) (hd : 5 ≤ d) (hw : 110 ≤ w) (hS : zT S) (h : ma_wp X (d - 1) (w - 23) 92 0 [(0, .inr (.inr (some 69))), (1, .inl i), (2, .inr (.inr x))] [] S (zo (fun v2 S1 => zT S1 ∧ (Q (.inl (some (.inr (.inr v2)))) S1)) (fun x S9 => Q (.inr x) S9))) : ma_wp X d w 145 0 [(0, .inr (.inr (some 64))), (1, .inr (.inr (some 79))), (2, .inl i), (3, .inr (.inr x))] [] S Q := by
  refine zw_push hm_145 dX11_changeRoot_0 (v := .inr (.inr (some 64))) rfl ?_
  refine zw_gf hm_145 dX11_changeRoot_1 (v := .inr (.inr (some 69))) (zT_is hS s_64) (zT_t hS s_64) rfl f_11_26_11 (zT_f hS r_64_8) ?_
  refine zw_push hm_145 dX11_changeRoot_4 (v := .inl i) rfl ?_
  refine zw_push hm_145 dX11_changeRoot_5 (v := .inr (.inr x)) rfl ?_
  refine zw_cv hm_145 dX11_changeRoot_6 v_11_379_7 hm_92 [.inr (.inr x), .inl i] [] rfl (zT_rt hS s_69 rfl) ⟨by omega, by omega⟩ rfl (zw_mono h (zo_go ?_ ?_))
  · intro v2 S1 hv
    obtain ⟨hS1, h⟩ := hv
    refine zw_sto hm_145 dX11_changeRoot_9 [(4, .inr (.inr v2)), (0, .inr (.inr (some 64))), (1, .inr (.inr (some 79))), (2, .inl i), (3, .inr (.inr x))] rfl rfl rfl ?_
    refine zw_push hm_145 dX11_changeRoot_11 (v := .inr (.inr (some 79))) rfl ?_
    refine zw_push hm_145 dX11_changeRoot_12 (v := .inr (.inr v2)) rfl ?_
    refine zw_push hm_145 dX11_changeRoot_14 (v := .inr (.inr x)) rfl ?_
    refine zw_cv hm_145 dX11_changeRoot_15 v_11_153_8 hm_265 [.inr (.inr x), .inr (.inr v2)] [] rfl (zT_rt hS1 s_79 rfl) ⟨by omega, by omega⟩ rfl ?_
    show ma_wp X (d - 1) (w - 22) 265 0 [(0, .inr (.inr (some 79))), (1, .inr (.inr v2)), (2, .inr (.inr x))] [] S1 _
    refine zw_vret hm_265 dX1_noteChange_0 ?_
    show ma_wp X d w 145 18 [(4, .inr (.inr v2)), (0, .inr (.inr (some 64))), (1, .inr (.inr (some 79))), (2, .inl i), (3, .inr (.inr x))] [] S1 _
    refine zw_push hm_145 dX11_changeRoot_18 (v := .inr (.inr (some 79))) rfl ?_
    refine zw_push hm_145 dX11_changeRoot_19 (v := .inr (.inr v2)) rfl ?_
    refine zw_cv hm_145 dX11_changeRoot_21 v_11_157_8 hm_266 [.inr (.inr v2)] [] rfl (zT_rt hS1 s_79 rfl) ⟨by omega, by omega⟩ rfl ?_
    show ma_wp X (d - 1) (w - 21) 266 0 [(0, .inr (.inr (some 79))), (1, .inr (.inr v2))] [] S1 _
    refine zw_vret hm_266 dX1_noteFewer_0 ?_
    show ma_wp X d w 145 24 [(4, .inr (.inr v2)), (0, .inr (.inr (some 64))), (1, .inr (.inr (some 79))), (2, .inl i), (3, .inr (.inr x))] [] S1 _
    refine zw_push hm_145 dX11_changeRoot_24 (v := .inr (.inr v2)) rfl ?_
    exact zw_aret hm_145 dX11_changeRoot_26 h
  · intro x S9 hx
    exact ⟨by decide, hx⟩
theorem sp_145_64_79 {X : Nat × (Nat → Int32)} {d w : Nat} {f : Nat → Nat → Int32} {r : Nat → Nat → Option Nat} {C Z N : Nat} {Q : Option ma_V ⊕ Nat → ma_S → Prop} {S : ma_S} (i : Int32) (x : Option Nat) (hd : 5 ≤ d) (hw : 110 ≤ w) (hI : zJ79 f r C Z N S) (hq_x : ∀ c, x = some c → 126 ≤ c ∧ c < N) (K : ∀ v S', zJ79 f r C Z N S' → (∀ c, v = some c → 126 ≤ c ∧ c < N) → Q (.inl (some (.inr (.inr v)))) S') : ma_wp X d w 145 0 [(0, .inr (.inr (some 64))), (1, .inr (.inr (some 79))), (2, .inl i), (3, .inr (.inr x))] [] S Q := by
  refine g_145_64_79_0 i x (by omega) (by omega) (zG_T hI) ?_
  have b1 := i_bd i
  refine sp_92_69 (i) (x) (by omega) (by omega) (zJ79_dn hI) hq_x (fun v2 S1 hL_S1 hq_v2 => zo_n ⟨zG_T hL_S1, ?_⟩)
  have hI_S1 := zJ79_up hI hL_S1
  exact K (v2) _ hI_S1 hq_v2
