/-! from 95.q18 -/
/-! the moving collectors, the class (written by wip/tools/gen15.py) -/
theorem g_90_69_s_0 {X : Nat × (Nat → Int32)} {d w : Nat} {S : ma_S} {Q : Option ma_V ⊕ Nat → ma_S → Prop} (t : Nat) (to : Int32) (hd : 1 ≤ d) (hw : 90 ≤ w) (hS : zT S) (h : (126 ≤ t ∧ t < mN S) ∧ (if to = (mI S t 4) then (Q (.inl none) S) else (if to < 0 then (Q (.inl none) S) else ((126 ≤ t ∧ t < mN S) ∧ (if ((if (mI S t 4) < to then to else (mI S t 4)) + (mI S t 2)) ≤ (4500 : Int32) then ((126 ≤ t ∧ t < mN S) ∧ ((0 ≤ (mI S t 4) ∧ 0 ≤ to ∧ 0 ≤ (mI S t 2) ∧ (mI S t 4).toNatClampNeg + (mI S t 2).toNatClampNeg ≤ 4500 ∧ to.toNatClampNeg + (mI S t 2).toNatClampNeg ≤ 4500) ∧ ((126 ≤ t ∧ t < mN (ma_cp S 71 (va_cpy (mI S 71) (mI S 71) (mI S t 4).toNatClampNeg to.toNatClampNeg (mI S t 2).toNatClampNeg))) ∧ (if (mI S t 4) ≤ to then (ma_wp X (d - 1) (w - 23) 88 0 [(0, .inr (.inr (some 69))), (1, .inl (mI S t 4)), (2, .inl ((mI S t 4) + (mI (ma_cp S 71 (va_cpy (mI S 71) (mI S 71) (mI S t 4).toNatClampNeg to.toNatClampNeg (mI S t 2).toNatClampNeg)) t 2)))] [] (ma_cp S 71 (va_cpy (mI S 71) (mI S 71) (mI S t 4).toNatClampNeg to.toNatClampNeg (mI S t 2).toNatClampNeg)) (zv (fun S1 => zT S1 ∧ ((126 ≤ t ∧ t < mN S1) ∧ ((126 ≤ t ∧ t < mN (ma_put S1 t 4 (.inl to))) ∧ (Q (.inl none) (ma_put (ma_put S1 t 4 (.inl to)) 69 10 (.inl ((mI (ma_put S1 t 4 (.inl to)) 69 10) + (mI (ma_put S1 t 4 (.inl to)) t 2)))))))) (fun x S9 => Q (.inr x) S9))) else ((126 ≤ t ∧ t < mN (ma_cp S 71 (va_cpy (mI S 71) (mI S 71) (mI S t 4).toNatClampNeg to.toNatClampNeg (mI S t 2).toNatClampNeg))) ∧ (ma_wp X (d - 1) (w - 23) 88 0 [(0, .inr (.inr (some 69))), (1, .inl (if (mI S t 4) < (to + (mI (ma_cp S 71 (va_cpy (mI S 71) (mI S 71) (mI S t 4).toNatClampNeg to.toNatClampNeg (mI S t 2).toNatClampNeg)) t 2)) then (to + (mI (ma_cp S 71 (va_cpy (mI S 71) (mI S 71) (mI S t 4).toNatClampNeg to.toNatClampNeg (mI S t 2).toNatClampNeg)) t 2)) else (mI S t 4))), (2, .inl ((mI S t 4) + (mI (ma_cp S 71 (va_cpy (mI S 71) (mI S 71) (mI S t 4).toNatClampNeg to.toNatClampNeg (mI S t 2).toNatClampNeg)) t 2)))] [] (ma_cp S 71 (va_cpy (mI S 71) (mI S 71) (mI S t 4).toNatClampNeg to.toNatClampNeg (mI S t 2).toNatClampNeg)) (zv (fun S3 => zT S3 ∧ ((126 ≤ t ∧ t < mN S3) ∧ ((126 ≤ t ∧ t < mN (ma_put S3 t 4 (.inl to))) ∧ (Q (.inl none) (ma_put (ma_put S3 t 4 (.inl to)) 69 10 (.inl ((mI (ma_put S3 t 4 (.inl to)) 69 10) + (mI (ma_put S3 t 4 (.inl to)) t 2)))))))) (fun x S9 => Q (.inr x) S9)))))))) else (Q (.inl none) S)))))) : ma_wp X d w 90 0 [(0, .inr (.inr (some 69))), (1, .inr (.inr (some t))), (2, .inl to)] [] S Q := by
  refine zw_push hm_90 dX7_move_0 (v := .inr (.inr (some t))) rfl ?_
  obtain ⟨hg, h⟩ := h
  refine zw_gf hm_90 dX7_move_1 (v := .inl (mI S t 4)) (zT_tis hS hg) (zT_tt hS hg) rfl f_7_61_9 rfl ?_
  refine zw_sto hm_90 dX7_move_4 [(3, .inl (mI S t 4)), (0, .inr (.inr (some 69))), (1, .inr (.inr (some t))), (2, .inl to)] rfl rfl rfl ?_
  refine zw_push hm_90 dX7_move_5 (v := .inl to) rfl ?_
  refine zw_push hm_90 dX7_move_6 (v := .inl (mI S t 4)) rfl ?_
  refine zw_if2 hm_90 dX7_move_7 (t := 30) rfl zc2_eq ?_ ?_
  · intro hc
    rw [if_pos hc] at h
    exact zw_vret hm_90 dX7_move_30 h
  · intro hc
    rw [if_neg hc] at h
    refine zw_push hm_90 dX7_move_10 (v := .inl to) rfl ?_
    refine zw_if0 hm_90 dX7_move_11 (t := 30) rfl zc0_lt ?_ ?_
    · intro hc
      rw [if_pos hc] at h
      exact zw_vret hm_90 dX7_move_30 h
    · intro hc
      rw [if_neg hc] at h
      refine zw_push hm_90 dX7_move_14 (v := .inl (mI S t 4)) rfl ?_
      refine zw_push hm_90 dX7_move_15 (v := .inl to) rfl ?_
      refine zw_max hm_90 dX7_move_16 pr_7_116 (by omega) (by show 0 + 13 ≤ w; omega) (fun _ _ _ _ z => by cases z) ?_
      refine zw_push hm_90 dX7_move_19 (v := .inr (.inr (some t))) rfl ?_
      obtain ⟨hg, h⟩ := h
      refine zw_gf hm_90 dX7_move_20 (v := .inl (mI S t 2)) (zT_tis hS hg) (zT_tt hS hg) rfl f_7_64_9 rfl ?_
      refine zw_stk hm_90 dX7_move_23 (st₉ := [.inl ((if (mI S t 4) < to then to else (mI S t 4)) + (mI S t 2))]) rfl rfl ?_
      refine zw_push hm_90 dX7_move_24 (v := .inl (4500 : Int32)) rfl ?_
      refine zw_if2 hm_90 dX7_move_27 (t := 31) rfl zc2_le ?_ ?_
      · intro hc
        rw [if_pos hc] at h
        refine zw_push hm_90 dX7_move_31 (v := .inr (.inr (some 69))) rfl ?_
        refine zw_gf hm_90 dX7_move_32 (v := .inr (.inr (some 71))) (zT_is hS s_69) (zT_t hS s_69) rfl f_7_17_7 (zT_f hS r_69_1) ?_
        refine zw_push hm_90 dX7_move_35 (v := .inl (mI S t 4)) rfl ?_
        refine zw_push hm_90 dX7_move_36 (v := .inr (.inr (some 69))) rfl ?_
        refine zw_gf hm_90 dX7_move_37 (v := .inr (.inr (some 71))) (zT_is hS s_69) (zT_t hS s_69) rfl f_7_17_7 (zT_f hS r_69_1) ?_
        refine zw_push hm_90 dX7_move_40 (v := .inl to) rfl ?_
        refine zw_push hm_90 dX7_move_41 (v := .inr (.inr (some t))) rfl ?_
        obtain ⟨hg, h⟩ := h
        refine zw_gf hm_90 dX7_move_42 (v := .inl (mI S t 2)) (zT_tis hS hg) (zT_tt hS hg) rfl f_7_64_9 rfl ?_
        obtain ⟨hg, h⟩ := h
        refine zw_acp hm_90 dX7_move_45 pr_7_122 (by omega) (by show 0 + _ ≤ w; exact Nat.le_trans (by decide : _ ≤ 90) (by omega)) (zT_is hS s_71) (zT_h hS s_71) hg.1 hg.2.1 hg.2.2.1 hg.2.2.2.1 hg.2.2.2.2 ?_
        refine zw_push hm_90 dX7_move_48 (v := .inl (mI S t 4)) rfl ?_
        refine zw_push hm_90 dX7_move_49 (v := .inr (.inr (some t))) rfl ?_
        obtain ⟨hg, h⟩ := h
        refine zw_gf hm_90 dX7_move_50 (v := .inl (mI (ma_cp S 71 (va_cpy (mI S 71) (mI S 71) (mI S t 4).toNatClampNeg to.toNatClampNeg (mI S t 2).toNatClampNeg)) t 2)) (zT_tis (zT_cp hS) hg) (zT_tt (zT_cp hS) hg) rfl f_7_64_9 rfl ?_
        refine zw_stk hm_90 dX7_move_53 (st₉ := [.inl ((mI S t 4) + (mI (ma_cp S 71 (va_cpy (mI S 71) (mI S 71) (mI S t 4).toNatClampNeg to.toNatClampNeg (mI S t 2).toNatClampNeg)) t 2))]) rfl rfl ?_
        refine zw_sto hm_90 dX7_move_54 [(4, .inl ((mI S t 4) + (mI (ma_cp S 71 (va_cpy (mI S 71) (mI S 71) (mI S t 4).toNatClampNeg to.toNatClampNeg (mI S t 2).toNatClampNeg)) t 2))), (3, .inl (mI S t 4)), (0, .inr (.inr (some 69))), (1, .inr (.inr (some t))), (2, .inl to)] rfl rfl rfl ?_
        refine zw_push hm_90 dX7_move_56 (v := .inr (.inr (some 69))) rfl ?_
        refine zw_push hm_90 dX7_move_57 (v := .inl to) rfl ?_
        refine zw_push hm_90 dX7_move_58 (v := .inl (mI S t 4)) rfl ?_
        refine zw_if2 hm_90 dX7_move_59 (t := 75) rfl zc2_ge ?_ ?_
        · intro hc
          rw [if_pos hc] at h
          refine zw_push hm_90 dX7_move_75 (v := .inl (mI S t 4)) rfl ?_
          refine zw_push hm_90 dX7_move_76 (v := .inl ((mI S t 4) + (mI (ma_cp S 71 (va_cpy (mI S 71) (mI S 71) (mI S t 4).toNatClampNeg to.toNatClampNeg (mI S t 2).toNatClampNeg)) t 2))) rfl ?_
          refine zw_cv hm_90 dX7_move_78 v_7_112_7 hm_88 [.inl ((mI S t 4) + (mI (ma_cp S 71 (va_cpy (mI S 71) (mI S 71) (mI S t 4).toNatClampNeg to.toNatClampNeg (mI S t 2).toNatClampNeg)) t 2)), .inl (mI S t 4)] [] rfl (zT_rt (zT_cp hS) s_69 rfl) ⟨by omega, by omega⟩ rfl (zw_mono h (zv_go ?_ ?_))
          · intro S1 hv
            obtain ⟨hS1, h⟩ := hv
            refine zw_push hm_90 dX7_move_81 (v := .inr (.inr (some t))) rfl ?_
            refine zw_push hm_90 dX7_move_82 (v := .inl to) rfl ?_
            obtain ⟨hg, h⟩ := h
            refine zw_pf hm_90 dX7_move_83 (zT_tis hS1 hg) (zT_tt hS1 hg) p_7_61_9 zk_int ?_
            refine zw_push hm_90 dX7_move_86 (v := .inr (.inr (some 69))) rfl ?_
            refine zw_stk hm_90 dX7_move_87 (st₉ := [.inr (.inr (some 69)), .inr (.inr (some 69))]) rfl rfl ?_
            refine zw_gf hm_90 dX7_move_88 (v := .inl (mI (ma_put S1 t 4 (.inl to)) 69 10)) (zT_is (zT_pi hS1) s_69) (zT_t (zT_pi hS1) s_69) rfl f_7_52_7 rfl ?_
            refine zw_push hm_90 dX7_move_91 (v := .inr (.inr (some t))) rfl ?_
            obtain ⟨hg, h⟩ := h
            refine zw_gf hm_90 dX7_move_92 (v := .inl (mI (ma_put S1 t 4 (.inl to)) t 2)) (zT_tis (zT_pi hS1) hg) (zT_tt (zT_pi hS1) hg) rfl f_7_64_9 rfl ?_
            refine zw_stk hm_90 dX7_move_95 (st₉ := [.inl ((mI (ma_put S1 t 4 (.inl to)) 69 10) + (mI (ma_put S1 t 4 (.inl to)) t 2)), .inr (.inr (some 69))]) rfl rfl ?_
            refine zw_pf hm_90 dX7_move_96 (zT_is (zT_pi hS1) s_69) (zT_t (zT_pi hS1) s_69) p_7_52_7 zk_int ?_
            exact zw_vret hm_90 dX7_move_99 h
          · intro x S9 hx
            exact ⟨by decide, hx⟩
        · intro hc
          rw [if_neg hc] at h
          refine zw_push hm_90 dX7_move_62 (v := .inl (mI S t 4)) rfl ?_
          refine zw_push hm_90 dX7_move_63 (v := .inl to) rfl ?_
          refine zw_push hm_90 dX7_move_64 (v := .inr (.inr (some t))) rfl ?_
          obtain ⟨hg, h⟩ := h
          refine zw_gf hm_90 dX7_move_65 (v := .inl (mI (ma_cp S 71 (va_cpy (mI S 71) (mI S 71) (mI S t 4).toNatClampNeg to.toNatClampNeg (mI S t 2).toNatClampNeg)) t 2)) (zT_tis (zT_cp hS) hg) (zT_tt (zT_cp hS) hg) rfl f_7_64_9 rfl ?_
          refine zw_stk hm_90 dX7_move_68 (st₉ := [.inl (to + (mI (ma_cp S 71 (va_cpy (mI S 71) (mI S 71) (mI S t 4).toNatClampNeg to.toNatClampNeg (mI S t 2).toNatClampNeg)) t 2)), .inl (mI S t 4), .inr (.inr (some 69))]) rfl rfl ?_
          refine zw_max hm_90 dX7_move_69 pr_7_116 (by omega) (by show 1 + 13 ≤ w; omega) (fun _ _ _ _ z => by cases z) ?_
          refine zw_goto hm_90 dX7_move_72 (t := 76) rfl ?_
          refine zw_push hm_90 dX7_move_76 (v := .inl ((mI S t 4) + (mI (ma_cp S 71 (va_cpy (mI S 71) (mI S 71) (mI S t 4).toNatClampNeg to.toNatClampNeg (mI S t 2).toNatClampNeg)) t 2))) rfl ?_
          refine zw_cv hm_90 dX7_move_78 v_7_112_7 hm_88 [.inl ((mI S t 4) + (mI (ma_cp S 71 (va_cpy (mI S 71) (mI S 71) (mI S t 4).toNatClampNeg to.toNatClampNeg (mI S t 2).toNatClampNeg)) t 2)), .inl (if (mI S t 4) < (to + (mI (ma_cp S 71 (va_cpy (mI S 71) (mI S 71) (mI S t 4).toNatClampNeg to.toNatClampNeg (mI S t 2).toNatClampNeg)) t 2)) then (to + (mI (ma_cp S 71 (va_cpy (mI S 71) (mI S 71) (mI S t 4).toNatClampNeg to.toNatClampNeg (mI S t 2).toNatClampNeg)) t 2)) else (mI S t 4))] [] rfl (zT_rt (zT_cp hS) s_69 rfl) ⟨by omega, by omega⟩ rfl (zw_mono h (zv_go ?_ ?_))
          · intro S3 hv
            obtain ⟨hS3, h⟩ := hv
            refine zw_push hm_90 dX7_move_81 (v := .inr (.inr (some t))) rfl ?_
            refine zw_push hm_90 dX7_move_82 (v := .inl to) rfl ?_
            obtain ⟨hg, h⟩ := h
            refine zw_pf hm_90 dX7_move_83 (zT_tis hS3 hg) (zT_tt hS3 hg) p_7_61_9 zk_int ?_
            refine zw_push hm_90 dX7_move_86 (v := .inr (.inr (some 69))) rfl ?_
            refine zw_stk hm_90 dX7_move_87 (st₉ := [.inr (.inr (some 69)), .inr (.inr (some 69))]) rfl rfl ?_
            refine zw_gf hm_90 dX7_move_88 (v := .inl (mI (ma_put S3 t 4 (.inl to)) 69 10)) (zT_is (zT_pi hS3) s_69) (zT_t (zT_pi hS3) s_69) rfl f_7_52_7 rfl ?_
            refine zw_push hm_90 dX7_move_91 (v := .inr (.inr (some t))) rfl ?_
            obtain ⟨hg, h⟩ := h
            refine zw_gf hm_90 dX7_move_92 (v := .inl (mI (ma_put S3 t 4 (.inl to)) t 2)) (zT_tis (zT_pi hS3) hg) (zT_tt (zT_pi hS3) hg) rfl f_7_64_9 rfl ?_
            refine zw_stk hm_90 dX7_move_95 (st₉ := [.inl ((mI (ma_put S3 t 4 (.inl to)) 69 10) + (mI (ma_put S3 t 4 (.inl to)) t 2)), .inr (.inr (some 69))]) rfl rfl ?_
            refine zw_pf hm_90 dX7_move_96 (zT_is (zT_pi hS3) s_69) (zT_t (zT_pi hS3) s_69) p_7_52_7 zk_int ?_
            exact zw_vret hm_90 dX7_move_99 h
          · intro x S9 hx
            exact ⟨by decide, hx⟩
      · intro hc
        rw [if_neg hc] at h
        exact zw_vret hm_90 dX7_move_30 h
theorem sp_90_69_s {X : Nat × (Nat → Int32)} {d w : Nat} {f : Nat → Nat → Int32} {r : Nat → Nat → Option Nat} {C Z N : Nat} {Q : Option ma_V ⊕ Nat → ma_S → Prop} {ab : Nat→Nat→Int32} {R : zRT} {y : Int32} {S : ma_S} (t : Nat) (to : Int32) (hd : 1 ≤ d) (hw : 90 ≤ w) (hI : zI f r C Z N S) (th_t : 126 ≤ t ∧ t < N) (hpre0 : xB S R) (hpre1 : aS 75 S = ab) (hpre2 : zTa R y = some t) (hpre3 : qMv ab y.toNatClampNeg to) (hpre4 : to.toInt ≤ 1000000) (K : ∀ S₉, zI f r C Z N S₉ → (xB S₉ R) → (aS 75 S₉ = aMo ab y.toNatClampNeg to) → Q (.inl none) S₉) : ma_wp X d w 90 0 [(0, .inr (.inr (some 69))), (1, .inr (.inr (some t))), (2, .inl to)] [] S Q := by
  refine g_90_69_s_0 t to (by omega) (by omega) (zG_T hI) ?_
  refine ⟨zG_n hI th_t, ?_⟩
  have b1 := i_bd to
  have f2 := zG_th hI th_t
  refine zd (fun h3 => ?_) (fun h3 => ?_)
  · skip
    have g4 := i_eq h3
    exact K _ hI (show xB S R from by first | (exact (xC_o (W := 75) hpre0).2)) (show aS 75 S = aMo ab y.toNatClampNeg to from by first | (have ty := xB_th (W := 75) hpre0 hpre2; have f2 : mI S t 2 = ab 128 y.toNatClampNeg := (by rw [← hpre1]; exact ty.2.2.2.2.1); have f4 : mI S t 4 = ab 130 y.toNatClampNeg := (by rw [← hpre1]; exact ty.2.2.2.2.2.1); have i2 := congrArg Int32.toInt f2; have i4 := congrArg Int32.toInt f4; have qm := hpre3; have qm1 := qm.1; have qm2 := qm.2.1; have qm3 := qm.2.2.1; have qm4 := qm.2.2.2.1; have qm5 := qm.2.2.2.2.1; have qm6 := qm.2.2.2.2.2; have te : to = ab 130 y.toNatClampNeg := Int32.toInt_inj.mp (by omega); rw [hpre1, te]; exact Mo_id.symm) | (have ty := xB_th (W := 75) hpre0 hpre2; have f2 : mI S t 2 = ab 128 y.toNatClampNeg := (by rw [← hpre1]; exact ty.2.2.2.2.1); have f4 : mI S t 4 = ab 130 y.toNatClampNeg := (by rw [← hpre1]; exact ty.2.2.2.2.2.1); have i2 := congrArg Int32.toInt f2; have i4 := congrArg Int32.toInt f4; have qm := hpre3; have qm1 := qm.1; have qm2 := qm.2.1; have qm3 := qm.2.2.1; have qm4 := qm.2.2.2.1; have qm5 := qm.2.2.2.2.1; have qm6 := qm.2.2.2.2.2; exfalso; omega))
  · skip
    have g5 := i_ne h3
    have li6 : (0 : Int32).toInt = 0 := rfl
    refine zd (fun h7 => ?_) (fun h7 => ?_)
    · skip
      have g8 := i_lt h7
      exact K _ hI (show xB S R from by first | (exact (xC_o (W := 75) hpre0).2)) (show aS 75 S = aMo ab y.toNatClampNeg to from by first | (have ty := xB_th (W := 75) hpre0 hpre2; have f2 : mI S t 2 = ab 128 y.toNatClampNeg := (by rw [← hpre1]; exact ty.2.2.2.2.1); have f4 : mI S t 4 = ab 130 y.toNatClampNeg := (by rw [← hpre1]; exact ty.2.2.2.2.2.1); have i2 := congrArg Int32.toInt f2; have i4 := congrArg Int32.toInt f4; have qm := hpre3; have qm1 := qm.1; have qm2 := qm.2.1; have qm3 := qm.2.2.1; have qm4 := qm.2.2.2.1; have qm5 := qm.2.2.2.2.1; have qm6 := qm.2.2.2.2.2; have te : to = ab 130 y.toNatClampNeg := Int32.toInt_inj.mp (by omega); rw [hpre1, te]; exact Mo_id.symm) | (have ty := xB_th (W := 75) hpre0 hpre2; have f2 : mI S t 2 = ab 128 y.toNatClampNeg := (by rw [← hpre1]; exact ty.2.2.2.2.1); have f4 : mI S t 4 = ab 130 y.toNatClampNeg := (by rw [← hpre1]; exact ty.2.2.2.2.2.1); have i2 := congrArg Int32.toInt f2; have i4 := congrArg Int32.toInt f4; have qm := hpre3; have qm1 := qm.1; have qm2 := qm.2.1; have qm3 := qm.2.2.1; have qm4 := qm.2.2.2.1; have qm5 := qm.2.2.2.2.1; have qm6 := qm.2.2.2.2.2; exfalso; omega))
    · skip
      have g9 := i_nlt h7
      refine ⟨zG_n hI th_t, ?_⟩
      have f10 := i_max (mI S t 4) to
      have f11 := zG_th hI th_t
      first | have e12 : ((if (mI S t 4) < to then to else (mI S t 4)) + (mI S t 2)).toInt = (if (mI S t 4) < to then to else (mI S t 4)).toInt + (mI S t 2).toInt := i_add (by omega) (by omega) | have b13 := i_bd ((if (mI S t 4) < to then to else (mI S t 4)) + (mI S t 2))
      have li14 : (4500 : Int32).toInt = 4500 := rfl
      refine zd (fun h15 => ?_) (fun h15 => ?_)
      · skip
        have g16 := i_le h15
        refine ⟨zG_n hI th_t, ?_⟩
        refine ⟨i_copy (by omega) (by omega) (by omega) (by omega) (by omega), ?_⟩
        have hI17 : zI f r C Z N (ma_cp S 71 (va_cpy (mI S 71) (mI S 71) (mI S t 4).toNatClampNeg to.toNatClampNeg (mI S t 2).toNatClampNeg)) := zG_cp hI (fun _ => rfl) (by decide) (by decide) (by decide) trivial
        refine ⟨zG_n hI17 th_t, ?_⟩
        refine zd (fun h18 => ?_) (fun h18 => ?_)
        · skip
          have g19 := i_le h18
          have q20 : (mI (ma_cp S 71 (va_cpy (mI S 71) (mI S 71) (mI S t 4).toNatClampNeg to.toNatClampNeg (mI S t 2).toNatClampNeg)) t 2).toInt = (mI S t 2).toInt := cp_fx th_t.1
          have f21 := zG_th hI17 th_t
          first | have e22 : ((mI S t 4) + (mI (ma_cp S 71 (va_cpy (mI S 71) (mI S 71) (mI S t 4).toNatClampNeg to.toNatClampNeg (mI S t 2).toNatClampNeg)) t 2)).toInt = (mI S t 4).toInt + (mI (ma_cp S 71 (va_cpy (mI S 71) (mI S 71) (mI S t 4).toNatClampNeg to.toNatClampNeg (mI S t 2).toNatClampNeg)) t 2).toInt := i_add (by omega) (by omega) | have b23 := i_bd ((mI S t 4) + (mI (ma_cp S 71 (va_cpy (mI S 71) (mI S 71) (mI S t 4).toNatClampNeg to.toNatClampNeg (mI S t 2).toNatClampNeg)) t 2))
          refine sp_88_69_s (ab := (aS 75 (ma_cp S 71 (va_cpy (mI S 71) (mI S 71) (mI S t 4).toNatClampNeg to.toNatClampNeg (mI S t 2).toNatClampNeg)))) (R := R) (W := 75) ((mI S t 4)) (((mI S t 4) + (mI (ma_cp S 71 (va_cpy (mI S 71) (mI S 71) (mI S t 4).toNatClampNeg to.toNatClampNeg (mI S t 2).toNatClampNeg)) t 2))) (by omega) (by omega) hI17 (show xB (ma_cp S 71 (va_cpy (mI S 71) (mI S 71) (mI S t 4).toNatClampNeg to.toNatClampNeg (mI S t 2).toNatClampNeg)) R from by first | (exact (xC_cp (f := (va_cpy (mI S 71) (mI S 71) (mI S t 4).toNatClampNeg to.toNatClampNeg (mI S t 2).toNatClampNeg)) (xC_o (W := 75) hpre0) xW75).2)) (show aS 75 (ma_cp S 71 (va_cpy (mI S 71) (mI S 71) (mI S t 4).toNatClampNeg to.toNatClampNeg (mI S t 2).toNatClampNeg)) = (aS 75 (ma_cp S 71 (va_cpy (mI S 71) (mI S 71) (mI S t 4).toNatClampNeg to.toNatClampNeg (mI S t 2).toNatClampNeg))) from by first | (exact rfl)) (show xW 75 from by first | (exact xW88) | (exact xW75)) (by omega) (fun S1 hI_S1 rp0_S1 rp1_S1 => zv_n ⟨zG_T hI_S1, ?_⟩)
          have rp0_S1 : xB S1 R := rp0_S1
          have rp1_S1 : aS 75 S1 = zFr (aS 75 (ma_cp S 71 (va_cpy (mI S 71) (mI S 71) (mI S t 4).toNatClampNeg to.toNatClampNeg (mI S t 2).toNatClampNeg))) (mI S t 4).toInt (zMin ((mI S t 4) + (mI (ma_cp S 71 (va_cpy (mI S 71) (mI S 71) (mI S t 4).toNatClampNeg to.toNatClampNeg (mI S t 2).toNatClampNeg)) t 2)).toInt) := rp1_S1
          refine ⟨zG_n hI_S1 th_t, ?_⟩
          have hI24 : zI f r C Z N (ma_put S1 t 4 (.inl to)) := zG_t4 hI_S1 th_t.1 zI_t (by decide) (by decide) trivial (by omega) (by omega)
          refine ⟨zG_n hI24 th_t, ?_⟩
          have hI25 : zI f r C Z N (ma_put (ma_put S1 t 4 (.inl to)) 69 10 (.inl ((mI (ma_put S1 t 4 (.inl to)) 69 10) + (mI (ma_put S1 t 4 (.inl to)) t 2)))) := zG_fr hI24 rfl (by decide) (by decide) (by decide) trivial
          exact K _ hI25 (show xB (ma_put (ma_put S1 t 4 (.inl to)) 69 10 (.inl ((mI (ma_put S1 t 4 (.inl to)) 69 10) + (mI (ma_put S1 t 4 (.inl to)) t 2)))) R from by first | (exact (xC_n (c := 69) (k := 10) (x := ((mI (ma_put S1 t 4 (.inl to)) 69 10) + (mI (ma_put S1 t 4 (.inl to)) t 2))) (xC_t (k := 4) (x := to) (xC_o (W := 75) rp0_S1) xW75 hpre2 rfl) ⟨by decide, Or.inl ⟨rfl, rfl⟩⟩).2)) (show aS 75 (ma_put (ma_put S1 t 4 (.inl to)) 69 10 (.inl ((mI (ma_put S1 t 4 (.inl to)) 69 10) + (mI (ma_put S1 t 4 (.inl to)) t 2)))) = aMo ab y.toNatClampNeg to from by first | (have ty := xB_th (W := 75) hpre0 hpre2; have f2 : mI S t 2 = ab 128 y.toNatClampNeg := (by rw [← hpre1]; exact ty.2.2.2.2.1); have f4 : mI S t 4 = ab 130 y.toNatClampNeg := (by rw [← hpre1]; exact ty.2.2.2.2.2.1); have i2 := congrArg Int32.toInt f2; have i4 := congrArg Int32.toInt f4; have qm := hpre3; have qm1 := qm.1; have qm2 := qm.2.1; have qm3 := qm.2.2.1; have qm4 := qm.2.2.2.1; have qm5 := qm.2.2.2.2.1; have qm6 := qm.2.2.2.2.2; refine (xC_n (c := 69) (k := 10) (x := ((mI (ma_put S1 t 4 (.inl to)) 69 10) + (mI (ma_put S1 t 4 (.inl to)) t 2))) (xC_t (k := 4) (x := to) (xC_o (W := 75) rp0_S1) xW75 hpre2 rfl) ⟨by decide, Or.inl ⟨rfl, rfl⟩⟩).1.trans ?_; (try simp only [zp_e (c₉ := 69) th_t.1 (by decide), zp_i (c := 69) (c₉ := t) (k₉ := 4) th_t.1 (by decide), zp_i (c := 71) (c₉ := t) (k₉ := 4) th_t.1 (by decide), zp_i (c := 72) (c₉ := t) (k₉ := 4) th_t.1 (by decide), zp_i (c := 73) (c₉ := t) (k₉ := 4) th_t.1 (by decide), zp_i (c := 74) (c₉ := t) (k₉ := 4) th_t.1 (by decide), zp_i (c := 75) (c₉ := t) (k₉ := 4) th_t.1 (by decide), zp_i (c := 76) (c₉ := t) (k₉ := 4) th_t.1 (by decide), zp_i (c := 77) (c₉ := t) (k₉ := 4) th_t.1 (by decide), zp_i (c := 87) (c₉ := t) (k₉ := 4) th_t.1 (by decide), zp_i (c := 88) (c₉ := t) (k₉ := 4) th_t.1 (by decide), zp_i (c := 89) (c₉ := t) (k₉ := 4) th_t.1 (by decide), zp_i (c := 90) (c₉ := t) (k₉ := 4) th_t.1 (by decide), zp_f (k := 0) (c₉ := t) (k₉ := 4) (by decide), zp_f (k := 1) (c₉ := t) (k₉ := 4) (by decide), zp_f (k := 2) (c₉ := t) (k₉ := 4) (by decide), zp_f (k := 7) (c₉ := t) (k₉ := 4) (by decide), zp_f (k := 8) (c₉ := t) (k₉ := 4) (by decide)]); rw [rp1_S1, (xC_cp (f := (va_cpy (mI S 71) (mI S 71) (mI S t 4).toNatClampNeg to.toNatClampNeg (mI S t 2).toNatClampNeg)) (xC_o (W := 75) hpre0) xW75).1, hpre1, cp_th th_t.1, f2, f4, show mI S 71 = ab 71 from (by rw [← hpre1]; exact funext (fun k => (aS_I (W := 75) (S := S) (c := 71) (c₉ := 71) (k := k) rfl rfl).symm))]; exact Mo_e1 hpre3 (by omega) (by omega)))
        · skip
          have g26 := i_nle h18
          refine ⟨zG_n hI17 th_t, ?_⟩
          have q27 : (mI (ma_cp S 71 (va_cpy (mI S 71) (mI S 71) (mI S t 4).toNatClampNeg to.toNatClampNeg (mI S t 2).toNatClampNeg)) t 2).toInt = (mI S t 2).toInt := cp_fx th_t.1
          have f28 := zG_th hI17 th_t
          first | have e29 : (to + (mI (ma_cp S 71 (va_cpy (mI S 71) (mI S 71) (mI S t 4).toNatClampNeg to.toNatClampNeg (mI S t 2).toNatClampNeg)) t 2)).toInt = to.toInt + (mI (ma_cp S 71 (va_cpy (mI S 71) (mI S 71) (mI S t 4).toNatClampNeg to.toNatClampNeg (mI S t 2).toNatClampNeg)) t 2).toInt := i_add (by omega) (by omega) | have b30 := i_bd (to + (mI (ma_cp S 71 (va_cpy (mI S 71) (mI S 71) (mI S t 4).toNatClampNeg to.toNatClampNeg (mI S t 2).toNatClampNeg)) t 2))
          have f31 := i_max (mI S t 4) (to + (mI (ma_cp S 71 (va_cpy (mI S 71) (mI S 71) (mI S t 4).toNatClampNeg to.toNatClampNeg (mI S t 2).toNatClampNeg)) t 2))
          first | have e32 : ((mI S t 4) + (mI (ma_cp S 71 (va_cpy (mI S 71) (mI S 71) (mI S t 4).toNatClampNeg to.toNatClampNeg (mI S t 2).toNatClampNeg)) t 2)).toInt = (mI S t 4).toInt + (mI (ma_cp S 71 (va_cpy (mI S 71) (mI S 71) (mI S t 4).toNatClampNeg to.toNatClampNeg (mI S t 2).toNatClampNeg)) t 2).toInt := i_add (by omega) (by omega) | have b33 := i_bd ((mI S t 4) + (mI (ma_cp S 71 (va_cpy (mI S 71) (mI S 71) (mI S t 4).toNatClampNeg to.toNatClampNeg (mI S t 2).toNatClampNeg)) t 2))
          refine sp_88_69_s (ab := (aS 75 (ma_cp S 71 (va_cpy (mI S 71) (mI S 71) (mI S t 4).toNatClampNeg to.toNatClampNeg (mI S t 2).toNatClampNeg)))) (R := R) (W := 75) ((if (mI S t 4) < (to + (mI (ma_cp S 71 (va_cpy (mI S 71) (mI S 71) (mI S t 4).toNatClampNeg to.toNatClampNeg (mI S t 2).toNatClampNeg)) t 2)) then (to + (mI (ma_cp S 71 (va_cpy (mI S 71) (mI S 71) (mI S t 4).toNatClampNeg to.toNatClampNeg (mI S t 2).toNatClampNeg)) t 2)) else (mI S t 4))) (((mI S t 4) + (mI (ma_cp S 71 (va_cpy (mI S 71) (mI S 71) (mI S t 4).toNatClampNeg to.toNatClampNeg (mI S t 2).toNatClampNeg)) t 2))) (by omega) (by omega) hI17 (show xB (ma_cp S 71 (va_cpy (mI S 71) (mI S 71) (mI S t 4).toNatClampNeg to.toNatClampNeg (mI S t 2).toNatClampNeg)) R from by first | (exact (xC_cp (f := (va_cpy (mI S 71) (mI S 71) (mI S t 4).toNatClampNeg to.toNatClampNeg (mI S t 2).toNatClampNeg)) (xC_o (W := 75) hpre0) xW75).2)) (show aS 75 (ma_cp S 71 (va_cpy (mI S 71) (mI S 71) (mI S t 4).toNatClampNeg to.toNatClampNeg (mI S t 2).toNatClampNeg)) = (aS 75 (ma_cp S 71 (va_cpy (mI S 71) (mI S 71) (mI S t 4).toNatClampNeg to.toNatClampNeg (mI S t 2).toNatClampNeg))) from by first | (exact rfl)) (show xW 75 from by first | (exact xW88) | (exact xW75)) (by omega) (fun S3 hI_S3 rp0_S3 rp1_S3 => zv_n ⟨zG_T hI_S3, ?_⟩)
          have rp0_S3 : xB S3 R := rp0_S3
          have rp1_S3 : aS 75 S3 = zFr (aS 75 (ma_cp S 71 (va_cpy (mI S 71) (mI S 71) (mI S t 4).toNatClampNeg to.toNatClampNeg (mI S t 2).toNatClampNeg))) (if (mI S t 4) < (to + (mI (ma_cp S 71 (va_cpy (mI S 71) (mI S 71) (mI S t 4).toNatClampNeg to.toNatClampNeg (mI S t 2).toNatClampNeg)) t 2)) then (to + (mI (ma_cp S 71 (va_cpy (mI S 71) (mI S 71) (mI S t 4).toNatClampNeg to.toNatClampNeg (mI S t 2).toNatClampNeg)) t 2)) else (mI S t 4)).toInt (zMin ((mI S t 4) + (mI (ma_cp S 71 (va_cpy (mI S 71) (mI S 71) (mI S t 4).toNatClampNeg to.toNatClampNeg (mI S t 2).toNatClampNeg)) t 2)).toInt) := rp1_S3
          refine ⟨zG_n hI_S3 th_t, ?_⟩
          have hI34 : zI f r C Z N (ma_put S3 t 4 (.inl to)) := zG_t4 hI_S3 th_t.1 zI_t (by decide) (by decide) trivial (by omega) (by omega)
          refine ⟨zG_n hI34 th_t, ?_⟩
          have hI35 : zI f r C Z N (ma_put (ma_put S3 t 4 (.inl to)) 69 10 (.inl ((mI (ma_put S3 t 4 (.inl to)) 69 10) + (mI (ma_put S3 t 4 (.inl to)) t 2)))) := zG_fr hI34 rfl (by decide) (by decide) (by decide) trivial
          exact K _ hI35 (show xB (ma_put (ma_put S3 t 4 (.inl to)) 69 10 (.inl ((mI (ma_put S3 t 4 (.inl to)) 69 10) + (mI (ma_put S3 t 4 (.inl to)) t 2)))) R from by first | (exact (xC_n (c := 69) (k := 10) (x := ((mI (ma_put S3 t 4 (.inl to)) 69 10) + (mI (ma_put S3 t 4 (.inl to)) t 2))) (xC_t (k := 4) (x := to) (xC_o (W := 75) rp0_S3) xW75 hpre2 rfl) ⟨by decide, Or.inl ⟨rfl, rfl⟩⟩).2)) (show aS 75 (ma_put (ma_put S3 t 4 (.inl to)) 69 10 (.inl ((mI (ma_put S3 t 4 (.inl to)) 69 10) + (mI (ma_put S3 t 4 (.inl to)) t 2)))) = aMo ab y.toNatClampNeg to from by first | (have ty := xB_th (W := 75) hpre0 hpre2; have f2 : mI S t 2 = ab 128 y.toNatClampNeg := (by rw [← hpre1]; exact ty.2.2.2.2.1); have f4 : mI S t 4 = ab 130 y.toNatClampNeg := (by rw [← hpre1]; exact ty.2.2.2.2.2.1); have i2 := congrArg Int32.toInt f2; have i4 := congrArg Int32.toInt f4; have qm := hpre3; have qm1 := qm.1; have qm2 := qm.2.1; have qm3 := qm.2.2.1; have qm4 := qm.2.2.2.1; have qm5 := qm.2.2.2.2.1; have qm6 := qm.2.2.2.2.2; refine (xC_n (c := 69) (k := 10) (x := ((mI (ma_put S3 t 4 (.inl to)) 69 10) + (mI (ma_put S3 t 4 (.inl to)) t 2))) (xC_t (k := 4) (x := to) (xC_o (W := 75) rp0_S3) xW75 hpre2 rfl) ⟨by decide, Or.inl ⟨rfl, rfl⟩⟩).1.trans ?_; (try simp only [zp_e (c₉ := 69) th_t.1 (by decide), zp_i (c := 69) (c₉ := t) (k₉ := 4) th_t.1 (by decide), zp_i (c := 71) (c₉ := t) (k₉ := 4) th_t.1 (by decide), zp_i (c := 72) (c₉ := t) (k₉ := 4) th_t.1 (by decide), zp_i (c := 73) (c₉ := t) (k₉ := 4) th_t.1 (by decide), zp_i (c := 74) (c₉ := t) (k₉ := 4) th_t.1 (by decide), zp_i (c := 75) (c₉ := t) (k₉ := 4) th_t.1 (by decide), zp_i (c := 76) (c₉ := t) (k₉ := 4) th_t.1 (by decide), zp_i (c := 77) (c₉ := t) (k₉ := 4) th_t.1 (by decide), zp_i (c := 87) (c₉ := t) (k₉ := 4) th_t.1 (by decide), zp_i (c := 88) (c₉ := t) (k₉ := 4) th_t.1 (by decide), zp_i (c := 89) (c₉ := t) (k₉ := 4) th_t.1 (by decide), zp_i (c := 90) (c₉ := t) (k₉ := 4) th_t.1 (by decide), zp_f (k := 0) (c₉ := t) (k₉ := 4) (by decide), zp_f (k := 1) (c₉ := t) (k₉ := 4) (by decide), zp_f (k := 2) (c₉ := t) (k₉ := 4) (by decide), zp_f (k := 7) (c₉ := t) (k₉ := 4) (by decide), zp_f (k := 8) (c₉ := t) (k₉ := 4) (by decide)]); rw [rp1_S3, (xC_cp (f := (va_cpy (mI S 71) (mI S 71) (mI S t 4).toNatClampNeg to.toNatClampNeg (mI S t 2).toNatClampNeg)) (xC_o (W := 75) hpre0) xW75).1, hpre1, cp_th th_t.1, f2, f4, show mI S 71 = ab 71 from (by rw [← hpre1]; exact funext (fun k => (aS_I (W := 75) (S := S) (c := 71) (c₉ := 71) (k := k) rfl rfl).symm))]; exact Mo_e2 hpre3 (by omega)))
      · skip
        have g36 := i_nle h15
        exact K _ hI (show xB S R from by first | (exact (xC_o (W := 75) hpre0).2)) (show aS 75 S = aMo ab y.toNatClampNeg to from by first | (have ty := xB_th (W := 75) hpre0 hpre2; have f2 : mI S t 2 = ab 128 y.toNatClampNeg := (by rw [← hpre1]; exact ty.2.2.2.2.1); have f4 : mI S t 4 = ab 130 y.toNatClampNeg := (by rw [← hpre1]; exact ty.2.2.2.2.2.1); have i2 := congrArg Int32.toInt f2; have i4 := congrArg Int32.toInt f4; have qm := hpre3; have qm1 := qm.1; have qm2 := qm.2.1; have qm3 := qm.2.2.1; have qm4 := qm.2.2.2.1; have qm5 := qm.2.2.2.2.1; have qm6 := qm.2.2.2.2.2; have te : to = ab 130 y.toNatClampNeg := Int32.toInt_inj.mp (by omega); rw [hpre1, te]; exact Mo_id.symm) | (have ty := xB_th (W := 75) hpre0 hpre2; have f2 : mI S t 2 = ab 128 y.toNatClampNeg := (by rw [← hpre1]; exact ty.2.2.2.2.1); have f4 : mI S t 4 = ab 130 y.toNatClampNeg := (by rw [← hpre1]; exact ty.2.2.2.2.2.1); have i2 := congrArg Int32.toInt f2; have i4 := congrArg Int32.toInt f4; have qm := hpre3; have qm1 := qm.1; have qm2 := qm.2.1; have qm3 := qm.2.2.1; have qm4 := qm.2.2.2.1; have qm5 := qm.2.2.2.2.1; have qm6 := qm.2.2.2.2.2; exfalso; omega))

/-! from 95.q19 -/
/-! the moving collectors, the class (written by wip/tools/gen15.py) -/
theorem g_263_80_s_0 {X : Nat × (Nat → Int32)} {d w : Nat} {S : ma_S} {Q : Option ma_V ⊕ Nat → ma_S → Prop} (lm : Int32) (hd : 2 ≤ d) (hw : 92 ≤ w) (hS : zT S) (h : ma_wp X d w 263 4 [(0, .inr (.inr (some 80))), (1, .inl lm), (2, .inl (0 : Int32)), (3, .inl (0 : Int32))] [] S Q) : ma_wp X d w 263 0 [(0, .inr (.inr (some 80))), (1, .inl lm)] [] S Q := by
  refine zw_push hm_263 dX1_slideDown_0 (v := .inl (0 : Int32)) rfl ?_
  refine zw_sto hm_263 dX1_slideDown_1 [(2, .inl (0 : Int32)), (0, .inr (.inr (some 80))), (1, .inl lm)] rfl rfl rfl ?_
  refine zw_push hm_263 dX1_slideDown_2 (v := .inl (0 : Int32)) rfl ?_
  refine zw_sto hm_263 dX1_slideDown_3 [(3, .inl (0 : Int32)), (2, .inl (0 : Int32)), (0, .inr (.inr (some 80))), (1, .inl lm)] rfl rfl rfl ?_
  exact zw_sub (ma_nd_of (ks := [0, 1, 2, 3]) rfl (by decide)) (ma_nd_of (ks := [3, 2, 0, 1]) rfl (by decide)) (ma_le_cons rfl (ma_le_cons rfl (ma_le_cons rfl (ma_le_cons rfl (ma_le_nil _))))) h
theorem g_263_80_s_4 {X : Nat × (Nat → Int32)} {d w : Nat} {S : ma_S} {Q : Option ma_V ⊕ Nat → ma_S → Prop} (l1 : Int32) (l2 : Int32) (l3 : Int32) (hd : 2 ≤ d) (hw : 114 ≤ w) (hS : zT S) (h : if l1 ≤ l3 then (Q (.inl (some (.inl l2))) S) else (if l3 < 0 then (ma_wp X d w 263 4 [(0, .inr (.inr (some 80))), (1, .inl l1), (2, .inl l2), (3, .inl (l3 + (1 : Int32)))] [] S Q) else (if (4500 : Int32) ≤ l3 then (ma_wp X d w 263 4 [(0, .inr (.inr (some 80))), (1, .inl l1), (2, .inl l2), (3, .inl (l3 + (1 : Int32)))] [] S Q) else ((0 ≤ l3 ∧ l3.toNatClampNeg < 4500) ∧ (if (mI S 71 l3.toNatClampNeg) < 0 then (ma_wp X d w 263 4 [(0, .inr (.inr (some 80))), (1, .inl l1), (2, .inl l2), (3, .inl (l3 + (1 : Int32)))] [] S Q) else (if (512 : Int32) ≤ (mI S 71 l3.toNatClampNeg) then (ma_wp X d w 263 4 [(0, .inr (.inr (some 80))), (1, .inl l1), (2, .inl l2), (3, .inl (l3 + (1 : Int32)))] [] S Q) else ((0 ≤ (mI S 71 l3.toNatClampNeg) ∧ (mI S 71 l3.toNatClampNeg).toNatClampNeg < 512) ∧ (((mR S 70 (mI S 71 l3.toNatClampNeg).toNatClampNeg) = none → ma_wp X d w 263 4 [(0, .inr (.inr (some 80))), (1, .inl l1), (2, .inl l2), (3, .inl (l3 + (1 : Int32)))] [] S Q) ∧ (∀ c1, (mR S 70 (mI S 71 l3.toNatClampNeg).toNatClampNeg) = some c1 → (126 ≤ c1 ∧ c1 < mN S) ∧ ((126 ≤ c1 ∧ c1 < mN S) ∧ (if (mI S c1 7) = 0 then (ma_wp X (d - 1) (w - 24) 90 0 [(0, .inr (.inr (some 69))), (1, .inr (.inr (some c1))), (2, .inl l2)] [] S (zv (fun S2 => zT S2 ∧ ((126 ≤ c1 ∧ c1 < mN S2) ∧ ((126 ≤ c1 ∧ c1 < mN S2) ∧ (ma_wp X d w 263 4 [(0, .inr (.inr (some 80))), (1, .inl l1), (2, .inl ((mI S2 c1 4) + (mI S2 c1 2))), (3, .inl (l3 + (mI S c1 2)))] [] S2 Q)))) (fun x S9 => Q (.inr x) S9))) else ((126 ≤ c1 ∧ c1 < mN S) ∧ ((126 ≤ c1 ∧ c1 < mN S) ∧ (ma_wp X d w 263 4 [(0, .inr (.inr (some 80))), (1, .inl l1), (2, .inl ((mI S c1 4) + (mI S c1 2))), (3, .inl (l3 + (mI S c1 2)))] [] S Q)))))))))))))) : ma_wp X d w 263 4 [(0, .inr (.inr (some 80))), (1, .inl l1), (2, .inl l2), (3, .inl l3)] [] S Q := by
  refine zw_push hm_263 dX1_slideDown_4 (v := .inl l3) rfl ?_
  refine zw_push hm_263 dX1_slideDown_5 (v := .inl l1) rfl ?_
  refine zw_if2 hm_263 dX1_slideDown_6 (t := 71) rfl zc2_ge ?_ ?_
  · intro hc
    rw [if_pos hc] at h
    refine zw_push hm_263 dX1_slideDown_71 (v := .inl l2) rfl ?_
    exact zw_iret hm_263 dX1_slideDown_72 h
  · intro hc
    rw [if_neg hc] at h
    refine zw_push hm_263 dX1_slideDown_9 (v := .inr (.inr (some 80))) rfl ?_
    refine zw_gf hm_263 dX1_slideDown_10 (v := .inr (.inr (some 69))) (zT_is hS s_80) (zT_t hS s_80) rfl f_13_9_5 (zT_f hS r_80_0) ?_
    refine zw_push hm_263 dX1_slideDown_13 (v := .inl l3) rfl ?_
    refine zw_cv hm_263 dX1_slideDown_14 v_13_34_7 hm_89 [.inl l3] [] rfl (zT_rt hS s_69 rfl) ⟨by omega, by omega⟩ rfl ?_
    show ma_wp X (d - 1) (w - 22) 89 0 [(0, .inr (.inr (some 69))), (1, .inl l3)] [] S _
    refine zw_push hm_89 dX7_thingFrom_0 (v := .inl l3) rfl ?_
    refine zw_if0 hm_89 dX7_thingFrom_1 (t := 20) rfl zc0_lt ?_ ?_
    · intro hc
      rw [if_pos hc] at h
      refine zw_push hm_89 dX7_thingFrom_20 (v := .inl (-1 : Int32)) rfl ?_
      refine zw_sto hm_89 dX7_thingFrom_21 [(2, .inl (-1 : Int32)), (0, .inr (.inr (some 69))), (1, .inl l3)] rfl rfl rfl ?_
      refine zw_push hm_89 dX7_thingFrom_22 (v := .inl (-1 : Int32)) rfl ?_
      refine zw_if0 hm_89 dX7_thingFrom_23 (t := 42) rfl zc0_lt (fun _ => ?_) (fun hc => absurd (by decide) hc)
      refine zw_push hm_89 dX7_thingFrom_42 (v := .inr (.inr none)) rfl ?_
      refine zw_aret hm_89 dX7_thingFrom_43 ?_
      show ma_wp X d w 263 17 [(0, .inr (.inr (some 80))), (1, .inl l1), (2, .inl l2), (3, .inl l3)] [.inr (.inr none)] S _
      refine zw_sto hm_263 dX1_slideDown_17 [(4, .inr (.inr none)), (0, .inr (.inr (some 80))), (1, .inl l1), (2, .inl l2), (3, .inl l3)] rfl rfl rfl ?_
      refine zw_push hm_263 dX1_slideDown_19 (v := .inr (.inr none)) rfl ?_
      refine zw_ifnonnull hm_263 dX1_slideDown_21 (t := 30) rfl (fun _ => ?_) (fun _ z => by cases z)
      refine zw_sto hm_263 dX1_slideDown_24 [(3, .inl (l3 + (1 : Int32))), (4, .inr (.inr none)), (0, .inr (.inr (some 80))), (1, .inl l1), (2, .inl l2)] rfl rfl rfl ?_
      refine zw_goto hm_263 dX1_slideDown_27 (t := 68) rfl ?_
      refine zw_goto hm_263 dX1_slideDown_68 (t := 4) rfl ?_
      exact zw_sub (ma_nd_of (ks := [0, 1, 2, 3]) rfl (by decide)) (ma_nd_of (ks := [3, 4, 0, 1, 2]) rfl (by decide)) (ma_le_cons rfl (ma_le_cons rfl (ma_le_cons rfl (ma_le_cons rfl (ma_le_nil _))))) h
    · intro hc
      rw [if_neg hc] at h
      refine zw_push hm_89 dX7_thingFrom_4 (v := .inl l3) rfl ?_
      refine zw_push hm_89 dX7_thingFrom_5 (v := .inl (4500 : Int32)) rfl ?_
      refine zw_if2 hm_89 dX7_thingFrom_8 (t := 20) rfl zc2_ge ?_ ?_
      · intro hc
        rw [if_pos hc] at h
        refine zw_push hm_89 dX7_thingFrom_20 (v := .inl (-1 : Int32)) rfl ?_
        refine zw_sto hm_89 dX7_thingFrom_21 [(2, .inl (-1 : Int32)), (0, .inr (.inr (some 69))), (1, .inl l3)] rfl rfl rfl ?_
        refine zw_push hm_89 dX7_thingFrom_22 (v := .inl (-1 : Int32)) rfl ?_
        refine zw_if0 hm_89 dX7_thingFrom_23 (t := 42) rfl zc0_lt (fun _ => ?_) (fun hc => absurd (by decide) hc)
        refine zw_push hm_89 dX7_thingFrom_42 (v := .inr (.inr none)) rfl ?_
        refine zw_aret hm_89 dX7_thingFrom_43 ?_
        show ma_wp X d w 263 17 [(0, .inr (.inr (some 80))), (1, .inl l1), (2, .inl l2), (3, .inl l3)] [.inr (.inr none)] S _
        refine zw_sto hm_263 dX1_slideDown_17 [(4, .inr (.inr none)), (0, .inr (.inr (some 80))), (1, .inl l1), (2, .inl l2), (3, .inl l3)] rfl rfl rfl ?_
        refine zw_push hm_263 dX1_slideDown_19 (v := .inr (.inr none)) rfl ?_
        refine zw_ifnonnull hm_263 dX1_slideDown_21 (t := 30) rfl (fun _ => ?_) (fun _ z => by cases z)
        refine zw_sto hm_263 dX1_slideDown_24 [(3, .inl (l3 + (1 : Int32))), (4, .inr (.inr none)), (0, .inr (.inr (some 80))), (1, .inl l1), (2, .inl l2)] rfl rfl rfl ?_
        refine zw_goto hm_263 dX1_slideDown_27 (t := 68) rfl ?_
        refine zw_goto hm_263 dX1_slideDown_68 (t := 4) rfl ?_
        exact zw_sub (ma_nd_of (ks := [0, 1, 2, 3]) rfl (by decide)) (ma_nd_of (ks := [3, 4, 0, 1, 2]) rfl (by decide)) (ma_le_cons rfl (ma_le_cons rfl (ma_le_cons rfl (ma_le_cons rfl (ma_le_nil _))))) h
      · intro hc
        rw [if_neg hc] at h
        refine zw_push hm_89 dX7_thingFrom_11 (v := .inr (.inr (some 69))) rfl ?_
        refine zw_gf hm_89 dX7_thingFrom_12 (v := .inr (.inr (some 71))) (zT_is hS s_69) (zT_t hS s_69) rfl f_7_17_7 (zT_f hS r_69_1) ?_
        refine zw_push hm_89 dX7_thingFrom_15 (v := .inl l3) rfl ?_
        obtain ⟨hg, h⟩ := h
        refine zw_ia hm_89 dX7_thingFrom_16 (zT_is hS s_71) (zT_h hS s_71) rfl hg ?_
        show ma_wp X (d - 1) (w - 22) 89 17 [(0, .inr (.inr (some 69))), (1, .inl l3)] [.inl (mI S 71 l3.toNatClampNeg)] S _
        refine zw_goto hm_89 dX7_thingFrom_17 (t := 21) rfl ?_
        refine zw_sto hm_89 dX7_thingFrom_21 [(2, .inl (mI S 71 l3.toNatClampNeg)), (0, .inr (.inr (some 69))), (1, .inl l3)] rfl rfl rfl ?_
        refine zw_push hm_89 dX7_thingFrom_22 (v := .inl (mI S 71 l3.toNatClampNeg)) rfl ?_
        refine zw_if0 hm_89 dX7_thingFrom_23 (t := 42) rfl zc0_lt ?_ ?_
        · intro hc
          rw [if_pos hc] at h
          refine zw_push hm_89 dX7_thingFrom_42 (v := .inr (.inr none)) rfl ?_
          refine zw_aret hm_89 dX7_thingFrom_43 ?_
          show ma_wp X d w 263 17 [(0, .inr (.inr (some 80))), (1, .inl l1), (2, .inl l2), (3, .inl l3)] [.inr (.inr none)] S _
          refine zw_sto hm_263 dX1_slideDown_17 [(4, .inr (.inr none)), (0, .inr (.inr (some 80))), (1, .inl l1), (2, .inl l2), (3, .inl l3)] rfl rfl rfl ?_
          refine zw_push hm_263 dX1_slideDown_19 (v := .inr (.inr none)) rfl ?_
          refine zw_ifnonnull hm_263 dX1_slideDown_21 (t := 30) rfl (fun _ => ?_) (fun _ z => by cases z)
          refine zw_sto hm_263 dX1_slideDown_24 [(3, .inl (l3 + (1 : Int32))), (4, .inr (.inr none)), (0, .inr (.inr (some 80))), (1, .inl l1), (2, .inl l2)] rfl rfl rfl ?_
          refine zw_goto hm_263 dX1_slideDown_27 (t := 68) rfl ?_
          refine zw_goto hm_263 dX1_slideDown_68 (t := 4) rfl ?_
          exact zw_sub (ma_nd_of (ks := [0, 1, 2, 3]) rfl (by decide)) (ma_nd_of (ks := [3, 4, 0, 1, 2]) rfl (by decide)) (ma_le_cons rfl (ma_le_cons rfl (ma_le_cons rfl (ma_le_cons rfl (ma_le_nil _))))) h
        · intro hc
          rw [if_neg hc] at h
          refine zw_push hm_89 dX7_thingFrom_26 (v := .inl (mI S 71 l3.toNatClampNeg)) rfl ?_
          refine zw_push hm_89 dX7_thingFrom_27 (v := .inl (512 : Int32)) rfl ?_
          refine zw_if2 hm_89 dX7_thingFrom_30 (t := 42) rfl zc2_ge ?_ ?_
          · intro hc
            rw [if_pos hc] at h
            refine zw_push hm_89 dX7_thingFrom_42 (v := .inr (.inr none)) rfl ?_
            refine zw_aret hm_89 dX7_thingFrom_43 ?_
            show ma_wp X d w 263 17 [(0, .inr (.inr (some 80))), (1, .inl l1), (2, .inl l2), (3, .inl l3)] [.inr (.inr none)] S _
            refine zw_sto hm_263 dX1_slideDown_17 [(4, .inr (.inr none)), (0, .inr (.inr (some 80))), (1, .inl l1), (2, .inl l2), (3, .inl l3)] rfl rfl rfl ?_
            refine zw_push hm_263 dX1_slideDown_19 (v := .inr (.inr none)) rfl ?_
            refine zw_ifnonnull hm_263 dX1_slideDown_21 (t := 30) rfl (fun _ => ?_) (fun _ z => by cases z)
            refine zw_sto hm_263 dX1_slideDown_24 [(3, .inl (l3 + (1 : Int32))), (4, .inr (.inr none)), (0, .inr (.inr (some 80))), (1, .inl l1), (2, .inl l2)] rfl rfl rfl ?_
            refine zw_goto hm_263 dX1_slideDown_27 (t := 68) rfl ?_
            refine zw_goto hm_263 dX1_slideDown_68 (t := 4) rfl ?_
            exact zw_sub (ma_nd_of (ks := [0, 1, 2, 3]) rfl (by decide)) (ma_nd_of (ks := [3, 4, 0, 1, 2]) rfl (by decide)) (ma_le_cons rfl (ma_le_cons rfl (ma_le_cons rfl (ma_le_cons rfl (ma_le_nil _))))) h
          · intro hc
            rw [if_neg hc] at h
            refine zw_push hm_89 dX7_thingFrom_33 (v := .inr (.inr (some 69))) rfl ?_
            refine zw_gf hm_89 dX7_thingFrom_34 (v := .inr (.inr (some 70))) (zT_is hS s_69) (zT_t hS s_69) rfl f_7_11_7 (zT_f hS r_69_0) ?_
            refine zw_push hm_89 dX7_thingFrom_37 (v := .inl (mI S 71 l3.toNatClampNeg)) rfl ?_
            obtain ⟨hg, h⟩ := h
            refine zw_aa hm_89 dX7_thingFrom_38 (zT_is hS s_70) (zT_h hS s_70) rfl rfl hg rfl ?_
            show ma_wp X (d - 1) (w - 22) 89 39 [(2, .inl (mI S 71 l3.toNatClampNeg)), (0, .inr (.inr (some 69))), (1, .inl l3)] [.inr (.inr (mR S 70 (mI S 71 l3.toNatClampNeg).toNatClampNeg))] S _
            refine zw_goto hm_89 dX7_thingFrom_39 (t := 43) rfl ?_
            refine zw_aret hm_89 dX7_thingFrom_43 ?_
            show ma_wp X d w 263 17 [(0, .inr (.inr (some 80))), (1, .inl l1), (2, .inl l2), (3, .inl l3)] [.inr (.inr (mR S 70 (mI S 71 l3.toNatClampNeg).toNatClampNeg))] S _
            refine zw_sto hm_263 dX1_slideDown_17 [(4, .inr (.inr (mR S 70 (mI S 71 l3.toNatClampNeg).toNatClampNeg))), (0, .inr (.inr (some 80))), (1, .inl l1), (2, .inl l2), (3, .inl l3)] rfl rfl rfl ?_
            refine zw_push hm_263 dX1_slideDown_19 (v := .inr (.inr (mR S 70 (mI S 71 l3.toNatClampNeg).toNatClampNeg))) rfl ?_
            refine zw_ifnonnull hm_263 dX1_slideDown_21 (t := 30) rfl ?_ ?_
            · intro hc
              have h := h.1 hc
              (try rw [hc])
              show ma_wp X d w 263 24 [(4, .inr (.inr none)), (0, .inr (.inr (some 80))), (1, .inl l1), (2, .inl l2), (3, .inl l3)] [] S _
              refine zw_sto hm_263 dX1_slideDown_24 [(3, .inl (l3 + (1 : Int32))), (4, .inr (.inr none)), (0, .inr (.inr (some 80))), (1, .inl l1), (2, .inl l2)] rfl rfl rfl ?_
              refine zw_goto hm_263 dX1_slideDown_27 (t := 68) rfl ?_
              refine zw_goto hm_263 dX1_slideDown_68 (t := 4) rfl ?_
              exact zw_sub (ma_nd_of (ks := [0, 1, 2, 3]) rfl (by decide)) (ma_nd_of (ks := [3, 4, 0, 1, 2]) rfl (by decide)) (ma_le_cons rfl (ma_le_cons rfl (ma_le_cons rfl (ma_le_cons rfl (ma_le_nil _))))) h
            · intro c1 hc
              have h := h.2 c1 hc
              (try rw [hc])
              show ma_wp X d w 263 30 [(4, .inr (.inr (some c1))), (0, .inr (.inr (some 80))), (1, .inl l1), (2, .inl l2), (3, .inl l3)] [] S _
              refine zw_push hm_263 dX1_slideDown_30 (v := .inl l3) rfl ?_
              refine zw_push hm_263 dX1_slideDown_31 (v := .inr (.inr (some c1))) rfl ?_
              obtain ⟨hg, h⟩ := h
              refine zw_gf hm_263 dX1_slideDown_33 (v := .inl (mI S c1 2)) (zT_tis hS hg) (zT_tt hS hg) rfl f_13_38_9 rfl ?_
              refine zw_stk hm_263 dX1_slideDown_36 (st₉ := [.inl (l3 + (mI S c1 2))]) rfl rfl ?_
              refine zw_sto hm_263 dX1_slideDown_37 [(3, .inl (l3 + (mI S c1 2))), (4, .inr (.inr (some c1))), (0, .inr (.inr (some 80))), (1, .inl l1), (2, .inl l2)] rfl rfl rfl ?_
              refine zw_push hm_263 dX1_slideDown_38 (v := .inr (.inr (some c1))) rfl ?_
              obtain ⟨hg, h⟩ := h
              refine zw_gf hm_263 dX1_slideDown_40 (v := .inl (mI S c1 7)) (zT_tis hS hg) (zT_tt hS hg) rfl f_13_44_9 rfl ?_
              refine zw_if0 hm_263 dX1_slideDown_43 (t := 56) rfl zc0_ne ?_ ?_
              · intro hc
                rw [if_neg hc] at h
                refine zw_push hm_263 dX1_slideDown_56 (v := .inr (.inr (some c1))) rfl ?_
                obtain ⟨hg, h⟩ := h
                refine zw_gf hm_263 dX1_slideDown_58 (v := .inl (mI S c1 4)) (zT_tis hS hg) (zT_tt hS hg) rfl f_13_51_9 rfl ?_
                refine zw_push hm_263 dX1_slideDown_61 (v := .inr (.inr (some c1))) rfl ?_
                obtain ⟨hg, h⟩ := h
                refine zw_gf hm_263 dX1_slideDown_63 (v := .inl (mI S c1 2)) (zT_tis hS hg) (zT_tt hS hg) rfl f_13_38_9 rfl ?_
                refine zw_stk hm_263 dX1_slideDown_66 (st₉ := [.inl ((mI S c1 4) + (mI S c1 2))]) rfl rfl ?_
                refine zw_sto hm_263 dX1_slideDown_67 [(2, .inl ((mI S c1 4) + (mI S c1 2))), (3, .inl (l3 + (mI S c1 2))), (4, .inr (.inr (some c1))), (0, .inr (.inr (some 80))), (1, .inl l1)] rfl rfl rfl ?_
                refine zw_goto hm_263 dX1_slideDown_68 (t := 4) rfl ?_
                exact zw_sub (ma_nd_of (ks := [0, 1, 2, 3]) rfl (by decide)) (ma_nd_of (ks := [2, 3, 4, 0, 1]) rfl (by decide)) (ma_le_cons rfl (ma_le_cons rfl (ma_le_cons rfl (ma_le_cons rfl (ma_le_nil _))))) h
              · intro hc
                rw [if_pos (Classical.not_not.mp hc)] at h
                refine zw_push hm_263 dX1_slideDown_46 (v := .inr (.inr (some 80))) rfl ?_
                refine zw_gf hm_263 dX1_slideDown_47 (v := .inr (.inr (some 69))) (zT_is hS s_80) (zT_t hS s_80) rfl f_13_9_5 (zT_f hS r_80_0) ?_
                refine zw_push hm_263 dX1_slideDown_50 (v := .inr (.inr (some c1))) rfl ?_
                refine zw_push hm_263 dX1_slideDown_52 (v := .inl l2) rfl ?_
                refine zw_cv hm_263 dX1_slideDown_53 v_13_47_7 hm_90 [.inl l2, .inr (.inr (some c1))] [] rfl (zT_rt hS s_69 rfl) ⟨by omega, by omega⟩ rfl (zw_mono h (zv_go ?_ ?_))
                · intro S2 hv
                  obtain ⟨hS2, h⟩ := hv
                  refine zw_push hm_263 dX1_slideDown_56 (v := .inr (.inr (some c1))) rfl ?_
                  obtain ⟨hg, h⟩ := h
                  refine zw_gf hm_263 dX1_slideDown_58 (v := .inl (mI S2 c1 4)) (zT_tis hS2 hg) (zT_tt hS2 hg) rfl f_13_51_9 rfl ?_
                  refine zw_push hm_263 dX1_slideDown_61 (v := .inr (.inr (some c1))) rfl ?_
                  obtain ⟨hg, h⟩ := h
                  refine zw_gf hm_263 dX1_slideDown_63 (v := .inl (mI S2 c1 2)) (zT_tis hS2 hg) (zT_tt hS2 hg) rfl f_13_38_9 rfl ?_
                  refine zw_stk hm_263 dX1_slideDown_66 (st₉ := [.inl ((mI S2 c1 4) + (mI S2 c1 2))]) rfl rfl ?_
                  refine zw_sto hm_263 dX1_slideDown_67 [(2, .inl ((mI S2 c1 4) + (mI S2 c1 2))), (3, .inl (l3 + (mI S c1 2))), (4, .inr (.inr (some c1))), (0, .inr (.inr (some 80))), (1, .inl l1)] rfl rfl rfl ?_
                  refine zw_goto hm_263 dX1_slideDown_68 (t := 4) rfl ?_
                  exact zw_sub (ma_nd_of (ks := [0, 1, 2, 3]) rfl (by decide)) (ma_nd_of (ks := [2, 3, 4, 0, 1]) rfl (by decide)) (ma_le_cons rfl (ma_le_cons rfl (ma_le_cons rfl (ma_le_cons rfl (ma_le_nil _))))) h
                · intro x S9 hx
                  exact ⟨by decide, hx⟩
theorem lp_263_80_s_4 {X : Nat × (Nat → Int32)} {d w : Nat} {f : Nat → Nat → Int32} {r : Nat → Nat → Option Nat} {C Z N : Nat} {Q : Option ma_V ⊕ Nat → ma_S → Prop} {ab : Nat→Nat→Int32} {q : Nat→Int32} {lm : Int32} (hd : 2 ≤ d) (hw : 114 ≤ w) (K : ∀ v S₉, zI f r C Z N S₉ → (0 ≤ v.toInt ∧ v.toInt ≤ 300000) → (xB S₉ (mR S₉ 70)) → (aM q S₉ = (zSd ab lm.toInt 0 0).1 ∧ v.toInt = (zSd ab lm.toInt 0 0).2 ∧ ∃ p, lm.toInt ≤ p ∧ qJs (aM q S₉) p v.toInt) → Q (.inl (some (.inl v))) S₉) : ∀ (n : Nat) (S : ma_S) (l1 : Int32) (l2 : Int32) (l3 : Int32), (l1.toInt - l3.toInt).toNat = n → zI f r C Z N S → (0 ≤ l2.toInt) → (l2.toInt ≤ 300000) → (l1.toInt ≤ 1500) → (l1.toInt = lm.toInt) → (0 ≤ l3.toInt) → (xB S (mR S 70)) → (zSd (aM q S) lm.toInt l3.toInt l2.toInt = zSd ab lm.toInt 0 0) → (qJs (aM q S) l3.toInt l2.toInt) → ((q 2).toInt = 0) → ma_wp X d w 263 4 [(0, .inr (.inr (some 80))), (1, .inl l1), (2, .inl l2), (3, .inl l3)] [] S Q := by
  intro n
  induction n using Nat.strongRecOn with
  | _ n IH =>
    intro S l1 l2 l3 hmu hI  hi0 hi1 hi2 hi3 hi4 hi5 hi6 hi7 hi8
    refine g_263_80_s_4 l1 l2 l3 (by omega) (by omega) (zG_T hI) ?_
    have js2 := hi7.2.1
    have b1 := i_bd l1
    have b2 := i_bd l3
    refine zd (fun h3 => ?_) (fun h3 => ?_)
    · skip
      have g4 := i_le h3
      have b5 := i_bd l2
      exact K (l2) _ hI (by omega) (show xB S (mR S 70) from by first | (exact xB_x (xC_o (W := 75) hi5).2)) (show aM q S = (zSd ab lm.toInt 0 0).1 ∧ l2.toInt = (zSd ab lm.toInt 0 0).2 ∧ ∃ p, lm.toInt ≤ p ∧ qJs (aM q S) p l2.toInt from by first | (have z := (Sd_n (a := aM q S) (e := l2.toInt) (by omega)).symm.trans hi6; exact ⟨congrArg Prod.fst z, congrArg Prod.snd z, _, by omega, hi7⟩))
    · skip
      have g6 := i_nle h3
      have li7 : (0 : Int32).toInt = 0 := rfl
      refine zd (fun h8 => ?_) (fun h8 => ?_)
      · skip
        have g9 := i_lt h8
        have b10 := i_bd l2
        first | have e11 : (l3 + (1 : Int32)).toInt = l3.toInt + (1) := i_addk rfl (by omega) (by omega) | have b12 := i_bd (l3 + (1 : Int32))
        exact IH _ (by omega) _ (l1) (l2) ((l3 + (1 : Int32))) rfl hI (by omega) (by omega) (by omega) (by omega) (by omega) (show xB S (mR S 70) from by first | (exact xB_x (xC_o (W := 75) hi5).2)) (show zSd (aM q S) lm.toInt ((l3 + (1 : Int32))).toInt (l2).toInt = zSd ab lm.toInt 0 0 from by first | (have s1 := S1_I hi7.1; have o := (ob_n1 (a := aM q S) (p := l3.toInt) (by omega)); rw [show (l3 + (1 : Int32)).toInt = l3.toInt + 1 from by omega]; exact (Sd_fr s1 (by omega) (ob_neg o)).symm.trans hi6) | (have s1 := S1_I hi7.1; have o := (mb_n2 (q := q) (S := S) (x := l3) (by omega)); rw [show (l3 + (1 : Int32)).toInt = l3.toInt + 1 from by omega]; exact (Sd_fr s1 (by omega) (ob_neg o)).symm.trans hi6)) (show qJs (aM q S) ((l3 + (1 : Int32))).toInt (l2).toInt from by first | (have o := (ob_n1 (a := aM q S) (p := l3.toInt) (by omega)); rw [show (l3 + (1 : Int32)).toInt = l3.toInt + 1 from by omega]; exact Js_fr hi7 (ob_neg o) (by omega)) | (have o := (mb_n2 (q := q) (S := S) (x := l3) (by omega)); rw [show (l3 + (1 : Int32)).toInt = l3.toInt + 1 from by omega]; exact Js_fr hi7 (ob_neg o) (by omega))) (show (q 2).toInt = 0 from by first | (exact hi8) | (exact rfl))
      · skip
        have g13 := i_nlt h8
        have li14 : (4500 : Int32).toInt = 4500 := rfl
        refine zd (fun h15 => ?_) (fun h15 => ?_)
        · skip
          have g16 := i_le h15
          have b17 := i_bd l2
          first | have e18 : (l3 + (1 : Int32)).toInt = l3.toInt + (1) := i_addk rfl (by omega) (by omega) | have b19 := i_bd (l3 + (1 : Int32))
          exact IH _ (by omega) _ (l1) (l2) ((l3 + (1 : Int32))) rfl hI (by omega) (by omega) (by omega) (by omega) (by omega) (show xB S (mR S 70) from by first | (exact xB_x (xC_o (W := 75) hi5).2)) (show zSd (aM q S) lm.toInt ((l3 + (1 : Int32))).toInt (l2).toInt = zSd ab lm.toInt 0 0 from by first | (have s1 := S1_I hi7.1; have o := (ob_n1 (a := aM q S) (p := l3.toInt) (by omega)); rw [show (l3 + (1 : Int32)).toInt = l3.toInt + 1 from by omega]; exact (Sd_fr s1 (by omega) (ob_neg o)).symm.trans hi6) | (have s1 := S1_I hi7.1; have o := (mb_n2 (q := q) (S := S) (x := l3) (by omega)); rw [show (l3 + (1 : Int32)).toInt = l3.toInt + 1 from by omega]; exact (Sd_fr s1 (by omega) (ob_neg o)).symm.trans hi6)) (show qJs (aM q S) ((l3 + (1 : Int32))).toInt (l2).toInt from by first | (have o := (ob_n1 (a := aM q S) (p := l3.toInt) (by omega)); rw [show (l3 + (1 : Int32)).toInt = l3.toInt + 1 from by omega]; exact Js_fr hi7 (ob_neg o) (by omega)) | (have o := (mb_n2 (q := q) (S := S) (x := l3) (by omega)); rw [show (l3 + (1 : Int32)).toInt = l3.toInt + 1 from by omega]; exact Js_fr hi7 (ob_neg o) (by omega))) (show (q 2).toInt = 0 from by first | (exact hi8) | (exact rfl))
        · skip
          have g20 := i_nle h15
          refine ⟨i_ix (by omega) (by omega), ?_⟩
          have b21 := i_bd (mI S 71 l3.toNatClampNeg)
          refine zd (fun h22 => ?_) (fun h22 => ?_)
          · skip
            have g23 := i_lt h22
            have b24 := i_bd l2
            first | have e25 : (l3 + (1 : Int32)).toInt = l3.toInt + (1) := i_addk rfl (by omega) (by omega) | have b26 := i_bd (l3 + (1 : Int32))
            exact IH _ (by omega) _ (l1) (l2) ((l3 + (1 : Int32))) rfl hI (by omega) (by omega) (by omega) (by omega) (by omega) (show xB S (mR S 70) from by first | (exact xB_x (xC_o (W := 75) hi5).2)) (show zSd (aM q S) lm.toInt ((l3 + (1 : Int32))).toInt (l2).toInt = zSd ab lm.toInt 0 0 from by first | (have s1 := S1_I hi7.1; have o := (ob_n1 (a := aM q S) (p := l3.toInt) (by omega)); rw [show (l3 + (1 : Int32)).toInt = l3.toInt + 1 from by omega]; exact (Sd_fr s1 (by omega) (ob_neg o)).symm.trans hi6) | (have s1 := S1_I hi7.1; have o := (mb_n2 (q := q) (S := S) (x := l3) (by omega)); rw [show (l3 + (1 : Int32)).toInt = l3.toInt + 1 from by omega]; exact (Sd_fr s1 (by omega) (ob_neg o)).symm.trans hi6)) (show qJs (aM q S) ((l3 + (1 : Int32))).toInt (l2).toInt from by first | (have o := (ob_n1 (a := aM q S) (p := l3.toInt) (by omega)); rw [show (l3 + (1 : Int32)).toInt = l3.toInt + 1 from by omega]; exact Js_fr hi7 (ob_neg o) (by omega)) | (have o := (mb_n2 (q := q) (S := S) (x := l3) (by omega)); rw [show (l3 + (1 : Int32)).toInt = l3.toInt + 1 from by omega]; exact Js_fr hi7 (ob_neg o) (by omega))) (show (q 2).toInt = 0 from by first | (exact hi8) | (exact rfl))
          · skip
            have g27 := i_nlt h22
            have li28 : (512 : Int32).toInt = 512 := rfl
            refine zd (fun h29 => ?_) (fun h29 => ?_)
            · skip
              have g30 := i_le h29
              have b31 := i_bd l2
              first | have e32 : (l3 + (1 : Int32)).toInt = l3.toInt + (1) := i_addk rfl (by omega) (by omega) | have b33 := i_bd (l3 + (1 : Int32))
              exact IH _ (by omega) _ (l1) (l2) ((l3 + (1 : Int32))) rfl hI (by omega) (by omega) (by omega) (by omega) (by omega) (show xB S (mR S 70) from by first | (exact xB_x (xC_o (W := 75) hi5).2)) (show zSd (aM q S) lm.toInt ((l3 + (1 : Int32))).toInt (l2).toInt = zSd ab lm.toInt 0 0 from by first | (have s1 := S1_I hi7.1; have o := (ob_n1 (a := aM q S) (p := l3.toInt) (by omega)); rw [show (l3 + (1 : Int32)).toInt = l3.toInt + 1 from by omega]; exact (Sd_fr s1 (by omega) (ob_neg o)).symm.trans hi6) | (have s1 := S1_I hi7.1; have o := (mb_n2 (q := q) (S := S) (x := l3) (by omega)); rw [show (l3 + (1 : Int32)).toInt = l3.toInt + 1 from by omega]; exact (Sd_fr s1 (by omega) (ob_neg o)).symm.trans hi6)) (show qJs (aM q S) ((l3 + (1 : Int32))).toInt (l2).toInt from by first | (have o := (ob_n1 (a := aM q S) (p := l3.toInt) (by omega)); rw [show (l3 + (1 : Int32)).toInt = l3.toInt + 1 from by omega]; exact Js_fr hi7 (ob_neg o) (by omega)) | (have o := (mb_n2 (q := q) (S := S) (x := l3) (by omega)); rw [show (l3 + (1 : Int32)).toInt = l3.toInt + 1 from by omega]; exact Js_fr hi7 (ob_neg o) (by omega))) (show (q 2).toInt = 0 from by first | (exact hi8) | (exact rfl))
            · skip
              have g34 := i_nle h29
              refine ⟨i_ix (by omega) (by omega), ?_⟩
              refine ⟨fun hc => ?_, fun c1 hc => ?_⟩
              · skip
                have rn_c1 : zTa (mR S 70) (mI S 71 l3.toNatClampNeg) = none := (ta_rd (y := (mI S 71 l3.toNatClampNeg)) hi5 (by omega) (by omega)).symm.trans hc
                have b35 := i_bd l2
                first | have e36 : (l3 + (1 : Int32)).toInt = l3.toInt + (1) := i_addk rfl (by omega) (by omega) | have b37 := i_bd (l3 + (1 : Int32))
                exact IH _ (by omega) _ (l1) (l2) ((l3 + (1 : Int32))) rfl hI (by omega) (by omega) (by omega) (by omega) (by omega) (show xB S (mR S 70) from by first | (exact xB_x (xC_o (W := 75) hi5).2)) (show zSd (aM q S) lm.toInt ((l3 + (1 : Int32))).toInt (l2).toInt = zSd ab lm.toInt 0 0 from by first | (have s1 := S1_I hi7.1; have o := (mb_n3 (q := q) (x := l3) hi5 rn_c1); rw [show (l3 + (1 : Int32)).toInt = l3.toInt + 1 from by omega]; exact (Sd_fr s1 (by omega) (ob_neg o)).symm.trans hi6)) (show qJs (aM q S) ((l3 + (1 : Int32))).toInt (l2).toInt from by first | (have o := (mb_n3 (q := q) (x := l3) hi5 rn_c1); rw [show (l3 + (1 : Int32)).toInt = l3.toInt + 1 from by omega]; exact Js_fr hi7 (ob_neg o) (by omega))) (show (q 2).toInt = 0 from by first | (exact hi8) | (exact rfl))
              · skip
                have th_c1 := (fun _ z => zG_70 hI (c := 70) (by decide) z) c1 hc
                have rg_c1 : zTa (mR S 70) (mI S 71 l3.toNatClampNeg) = some c1 := (ta_rd (y := (mI S 71 l3.toNatClampNeg)) hi5 (by omega) (by omega)).symm.trans hc
                refine ⟨zG_n hI th_c1, ?_⟩
                refine ⟨zG_n hI th_c1, ?_⟩
                have b38 := i_bd (mI S c1 7)
                refine zd (fun h39 => ?_) (fun h39 => ?_)
                · skip
                  have g40 := i_eq h39
                  have b41 := i_bd l2
                  refine sp_90_69_s (ab := (aS 75 S)) (R := (mR S 70)) (y := ((mI S 71 l3.toNatClampNeg))) c1 (l2) (by omega) (by omega) hI th_c1 (show xB S (mR S 70) from by first | (exact xB_x (xC_o (W := 75) hi5).2)) (show aS 75 S = (aS 75 S) from by first | (exact rfl)) (show zTa (mR S 70) ((mI S 71 l3.toNatClampNeg)) = some c1 from by first | (exact rg_c1)) (show qMv (aS 75 S) ((mI S 71 l3.toNatClampNeg)).toNatClampNeg l2 from by first | (have o := mb_y (q := q) (x := l3) hi5 rg_c1 (by omega) (by omega); have ty := xB_th (W := 75) hi5 rg_c1; have h7 : aM q S 133 (mI S 71 l3.toNatClampNeg).toNatClampNeg = mI S c1 7 := (aM_o (by decide)).trans ty.2.2.2.2.2.2.1.symm; have ob0 : 0 ≤ (zOb (aM q S) l3.toInt).toInt := (by rw [o.1]; exact ty.1); have js := (Js_ob hi7 ob0).2.1; rw [o.1, aM_o (c := 130) (by decide), ← ty.2.2.2.2.2.1] at js; have z := (Js_fq hi7 ob0 (to := l2) rfl).2.1; rw [o.1] at z; exact Mv_S z)) (by omega) (fun S2 hI_S2 rp0_S2 rp1_S2 => zv_n ⟨zG_T hI_S2, ?_⟩)
                  have rp0_S2 : xB S2 (mR S 70) := rp0_S2
                  have rp1_S2 : aS 75 S2 = aMo (aS 75 S) ((mI S 71 l3.toNatClampNeg)).toNatClampNeg l2 := rp1_S2
                  refine ⟨zG_n hI_S2 th_c1, ?_⟩
                  refine ⟨zG_n hI_S2 th_c1, ?_⟩
                  have f42 := zG_th hI_S2 th_c1
                  have f43 := zG_th hI_S2 th_c1
                  first | have e44 : ((mI S2 c1 4) + (mI S2 c1 2)).toInt = (mI S2 c1 4).toInt + (mI S2 c1 2).toInt := i_add (by omega) (by omega) | have b45 := i_bd ((mI S2 c1 4) + (mI S2 c1 2))
                  have f46 := zG_th hI th_c1
                  first | have e47 : (l3 + (mI S c1 2)).toInt = l3.toInt + (mI S c1 2).toInt := i_add (by omega) (by omega) | have b48 := i_bd (l3 + (mI S c1 2))
                  exact IH _ (by omega) _ (l1) (((mI S2 c1 4) + (mI S2 c1 2))) ((l3 + (mI S c1 2))) rfl hI_S2 (by omega) (by omega) (by omega) (by omega) (by omega) (show xB S2 (mR S2 70) from by first | (exact xB_x (xC_o (W := 75) rp0_S2).2)) (show zSd (aM q S2) lm.toInt ((l3 + (mI S c1 2))).toInt (((mI S2 c1 4) + (mI S2 c1 2))).toInt = zSd ab lm.toInt 0 0 from by first | (have s1 := S1_I hi7.1; have o := mb_y (q := q) (x := l3) hi5 rg_c1 (by omega) (by omega); have ty := xB_th (W := 75) hi5 rg_c1; have h7 : aM q S 133 (mI S 71 l3.toNatClampNeg).toNatClampNeg = mI S c1 7 := (aM_o (by decide)).trans ty.2.2.2.2.2.2.1.symm; have ob0 : 0 ≤ (zOb (aM q S) l3.toInt).toInt := (by rw [o.1]; exact ty.1); have js := (Js_ob hi7 ob0).2.1; rw [o.1, aM_o (c := 130) (by decide), ← ty.2.2.2.2.2.1] at js; have z := Sd_mv (e := l2.toInt) (lim := lm.toInt) s1 (by omega) ob0 (by rw [o.1, h7]; exact i_zer (by omega)); rw [o.1, o.2, Int32.ofInt_toInt] at z; have u := xB_th (W := 75) rp0_S2 rg_c1; have u4 := congrArg Int32.toInt u.2.2.2.2.2.1; have u2 := congrArg Int32.toInt u.2.2.2.2.1; rw [rp1_S2, Mo_pn] at u4; rw [rp1_S2, Mo_r (by decide) (by decide), ← ty.2.2.2.2.1] at u2; rw [M_mo rp1_S2]; refine Eq.trans ?_ (z.symm.trans hi6); congr 1 <;> omega)) (show qJs (aM q S2) ((l3 + (mI S c1 2))).toInt (((mI S2 c1 4) + (mI S2 c1 2))).toInt from by first | (have o := mb_y (q := q) (x := l3) hi5 rg_c1 (by omega) (by omega); have ty := xB_th (W := 75) hi5 rg_c1; have h7 : aM q S 133 (mI S 71 l3.toNatClampNeg).toNatClampNeg = mI S c1 7 := (aM_o (by decide)).trans ty.2.2.2.2.2.2.1.symm; have ob0 : 0 ≤ (zOb (aM q S) l3.toInt).toInt := (by rw [o.1]; exact ty.1); have js := (Js_ob hi7 ob0).2.1; rw [o.1, aM_o (c := 130) (by decide), ← ty.2.2.2.2.2.1] at js; have z := Js_mv hi7 ob0 (to := l2) rfl (by rw [aM_7]; exact hi8); rw [o.1, o.2] at z; have u := xB_th (W := 75) rp0_S2 rg_c1; have u4 := congrArg Int32.toInt u.2.2.2.2.2.1; have u2 := congrArg Int32.toInt u.2.2.2.2.1; rw [rp1_S2, Mo_pn] at u4; rw [rp1_S2, Mo_r (by decide) (by decide), ← ty.2.2.2.2.1] at u2; rw [M_mo rp1_S2]; refine (show ∀ {b : Nat → Nat → Int32} {p p2 e e2 : Int}, qJs b p e → p = p2 → e = e2 → qJs b p2 e2 from fun h h1 h2 => h1 ▸ h2 ▸ h) z ?_ ?_ <;> omega)) (show (q 2).toInt = 0 from by first | (exact hi8) | (exact rfl))
                · skip
                  have g49 := i_ne h39
                  refine ⟨zG_n hI th_c1, ?_⟩
                  refine ⟨zG_n hI th_c1, ?_⟩
                  have f50 := zG_th hI th_c1
                  have f51 := zG_th hI th_c1
                  first | have e52 : ((mI S c1 4) + (mI S c1 2)).toInt = (mI S c1 4).toInt + (mI S c1 2).toInt := i_add (by omega) (by omega) | have b53 := i_bd ((mI S c1 4) + (mI S c1 2))
                  first | have e54 : (l3 + (mI S c1 2)).toInt = l3.toInt + (mI S c1 2).toInt := i_add (by omega) (by omega) | have b55 := i_bd (l3 + (mI S c1 2))
                  exact IH _ (by omega) _ (l1) (((mI S c1 4) + (mI S c1 2))) ((l3 + (mI S c1 2))) rfl hI (by omega) (by omega) (by omega) (by omega) (by omega) (show xB S (mR S 70) from by first | (exact xB_x (xC_o (W := 75) hi5).2)) (show zSd (aM q S) lm.toInt ((l3 + (mI S c1 2))).toInt (((mI S c1 4) + (mI S c1 2))).toInt = zSd ab lm.toInt 0 0 from by first | (have s1 := S1_I hi7.1; have o := mb_y (q := q) (x := l3) hi5 rg_c1 (by omega) (by omega); have ty := xB_th (W := 75) hi5 rg_c1; have h7 : aM q S 133 (mI S 71 l3.toNatClampNeg).toNatClampNeg = mI S c1 7 := (aM_o (by decide)).trans ty.2.2.2.2.2.2.1.symm; have ob0 : 0 ≤ (zOb (aM q S) l3.toInt).toInt := (by rw [o.1]; exact ty.1); have js := (Js_ob hi7 ob0).2.1; rw [o.1, aM_o (c := 130) (by decide), ← ty.2.2.2.2.2.1] at js; have z := Sd_ho (e := l2.toInt) (lim := lm.toInt) s1 (by omega) ob0 (by rw [o.1, h7]; exact i_nz2 (by omega)); rw [o.1, o.2] at z; refine Eq.trans ?_ (z.symm.trans hi6); congr 1 <;> omega)) (show qJs (aM q S) ((l3 + (mI S c1 2))).toInt (((mI S c1 4) + (mI S c1 2))).toInt from by first | (have o := mb_y (q := q) (x := l3) hi5 rg_c1 (by omega) (by omega); have ty := xB_th (W := 75) hi5 rg_c1; have h7 : aM q S 133 (mI S 71 l3.toNatClampNeg).toNatClampNeg = mI S c1 7 := (aM_o (by decide)).trans ty.2.2.2.2.2.2.1.symm; have ob0 : 0 ≤ (zOb (aM q S) l3.toInt).toInt := (by rw [o.1]; exact ty.1); have js := (Js_ob hi7 ob0).2.1; rw [o.1, aM_o (c := 130) (by decide), ← ty.2.2.2.2.2.1] at js; have z := Js_ho hi7 ob0; rw [o.1, o.2] at z; refine (show ∀ {p p2 e e2 : Int}, qJs (aM q S) p e → p = p2 → e = e2 → qJs (aM q S) p2 e2 from fun h h1 h2 => h1 ▸ h2 ▸ h) z ?_ ?_ <;> omega)) (show (q 2).toInt = 0 from by first | (exact hi8) | (exact rfl))
theorem sp_263_80_s {X : Nat × (Nat → Int32)} {d w : Nat} {f : Nat → Nat → Int32} {r : Nat → Nat → Option Nat} {C Z N : Nat} {Q : Option ma_V ⊕ Nat → ma_S → Prop} {ab : Nat→Nat→Int32} {q : Nat→Int32} {S : ma_S} (lm : Int32) (hd : 2 ≤ d) (hw : 114 ≤ w) (hI : zI f r C Z N S) (hpre0 : lm.toInt ≤ 1500) (hpre1 : xB S (mR S 70)) (hpre2 : aM q S = ab) (hpre3 : qI ab) (hpre4 : (q 2).toInt = 0) (K : ∀ v S₉, zI f r C Z N S₉ → (0 ≤ v.toInt ∧ v.toInt ≤ 300000) → (xB S₉ (mR S₉ 70)) → (aM q S₉ = (zSd ab lm.toInt 0 0).1 ∧ v.toInt = (zSd ab lm.toInt 0 0).2 ∧ ∃ p, lm.toInt ≤ p ∧ qJs (aM q S₉) p v.toInt) → Q (.inl (some (.inl v))) S₉) : ma_wp X d w 263 0 [(0, .inr (.inr (some 80))), (1, .inl lm)] [] S Q := by
  refine g_263_80_s_0 lm (by omega) (by omega) (zG_T hI) ?_
  have b1 := i_bd lm
  have li2 : (0 : Int32).toInt = 0 := rfl
  exact lp_263_80_s_4 (by omega) (by omega) K _ _ (lm) ((0 : Int32)) ((0 : Int32)) rfl hI (by omega) (by omega) (by omega) (by omega) (by omega) (show xB S (mR S 70) from by first | (exact xB_x (xC_o (W := 75) hpre1).2)) (show zSd (aM q S) lm.toInt ((0 : Int32)).toInt ((0 : Int32)).toInt = zSd ab lm.toInt 0 0 from by first | (rw [hpre2]; rfl)) (show qJs (aM q S) ((0 : Int32)).toInt ((0 : Int32)).toInt from by first | (rw [hpre2]; exact Js_0 hpre3)) (show (q 2).toInt = 0 from by first | (exact hpre4) | (exact rfl))

/-! from 95.q20 -/
/-! the moving collectors, the class (written by wip/tools/gen15.py) -/
theorem g_263_82_s_0 {X : Nat × (Nat → Int32)} {d w : Nat} {S : ma_S} {Q : Option ma_V ⊕ Nat → ma_S → Prop} (lm : Int32) (hd : 2 ≤ d) (hw : 92 ≤ w) (hS : zT S) (h : ma_wp X d w 263 4 [(0, .inr (.inr (some 82))), (1, .inl lm), (2, .inl (0 : Int32)), (3, .inl (0 : Int32))] [] S Q) : ma_wp X d w 263 0 [(0, .inr (.inr (some 82))), (1, .inl lm)] [] S Q := by
  refine zw_push hm_263 dX1_slideDown_0 (v := .inl (0 : Int32)) rfl ?_
  refine zw_sto hm_263 dX1_slideDown_1 [(2, .inl (0 : Int32)), (0, .inr (.inr (some 82))), (1, .inl lm)] rfl rfl rfl ?_
  refine zw_push hm_263 dX1_slideDown_2 (v := .inl (0 : Int32)) rfl ?_
  refine zw_sto hm_263 dX1_slideDown_3 [(3, .inl (0 : Int32)), (2, .inl (0 : Int32)), (0, .inr (.inr (some 82))), (1, .inl lm)] rfl rfl rfl ?_
  exact zw_sub (ma_nd_of (ks := [0, 1, 2, 3]) rfl (by decide)) (ma_nd_of (ks := [3, 2, 0, 1]) rfl (by decide)) (ma_le_cons rfl (ma_le_cons rfl (ma_le_cons rfl (ma_le_cons rfl (ma_le_nil _))))) h
theorem g_263_82_s_4 {X : Nat × (Nat → Int32)} {d w : Nat} {S : ma_S} {Q : Option ma_V ⊕ Nat → ma_S → Prop} (l1 : Int32) (l2 : Int32) (l3 : Int32) (hd : 2 ≤ d) (hw : 114 ≤ w) (hS : zT S) (h : if l1 ≤ l3 then (Q (.inl (some (.inl l2))) S) else (if l3 < 0 then (ma_wp X d w 263 4 [(0, .inr (.inr (some 82))), (1, .inl l1), (2, .inl l2), (3, .inl (l3 + (1 : Int32)))] [] S Q) else (if (4500 : Int32) ≤ l3 then (ma_wp X d w 263 4 [(0, .inr (.inr (some 82))), (1, .inl l1), (2, .inl l2), (3, .inl (l3 + (1 : Int32)))] [] S Q) else ((0 ≤ l3 ∧ l3.toNatClampNeg < 4500) ∧ (if (mI S 71 l3.toNatClampNeg) < 0 then (ma_wp X d w 263 4 [(0, .inr (.inr (some 82))), (1, .inl l1), (2, .inl l2), (3, .inl (l3 + (1 : Int32)))] [] S Q) else (if (512 : Int32) ≤ (mI S 71 l3.toNatClampNeg) then (ma_wp X d w 263 4 [(0, .inr (.inr (some 82))), (1, .inl l1), (2, .inl l2), (3, .inl (l3 + (1 : Int32)))] [] S Q) else ((0 ≤ (mI S 71 l3.toNatClampNeg) ∧ (mI S 71 l3.toNatClampNeg).toNatClampNeg < 512) ∧ (((mR S 70 (mI S 71 l3.toNatClampNeg).toNatClampNeg) = none → ma_wp X d w 263 4 [(0, .inr (.inr (some 82))), (1, .inl l1), (2, .inl l2), (3, .inl (l3 + (1 : Int32)))] [] S Q) ∧ (∀ c1, (mR S 70 (mI S 71 l3.toNatClampNeg).toNatClampNeg) = some c1 → (126 ≤ c1 ∧ c1 < mN S) ∧ ((126 ≤ c1 ∧ c1 < mN S) ∧ (if (mI S c1 7) = 0 then (ma_wp X (d - 1) (w - 24) 90 0 [(0, .inr (.inr (some 69))), (1, .inr (.inr (some c1))), (2, .inl l2)] [] S (zv (fun S2 => zT S2 ∧ ((126 ≤ c1 ∧ c1 < mN S2) ∧ ((126 ≤ c1 ∧ c1 < mN S2) ∧ (ma_wp X d w 263 4 [(0, .inr (.inr (some 82))), (1, .inl l1), (2, .inl ((mI S2 c1 4) + (mI S2 c1 2))), (3, .inl (l3 + (mI S c1 2)))] [] S2 Q)))) (fun x S9 => Q (.inr x) S9))) else ((126 ≤ c1 ∧ c1 < mN S) ∧ ((126 ≤ c1 ∧ c1 < mN S) ∧ (ma_wp X d w 263 4 [(0, .inr (.inr (some 82))), (1, .inl l1), (2, .inl ((mI S c1 4) + (mI S c1 2))), (3, .inl (l3 + (mI S c1 2)))] [] S Q)))))))))))))) : ma_wp X d w 263 4 [(0, .inr (.inr (some 82))), (1, .inl l1), (2, .inl l2), (3, .inl l3)] [] S Q := by
  refine zw_push hm_263 dX1_slideDown_4 (v := .inl l3) rfl ?_
  refine zw_push hm_263 dX1_slideDown_5 (v := .inl l1) rfl ?_
  refine zw_if2 hm_263 dX1_slideDown_6 (t := 71) rfl zc2_ge ?_ ?_
  · intro hc
    rw [if_pos hc] at h
    refine zw_push hm_263 dX1_slideDown_71 (v := .inl l2) rfl ?_
    exact zw_iret hm_263 dX1_slideDown_72 h
  · intro hc
    rw [if_neg hc] at h
    refine zw_push hm_263 dX1_slideDown_9 (v := .inr (.inr (some 82))) rfl ?_
    refine zw_gf hm_263 dX1_slideDown_10 (v := .inr (.inr (some 69))) (zT_is hS s_82) (zT_t hS s_82) rfl f_13_9_1 (zT_f hS r_82_0) ?_
    refine zw_push hm_263 dX1_slideDown_13 (v := .inl l3) rfl ?_
    refine zw_cv hm_263 dX1_slideDown_14 v_13_34_7 hm_89 [.inl l3] [] rfl (zT_rt hS s_69 rfl) ⟨by omega, by omega⟩ rfl ?_
    show ma_wp X (d - 1) (w - 22) 89 0 [(0, .inr (.inr (some 69))), (1, .inl l3)] [] S _
    refine zw_push hm_89 dX7_thingFrom_0 (v := .inl l3) rfl ?_
    refine zw_if0 hm_89 dX7_thingFrom_1 (t := 20) rfl zc0_lt ?_ ?_
    · intro hc
      rw [if_pos hc] at h
      refine zw_push hm_89 dX7_thingFrom_20 (v := .inl (-1 : Int32)) rfl ?_
      refine zw_sto hm_89 dX7_thingFrom_21 [(2, .inl (-1 : Int32)), (0, .inr (.inr (some 69))), (1, .inl l3)] rfl rfl rfl ?_
      refine zw_push hm_89 dX7_thingFrom_22 (v := .inl (-1 : Int32)) rfl ?_
      refine zw_if0 hm_89 dX7_thingFrom_23 (t := 42) rfl zc0_lt (fun _ => ?_) (fun hc => absurd (by decide) hc)
      refine zw_push hm_89 dX7_thingFrom_42 (v := .inr (.inr none)) rfl ?_
      refine zw_aret hm_89 dX7_thingFrom_43 ?_
      show ma_wp X d w 263 17 [(0, .inr (.inr (some 82))), (1, .inl l1), (2, .inl l2), (3, .inl l3)] [.inr (.inr none)] S _
      refine zw_sto hm_263 dX1_slideDown_17 [(4, .inr (.inr none)), (0, .inr (.inr (some 82))), (1, .inl l1), (2, .inl l2), (3, .inl l3)] rfl rfl rfl ?_
      refine zw_push hm_263 dX1_slideDown_19 (v := .inr (.inr none)) rfl ?_
      refine zw_ifnonnull hm_263 dX1_slideDown_21 (t := 30) rfl (fun _ => ?_) (fun _ z => by cases z)
      refine zw_sto hm_263 dX1_slideDown_24 [(3, .inl (l3 + (1 : Int32))), (4, .inr (.inr none)), (0, .inr (.inr (some 82))), (1, .inl l1), (2, .inl l2)] rfl rfl rfl ?_
      refine zw_goto hm_263 dX1_slideDown_27 (t := 68) rfl ?_
      refine zw_goto hm_263 dX1_slideDown_68 (t := 4) rfl ?_
      exact zw_sub (ma_nd_of (ks := [0, 1, 2, 3]) rfl (by decide)) (ma_nd_of (ks := [3, 4, 0, 1, 2]) rfl (by decide)) (ma_le_cons rfl (ma_le_cons rfl (ma_le_cons rfl (ma_le_cons rfl (ma_le_nil _))))) h
    · intro hc
      rw [if_neg hc] at h
      refine zw_push hm_89 dX7_thingFrom_4 (v := .inl l3) rfl ?_
      refine zw_push hm_89 dX7_thingFrom_5 (v := .inl (4500 : Int32)) rfl ?_
      refine zw_if2 hm_89 dX7_thingFrom_8 (t := 20) rfl zc2_ge ?_ ?_
      · intro hc
        rw [if_pos hc] at h
        refine zw_push hm_89 dX7_thingFrom_20 (v := .inl (-1 : Int32)) rfl ?_
        refine zw_sto hm_89 dX7_thingFrom_21 [(2, .inl (-1 : Int32)), (0, .inr (.inr (some 69))), (1, .inl l3)] rfl rfl rfl ?_
        refine zw_push hm_89 dX7_thingFrom_22 (v := .inl (-1 : Int32)) rfl ?_
        refine zw_if0 hm_89 dX7_thingFrom_23 (t := 42) rfl zc0_lt (fun _ => ?_) (fun hc => absurd (by decide) hc)
        refine zw_push hm_89 dX7_thingFrom_42 (v := .inr (.inr none)) rfl ?_
        refine zw_aret hm_89 dX7_thingFrom_43 ?_
        show ma_wp X d w 263 17 [(0, .inr (.inr (some 82))), (1, .inl l1), (2, .inl l2), (3, .inl l3)] [.inr (.inr none)] S _
        refine zw_sto hm_263 dX1_slideDown_17 [(4, .inr (.inr none)), (0, .inr (.inr (some 82))), (1, .inl l1), (2, .inl l2), (3, .inl l3)] rfl rfl rfl ?_
        refine zw_push hm_263 dX1_slideDown_19 (v := .inr (.inr none)) rfl ?_
        refine zw_ifnonnull hm_263 dX1_slideDown_21 (t := 30) rfl (fun _ => ?_) (fun _ z => by cases z)
        refine zw_sto hm_263 dX1_slideDown_24 [(3, .inl (l3 + (1 : Int32))), (4, .inr (.inr none)), (0, .inr (.inr (some 82))), (1, .inl l1), (2, .inl l2)] rfl rfl rfl ?_
        refine zw_goto hm_263 dX1_slideDown_27 (t := 68) rfl ?_
        refine zw_goto hm_263 dX1_slideDown_68 (t := 4) rfl ?_
        exact zw_sub (ma_nd_of (ks := [0, 1, 2, 3]) rfl (by decide)) (ma_nd_of (ks := [3, 4, 0, 1, 2]) rfl (by decide)) (ma_le_cons rfl (ma_le_cons rfl (ma_le_cons rfl (ma_le_cons rfl (ma_le_nil _))))) h
      · intro hc
        rw [if_neg hc] at h
        refine zw_push hm_89 dX7_thingFrom_11 (v := .inr (.inr (some 69))) rfl ?_
        refine zw_gf hm_89 dX7_thingFrom_12 (v := .inr (.inr (some 71))) (zT_is hS s_69) (zT_t hS s_69) rfl f_7_17_7 (zT_f hS r_69_1) ?_
        refine zw_push hm_89 dX7_thingFrom_15 (v := .inl l3) rfl ?_
        obtain ⟨hg, h⟩ := h
        refine zw_ia hm_89 dX7_thingFrom_16 (zT_is hS s_71) (zT_h hS s_71) rfl hg ?_
        show ma_wp X (d - 1) (w - 22) 89 17 [(0, .inr (.inr (some 69))), (1, .inl l3)] [.inl (mI S 71 l3.toNatClampNeg)] S _
        refine zw_goto hm_89 dX7_thingFrom_17 (t := 21) rfl ?_
        refine zw_sto hm_89 dX7_thingFrom_21 [(2, .inl (mI S 71 l3.toNatClampNeg)), (0, .inr (.inr (some 69))), (1, .inl l3)] rfl rfl rfl ?_
        refine zw_push hm_89 dX7_thingFrom_22 (v := .inl (mI S 71 l3.toNatClampNeg)) rfl ?_
        refine zw_if0 hm_89 dX7_thingFrom_23 (t := 42) rfl zc0_lt ?_ ?_
        · intro hc
          rw [if_pos hc] at h
          refine zw_push hm_89 dX7_thingFrom_42 (v := .inr (.inr none)) rfl ?_
          refine zw_aret hm_89 dX7_thingFrom_43 ?_
          show ma_wp X d w 263 17 [(0, .inr (.inr (some 82))), (1, .inl l1), (2, .inl l2), (3, .inl l3)] [.inr (.inr none)] S _
          refine zw_sto hm_263 dX1_slideDown_17 [(4, .inr (.inr none)), (0, .inr (.inr (some 82))), (1, .inl l1), (2, .inl l2), (3, .inl l3)] rfl rfl rfl ?_
          refine zw_push hm_263 dX1_slideDown_19 (v := .inr (.inr none)) rfl ?_
          refine zw_ifnonnull hm_263 dX1_slideDown_21 (t := 30) rfl (fun _ => ?_) (fun _ z => by cases z)
          refine zw_sto hm_263 dX1_slideDown_24 [(3, .inl (l3 + (1 : Int32))), (4, .inr (.inr none)), (0, .inr (.inr (some 82))), (1, .inl l1), (2, .inl l2)] rfl rfl rfl ?_
          refine zw_goto hm_263 dX1_slideDown_27 (t := 68) rfl ?_
          refine zw_goto hm_263 dX1_slideDown_68 (t := 4) rfl ?_
          exact zw_sub (ma_nd_of (ks := [0, 1, 2, 3]) rfl (by decide)) (ma_nd_of (ks := [3, 4, 0, 1, 2]) rfl (by decide)) (ma_le_cons rfl (ma_le_cons rfl (ma_le_cons rfl (ma_le_cons rfl (ma_le_nil _))))) h
        · intro hc
          rw [if_neg hc] at h
          refine zw_push hm_89 dX7_thingFrom_26 (v := .inl (mI S 71 l3.toNatClampNeg)) rfl ?_
          refine zw_push hm_89 dX7_thingFrom_27 (v := .inl (512 : Int32)) rfl ?_
          refine zw_if2 hm_89 dX7_thingFrom_30 (t := 42) rfl zc2_ge ?_ ?_
          · intro hc
            rw [if_pos hc] at h
            refine zw_push hm_89 dX7_thingFrom_42 (v := .inr (.inr none)) rfl ?_
            refine zw_aret hm_89 dX7_thingFrom_43 ?_
            show ma_wp X d w 263 17 [(0, .inr (.inr (some 82))), (1, .inl l1), (2, .inl l2), (3, .inl l3)] [.inr (.inr none)] S _
            refine zw_sto hm_263 dX1_slideDown_17 [(4, .inr (.inr none)), (0, .inr (.inr (some 82))), (1, .inl l1), (2, .inl l2), (3, .inl l3)] rfl rfl rfl ?_
            refine zw_push hm_263 dX1_slideDown_19 (v := .inr (.inr none)) rfl ?_
            refine zw_ifnonnull hm_263 dX1_slideDown_21 (t := 30) rfl (fun _ => ?_) (fun _ z => by cases z)
            refine zw_sto hm_263 dX1_slideDown_24 [(3, .inl (l3 + (1 : Int32))), (4, .inr (.inr none)), (0, .inr (.inr (some 82))), (1, .inl l1), (2, .inl l2)] rfl rfl rfl ?_
            refine zw_goto hm_263 dX1_slideDown_27 (t := 68) rfl ?_
            refine zw_goto hm_263 dX1_slideDown_68 (t := 4) rfl ?_
            exact zw_sub (ma_nd_of (ks := [0, 1, 2, 3]) rfl (by decide)) (ma_nd_of (ks := [3, 4, 0, 1, 2]) rfl (by decide)) (ma_le_cons rfl (ma_le_cons rfl (ma_le_cons rfl (ma_le_cons rfl (ma_le_nil _))))) h
          · intro hc
            rw [if_neg hc] at h
            refine zw_push hm_89 dX7_thingFrom_33 (v := .inr (.inr (some 69))) rfl ?_
            refine zw_gf hm_89 dX7_thingFrom_34 (v := .inr (.inr (some 70))) (zT_is hS s_69) (zT_t hS s_69) rfl f_7_11_7 (zT_f hS r_69_0) ?_
            refine zw_push hm_89 dX7_thingFrom_37 (v := .inl (mI S 71 l3.toNatClampNeg)) rfl ?_
            obtain ⟨hg, h⟩ := h
            refine zw_aa hm_89 dX7_thingFrom_38 (zT_is hS s_70) (zT_h hS s_70) rfl rfl hg rfl ?_
            show ma_wp X (d - 1) (w - 22) 89 39 [(2, .inl (mI S 71 l3.toNatClampNeg)), (0, .inr (.inr (some 69))), (1, .inl l3)] [.inr (.inr (mR S 70 (mI S 71 l3.toNatClampNeg).toNatClampNeg))] S _
            refine zw_goto hm_89 dX7_thingFrom_39 (t := 43) rfl ?_
            refine zw_aret hm_89 dX7_thingFrom_43 ?_
            show ma_wp X d w 263 17 [(0, .inr (.inr (some 82))), (1, .inl l1), (2, .inl l2), (3, .inl l3)] [.inr (.inr (mR S 70 (mI S 71 l3.toNatClampNeg).toNatClampNeg))] S _
            refine zw_sto hm_263 dX1_slideDown_17 [(4, .inr (.inr (mR S 70 (mI S 71 l3.toNatClampNeg).toNatClampNeg))), (0, .inr (.inr (some 82))), (1, .inl l1), (2, .inl l2), (3, .inl l3)] rfl rfl rfl ?_
            refine zw_push hm_263 dX1_slideDown_19 (v := .inr (.inr (mR S 70 (mI S 71 l3.toNatClampNeg).toNatClampNeg))) rfl ?_
            refine zw_ifnonnull hm_263 dX1_slideDown_21 (t := 30) rfl ?_ ?_
            · intro hc
              have h := h.1 hc
              (try rw [hc])
              show ma_wp X d w 263 24 [(4, .inr (.inr none)), (0, .inr (.inr (some 82))), (1, .inl l1), (2, .inl l2), (3, .inl l3)] [] S _
              refine zw_sto hm_263 dX1_slideDown_24 [(3, .inl (l3 + (1 : Int32))), (4, .inr (.inr none)), (0, .inr (.inr (some 82))), (1, .inl l1), (2, .inl l2)] rfl rfl rfl ?_
              refine zw_goto hm_263 dX1_slideDown_27 (t := 68) rfl ?_
              refine zw_goto hm_263 dX1_slideDown_68 (t := 4) rfl ?_
              exact zw_sub (ma_nd_of (ks := [0, 1, 2, 3]) rfl (by decide)) (ma_nd_of (ks := [3, 4, 0, 1, 2]) rfl (by decide)) (ma_le_cons rfl (ma_le_cons rfl (ma_le_cons rfl (ma_le_cons rfl (ma_le_nil _))))) h
            · intro c1 hc
              have h := h.2 c1 hc
              (try rw [hc])
              show ma_wp X d w 263 30 [(4, .inr (.inr (some c1))), (0, .inr (.inr (some 82))), (1, .inl l1), (2, .inl l2), (3, .inl l3)] [] S _
              refine zw_push hm_263 dX1_slideDown_30 (v := .inl l3) rfl ?_
              refine zw_push hm_263 dX1_slideDown_31 (v := .inr (.inr (some c1))) rfl ?_
              obtain ⟨hg, h⟩ := h
              refine zw_gf hm_263 dX1_slideDown_33 (v := .inl (mI S c1 2)) (zT_tis hS hg) (zT_tt hS hg) rfl f_13_38_9 rfl ?_
              refine zw_stk hm_263 dX1_slideDown_36 (st₉ := [.inl (l3 + (mI S c1 2))]) rfl rfl ?_
              refine zw_sto hm_263 dX1_slideDown_37 [(3, .inl (l3 + (mI S c1 2))), (4, .inr (.inr (some c1))), (0, .inr (.inr (some 82))), (1, .inl l1), (2, .inl l2)] rfl rfl rfl ?_
              refine zw_push hm_263 dX1_slideDown_38 (v := .inr (.inr (some c1))) rfl ?_
              obtain ⟨hg, h⟩ := h
              refine zw_gf hm_263 dX1_slideDown_40 (v := .inl (mI S c1 7)) (zT_tis hS hg) (zT_tt hS hg) rfl f_13_44_9 rfl ?_
              refine zw_if0 hm_263 dX1_slideDown_43 (t := 56) rfl zc0_ne ?_ ?_
              · intro hc
                rw [if_neg hc] at h
                refine zw_push hm_263 dX1_slideDown_56 (v := .inr (.inr (some c1))) rfl ?_
                obtain ⟨hg, h⟩ := h
                refine zw_gf hm_263 dX1_slideDown_58 (v := .inl (mI S c1 4)) (zT_tis hS hg) (zT_tt hS hg) rfl f_13_51_9 rfl ?_
                refine zw_push hm_263 dX1_slideDown_61 (v := .inr (.inr (some c1))) rfl ?_
                obtain ⟨hg, h⟩ := h
                refine zw_gf hm_263 dX1_slideDown_63 (v := .inl (mI S c1 2)) (zT_tis hS hg) (zT_tt hS hg) rfl f_13_38_9 rfl ?_
                refine zw_stk hm_263 dX1_slideDown_66 (st₉ := [.inl ((mI S c1 4) + (mI S c1 2))]) rfl rfl ?_
                refine zw_sto hm_263 dX1_slideDown_67 [(2, .inl ((mI S c1 4) + (mI S c1 2))), (3, .inl (l3 + (mI S c1 2))), (4, .inr (.inr (some c1))), (0, .inr (.inr (some 82))), (1, .inl l1)] rfl rfl rfl ?_
                refine zw_goto hm_263 dX1_slideDown_68 (t := 4) rfl ?_
                exact zw_sub (ma_nd_of (ks := [0, 1, 2, 3]) rfl (by decide)) (ma_nd_of (ks := [2, 3, 4, 0, 1]) rfl (by decide)) (ma_le_cons rfl (ma_le_cons rfl (ma_le_cons rfl (ma_le_cons rfl (ma_le_nil _))))) h
              · intro hc
                rw [if_pos (Classical.not_not.mp hc)] at h
                refine zw_push hm_263 dX1_slideDown_46 (v := .inr (.inr (some 82))) rfl ?_
                refine zw_gf hm_263 dX1_slideDown_47 (v := .inr (.inr (some 69))) (zT_is hS s_82) (zT_t hS s_82) rfl f_13_9_1 (zT_f hS r_82_0) ?_
                refine zw_push hm_263 dX1_slideDown_50 (v := .inr (.inr (some c1))) rfl ?_
                refine zw_push hm_263 dX1_slideDown_52 (v := .inl l2) rfl ?_
                refine zw_cv hm_263 dX1_slideDown_53 v_13_47_7 hm_90 [.inl l2, .inr (.inr (some c1))] [] rfl (zT_rt hS s_69 rfl) ⟨by omega, by omega⟩ rfl (zw_mono h (zv_go ?_ ?_))
                · intro S2 hv
                  obtain ⟨hS2, h⟩ := hv
                  refine zw_push hm_263 dX1_slideDown_56 (v := .inr (.inr (some c1))) rfl ?_
                  obtain ⟨hg, h⟩ := h
                  refine zw_gf hm_263 dX1_slideDown_58 (v := .inl (mI S2 c1 4)) (zT_tis hS2 hg) (zT_tt hS2 hg) rfl f_13_51_9 rfl ?_
                  refine zw_push hm_263 dX1_slideDown_61 (v := .inr (.inr (some c1))) rfl ?_
                  obtain ⟨hg, h⟩ := h
                  refine zw_gf hm_263 dX1_slideDown_63 (v := .inl (mI S2 c1 2)) (zT_tis hS2 hg) (zT_tt hS2 hg) rfl f_13_38_9 rfl ?_
                  refine zw_stk hm_263 dX1_slideDown_66 (st₉ := [.inl ((mI S2 c1 4) + (mI S2 c1 2))]) rfl rfl ?_
                  refine zw_sto hm_263 dX1_slideDown_67 [(2, .inl ((mI S2 c1 4) + (mI S2 c1 2))), (3, .inl (l3 + (mI S c1 2))), (4, .inr (.inr (some c1))), (0, .inr (.inr (some 82))), (1, .inl l1)] rfl rfl rfl ?_
                  refine zw_goto hm_263 dX1_slideDown_68 (t := 4) rfl ?_
                  exact zw_sub (ma_nd_of (ks := [0, 1, 2, 3]) rfl (by decide)) (ma_nd_of (ks := [2, 3, 4, 0, 1]) rfl (by decide)) (ma_le_cons rfl (ma_le_cons rfl (ma_le_cons rfl (ma_le_cons rfl (ma_le_nil _))))) h
                · intro x S9 hx
                  exact ⟨by decide, hx⟩
theorem lp_263_82_s_4 {X : Nat × (Nat → Int32)} {d w : Nat} {f : Nat → Nat → Int32} {r : Nat → Nat → Option Nat} {C Z N : Nat} {Q : Option ma_V ⊕ Nat → ma_S → Prop} {ab : Nat→Nat→Int32} {q : Nat→Int32} {lm : Int32} (hd : 2 ≤ d) (hw : 114 ≤ w) (K : ∀ v S₉, zI f r C Z N S₉ → (0 ≤ v.toInt ∧ v.toInt ≤ 300000) → (xB S₉ (mR S₉ 70)) → (aM q S₉ = (zSd ab lm.toInt 0 0).1 ∧ v.toInt = (zSd ab lm.toInt 0 0).2 ∧ ∃ p, lm.toInt ≤ p ∧ qJs (aM q S₉) p v.toInt) → Q (.inl (some (.inl v))) S₉) : ∀ (n : Nat) (S : ma_S) (l1 : Int32) (l2 : Int32) (l3 : Int32), (l1.toInt - l3.toInt).toNat = n → zI f r C Z N S → (0 ≤ l2.toInt) → (l2.toInt ≤ 300000) → (l1.toInt ≤ 1500) → (l1.toInt = lm.toInt) → (0 ≤ l3.toInt) → (xB S (mR S 70)) → (zSd (aM q S) lm.toInt l3.toInt l2.toInt = zSd ab lm.toInt 0 0) → (qJs (aM q S) l3.toInt l2.toInt) → ((q 2).toInt = 0) → ma_wp X d w 263 4 [(0, .inr (.inr (some 82))), (1, .inl l1), (2, .inl l2), (3, .inl l3)] [] S Q := by
  intro n
  induction n using Nat.strongRecOn with
  | _ n IH =>
    intro S l1 l2 l3 hmu hI  hi0 hi1 hi2 hi3 hi4 hi5 hi6 hi7 hi8
    refine g_263_82_s_4 l1 l2 l3 (by omega) (by omega) (zG_T hI) ?_
    have js2 := hi7.2.1
    have b1 := i_bd l1
    have b2 := i_bd l3
    refine zd (fun h3 => ?_) (fun h3 => ?_)
    · skip
      have g4 := i_le h3
      have b5 := i_bd l2
      exact K (l2) _ hI (by omega) (show xB S (mR S 70) from by first | (exact xB_x (xC_o (W := 75) hi5).2)) (show aM q S = (zSd ab lm.toInt 0 0).1 ∧ l2.toInt = (zSd ab lm.toInt 0 0).2 ∧ ∃ p, lm.toInt ≤ p ∧ qJs (aM q S) p l2.toInt from by first | (have z := (Sd_n (a := aM q S) (e := l2.toInt) (by omega)).symm.trans hi6; exact ⟨congrArg Prod.fst z, congrArg Prod.snd z, _, by omega, hi7⟩))
    · skip
      have g6 := i_nle h3
      have li7 : (0 : Int32).toInt = 0 := rfl
      refine zd (fun h8 => ?_) (fun h8 => ?_)
      · skip
        have g9 := i_lt h8
        have b10 := i_bd l2
        first | have e11 : (l3 + (1 : Int32)).toInt = l3.toInt + (1) := i_addk rfl (by omega) (by omega) | have b12 := i_bd (l3 + (1 : Int32))
        exact IH _ (by omega) _ (l1) (l2) ((l3 + (1 : Int32))) rfl hI (by omega) (by omega) (by omega) (by omega) (by omega) (show xB S (mR S 70) from by first | (exact xB_x (xC_o (W := 75) hi5).2)) (show zSd (aM q S) lm.toInt ((l3 + (1 : Int32))).toInt (l2).toInt = zSd ab lm.toInt 0 0 from by first | (have s1 := S1_I hi7.1; have o := (ob_n1 (a := aM q S) (p := l3.toInt) (by omega)); rw [show (l3 + (1 : Int32)).toInt = l3.toInt + 1 from by omega]; exact (Sd_fr s1 (by omega) (ob_neg o)).symm.trans hi6) | (have s1 := S1_I hi7.1; have o := (mb_n2 (q := q) (S := S) (x := l3) (by omega)); rw [show (l3 + (1 : Int32)).toInt = l3.toInt + 1 from by omega]; exact (Sd_fr s1 (by omega) (ob_neg o)).symm.trans hi6)) (show qJs (aM q S) ((l3 + (1 : Int32))).toInt (l2).toInt from by first | (have o := (ob_n1 (a := aM q S) (p := l3.toInt) (by omega)); rw [show (l3 + (1 : Int32)).toInt = l3.toInt + 1 from by omega]; exact Js_fr hi7 (ob_neg o) (by omega)) | (have o := (mb_n2 (q := q) (S := S) (x := l3) (by omega)); rw [show (l3 + (1 : Int32)).toInt = l3.toInt + 1 from by omega]; exact Js_fr hi7 (ob_neg o) (by omega))) (show (q 2).toInt = 0 from by first | (exact hi8) | (exact rfl))
      · skip
        have g13 := i_nlt h8
        have li14 : (4500 : Int32).toInt = 4500 := rfl
        refine zd (fun h15 => ?_) (fun h15 => ?_)
        · skip
          have g16 := i_le h15
          have b17 := i_bd l2
          first | have e18 : (l3 + (1 : Int32)).toInt = l3.toInt + (1) := i_addk rfl (by omega) (by omega) | have b19 := i_bd (l3 + (1 : Int32))
          exact IH _ (by omega) _ (l1) (l2) ((l3 + (1 : Int32))) rfl hI (by omega) (by omega) (by omega) (by omega) (by omega) (show xB S (mR S 70) from by first | (exact xB_x (xC_o (W := 75) hi5).2)) (show zSd (aM q S) lm.toInt ((l3 + (1 : Int32))).toInt (l2).toInt = zSd ab lm.toInt 0 0 from by first | (have s1 := S1_I hi7.1; have o := (ob_n1 (a := aM q S) (p := l3.toInt) (by omega)); rw [show (l3 + (1 : Int32)).toInt = l3.toInt + 1 from by omega]; exact (Sd_fr s1 (by omega) (ob_neg o)).symm.trans hi6) | (have s1 := S1_I hi7.1; have o := (mb_n2 (q := q) (S := S) (x := l3) (by omega)); rw [show (l3 + (1 : Int32)).toInt = l3.toInt + 1 from by omega]; exact (Sd_fr s1 (by omega) (ob_neg o)).symm.trans hi6)) (show qJs (aM q S) ((l3 + (1 : Int32))).toInt (l2).toInt from by first | (have o := (ob_n1 (a := aM q S) (p := l3.toInt) (by omega)); rw [show (l3 + (1 : Int32)).toInt = l3.toInt + 1 from by omega]; exact Js_fr hi7 (ob_neg o) (by omega)) | (have o := (mb_n2 (q := q) (S := S) (x := l3) (by omega)); rw [show (l3 + (1 : Int32)).toInt = l3.toInt + 1 from by omega]; exact Js_fr hi7 (ob_neg o) (by omega))) (show (q 2).toInt = 0 from by first | (exact hi8) | (exact rfl))
        · skip
          have g20 := i_nle h15
          refine ⟨i_ix (by omega) (by omega), ?_⟩
          have b21 := i_bd (mI S 71 l3.toNatClampNeg)
          refine zd (fun h22 => ?_) (fun h22 => ?_)
          · skip
            have g23 := i_lt h22
            have b24 := i_bd l2
            first | have e25 : (l3 + (1 : Int32)).toInt = l3.toInt + (1) := i_addk rfl (by omega) (by omega) | have b26 := i_bd (l3 + (1 : Int32))
            exact IH _ (by omega) _ (l1) (l2) ((l3 + (1 : Int32))) rfl hI (by omega) (by omega) (by omega) (by omega) (by omega) (show xB S (mR S 70) from by first | (exact xB_x (xC_o (W := 75) hi5).2)) (show zSd (aM q S) lm.toInt ((l3 + (1 : Int32))).toInt (l2).toInt = zSd ab lm.toInt 0 0 from by first | (have s1 := S1_I hi7.1; have o := (ob_n1 (a := aM q S) (p := l3.toInt) (by omega)); rw [show (l3 + (1 : Int32)).toInt = l3.toInt + 1 from by omega]; exact (Sd_fr s1 (by omega) (ob_neg o)).symm.trans hi6) | (have s1 := S1_I hi7.1; have o := (mb_n2 (q := q) (S := S) (x := l3) (by omega)); rw [show (l3 + (1 : Int32)).toInt = l3.toInt + 1 from by omega]; exact (Sd_fr s1 (by omega) (ob_neg o)).symm.trans hi6)) (show qJs (aM q S) ((l3 + (1 : Int32))).toInt (l2).toInt from by first | (have o := (ob_n1 (a := aM q S) (p := l3.toInt) (by omega)); rw [show (l3 + (1 : Int32)).toInt = l3.toInt + 1 from by omega]; exact Js_fr hi7 (ob_neg o) (by omega)) | (have o := (mb_n2 (q := q) (S := S) (x := l3) (by omega)); rw [show (l3 + (1 : Int32)).toInt = l3.toInt + 1 from by omega]; exact Js_fr hi7 (ob_neg o) (by omega))) (show (q 2).toInt = 0 from by first | (exact hi8) | (exact rfl))
          · skip
            have g27 := i_nlt h22
            have li28 : (512 : Int32).toInt = 512 := rfl
            refine zd (fun h29 => ?_) (fun h29 => ?_)
            · skip
              have g30 := i_le h29
              have b31 := i_bd l2
              first | have e32 : (l3 + (1 : Int32)).toInt = l3.toInt + (1) := i_addk rfl (by omega) (by omega) | have b33 := i_bd (l3 + (1 : Int32))
              exact IH _ (by omega) _ (l1) (l2) ((l3 + (1 : Int32))) rfl hI (by omega) (by omega) (by omega) (by omega) (by omega) (show xB S (mR S 70) from by first | (exact xB_x (xC_o (W := 75) hi5).2)) (show zSd (aM q S) lm.toInt ((l3 + (1 : Int32))).toInt (l2).toInt = zSd ab lm.toInt 0 0 from by first | (have s1 := S1_I hi7.1; have o := (ob_n1 (a := aM q S) (p := l3.toInt) (by omega)); rw [show (l3 + (1 : Int32)).toInt = l3.toInt + 1 from by omega]; exact (Sd_fr s1 (by omega) (ob_neg o)).symm.trans hi6) | (have s1 := S1_I hi7.1; have o := (mb_n2 (q := q) (S := S) (x := l3) (by omega)); rw [show (l3 + (1 : Int32)).toInt = l3.toInt + 1 from by omega]; exact (Sd_fr s1 (by omega) (ob_neg o)).symm.trans hi6)) (show qJs (aM q S) ((l3 + (1 : Int32))).toInt (l2).toInt from by first | (have o := (ob_n1 (a := aM q S) (p := l3.toInt) (by omega)); rw [show (l3 + (1 : Int32)).toInt = l3.toInt + 1 from by omega]; exact Js_fr hi7 (ob_neg o) (by omega)) | (have o := (mb_n2 (q := q) (S := S) (x := l3) (by omega)); rw [show (l3 + (1 : Int32)).toInt = l3.toInt + 1 from by omega]; exact Js_fr hi7 (ob_neg o) (by omega))) (show (q 2).toInt = 0 from by first | (exact hi8) | (exact rfl))
            · skip
              have g34 := i_nle h29
              refine ⟨i_ix (by omega) (by omega), ?_⟩
              refine ⟨fun hc => ?_, fun c1 hc => ?_⟩
              · skip
                have rn_c1 : zTa (mR S 70) (mI S 71 l3.toNatClampNeg) = none := (ta_rd (y := (mI S 71 l3.toNatClampNeg)) hi5 (by omega) (by omega)).symm.trans hc
                have b35 := i_bd l2
                first | have e36 : (l3 + (1 : Int32)).toInt = l3.toInt + (1) := i_addk rfl (by omega) (by omega) | have b37 := i_bd (l3 + (1 : Int32))
                exact IH _ (by omega) _ (l1) (l2) ((l3 + (1 : Int32))) rfl hI (by omega) (by omega) (by omega) (by omega) (by omega) (show xB S (mR S 70) from by first | (exact xB_x (xC_o (W := 75) hi5).2)) (show zSd (aM q S) lm.toInt ((l3 + (1 : Int32))).toInt (l2).toInt = zSd ab lm.toInt 0 0 from by first | (have s1 := S1_I hi7.1; have o := (mb_n3 (q := q) (x := l3) hi5 rn_c1); rw [show (l3 + (1 : Int32)).toInt = l3.toInt + 1 from by omega]; exact (Sd_fr s1 (by omega) (ob_neg o)).symm.trans hi6)) (show qJs (aM q S) ((l3 + (1 : Int32))).toInt (l2).toInt from by first | (have o := (mb_n3 (q := q) (x := l3) hi5 rn_c1); rw [show (l3 + (1 : Int32)).toInt = l3.toInt + 1 from by omega]; exact Js_fr hi7 (ob_neg o) (by omega))) (show (q 2).toInt = 0 from by first | (exact hi8) | (exact rfl))
              · skip
                have th_c1 := (fun _ z => zG_70 hI (c := 70) (by decide) z) c1 hc
                have rg_c1 : zTa (mR S 70) (mI S 71 l3.toNatClampNeg) = some c1 := (ta_rd (y := (mI S 71 l3.toNatClampNeg)) hi5 (by omega) (by omega)).symm.trans hc
                refine ⟨zG_n hI th_c1, ?_⟩
                refine ⟨zG_n hI th_c1, ?_⟩
                have b38 := i_bd (mI S c1 7)
                refine zd (fun h39 => ?_) (fun h39 => ?_)
                · skip
                  have g40 := i_eq h39
                  have b41 := i_bd l2
                  refine sp_90_69_s (ab := (aS 75 S)) (R := (mR S 70)) (y := ((mI S 71 l3.toNatClampNeg))) c1 (l2) (by omega) (by omega) hI th_c1 (show xB S (mR S 70) from by first | (exact xB_x (xC_o (W := 75) hi5).2)) (show aS 75 S = (aS 75 S) from by first | (exact rfl)) (show zTa (mR S 70) ((mI S 71 l3.toNatClampNeg)) = some c1 from by first | (exact rg_c1)) (show qMv (aS 75 S) ((mI S 71 l3.toNatClampNeg)).toNatClampNeg l2 from by first | (have o := mb_y (q := q) (x := l3) hi5 rg_c1 (by omega) (by omega); have ty := xB_th (W := 75) hi5 rg_c1; have h7 : aM q S 133 (mI S 71 l3.toNatClampNeg).toNatClampNeg = mI S c1 7 := (aM_o (by decide)).trans ty.2.2.2.2.2.2.1.symm; have ob0 : 0 ≤ (zOb (aM q S) l3.toInt).toInt := (by rw [o.1]; exact ty.1); have js := (Js_ob hi7 ob0).2.1; rw [o.1, aM_o (c := 130) (by decide), ← ty.2.2.2.2.2.1] at js; have z := (Js_fq hi7 ob0 (to := l2) rfl).2.1; rw [o.1] at z; exact Mv_S z)) (by omega) (fun S2 hI_S2 rp0_S2 rp1_S2 => zv_n ⟨zG_T hI_S2, ?_⟩)
                  have rp0_S2 : xB S2 (mR S 70) := rp0_S2
                  have rp1_S2 : aS 75 S2 = aMo (aS 75 S) ((mI S 71 l3.toNatClampNeg)).toNatClampNeg l2 := rp1_S2
                  refine ⟨zG_n hI_S2 th_c1, ?_⟩
                  refine ⟨zG_n hI_S2 th_c1, ?_⟩
                  have f42 := zG_th hI_S2 th_c1
                  have f43 := zG_th hI_S2 th_c1
                  first | have e44 : ((mI S2 c1 4) + (mI S2 c1 2)).toInt = (mI S2 c1 4).toInt + (mI S2 c1 2).toInt := i_add (by omega) (by omega) | have b45 := i_bd ((mI S2 c1 4) + (mI S2 c1 2))
                  have f46 := zG_th hI th_c1
                  first | have e47 : (l3 + (mI S c1 2)).toInt = l3.toInt + (mI S c1 2).toInt := i_add (by omega) (by omega) | have b48 := i_bd (l3 + (mI S c1 2))
                  exact IH _ (by omega) _ (l1) (((mI S2 c1 4) + (mI S2 c1 2))) ((l3 + (mI S c1 2))) rfl hI_S2 (by omega) (by omega) (by omega) (by omega) (by omega) (show xB S2 (mR S2 70) from by first | (exact xB_x (xC_o (W := 75) rp0_S2).2)) (show zSd (aM q S2) lm.toInt ((l3 + (mI S c1 2))).toInt (((mI S2 c1 4) + (mI S2 c1 2))).toInt = zSd ab lm.toInt 0 0 from by first | (have s1 := S1_I hi7.1; have o := mb_y (q := q) (x := l3) hi5 rg_c1 (by omega) (by omega); have ty := xB_th (W := 75) hi5 rg_c1; have h7 : aM q S 133 (mI S 71 l3.toNatClampNeg).toNatClampNeg = mI S c1 7 := (aM_o (by decide)).trans ty.2.2.2.2.2.2.1.symm; have ob0 : 0 ≤ (zOb (aM q S) l3.toInt).toInt := (by rw [o.1]; exact ty.1); have js := (Js_ob hi7 ob0).2.1; rw [o.1, aM_o (c := 130) (by decide), ← ty.2.2.2.2.2.1] at js; have z := Sd_mv (e := l2.toInt) (lim := lm.toInt) s1 (by omega) ob0 (by rw [o.1, h7]; exact i_zer (by omega)); rw [o.1, o.2, Int32.ofInt_toInt] at z; have u := xB_th (W := 75) rp0_S2 rg_c1; have u4 := congrArg Int32.toInt u.2.2.2.2.2.1; have u2 := congrArg Int32.toInt u.2.2.2.2.1; rw [rp1_S2, Mo_pn] at u4; rw [rp1_S2, Mo_r (by decide) (by decide), ← ty.2.2.2.2.1] at u2; rw [M_mo rp1_S2]; refine Eq.trans ?_ (z.symm.trans hi6); congr 1 <;> omega)) (show qJs (aM q S2) ((l3 + (mI S c1 2))).toInt (((mI S2 c1 4) + (mI S2 c1 2))).toInt from by first | (have o := mb_y (q := q) (x := l3) hi5 rg_c1 (by omega) (by omega); have ty := xB_th (W := 75) hi5 rg_c1; have h7 : aM q S 133 (mI S 71 l3.toNatClampNeg).toNatClampNeg = mI S c1 7 := (aM_o (by decide)).trans ty.2.2.2.2.2.2.1.symm; have ob0 : 0 ≤ (zOb (aM q S) l3.toInt).toInt := (by rw [o.1]; exact ty.1); have js := (Js_ob hi7 ob0).2.1; rw [o.1, aM_o (c := 130) (by decide), ← ty.2.2.2.2.2.1] at js; have z := Js_mv hi7 ob0 (to := l2) rfl (by rw [aM_7]; exact hi8); rw [o.1, o.2] at z; have u := xB_th (W := 75) rp0_S2 rg_c1; have u4 := congrArg Int32.toInt u.2.2.2.2.2.1; have u2 := congrArg Int32.toInt u.2.2.2.2.1; rw [rp1_S2, Mo_pn] at u4; rw [rp1_S2, Mo_r (by decide) (by decide), ← ty.2.2.2.2.1] at u2; rw [M_mo rp1_S2]; refine (show ∀ {b : Nat → Nat → Int32} {p p2 e e2 : Int}, qJs b p e → p = p2 → e = e2 → qJs b p2 e2 from fun h h1 h2 => h1 ▸ h2 ▸ h) z ?_ ?_ <;> omega)) (show (q 2).toInt = 0 from by first | (exact hi8) | (exact rfl))
                · skip
                  have g49 := i_ne h39
                  refine ⟨zG_n hI th_c1, ?_⟩
                  refine ⟨zG_n hI th_c1, ?_⟩
                  have f50 := zG_th hI th_c1
                  have f51 := zG_th hI th_c1
                  first | have e52 : ((mI S c1 4) + (mI S c1 2)).toInt = (mI S c1 4).toInt + (mI S c1 2).toInt := i_add (by omega) (by omega) | have b53 := i_bd ((mI S c1 4) + (mI S c1 2))
                  first | have e54 : (l3 + (mI S c1 2)).toInt = l3.toInt + (mI S c1 2).toInt := i_add (by omega) (by omega) | have b55 := i_bd (l3 + (mI S c1 2))
                  exact IH _ (by omega) _ (l1) (((mI S c1 4) + (mI S c1 2))) ((l3 + (mI S c1 2))) rfl hI (by omega) (by omega) (by omega) (by omega) (by omega) (show xB S (mR S 70) from by first | (exact xB_x (xC_o (W := 75) hi5).2)) (show zSd (aM q S) lm.toInt ((l3 + (mI S c1 2))).toInt (((mI S c1 4) + (mI S c1 2))).toInt = zSd ab lm.toInt 0 0 from by first | (have s1 := S1_I hi7.1; have o := mb_y (q := q) (x := l3) hi5 rg_c1 (by omega) (by omega); have ty := xB_th (W := 75) hi5 rg_c1; have h7 : aM q S 133 (mI S 71 l3.toNatClampNeg).toNatClampNeg = mI S c1 7 := (aM_o (by decide)).trans ty.2.2.2.2.2.2.1.symm; have ob0 : 0 ≤ (zOb (aM q S) l3.toInt).toInt := (by rw [o.1]; exact ty.1); have js := (Js_ob hi7 ob0).2.1; rw [o.1, aM_o (c := 130) (by decide), ← ty.2.2.2.2.2.1] at js; have z := Sd_ho (e := l2.toInt) (lim := lm.toInt) s1 (by omega) ob0 (by rw [o.1, h7]; exact i_nz2 (by omega)); rw [o.1, o.2] at z; refine Eq.trans ?_ (z.symm.trans hi6); congr 1 <;> omega)) (show qJs (aM q S) ((l3 + (mI S c1 2))).toInt (((mI S c1 4) + (mI S c1 2))).toInt from by first | (have o := mb_y (q := q) (x := l3) hi5 rg_c1 (by omega) (by omega); have ty := xB_th (W := 75) hi5 rg_c1; have h7 : aM q S 133 (mI S 71 l3.toNatClampNeg).toNatClampNeg = mI S c1 7 := (aM_o (by decide)).trans ty.2.2.2.2.2.2.1.symm; have ob0 : 0 ≤ (zOb (aM q S) l3.toInt).toInt := (by rw [o.1]; exact ty.1); have js := (Js_ob hi7 ob0).2.1; rw [o.1, aM_o (c := 130) (by decide), ← ty.2.2.2.2.2.1] at js; have z := Js_ho hi7 ob0; rw [o.1, o.2] at z; refine (show ∀ {p p2 e e2 : Int}, qJs (aM q S) p e → p = p2 → e = e2 → qJs (aM q S) p2 e2 from fun h h1 h2 => h1 ▸ h2 ▸ h) z ?_ ?_ <;> omega)) (show (q 2).toInt = 0 from by first | (exact hi8) | (exact rfl))
theorem sp_263_82_s {X : Nat × (Nat → Int32)} {d w : Nat} {f : Nat → Nat → Int32} {r : Nat → Nat → Option Nat} {C Z N : Nat} {Q : Option ma_V ⊕ Nat → ma_S → Prop} {ab : Nat→Nat→Int32} {q : Nat→Int32} {S : ma_S} (lm : Int32) (hd : 2 ≤ d) (hw : 114 ≤ w) (hI : zI f r C Z N S) (hpre0 : lm.toInt ≤ 1500) (hpre1 : xB S (mR S 70)) (hpre2 : aM q S = ab) (hpre3 : qI ab) (hpre4 : (q 2).toInt = 0) (K : ∀ v S₉, zI f r C Z N S₉ → (0 ≤ v.toInt ∧ v.toInt ≤ 300000) → (xB S₉ (mR S₉ 70)) → (aM q S₉ = (zSd ab lm.toInt 0 0).1 ∧ v.toInt = (zSd ab lm.toInt 0 0).2 ∧ ∃ p, lm.toInt ≤ p ∧ qJs (aM q S₉) p v.toInt) → Q (.inl (some (.inl v))) S₉) : ma_wp X d w 263 0 [(0, .inr (.inr (some 82))), (1, .inl lm)] [] S Q := by
  refine g_263_82_s_0 lm (by omega) (by omega) (zG_T hI) ?_
  have b1 := i_bd lm
  have li2 : (0 : Int32).toInt = 0 := rfl
  exact lp_263_82_s_4 (by omega) (by omega) K _ _ (lm) ((0 : Int32)) ((0 : Int32)) rfl hI (by omega) (by omega) (by omega) (by omega) (by omega) (show xB S (mR S 70) from by first | (exact xB_x (xC_o (W := 75) hpre1).2)) (show zSd (aM q S) lm.toInt ((0 : Int32)).toInt ((0 : Int32)).toInt = zSd ab lm.toInt 0 0 from by first | (rw [hpre2]; rfl)) (show qJs (aM q S) ((0 : Int32)).toInt ((0 : Int32)).toInt from by first | (rw [hpre2]; exact Js_0 hpre3)) (show (q 2).toInt = 0 from by first | (exact hpre4) | (exact rfl))

/-! from 95.q21 -/
/-! the moving collectors, the class (written by wip/tools/gen15.py) -/
theorem g_62_80_sl_0 {X : Nat × (Nat → Int32)} {d w : Nat} {S : ma_S} {Q : Option ma_V ⊕ Nat → ma_S → Prop}  (hd : 4 ≤ d) (hw : 138 ≤ w) (hS : zT S) (h : ma_wp X (d - 1) (w - 20) 264 0 [(0, .inr (.inr (some 80)))] [] S (zi (fun v2 S1 => zT S1 ∧ (ma_wp X (d - 1) (w - 24) 263 0 [(0, .inr (.inr (some 80))), (1, .inl (mI S1 80 2))] [] S1 (zi (fun v4 S3 => zT S3 ∧ (Q (.inl (some (.inl v2))) (ma_put S3 80 3 (.inl v4)))) (fun _ _ => False)))) (fun _ _ => False))) : ma_wp X d w 62 0 [(0, .inr (.inr (some 80)))] [] S Q := by
  refine zw_push hm_62 dX5_cleanAll_0 (v := .inr (.inr (some 80))) rfl ?_
  refine zw_cv hm_62 dX5_cleanAll_1 v_5_30_5 hm_264 [] [] rfl (zT_rt hS s_80 rfl) ⟨by omega, by omega⟩ rfl (zw_mono h (zi_go ?_ ?_))
  · intro v2 S1 hv
    obtain ⟨hS1, h⟩ := hv
    refine zw_sto hm_62 dX5_cleanAll_4 [(1, .inl v2), (0, .inr (.inr (some 80)))] rfl rfl rfl ?_
    refine zw_push hm_62 dX5_cleanAll_5 (v := .inr (.inr (some 80))) rfl ?_
    refine zw_push hm_62 dX5_cleanAll_6 (v := .inr (.inr (some 80))) rfl ?_
    refine zw_push hm_62 dX5_cleanAll_7 (v := .inr (.inr (some 80))) rfl ?_
    refine zw_gf hm_62 dX5_cleanAll_8 (v := .inl (mI S1 80 2)) (zT_is hS1 s_80) (zT_t hS1 s_80) rfl f_5_9_5 rfl ?_
    refine zw_cv hm_62 dX5_cleanAll_11 v_5_33_5 hm_263 [.inl (mI S1 80 2)] [.inr (.inr (some 80))] rfl (zT_rt hS1 s_80 rfl) ⟨by omega, by omega⟩ rfl (zw_mono h (zi_go ?_ ?_))
    · intro v4 S3 hv
      obtain ⟨hS3, h⟩ := hv
      refine zw_pf hm_62 dX5_cleanAll_14 (zT_is hS3 s_80) (zT_t hS3 s_80) p_5_15_5 zk_int ?_
      refine zw_push hm_62 dX5_cleanAll_17 (v := .inl v2) rfl ?_
      exact zw_iret hm_62 dX5_cleanAll_18 h
    · intro x S9 hx
      exact hx.elim
  · intro x S9 hx
    exact hx.elim
theorem sp_62_80_sl {X : Nat × (Nat → Int32)} {d w : Nat} {f : Nat → Nat → Int32} {r : Nat → Nat → Option Nat} {C Z N : Nat} {Q : Option ma_V ⊕ Nat → ma_S → Prop} {ab : Nat→Nat→Int32} {S : ma_S}  (hd : 4 ≤ d) (hw : 138 ≤ w) (hI : zJ80 f r C Z N S) (hpre0 : xB S (mR S 70)) (hpre1 : aL S = ab) (hpre2 : qI ab) (K : ∀ v S₉, zJ80 f r C Z N S₉ → (True) → (xB S₉ (mR S₉ 70)) → (aL S₉ = lCl ab ∧ v = aSv ab) → Q (.inl (some (.inl v))) S₉) : ma_wp X d w 62 0 [(0, .inr (.inr (some 80)))] [] S Q := by
  refine g_62_80_sl_0  (by omega) (by omega) (zG_T hI) ?_
  refine sp_264_80_s (ab := (aS 75 S)) (by omega) (by omega) (zJ80_dn hI) (show xB S (mR S 70) from by first | (exact xB_x (xC_o (W := 75) hpre0).2)) (show aS 75 S = (aS 75 S) from by first | (exact rfl)) (fun v2 S1 hL_S1 hp_v2 rp0_S1 rp1_S1 => zi_n ⟨zG_T hL_S1, ?_⟩)
  have hI_S1 := zJ80_up hI hL_S1
  have rp0_S1 : xB S1 (mR S1 70) := by
    have z := rp0_S1
    (try rw [show mI S 65 = f 65 from funext (fun k => zG_z hI rfl)] at z)
    (try rw [show mI S 64 1 = f 64 1 from zG_z hI rfl] at z)
    exact z
  have rp1_S1 : aS 75 S1 = aSw (aS 75 S) ∧ v2 = aSv (aS 75 S) := by
    have z := rp1_S1
    (try rw [show mI S 65 = f 65 from funext (fun k => zG_z hI rfl)] at z)
    (try rw [show mI S 64 1 = f 64 1 from zG_z hI rfl] at z)
    exact z
  have f1 := zG_s hI (0) (1500) (c := 80) (k := 2) (by decide)
  have q2 : (mI S1 80 2).toInt = (mI S 80 2).toInt := zG_zi hL_S1 rfl
  have f3 := zG_s hI_S1 (0) (1500) (c := 80) (k := 2) (by decide)
  refine sp_263_80_s (ab := (aM (zf0 (mI S1)) S1)) (q := (zf0 (mI S1))) ((mI S1 80 2)) (by omega) (by omega) (zJ80_dn hI_S1) (by omega) (show xB S1 (mR S1 70) from by first | (exact xB_x (xC_o (W := 75) rp0_S1).2)) (show aM (zf0 (mI S1)) S1 = (aM (zf0 (mI S1)) S1) from by first | (exact rfl)) (show qI (aM (zf0 (mI S1)) S1) from by first | (rw [M0_u rp1_S1.1 (show mI S1 80 2 = mI S 80 2 from zG_z hL_S1 rfl), hpre1]; exact I_s0 hpre2)) (show ((zf0 (mI S1)) 2).toInt = 0 from by first | (exact rfl)) (fun v4 S3 hL_S3 hp_v4 rp0_S3 rp1_S3 => zi_n ⟨zG_T hL_S3, ?_⟩)
  have hI_S3 := zJ80_up hI_S1 hL_S3
  have rp0_S3 : xB S3 (mR S3 70) := by
    have z := rp0_S3
    (try rw [show mI S1 65 = f 65 from funext (fun k => zG_z hI_S1 rfl)] at z)
    (try rw [show mI S1 64 1 = f 64 1 from zG_z hI_S1 rfl] at z)
    exact z
  have rp1_S3 : aM (zf0 (mI S1)) S3 = (zSd (aM (zf0 (mI S1)) S1) (mI S1 80 2).toInt 0 0).1 ∧ v4.toInt = (zSd (aM (zf0 (mI S1)) S1) (mI S1 80 2).toInt 0 0).2 ∧ ∃ p, (mI S1 80 2).toInt ≤ p ∧ qJs (aM (zf0 (mI S1)) S3) p v4.toInt := by
    have z := rp1_S3
    (try rw [show mI S1 65 = f 65 from funext (fun k => zG_z hI_S1 rfl)] at z)
    (try rw [show mI S1 64 1 = f 64 1 from zG_z hI_S1 rfl] at z)
    exact z
  have b5 := i_bd v4
  have hI4 : zJ80 f r C Z N (ma_put S3 80 3 (.inl v4)) := zG_sp hI_S3 (0) (400000) rfl (by decide) (by decide) (by decide) trivial (by omega) (by omega)
  have b6 := i_bd v2
  exact K (v2) _ hI4 trivial (show xB (ma_put S3 80 3 (.inl v4)) (mR (ma_put S3 80 3 (.inl v4)) 70) from by first | (exact xB_x (xC_n (c := 80) (k := 3) (x := v4) (xC_o (W := 75) rp0_S3) ⟨by decide, Or.inl ⟨rfl, rfl⟩⟩).2)) (show aL (ma_put S3 80 3 (.inl v4)) = lCl ab ∧ v2 = aSv ab from by first | (have u := rp1_S1; have m0 := M0_u u.1 (show mI S1 80 2 = mI S 80 2 from zG_z hL_S1 rfl); rw [hpre1] at m0; have sd := rp1_S3; rw [m0] at sd; have e0 : aSw ab 87 0 = (mI S1 80 2) := (by rw [sw_87, ← hpre1, aL_70]; exact (show mI S1 80 2 = mI S 80 2 from zG_z hL_S1 rfl).symm); have ls : lSd (aSw ab) = zSd (ma_u (aSw ab) 87 2 0) (mI S1 80 2).toInt 0 0 := (by unfold lSd; rw [e0]); refine ⟨?_, u.2.trans (L_sv.trans (congrArg aSv hpre1))⟩; rw [aL_q rp0_S3 (q := zf0 (mI S1)) (show mI S3 80 2 = mI S1 80 2 from zG_z hL_S3 rfl) (fun k hk => if_neg hk), sd.1]; unfold lCl; rw [ls, ← sd.2.1, Int32.ofInt_toInt]))
theorem g_61_80_sl_0 {X : Nat × (Nat → Int32)} {d w : Nat} {S : ma_S} {Q : Option ma_V ⊕ Nat → ma_S → Prop} (z : Int32) (hd : 5 ≤ d) (hw : 159 ≤ w) (hS : zT S) (h : if ((mI S 80 3) + z) ≤ (mI S 80 2) then (if ((mI S 80 3) + z) ≤ (mI S 80 2) then (Q (.inl (some (.inl (mI S 80 3)))) S) else (Q (.inl (some (.inl (-1 : Int32)))) S)) else (ma_wp X (d - 1) (w - 21) 62 0 [(0, .inr (.inr (some 80)))] [] S (zi (fun v2 S1 => zT S1 ∧ (if ((mI S1 80 3) + z) ≤ (mI S1 80 2) then (Q (.inl (some (.inl (mI S1 80 3)))) S1) else (Q (.inl (some (.inl (-1 : Int32)))) S1))) (fun x S9 => Q (.inr x) S9)))) : ma_wp X d w 61 0 [(0, .inr (.inr (some 80))), (1, .inl z)] [] S Q := by
  refine zw_push hm_61 dX5_findRoom_0 (v := .inr (.inr (some 80))) rfl ?_
  refine zw_gf hm_61 dX5_findRoom_1 (v := .inl (mI S 80 3)) (zT_is hS s_80) (zT_t hS s_80) rfl f_5_15_5 rfl ?_
  refine zw_push hm_61 dX5_findRoom_4 (v := .inl z) rfl ?_
  refine zw_stk hm_61 dX5_findRoom_5 (st₉ := [.inl ((mI S 80 3) + z)]) rfl rfl ?_
  refine zw_push hm_61 dX5_findRoom_6 (v := .inr (.inr (some 80))) rfl ?_
  refine zw_gf hm_61 dX5_findRoom_7 (v := .inl (mI S 80 2)) (zT_is hS s_80) (zT_t hS s_80) rfl f_5_9_5 rfl ?_
  refine zw_if2 hm_61 dX5_findRoom_10 (t := 18) rfl zc2_le ?_ ?_
  · intro hc
    rw [if_pos hc] at h
    refine zw_push hm_61 dX5_findRoom_18 (v := .inr (.inr (some 80))) rfl ?_
    refine zw_gf hm_61 dX5_findRoom_19 (v := .inl (mI S 80 3)) (zT_is hS s_80) (zT_t hS s_80) rfl f_5_15_5 rfl ?_
    refine zw_push hm_61 dX5_findRoom_22 (v := .inl z) rfl ?_
    refine zw_stk hm_61 dX5_findRoom_23 (st₉ := [.inl ((mI S 80 3) + z)]) rfl rfl ?_
    refine zw_push hm_61 dX5_findRoom_24 (v := .inr (.inr (some 80))) rfl ?_
    refine zw_gf hm_61 dX5_findRoom_25 (v := .inl (mI S 80 2)) (zT_is hS s_80) (zT_t hS s_80) rfl f_5_9_5 rfl ?_
    refine zw_if2 hm_61 dX5_findRoom_28 (t := 35) rfl zc2_le ?_ ?_
    · intro hc
      rw [if_pos hc] at h
      refine zw_push hm_61 dX5_findRoom_35 (v := .inr (.inr (some 80))) rfl ?_
      refine zw_gf hm_61 dX5_findRoom_36 (v := .inl (mI S 80 3)) (zT_is hS s_80) (zT_t hS s_80) rfl f_5_15_5 rfl ?_
      exact zw_iret hm_61 dX5_findRoom_39 h
    · intro hc
      rw [if_neg hc] at h
      refine zw_push hm_61 dX5_findRoom_31 (v := .inl (-1 : Int32)) rfl ?_
      refine zw_goto hm_61 dX5_findRoom_32 (t := 39) rfl ?_
      exact zw_iret hm_61 dX5_findRoom_39 h
  · intro hc
    rw [if_neg hc] at h
    refine zw_push hm_61 dX5_findRoom_13 (v := .inr (.inr (some 80))) rfl ?_
    refine zw_cv hm_61 dX5_findRoom_14 v_5_18_5 hm_62 [] [] rfl (zT_rt hS s_80 rfl) ⟨by omega, by omega⟩ rfl (zw_mono h (zi_go ?_ ?_))
    · intro v2 S1 hv
      obtain ⟨hS1, h⟩ := hv
      refine zw_stk hm_61 dX5_findRoom_17 (st₉ := []) rfl rfl ?_
      refine zw_push hm_61 dX5_findRoom_18 (v := .inr (.inr (some 80))) rfl ?_
      refine zw_gf hm_61 dX5_findRoom_19 (v := .inl (mI S1 80 3)) (zT_is hS1 s_80) (zT_t hS1 s_80) rfl f_5_15_5 rfl ?_
      refine zw_push hm_61 dX5_findRoom_22 (v := .inl z) rfl ?_
      refine zw_stk hm_61 dX5_findRoom_23 (st₉ := [.inl ((mI S1 80 3) + z)]) rfl rfl ?_
      refine zw_push hm_61 dX5_findRoom_24 (v := .inr (.inr (some 80))) rfl ?_
      refine zw_gf hm_61 dX5_findRoom_25 (v := .inl (mI S1 80 2)) (zT_is hS1 s_80) (zT_t hS1 s_80) rfl f_5_9_5 rfl ?_
      refine zw_if2 hm_61 dX5_findRoom_28 (t := 35) rfl zc2_le ?_ ?_
      · intro hc
        rw [if_pos hc] at h
        refine zw_push hm_61 dX5_findRoom_35 (v := .inr (.inr (some 80))) rfl ?_
        refine zw_gf hm_61 dX5_findRoom_36 (v := .inl (mI S1 80 3)) (zT_is hS1 s_80) (zT_t hS1 s_80) rfl f_5_15_5 rfl ?_
        exact zw_iret hm_61 dX5_findRoom_39 h
      · intro hc
        rw [if_neg hc] at h
        refine zw_push hm_61 dX5_findRoom_31 (v := .inl (-1 : Int32)) rfl ?_
        refine zw_goto hm_61 dX5_findRoom_32 (t := 39) rfl ?_
        exact zw_iret hm_61 dX5_findRoom_39 h
    · intro x S9 hx
      exact ⟨by decide, hx⟩
theorem sp_61_80_sl {X : Nat × (Nat → Int32)} {d w : Nat} {f : Nat → Nat → Int32} {r : Nat → Nat → Option Nat} {C Z N : Nat} {Q : Option ma_V ⊕ Nat → ma_S → Prop} {ab : Nat→Nat→Int32} {S : ma_S} (z : Int32) (hd : 5 ≤ d) (hw : 159 ≤ w) (hI : zJ80 f r C Z N S) (hpre0 : xB S (mR S 70)) (hpre1 : aL S = ab) (hpre2 : qI ab) (hpre3 : 1 ≤ z.toInt) (hpre4 : z.toInt ≤ 61) (K : ∀ v S₉, zJ80 f r C Z N S₉ → (-1 ≤ v.toInt ∧ v.toInt ≤ 1500) → (xB S₉ (mR S₉ 70)) → (aL S₉ = lRs ab z.toInt ∧ v.toInt = lRp ab z.toInt) → Q (.inl (some (.inl v))) S₉) : ma_wp X d w 61 0 [(0, .inr (.inr (some 80))), (1, .inl z)] [] S Q := by
  refine g_61_80_sl_0 z (by omega) (by omega) (zG_T hI) ?_
  have f1 := zG_s hI (0) (400000) (c := 80) (k := 3) (by decide)
  have b2 := i_bd z
  first | have e3 : ((mI S 80 3) + z).toInt = (mI S 80 3).toInt + z.toInt := i_add (by omega) (by omega) | have b4 := i_bd ((mI S 80 3) + z)
  have f5 := zG_s hI (0) (1500) (c := 80) (k := 2) (by decide)
  refine zd (fun h6 => ?_) (fun h6 => ?_)
  · skip
    have g7 := i_le h6
    refine zd (fun h8 => ?_) (fun h8 => ?_)
    · skip
      have g9 := i_le h8
      exact K ((mI S 80 3)) _ hI (by omega) (show xB S (mR S 70) from by first | (exact xB_x (xC_o (W := 75) hpre0).2)) (show aL S = lRs ab z.toInt ∧ (mI S 80 3).toInt = lRp ab z.toInt from by first | (have a0 := congrArg Int32.toInt (show ab 87 0 = mI S 80 2 from by rw [← hpre1]; rfl); have a2 := congrArg Int32.toInt (show ab 87 2 = mI S 80 3 from by rw [← hpre1]; rfl); have E := lRs_1 (a := ab) (z := z.toInt) (by omega); refine ⟨hpre1.trans E.symm, ?_⟩; rw [lRp_2 E (by omega)]; omega) | (have a0 := congrArg Int32.toInt (show ab 87 0 = mI S 80 2 from by rw [← hpre1]; rfl); have a2 := congrArg Int32.toInt (show ab 87 2 = mI S 80 3 from by rw [← hpre1]; rfl); exfalso; omega))
    · skip
      have g10 := i_nle h8
      have li11 : (-1 : Int32).toInt = -1 := rfl
      exact K ((-1 : Int32)) _ hI (by omega) (show xB S (mR S 70) from by first | (exact xB_x (xC_o (W := 75) hpre0).2)) (show aL S = lRs ab z.toInt ∧ (-1 : Int32).toInt = lRp ab z.toInt from by first | (have a0 := congrArg Int32.toInt (show ab 87 0 = mI S 80 2 from by rw [← hpre1]; rfl); have a2 := congrArg Int32.toInt (show ab 87 2 = mI S 80 3 from by rw [← hpre1]; rfl); have E := lRs_1 (a := ab) (z := z.toInt) (by omega); refine ⟨hpre1.trans E.symm, ?_⟩; rw [lRp_2 E (by omega)]; omega) | (have a0 := congrArg Int32.toInt (show ab 87 0 = mI S 80 2 from by rw [← hpre1]; rfl); have a2 := congrArg Int32.toInt (show ab 87 2 = mI S 80 3 from by rw [← hpre1]; rfl); exfalso; omega))
  · skip
    have g12 := i_nle h6
    refine sp_62_80_sl (ab := (aL S)) (by omega) (by omega) hI (show xB S (mR S 70) from by first | (exact xB_x (xC_o (W := 75) hpre0).2)) (show aL S = (aL S) from by first | (exact rfl)) (show qI (aL S) from by first | (rw [hpre1]; exact hpre2) | (exact hpre2)) (fun v2 S1 hI_S1 hp_v2 rp0_S1 rp1_S1 => zi_n ⟨zG_T hI_S1, ?_⟩)
    have rp0_S1 : xB S1 (mR S1 70) := rp0_S1
    have rp1_S1 : aL S1 = lCl (aL S) ∧ v2 = aSv (aL S) := rp1_S1
    have f13 := zG_s hI_S1 (0) (400000) (c := 80) (k := 3) (by decide)
    first | have e14 : ((mI S1 80 3) + z).toInt = (mI S1 80 3).toInt + z.toInt := i_add (by omega) (by omega) | have b15 := i_bd ((mI S1 80 3) + z)
    have f16 := zG_s hI_S1 (0) (1500) (c := 80) (k := 2) (by decide)
    refine zd (fun h17 => ?_) (fun h17 => ?_)
    · skip
      have g18 := i_le h17
      exact K ((mI S1 80 3)) _ hI_S1 (by omega) (show xB S1 (mR S1 70) from by first | (exact xB_x (xC_o (W := 75) rp0_S1).2)) (show aL S1 = lRs ab z.toInt ∧ (mI S1 80 3).toInt = lRp ab z.toInt from by first | (have a0 := congrArg Int32.toInt (show ab 87 0 = mI S 80 2 from by rw [← hpre1]; rfl); have a2 := congrArg Int32.toInt (show ab 87 2 = mI S 80 3 from by rw [← hpre1]; rfl); have E := lRs_2 (a := ab) (z := z.toInt) (by omega); have cl := rp1_S1.1; rw [hpre1] at cl; have b0 := congrArg Int32.toInt (show lCl ab 87 0 = mI S1 80 2 from by rw [← cl]; rfl); have b2 := congrArg Int32.toInt (show lCl ab 87 2 = mI S1 80 3 from by rw [← cl]; rfl); refine ⟨cl.trans E.symm, ?_⟩; first | (rw [lRp_1 E (by omega)]; rfl) | (rw [lRp_2 E (by omega)]; omega)))
    · skip
      have g19 := i_nle h17
      have li20 : (-1 : Int32).toInt = -1 := rfl
      exact K ((-1 : Int32)) _ hI_S1 (by omega) (show xB S1 (mR S1 70) from by first | (exact xB_x (xC_o (W := 75) rp0_S1).2)) (show aL S1 = lRs ab z.toInt ∧ (-1 : Int32).toInt = lRp ab z.toInt from by first | (have a0 := congrArg Int32.toInt (show ab 87 0 = mI S 80 2 from by rw [← hpre1]; rfl); have a2 := congrArg Int32.toInt (show ab 87 2 = mI S 80 3 from by rw [← hpre1]; rfl); have E := lRs_2 (a := ab) (z := z.toInt) (by omega); have cl := rp1_S1.1; rw [hpre1] at cl; have b0 := congrArg Int32.toInt (show lCl ab 87 0 = mI S1 80 2 from by rw [← cl]; rfl); have b2 := congrArg Int32.toInt (show lCl ab 87 2 = mI S1 80 3 from by rw [← cl]; rfl); refine ⟨cl.trans E.symm, ?_⟩; first | (rw [lRp_1 E (by omega)]; rfl) | (rw [lRp_2 E (by omega)]; omega)))
theorem g_159_64_sl_p80_0 {X : Nat × (Nat → Int32)} {d w : Nat} {S : ma_S} {Q : Option ma_V ⊕ Nat → ma_S → Prop}  (hd : 7 ≤ d) (hw : 179 ≤ w) (hS : zT S) (h : mR S 64 11 = some 80 ∧ (mR S 64 11 = some 80 ∧ (ma_wp X (d - 1) (w - 21) 62 0 [(0, .inr (.inr (some 80)))] [] S (zi (fun v2 S1 => zT S1 ∧ (Q (.inl (some (.inl v2))) S1)) (fun _ _ => False))))) : ma_wp X d w 159 0 [(0, .inr (.inr (some 64)))] [] S Q := by
  refine zw_push hm_159 dX11_clean_0 (v := .inr (.inr (some 64))) rfl ?_
  refine zw_cv hm_159 dX11_clean_1 v_11_119_11 hm_144 [] [] rfl (zT_rt hS s_64 rfl) ⟨by omega, by omega⟩ rfl ?_
  show ma_wp X (d - 1) (w - 20) 144 0 [(0, .inr (.inr (some 64)))] [] S _
  refine zw_push hm_144 dX11_needCollector_0 (v := .inr (.inr (some 64))) rfl ?_
  obtain ⟨hg, h⟩ := h
  refine zw_gf hm_144 dX11_needCollector_1 (v := .inr (.inr (some 80))) (zT_is hS s_64) (zT_t hS s_64) rfl f_11_98_11 (congrArg (fun z => Sum.inr (Sum.inr z)) hg) ?_
  refine zw_ifnonnull hm_144 dX11_needCollector_4 (t := 15) rfl (fun z => by cases z) (fun _ _ => ?_)
  refine zw_push hm_144 dX11_needCollector_15 (v := .inr (.inr (some 64))) rfl ?_
  obtain ⟨hg, h⟩ := h
  refine zw_gf hm_144 dX11_needCollector_16 (v := .inr (.inr (some 80))) (zT_is hS s_64) (zT_t hS s_64) rfl f_11_98_11 (congrArg (fun z => Sum.inr (Sum.inr z)) hg) ?_
  refine zw_aret hm_144 dX11_needCollector_19 ?_
  show ma_wp X d w 159 4 [(0, .inr (.inr (some 64)))] [.inr (.inr (some 80))] S _
  refine zw_cv hm_159 dX11_clean_4 v_11_207_5 hm_62 [] [] rfl (zT_rt hS s_80 rfl) ⟨by omega, by omega⟩ rfl (zw_mono h (zi_go ?_ ?_))
  · intro v2 S1 hv
    obtain ⟨hS1, h⟩ := hv
    exact zw_iret hm_159 dX11_clean_7 h
  · intro x S9 hx
    exact hx.elim
theorem sp_159_64_sl_p80 {X : Nat × (Nat → Int32)} {d w : Nat} {f : Nat → Nat → Int32} {r : Nat → Nat → Option Nat} {C Z N : Nat} {Q : Option ma_V ⊕ Nat → ma_S → Prop} {ab : Nat→Nat→Int32} {S : ma_S}  (hd : 7 ≤ d) (hw : 179 ≤ w) (hI : zB f r C Z N S) (hr : r 64 11 = some 80) (hpre0 : xB S (mR S 70)) (hpre1 : aL S = ab) (hpre2 : qI ab) (K : ∀ v S₉, zB f r C Z N S₉ → (True) → (xB S₉ (mR S₉ 70)) → (aL S₉ = lCl ab ∧ v = aSv ab) → Q (.inl (some (.inl v))) S₉) : ma_wp X d w 159 0 [(0, .inr (.inr (some 64)))] [] S Q := by
  refine g_159_64_sl_p80_0  (by omega) (by omega) (zG_T hI) ?_
  refine ⟨((zG_r hI (by decide)).trans hr), ?_⟩
  refine ⟨((zG_r hI (by decide)).trans hr), ?_⟩
  refine sp_62_80_sl (ab := (aL S)) (by omega) (by omega) (zB_dn_zJ80 hI) (show xB S (mR S 70) from by first | (exact xB_x (xC_o (W := 75) hpre0).2)) (show aL S = (aL S) from by first | (exact rfl)) (show qI (aL S) from by first | (rw [hpre1]; exact hpre2) | (exact hpre2)) (fun v2 S1 hL_S1 hp_v2 rp0_S1 rp1_S1 => zi_n ⟨zG_T hL_S1, ?_⟩)
  have hI_S1 := zB_up_zJ80 hI hL_S1
  have rp0_S1 : xB S1 (mR S1 70) := by
    have z := rp0_S1
    (try rw [show mI S 65 = f 65 from funext (fun k => zG_z hI rfl)] at z)
    (try rw [show mI S 64 1 = f 64 1 from zG_z hI rfl] at z)
    exact z
  have rp1_S1 : aL S1 = lCl (aL S) ∧ v2 = aSv (aL S) := by
    have z := rp1_S1
    (try rw [show mI S 65 = f 65 from funext (fun k => zG_z hI rfl)] at z)
    (try rw [show mI S 64 1 = f 64 1 from zG_z hI rfl] at z)
    exact z
  have b1 := i_bd v2
  exact K (v2) _ hI_S1 trivial (show xB S1 (mR S1 70) from by first | (exact xB_x (xC_o (W := 75) rp0_S1).2)) (show aL S1 = lCl ab ∧ v2 = aSv ab from by first | (have z := rp1_S1; rw [hpre1] at z; exact z))
theorem g_145_64_80_sl_0 {X : Nat × (Nat → Int32)} {d w : Nat} {S : ma_S} {Q : Option ma_V ⊕ Nat → ma_S → Prop} (i : Int32) (x : Option Nat) (hd : 5 ≤ d) (hw : 110 ≤ w) (hS : zT S) (h : ma_wp X (d - 1) (w - 23) 92 0 [(0, .inr (.inr (some 69))), (1, .inl i), (2, .inr (.inr x))] [] S (zo (fun v2 S1 => zT S1 ∧ (Q (.inl (some (.inr (.inr v2)))) S1)) (fun x S9 => Q (.inr x) S9))) : ma_wp X d w 145 0 [(0, .inr (.inr (some 64))), (1, .inr (.inr (some 80))), (2, .inl i), (3, .inr (.inr x))] [] S Q := by
  refine zw_push hm_145 dX11_changeRoot_0 (v := .inr (.inr (some 64))) rfl ?_
  refine zw_gf hm_145 dX11_changeRoot_1 (v := .inr (.inr (some 69))) (zT_is hS s_64) (zT_t hS s_64) rfl f_11_26_11 (zT_f hS r_64_8) ?_
  refine zw_push hm_145 dX11_changeRoot_4 (v := .inl i) rfl ?_
  refine zw_push hm_145 dX11_changeRoot_5 (v := .inr (.inr x)) rfl ?_
  refine zw_cv hm_145 dX11_changeRoot_6 v_11_379_7 hm_92 [.inr (.inr x), .inl i] [] rfl (zT_rt hS s_69 rfl) ⟨by omega, by omega⟩ rfl (zw_mono h (zo_go ?_ ?_))
  · intro v2 S1 hv
    obtain ⟨hS1, h⟩ := hv
    refine zw_sto hm_145 dX11_changeRoot_9 [(4, .inr (.inr v2)), (0, .inr (.inr (some 64))), (1, .inr (.inr (some 80))), (2, .inl i), (3, .inr (.inr x))] rfl rfl rfl ?_
    refine zw_push hm_145 dX11_changeRoot_11 (v := .inr (.inr (some 80))) rfl ?_
    refine zw_push hm_145 dX11_changeRoot_12 (v := .inr (.inr v2)) rfl ?_
    refine zw_push hm_145 dX11_changeRoot_14 (v := .inr (.inr x)) rfl ?_
    refine zw_cv hm_145 dX11_changeRoot_15 v_11_153_5 hm_265 [.inr (.inr x), .inr (.inr v2)] [] rfl (zT_rt hS1 s_80 rfl) ⟨by omega, by omega⟩ rfl ?_
    show ma_wp X (d - 1) (w - 22) 265 0 [(0, .inr (.inr (some 80))), (1, .inr (.inr v2)), (2, .inr (.inr x))] [] S1 _
    refine zw_vret hm_265 dX1_noteChange_0 ?_
    show ma_wp X d w 145 18 [(4, .inr (.inr v2)), (0, .inr (.inr (some 64))), (1, .inr (.inr (some 80))), (2, .inl i), (3, .inr (.inr x))] [] S1 _
    refine zw_push hm_145 dX11_changeRoot_18 (v := .inr (.inr (some 80))) rfl ?_
    refine zw_push hm_145 dX11_changeRoot_19 (v := .inr (.inr v2)) rfl ?_
    refine zw_cv hm_145 dX11_changeRoot_21 v_11_157_5 hm_266 [.inr (.inr v2)] [] rfl (zT_rt hS1 s_80 rfl) ⟨by omega, by omega⟩ rfl ?_
    show ma_wp X (d - 1) (w - 21) 266 0 [(0, .inr (.inr (some 80))), (1, .inr (.inr v2))] [] S1 _
    refine zw_vret hm_266 dX1_noteFewer_0 ?_
    show ma_wp X d w 145 24 [(4, .inr (.inr v2)), (0, .inr (.inr (some 64))), (1, .inr (.inr (some 80))), (2, .inl i), (3, .inr (.inr x))] [] S1 _
    refine zw_push hm_145 dX11_changeRoot_24 (v := .inr (.inr v2)) rfl ?_
    exact zw_aret hm_145 dX11_changeRoot_26 h
  · intro x S9 hx
    exact ⟨by decide, hx⟩
theorem sp_145_64_80_sl {X : Nat × (Nat → Int32)} {d w : Nat} {f : Nat → Nat → Int32} {r : Nat → Nat → Option Nat} {C Z N : Nat} {Q : Option ma_V ⊕ Nat → ma_S → Prop} {ab : Nat→Nat→Int32} {R : zRT} {y : Int32} {fp : Nat→Int32} {S : ma_S} (i : Int32) (x : Option Nat) (hd : 5 ≤ d) (hw : 110 ≤ w) (hI : zJ80 f r C Z N S) (hq_x : ∀ c, x = some c → 126 ≤ c ∧ c < N) (hpre0 : xB S R) (hpre1 : aS 75 S = ab) (hpre2 : x = zTa R y) (hpre3 : 0 ≤ i.toInt) (hpre4 : i.toInt ≤ 15) (hpre5 : (mI S 80) = fp) (K : ∀ v S₉, zJ80 f r C Z N S₉ → (∀ c, v = some c → 126 ≤ c ∧ c < N) → (xB S₉ R) → (aS 75 S₉ = aR0 ab i y) → ((mI S₉ 80) = fp) → Q (.inl (some (.inr (.inr v)))) S₉) : ma_wp X d w 145 0 [(0, .inr (.inr (some 64))), (1, .inr (.inr (some 80))), (2, .inl i), (3, .inr (.inr x))] [] S Q := by
  refine g_145_64_80_sl_0 i x (by omega) (by omega) (zG_T hI) ?_
  have b1 := i_bd i
  refine sp_92_69_s (ab := (aS 75 S)) (R := R) (W := 75) (y := (y)) (i) (x) (by omega) (by omega) (zJ80_dn hI) hq_x (show xB S R from by first | (exact (xC_o (W := 75) hpre0).2)) (show aS 75 S = (aS 75 S) from by first | (exact rfl)) (show xW 75 from by first | (exact xW88) | (exact xW75)) (show x = zTa R (y) from by first | (exact hpre2)) (by omega) (by omega) (fun v2 S1 hL_S1 hq_v2 rp0_S1 rp1_S1 rp2_S1 => zo_n ⟨zG_T hL_S1, ?_⟩)
  have hI_S1 := zJ80_up hI hL_S1
  have rp0_S1 : xB S1 R := by
    have z := rp0_S1
    (try rw [show mI S 65 = f 65 from funext (fun k => zG_z hI rfl)] at z)
    (try rw [show mI S 64 1 = f 64 1 from zG_z hI rfl] at z)
    exact z
  have rp1_S1 : aS 75 S1 = ma_u (aS 75 S) 72 i.toNatClampNeg (aNm (aS 75 S) (y)) := by
    have z := rp1_S1
    (try rw [show mI S 65 = f 65 from funext (fun k => zG_z hI rfl)] at z)
    (try rw [show mI S 64 1 = f 64 1 from zG_z hI rfl] at z)
    exact z
  have rp2_S1 : v2 = zTa R ((aS 75 S) 72 i.toNatClampNeg) := by
    have z := rp2_S1
    (try rw [show mI S 65 = f 65 from funext (fun k => zG_z hI rfl)] at z)
    (try rw [show mI S 64 1 = f 64 1 from zG_z hI rfl] at z)
    exact z
  exact K (v2) _ hI_S1 hq_v2 (show xB S1 R from by first | (exact (xC_o (W := 75) rp0_S1).2)) (show aS 75 S1 = aR0 ab i y from by first | (rw [rp1_S1, hpre1]; rfl)) (show (mI S1 80) = fp from by first | (exact ((show mI S1 80 = mI S 80 from funext (fun _ => zG_z hL_S1 rfl)).trans hpre5)))
theorem g_63_80_sl_0 {X : Nat × (Nat → Int32)} {d w : Nat} {S : ma_S} {Q : Option ma_V ⊕ Nat → ma_S → Prop} (t : Nat) (hd : 0 ≤ d) (hw : 0 ≤ w) (hS : zT S) (h : (126 ≤ t ∧ t < mN S) ∧ ((126 ≤ t ∧ t < mN S) ∧ (Q (.inl none) (ma_put S 80 3 (.inl ((mI S t 4) + (mI S t 2))))))) : ma_wp X d w 63 0 [(0, .inr (.inr (some 80))), (1, .inr (.inr (some t)))] [] S Q := by
  refine zw_push hm_63 dX5_noteMade_0 (v := .inr (.inr (some 80))) rfl ?_
  refine zw_push hm_63 dX5_noteMade_1 (v := .inr (.inr (some t))) rfl ?_
  obtain ⟨hg, h⟩ := h
  refine zw_gf hm_63 dX5_noteMade_2 (v := .inl (mI S t 4)) (zT_tis hS hg) (zT_tt hS hg) rfl f_5_22_9 rfl ?_
  refine zw_push hm_63 dX5_noteMade_5 (v := .inr (.inr (some t))) rfl ?_
  obtain ⟨hg, h⟩ := h
  refine zw_gf hm_63 dX5_noteMade_6 (v := .inl (mI S t 2)) (zT_tis hS hg) (zT_tt hS hg) rfl f_5_27_9 rfl ?_
  refine zw_stk hm_63 dX5_noteMade_9 (st₉ := [.inl ((mI S t 4) + (mI S t 2)), .inr (.inr (some 80))]) rfl rfl ?_
  refine zw_pf hm_63 dX5_noteMade_10 (zT_is hS s_80) (zT_t hS s_80) p_5_15_5 zk_int ?_
  exact zw_vret hm_63 dX5_noteMade_13 h
theorem sp_63_80_sl {X : Nat × (Nat → Int32)} {d w : Nat} {f : Nat → Nat → Int32} {r : Nat → Nat → Option Nat} {C Z N : Nat} {Q : Option ma_V ⊕ Nat → ma_S → Prop} {ab : Nat→Nat→Int32} {R : zRT} {y : Int32} {S : ma_S} (t : Nat) (hd : 0 ≤ d) (hw : 0 ≤ w) (hI : zJ80 f r C Z N S) (th_t : 126 ≤ t ∧ t < N) (hpre0 : xB S R) (hpre1 : aL S = ab) (hpre2 : zTa R y = some t) (K : ∀ S₉, zJ80 f r C Z N S₉ → (xB S₉ R) → (aL S₉ = ma_u ab 87 2 (ab 130 y.toNatClampNeg + ab 128 y.toNatClampNeg)) → Q (.inl none) S₉) : ma_wp X d w 63 0 [(0, .inr (.inr (some 80))), (1, .inr (.inr (some t)))] [] S Q := by
  refine g_63_80_sl_0 t (by omega) (by omega) (zG_T hI) ?_
  refine ⟨zG_n hI th_t, ?_⟩
  refine ⟨zG_n hI th_t, ?_⟩
  have f2 := zG_th hI th_t
  have f3 := zG_th hI th_t
  first | have e4 : ((mI S t 4) + (mI S t 2)).toInt = (mI S t 4).toInt + (mI S t 2).toInt := i_add (by omega) (by omega) | have b5 := i_bd ((mI S t 4) + (mI S t 2))
  have hI1 : zJ80 f r C Z N (ma_put S 80 3 (.inl ((mI S t 4) + (mI S t 2)))) := zG_sp hI (0) (400000) rfl (by decide) (by decide) (by decide) trivial (by omega) (by omega)
  exact K _ hI1 (show xB (ma_put S 80 3 (.inl ((mI S t 4) + (mI S t 2)))) R from by first | (exact (xC_n (c := 80) (k := 3) (x := ((mI S t 4) + (mI S t 2))) (xC_o (W := 75) hpre0) ⟨by decide, Or.inl ⟨rfl, rfl⟩⟩).2)) (show aL (ma_put S 80 3 (.inl ((mI S t 4) + (mI S t 2)))) = ma_u ab 87 2 (ab 130 y.toNatClampNeg + ab 128 y.toNatClampNeg) from by first | (have ty := xB_th (W := 75) hpre0 hpre2; have f2 : mI S t 2 = ab 128 y.toNatClampNeg := (by rw [← hpre1, aL_o (by decide)]; exact ty.2.2.2.2.1); have f4 : mI S t 4 = ab 130 y.toNatClampNeg := (by rw [← hpre1, aL_o (by decide)]; exact ty.2.2.2.2.2.1); refine (aL_p hpre0).trans ?_; rw [f2, f4, hpre1]))

/-! from 95.q22 -/
/-! the moving collectors, the class (written by wip/tools/gen15.py) -/
theorem g_143_64_sl_64 {X : Nat × (Nat → Int32)} {d w : Nat} {S : ma_S} {Q : Option ma_V ⊕ Nat → ma_S → Prop} (l5 : Int32) (l8 : Nat) (hd : 7 ≤ d) (hw : 182 ≤ w) (hS : zT S) (h : ma_wp X (d - 1) (w - 23) 91 0 [(0, .inr (.inr (some 69))), (1, .inr (.inr (some l8)))] [] S (zv (fun S1 => zT S1 ∧ (ma_wp X (d - 1) (w - 21) 63 0 [(0, .inr (.inr (some 80))), (1, .inr (.inr (some l8)))] [] S1 (zv (fun S3 => zT S3 ∧ (ma_wp X (d - 1) (w - 24) 145 0 [(0, .inr (.inr (some 64))), (1, .inr (.inr (some 80))), (2, .inl l5), (3, .inr (.inr (some l8)))] [] S3 (zo (fun v6 S5 => zT S5 ∧ ((126 ≤ l8 ∧ l8 < mN S5) ∧ (Q (.inl (some (.inl (mI S5 l8 0)))) S5))) (fun x S9 => Q (.inr x) S9)))) (fun _ _ => False)))) (fun x S9 => Q (.inr x) S9))) : ma_wp X d w 143 64 [(0, .inr (.inr (some 64))), (5, .inl l5), (6, .inr (.inr (some 80))), (8, .inr (.inr (some l8)))] [] S Q := by
  refine zw_push hm_143 dX11_addObject_64 (v := .inr (.inr (some 64))) rfl ?_
  refine zw_gf hm_143 dX11_addObject_65 (v := .inr (.inr (some 69))) (zT_is hS s_64) (zT_t hS s_64) rfl f_11_26_11 (zT_f hS r_64_8) ?_
  refine zw_push hm_143 dX11_addObject_68 (v := .inr (.inr (some l8))) rfl ?_
  refine zw_cv hm_143 dX11_addObject_70 v_11_373_7 hm_91 [.inr (.inr (some l8))] [] rfl (zT_rt hS s_69 rfl) ⟨by omega, by omega⟩ rfl (zw_mono h (zv_go ?_ ?_))
  · intro S1 hv
    obtain ⟨hS1, h⟩ := hv
    refine zw_push hm_143 dX11_addObject_73 (v := .inr (.inr (some 80))) rfl ?_
    refine zw_push hm_143 dX11_addObject_75 (v := .inr (.inr (some l8))) rfl ?_
    refine zw_cv hm_143 dX11_addObject_77 v_11_376_5 hm_63 [.inr (.inr (some l8))] [] rfl (zT_rt hS1 s_80 rfl) ⟨by omega, by omega⟩ rfl (zw_mono h (zv_go ?_ ?_))
    · intro S3 hv
      obtain ⟨hS3, h⟩ := hv
      refine zw_push hm_143 dX11_addObject_80 (v := .inr (.inr (some 64))) rfl ?_
      refine zw_push hm_143 dX11_addObject_81 (v := .inr (.inr (some 80))) rfl ?_
      refine zw_push hm_143 dX11_addObject_83 (v := .inl l5) rfl ?_
      refine zw_push hm_143 dX11_addObject_85 (v := .inr (.inr (some l8))) rfl ?_
      refine zw_cv hm_143 dX11_addObject_87 v_11_169_11 hm_145 [.inr (.inr (some l8)), .inl l5, .inr (.inr (some 80))] [] rfl (zT_rt hS3 s_64 rfl) ⟨by omega, by omega⟩ rfl (zw_mono h (zo_go ?_ ?_))
      · intro v6 S5 hv
        obtain ⟨hS5, h⟩ := hv
        refine zw_stk hm_143 dX11_addObject_90 (st₉ := []) rfl rfl ?_
        refine zw_push hm_143 dX11_addObject_91 (v := .inr (.inr (some l8))) rfl ?_
        obtain ⟨hg, h⟩ := h
        refine zw_gf hm_143 dX11_addObject_93 (v := .inl (mI S5 l8 0)) (zT_tis hS5 hg) (zT_tt hS5 hg) rfl f_11_182_9 rfl ?_
        exact zw_iret hm_143 dX11_addObject_96 h
      · intro x S9 hx
        exact ⟨by decide, hx⟩
    · intro x S9 hx
      exact hx.elim
  · intro x S9 hx
    exact ⟨by decide, hx⟩
theorem sg_143_64_sl_64 {X : Nat × (Nat → Int32)} {d w : Nat} {f : Nat → Nat → Int32} {r : Nat → Nat → Option Nat} {C Z N : Nat} {Q : Option ma_V ⊕ Nat → ma_S → Prop} {ab : Nat→Nat→Int32} {R : zRT} {y : Int32} {I0 : Nat→Int32} {L0 : Int64} {S : ma_S} (l5 : Int32) (l8 : Nat) (hd : 7 ≤ d) (hw : 182 ≤ w) (hI : zB f r C Z N S) (th_l8 : 126 ≤ l8 ∧ l8 < N) (hpre0 : (mI S 69 6).toInt ≤ 511) (hpre1 : xB S R) (hpre2 : aL S = ab) (hpre3 : mI S l8 = I0) (hpre4 : mL S l8 3 = L0) (hpre5 : I0 0 = y) (hpre6 : (0 ≤ (I0 0).toInt ∧ (I0 0).toInt ≤ 511) ∧ (1 ≤ (I0 2).toInt ∧ (I0 2).toInt ≤ 61) ∧ 0 ≤ (I0 4).toInt ∧ (I0 4).toInt + (I0 2).toInt ≤ 4500) (hpre7 : 0 ≤ y.toInt ∧ y.toInt < 512) (hpre8 : 0 ≤ l5.toInt) (hpre9 : l5.toInt ≤ 15) (K : ∀ v S₉, zB f r C Z N S₉ → (True) → (xB S₉ (mR S₉ 70)) → (aL S₉ = aRt (aMd (aAd ab y I0 L0) y) l5 y ∧ v = y) → Q (.inl (some (.inl v))) S₉) : ma_wp X d w 143 64 [(0, .inr (.inr (some 64))), (5, .inl l5), (6, .inr (.inr (some 80))), (8, .inr (.inr (some l8)))] [] S Q := by
  refine g_143_64_sl_64 l5 l8 (by omega) (by omega) (zG_T hI) ?_
  have f1 := zG_s hI (0) (512) (c := 69) (k := 6) (by decide)
  refine sp_91_69_s (ab := (aS 75 S)) (R := R) (W := 75) (y := y) (I0 := I0) (L0 := L0) (u := l8) l8 (by omega) (by omega) (zB_dn_zS hI) th_l8 (show (mI S 69 6).toInt ≤ 511 from by omega) (show xB S R from by first | (exact (xC_o (W := 75) hpre1).2)) (show aS 75 S = (aS 75 S) from by first | (exact rfl)) (show xW 75 from by first | (exact xW88) | (exact xW75)) (show mI S l8 = I0 from by first | (exact rfl) | (exact hpre3)) (show mL S l8 3 = L0 from by first | (exact rfl) | (exact hpre4)) (show I0 0 = y from by first | (exact rfl) | (exact hpre5)) (show (0 ≤ (I0 0).toInt ∧ (I0 0).toInt ≤ 511) ∧ (1 ≤ (I0 2).toInt ∧ (I0 2).toInt ≤ 61) ∧ 0 ≤ (I0 4).toInt ∧ (I0 4).toInt + (I0 2).toInt ≤ 4500 from by first | (exact hpre6) | (omega)) (show l8 = l8 from by first | (exact rfl)) (fun S1 hL_S1 rp0_S1 rp1_S1 => zv_n ⟨zG_T hL_S1, ?_⟩)
  have hI_S1 := zB_up_zS hI hL_S1
  have rp0_S1 : xB S1 (zRu R y.toNatClampNeg (some l8)) := by
    have z := rp0_S1
    (try rw [show mI S 65 = f 65 from funext (fun k => zG_z hI rfl)] at z)
    (try rw [show mI S 64 1 = f 64 1 from zG_z hI rfl] at z)
    exact z
  have rp1_S1 : aS 75 S1 = aAd (aS 75 S) y I0 L0 := by
    have z := rp1_S1
    (try rw [show mI S 65 = f 65 from funext (fun k => zG_z hI rfl)] at z)
    (try rw [show mI S 64 1 = f 64 1 from zG_z hI rfl] at z)
    exact z
  refine sp_63_80_sl (ab := (aL S1)) (R := (zRu R y.toNatClampNeg (some l8))) (y := (y)) l8 (by omega) (by omega) (zB_dn_zJ80 hI_S1) th_l8 (show xB S1 (zRu R y.toNatClampNeg (some l8)) from by first | (exact (xC_o (W := 75) rp0_S1).2)) (show aL S1 = (aL S1) from by first | (exact rfl)) (show zTa (zRu R y.toNatClampNeg (some l8)) (y) = some l8 from by first | (exact (zTa_u (R := R) (c := l8) hpre7.1 hpre7.2))) (fun S3 hL_S3 rp0_S3 rp1_S3 => zv_n ⟨zG_T hL_S3, ?_⟩)
  have hI_S3 := zB_up_zJ80 hI_S1 hL_S3
  have rp0_S3 : xB S3 (zRu R y.toNatClampNeg (some l8)) := by
    have z := rp0_S3
    (try rw [show mI S1 65 = f 65 from funext (fun k => zG_z hI_S1 rfl)] at z)
    (try rw [show mI S1 64 1 = f 64 1 from zG_z hI_S1 rfl] at z)
    exact z
  have rp1_S3 : aL S3 = ma_u (aL S1) 87 2 ((aL S1) 130 (y).toNatClampNeg + (aL S1) 128 (y).toNatClampNeg) := by
    have z := rp1_S3
    (try rw [show mI S1 65 = f 65 from funext (fun k => zG_z hI_S1 rfl)] at z)
    (try rw [show mI S1 64 1 = f 64 1 from zG_z hI_S1 rfl] at z)
    exact z
  have b2 := i_bd l5
  refine sp_145_64_80_sl (ab := (aS 75 S3)) (R := (zRu R y.toNatClampNeg (some l8))) (y := (y)) (fp := (mI S3 80)) (l5) ((some l8)) (by omega) (by omega) (zB_dn_zJ80 hI_S3) (fun _ z => by cases z; exact th_l8) (show xB S3 (zRu R y.toNatClampNeg (some l8)) from by first | (exact (xC_o (W := 75) rp0_S3).2)) (show aS 75 S3 = (aS 75 S3) from by first | (exact rfl)) (show (some l8) = zTa (zRu R y.toNatClampNeg (some l8)) (y) from by first | (exact (zTa_u (R := R) (c := l8) hpre7.1 hpre7.2).symm)) (by omega) (by omega) (show (mI S3 80) = (mI S3 80) from by first | (exact rfl)) (fun v6 S5 hL_S5 hq_v6 rp0_S5 rp1_S5 rp2_S5 => zo_n ⟨zG_T hL_S5, ?_⟩)
  have hI_S5 := zB_up_zJ80 hI_S3 hL_S5
  have rp0_S5 : xB S5 (zRu R y.toNatClampNeg (some l8)) := by
    have z := rp0_S5
    (try rw [show mI S3 65 = f 65 from funext (fun k => zG_z hI_S3 rfl)] at z)
    (try rw [show mI S3 64 1 = f 64 1 from zG_z hI_S3 rfl] at z)
    exact z
  have rp1_S5 : aS 75 S5 = aR0 (aS 75 S3) l5 (y) := by
    have z := rp1_S5
    (try rw [show mI S3 65 = f 65 from funext (fun k => zG_z hI_S3 rfl)] at z)
    (try rw [show mI S3 64 1 = f 64 1 from zG_z hI_S3 rfl] at z)
    exact z
  have rp2_S5 : (mI S5 80) = (mI S3 80) := by
    have z := rp2_S5
    (try rw [show mI S3 65 = f 65 from funext (fun k => zG_z hI_S3 rfl)] at z)
    (try rw [show mI S3 64 1 = f 64 1 from zG_z hI_S3 rfl] at z)
    exact z
  refine ⟨zG_n hI_S5 th_l8, ?_⟩
  have f3 := zG_th hI_S5 th_l8
  exact K ((mI S5 l8 0)) _ hI_S5 trivial (show xB S5 (mR S5 70) from by first | (exact xB_x (xC_o (W := 75) rp0_S5).2)) (show aL S5 = aRt (aMd (aAd ab y I0 L0) y) l5 y ∧ (mI S5 l8 0) = y from by first | (have ty := xB_th (W := 75) rp0_S5 (zTa_u (R := R) (c := l8) hpre7.1 hpre7.2); have s1 := L_ad rp1_S1 (zf_80 (show mI S1 80 = mI S 80 from funext (fun _ => zG_z hL_S1 rfl))); rw [hpre2] at s1; have s2 := rp1_S3; have s3 := L_r0 rp1_S5 (zf_80 rp2_S5); rw [r0_rt L_8, s2, ← aMd_n L_8, s1] at s3; exact ⟨s3, ty.2.2.1⟩))
theorem g_143_64_sl_p80_0 {X : Nat × (Nat → Int32)} {d w : Nat} {S : ma_S} {Q : Option ma_V ⊕ Nat → ma_S → Prop} (kd : Int32) (wd : Int32) (rf : Int64) (rt : Int32) (hd : 7 ≤ d) (hw : 182 ≤ w) (hS : zT S) (h : mR S 64 11 = some 80 ∧ (mR S 64 11 = some 80 ∧ (if (512 : Int32) ≤ (mI S 69 6) then (Q (.inl (some (.inl (-1 : Int32)))) S) else (ma_wp X (d - 1) (w - 21) 61 0 [(0, .inr (.inr (some 80))), (1, .inl (wd + (1 : Int32)))] [] S (zi (fun v2 S1 => zT S1 ∧ (if v2 = (-1 : Int32) then (Q (.inl (some (.inl (-1 : Int32)))) S1) else (ma_wp X d w 143 41 [(0, .inr (.inr (some 64))), (1, .inl kd), (2, .inl wd), (3, .inr (.inl rf)), (5, .inl rt), (6, .inr (.inr (some 80))), (7, .inl v2)] [] S1 Q))) (fun _ _ => False)))))) : ma_wp X d w 143 0 [(0, .inr (.inr (some 64))), (1, .inl kd), (2, .inl wd), (3, .inr (.inl rf)), (5, .inl rt)] [] S Q := by
  refine zw_push hm_143 dX11_addObject_0 (v := .inr (.inr (some 64))) rfl ?_
  refine zw_cv hm_143 dX11_addObject_1 v_11_119_11 hm_144 [] [] rfl (zT_rt hS s_64 rfl) ⟨by omega, by omega⟩ rfl ?_
  show ma_wp X (d - 1) (w - 20) 144 0 [(0, .inr (.inr (some 64)))] [] S _
  refine zw_push hm_144 dX11_needCollector_0 (v := .inr (.inr (some 64))) rfl ?_
  obtain ⟨hg, h⟩ := h
  refine zw_gf hm_144 dX11_needCollector_1 (v := .inr (.inr (some 80))) (zT_is hS s_64) (zT_t hS s_64) rfl f_11_98_11 (congrArg (fun z => Sum.inr (Sum.inr z)) hg) ?_
  refine zw_ifnonnull hm_144 dX11_needCollector_4 (t := 15) rfl (fun z => by cases z) (fun _ _ => ?_)
  refine zw_push hm_144 dX11_needCollector_15 (v := .inr (.inr (some 64))) rfl ?_
  obtain ⟨hg, h⟩ := h
  refine zw_gf hm_144 dX11_needCollector_16 (v := .inr (.inr (some 80))) (zT_is hS s_64) (zT_t hS s_64) rfl f_11_98_11 (congrArg (fun z => Sum.inr (Sum.inr z)) hg) ?_
  refine zw_aret hm_144 dX11_needCollector_19 ?_
  show ma_wp X d w 143 4 [(0, .inr (.inr (some 64))), (1, .inl kd), (2, .inl wd), (3, .inr (.inl rf)), (5, .inl rt)] [.inr (.inr (some 80))] S _
  refine zw_sto hm_143 dX11_addObject_4 [(6, .inr (.inr (some 80))), (0, .inr (.inr (some 64))), (1, .inl kd), (2, .inl wd), (3, .inr (.inl rf)), (5, .inl rt)] rfl rfl rfl ?_
  refine zw_push hm_143 dX11_addObject_6 (v := .inr (.inr (some 64))) rfl ?_
  refine zw_gf hm_143 dX11_addObject_7 (v := .inr (.inr (some 69))) (zT_is hS s_64) (zT_t hS s_64) rfl f_11_26_11 (zT_f hS r_64_8) ?_
  refine zw_gf hm_143 dX11_addObject_10 (v := .inl (mI S 69 6)) (zT_is hS s_69) (zT_t hS s_69) rfl f_11_244_7 rfl ?_
  refine zw_push hm_143 dX11_addObject_13 (v := .inl (512 : Int32)) rfl ?_
  refine zw_if2 hm_143 dX11_addObject_16 (t := 30) rfl zc2_ge ?_ ?_
  · intro hc
    rw [if_pos hc] at h
    refine zw_push hm_143 dX11_addObject_30 (v := .inl (-1 : Int32)) rfl ?_
    refine zw_sto hm_143 dX11_addObject_31 [(7, .inl (-1 : Int32)), (6, .inr (.inr (some 80))), (0, .inr (.inr (some 64))), (1, .inl kd), (2, .inl wd), (3, .inr (.inl rf)), (5, .inl rt)] rfl rfl rfl ?_
    refine zw_push hm_143 dX11_addObject_33 (v := .inl (-1 : Int32)) rfl ?_
    refine zw_push hm_143 dX11_addObject_35 (v := .inl (-1 : Int32)) rfl ?_
    refine zw_if2 hm_143 dX11_addObject_36 (t := 41) rfl zc2_ne (fun hc => absurd hc (by decide)) (fun _ => ?_)
    refine zw_push hm_143 dX11_addObject_39 (v := .inl (-1 : Int32)) rfl ?_
    exact zw_iret hm_143 dX11_addObject_40 h
  · intro hc
    rw [if_neg hc] at h
    refine zw_push hm_143 dX11_addObject_19 (v := .inr (.inr (some 80))) rfl ?_
    refine zw_push hm_143 dX11_addObject_21 (v := .inl wd) rfl ?_
    refine zw_push hm_143 dX11_addObject_22 (v := .inl (1 : Int32)) rfl ?_
    refine zw_stk hm_143 dX11_addObject_23 (st₉ := [.inl (wd + (1 : Int32)), .inr (.inr (some 80))]) rfl rfl ?_
    refine zw_cv hm_143 dX11_addObject_24 v_11_367_5 hm_61 [.inl (wd + (1 : Int32))] [] rfl (zT_rt hS s_80 rfl) ⟨by omega, by omega⟩ rfl (zw_mono h (zi_go ?_ ?_))
    · intro v2 S1 hv
      obtain ⟨hS1, h⟩ := hv
      refine zw_goto hm_143 dX11_addObject_27 (t := 31) rfl ?_
      refine zw_sto hm_143 dX11_addObject_31 [(7, .inl v2), (6, .inr (.inr (some 80))), (0, .inr (.inr (some 64))), (1, .inl kd), (2, .inl wd), (3, .inr (.inl rf)), (5, .inl rt)] rfl rfl rfl ?_
      refine zw_push hm_143 dX11_addObject_33 (v := .inl v2) rfl ?_
      refine zw_push hm_143 dX11_addObject_35 (v := .inl (-1 : Int32)) rfl ?_
      refine zw_if2 hm_143 dX11_addObject_36 (t := 41) rfl zc2_ne ?_ ?_
      · intro hc
        rw [if_neg hc] at h
        exact zw_sub (ma_nd_of (ks := [0, 1, 2, 3, 5, 6, 7]) rfl (by decide)) (ma_nd_of (ks := [7, 6, 0, 1, 2, 3, 5]) rfl (by decide)) (ma_le_cons rfl (ma_le_cons rfl (ma_le_cons rfl (ma_le_cons rfl (ma_le_cons rfl (ma_le_cons rfl (ma_le_cons rfl (ma_le_nil _)))))))) h
      · intro hc
        rw [if_pos (Classical.not_not.mp hc)] at h
        refine zw_push hm_143 dX11_addObject_39 (v := .inl (-1 : Int32)) rfl ?_
        exact zw_iret hm_143 dX11_addObject_40 h
    · intro x S9 hx
      exact hx.elim
theorem sp_143_64_sl_p80 {X : Nat × (Nat → Int32)} {d w : Nat} {f : Nat → Nat → Int32} {r : Nat → Nat → Option Nat} {C Z N : Nat} {Q : Option ma_V ⊕ Nat → ma_S → Prop} {ab : Nat→Nat→Int32} {S : ma_S} (kd : Int32) (wd : Int32) (rf : Int64) (rt : Int32) (hd : 7 ≤ d) (hw : 182 ≤ w) (hI : zB f r C Z N S) (hr : r 64 11 = some 80) (hpre0 : 0 ≤ wd.toInt) (hpre1 : wd.toInt ≤ 60) (hpre2 : 0 ≤ rt.toInt) (hpre3 : rt.toInt ≤ 15) (hpre4 : xB S (mR S 70)) (hpre5 : aL S = ab) (hpre6 : qI ab) (K : ∀ v S₉ r₉ C₉ Z₉ N₉, (∀ c k, c < 126 → r₉ c k = r c k) → C₉ ≤ C + 1 → Z₉ ≤ Z + 9 → (N ≤ N₉) → zB f r₉ C₉ Z₉ N₉ S₉ → (True) → (xB S₉ (mR S₉ 70)) → (aL S₉ = lMk ab kd wd rf rt ∧ v = lMn ab wd) → Q (.inl (some (.inl v))) S₉) : ma_wp X d w 143 0 [(0, .inr (.inr (some 64))), (1, .inl kd), (2, .inl wd), (3, .inr (.inl rf)), (5, .inl rt)] [] S Q := by
  refine g_143_64_sl_p80_0 kd wd rf rt (by omega) (by omega) (zG_T hI) ?_
  refine ⟨((zG_r hI (by decide)).trans hr), ?_⟩
  refine ⟨((zG_r hI (by decide)).trans hr), ?_⟩
  have li1 : (512 : Int32).toInt = 512 := rfl
  have f2 := zG_s hI (0) (512) (c := 69) (k := 6) (by decide)
  refine zd (fun h3 => ?_) (fun h3 => ?_)
  · skip
    have g4 := i_le h3
    have li5 : (-1 : Int32).toInt = -1 := rfl
    exact K ((-1 : Int32)) _ _ _ _ _ (fun _ _ _ => rfl) (by omega) (by omega) (Nat.le_refl _) hI trivial (show xB S (mR S 70) from by first | (exact xB_x (xC_o (W := 75) hpre4).2)) (show aL S = lMk ab kd wd rf rt ∧ (-1 : Int32) = lMn ab wd from by first | (have z := lMk_0 (a := ab) (kd := kd) (wd := wd) (rt := rt) (L := rf) (by rw [← hpre5, (show aL S 69 6 = mI S 69 6 from (aL_o (by decide)).trans (aS_I (W := 75) (S := S) (c := 69) (c₉ := 69) (k := 6) rfl rfl))]; omega); exact ⟨hpre5.trans z.1.symm, z.2.symm⟩))
  · skip
    have g6 := i_nle h3
    have b7 := i_bd wd
    first | have e8 : (wd + (1 : Int32)).toInt = wd.toInt + (1) := i_addk rfl (by omega) (by omega) | have b9 := i_bd (wd + (1 : Int32))
    refine sp_61_80_sl (ab := (aL S)) ((wd + (1 : Int32))) (by omega) (by omega) (zB_dn_zJ80 hI) (show xB S (mR S 70) from by first | (exact xB_x (xC_o (W := 75) hpre4).2)) (show aL S = (aL S) from by first | (exact rfl)) (show qI (aL S) from by first | (rw [hpre5]; exact hpre6) | (exact hpre6)) (by omega) (by omega) (fun v2 S1 hL_S1 hp_v2 rp0_S1 rp1_S1 => zi_n ⟨zG_T hL_S1, ?_⟩)
    have hI_S1 := zB_up_zJ80 hI hL_S1
    have rp0_S1 : xB S1 (mR S1 70) := by
      have z := rp0_S1
      (try rw [show mI S 65 = f 65 from funext (fun k => zG_z hI rfl)] at z)
      (try rw [show mI S 64 1 = f 64 1 from zG_z hI rfl] at z)
      exact z
    have rp1_S1 : aL S1 = lRs (aL S) (wd + (1 : Int32)).toInt ∧ v2.toInt = lRp (aL S) (wd + (1 : Int32)).toInt := by
      have z := rp1_S1
      (try rw [show mI S 65 = f 65 from funext (fun k => zG_z hI rfl)] at z)
      (try rw [show mI S 64 1 = f 64 1 from zG_z hI rfl] at z)
      exact z
    have b10 := i_bd v2
    have li11 : (-1 : Int32).toInt = -1 := rfl
    refine zd (fun h12 => ?_) (fun h12 => ?_)
    · skip
      have g13 := i_eq h12
      exact K ((-1 : Int32)) _ _ _ _ _ (fun _ _ _ => rfl) (by omega) (by omega) (Nat.le_refl _) hI_S1 trivial (show xB S1 (mR S1 70) from by first | (exact xB_x (xC_o (W := 75) rp0_S1).2)) (show aL S1 = lMk ab kd wd rf rt ∧ (-1 : Int32) = lMn ab wd from by first | (have wd1 : (wd + (1 : Int32)).toInt = wd.toInt + 1 := i_addk rfl (by omega) (by omega); have rs := rp1_S1; rw [hpre5] at rs; have z := lMk_1 (a := ab) (kd := kd) (wd := wd) (rt := rt) (L := rf) (by rw [← hpre5, (show aL S 69 6 = mI S 69 6 from (aL_o (by decide)).trans (aS_I (W := 75) (S := S) (c := 69) (c₉ := 69) (k := 6) rfl rfl))]; omega) (by omega); exact ⟨rs.1.trans z.1.symm, z.2.symm⟩))
    · skip
      have g14 := i_ne h12
      have b15 := i_bd rt
      have q16 : (mI S1 69 6).toInt = (mI S 69 6).toInt := zG_zi (f := mI S) hL_S1 rfl
      have f17 := zG_s hI_S1 (0) (512) (c := 69) (k := 6) (by decide)
      have hN2 : 126 ≤ mN S1 := (zG_T hI_S1).2.1
      have hr2 : ∀ n c, mR S1 70 n = some c → c < mN S1 := fun n c q => by have z := zG_70 hI_S1 (by decide) q; rw [zG_N hI_S1]; exact z.2
      have wd1 : (wd + (1 : Int32)).toInt = wd.toInt + 1 := i_addk rfl (by omega) (by omega)
      have hy : (mI S1 69 6) = aL S1 69 6 := (show aL S1 69 6 = mI S1 69 6 from (aL_o (by decide)).trans (aS_I (W := 75) (S := S1) (c := 69) (c₉ := 69) (k := 6) rfl rfl)).symm
      have rs := rp1_S1
      have mk2 := lMk_2 (a := ab) (b := aL S1) (kd := kd) (wd := wd) (rt := rt) (L := rf) (pl := v2) (y := (mI S1 69 6)) (by rw [← hpre5, (show aL S 69 6 = mI S 69 6 from (aL_o (by decide)).trans (aS_I (W := 75) (S := S) (c := 69) (c₉ := 69) (k := 6) rfl rfl))]; omega) (by rw [← hpre5]; exact rs.1) (by rw [← hpre5]; exact rs.2) (by omega) hy
      exact mk_143s (p := 80) (by omega) (by omega) hI_S1 (by show 0 ≤ (mI S1 69 6).toInt; omega) (by show (mI S1 69 6).toInt ≤ 511; omega) (by omega) (by omega) (by omega) (by omega) (fun Sn hn hj => sg_143_64_sl_64 (ab := aL S1) (R := mR S1 70) (y := (mI S1 69 6)) (I0 := (zFn (mI S1 69 6) kd (wd + (1 : Int32)) v2)) (L0 := rf) (rt) N (by omega) (by omega) hn ⟨Nat.le_trans (zG_T hI_S1).2.1 (Nat.le_of_eq (zG_N hI_S1)), Nat.lt_succ_self _⟩ (by rw [hj, zTh_lo (by decide) hN2]; omega) (by rw [hj]; exact mk_B rp0_S1 hN2 hr2) (by rw [hj]; exact L_th hN2 hr2) (by rw [hj]; have q := zTh_eq (S := S1) (nu := (mI S1 69 6)) (kd := kd) (sz := wd + (1 : Int32)) (rr := rf) (pl := v2); rw [zG_N hI_S1] at q; exact q) (by rw [hj]; have q := zTh_L3 (S := S1) (nu := (mI S1 69 6)) (kd := kd) (sz := wd + (1 : Int32)) (rr := rf) (pl := v2); rw [zG_N hI_S1] at q; exact q) rfl (show (0 ≤ (mI S1 69 6).toInt ∧ (mI S1 69 6).toInt ≤ 511) ∧ (1 ≤ (wd + (1 : Int32)).toInt ∧ (wd + (1 : Int32)).toInt ≤ 61) ∧ 0 ≤ v2.toInt ∧ v2.toInt + (wd + (1 : Int32)).toInt ≤ 4500 by omega) ⟨by omega, by omega⟩ (by omega) (by omega) (fun v9 S9 h9 h10 q0 q1 => K v9 S9 _ _ _ _ (zrN_lo (zG_T hI_S1) (zG_N hI_S1)) (by omega) (by omega) (by omega) h9 h10 q0 (by rw [mk2.1, mk2.2]; exact q1)))
theorem g_141_64_sl_p80_0 {X : Nat × (Nat → Int32)} {d w : Nat} {S : ma_S} {Q : Option ma_V ⊕ Nat → ma_S → Prop} (ki : Int32) (rt : Int32) (hd : 8 ≤ d) (hw : 232 ≤ w) (hS : zT S) (h : if ki < 0 then (Q (.inr 2) (ma_bump S)) else (if (mI S 64 7) ≤ ki then (Q (.inr 2) (ma_bump S)) else (if rt < 0 then (Q (.inr 2) (ma_bump S)) else (if (16 : Int32) ≤ rt then (Q (.inr 2) (ma_bump S)) else ((0 ≤ ki ∧ ki.toNatClampNeg < 16) ∧ ((0 ≤ ki ∧ ki.toNatClampNeg < 16) ∧ (ma_wp X (d - 1) (w - 28) 143 0 [(0, .inr (.inr (some 64))), (1, .inl ki), (2, .inl (mI S 67 ki.toNatClampNeg)), (3, .inr (.inl ((mI S 68 ki.toNatClampNeg).toInt64))), (5, .inl rt)] [] S (zi (fun v2 S1 => zT S1 ∧ (Q (.inl (some (.inl v2))) S1)) (fun x S9 => Q (.inr x) S9))))))))) : ma_wp X d w 141 0 [(0, .inr (.inr (some 64))), (1, .inl ki), (2, .inl rt)] [] S Q := by
  refine zw_push hm_141 dX11_make_0 (v := .inl ki) rfl ?_
  refine zw_if0 hm_141 dX11_make_1 (t := 19) rfl zc0_lt ?_ ?_
  · intro hc
    rw [if_pos hc] at h
    exact zw_thr hm_141 dX11_make_19 dX11_make_22 dX11_make_23 dX11_make_26 x_11_79_81 n_11_79 (by omega) (by show 0 + 81 ≤ w; omega) h
  · intro hc
    rw [if_neg hc] at h
    refine zw_push hm_141 dX11_make_4 (v := .inl ki) rfl ?_
    refine zw_push hm_141 dX11_make_5 (v := .inr (.inr (some 64))) rfl ?_
    refine zw_gf hm_141 dX11_make_6 (v := .inl (mI S 64 7)) (zT_is hS s_64) (zT_t hS s_64) rfl f_11_82_11 rfl ?_
    refine zw_if2 hm_141 dX11_make_9 (t := 19) rfl zc2_ge ?_ ?_
    · intro hc
      rw [if_pos hc] at h
      exact zw_thr hm_141 dX11_make_19 dX11_make_22 dX11_make_23 dX11_make_26 x_11_79_81 n_11_79 (by omega) (by show 0 + 81 ≤ w; omega) h
    · intro hc
      rw [if_neg hc] at h
      refine zw_push hm_141 dX11_make_12 (v := .inl rt) rfl ?_
      refine zw_cs hm_141 dX11_make_13 pn_11_109 sl_11_109 hm_142 [.inl rt] [] rfl ⟨by omega, by omega⟩ rfl ?_
      show ma_wp X (d - 1) (w - 20) 142 0 [(0, .inl rt)] [] S _
      refine zw_push hm_142 dX11_isSlot_0 (v := .inl rt) rfl ?_
      refine zw_if0 hm_142 dX11_isSlot_1 (t := 14) rfl zc0_lt ?_ ?_
      · intro hc
        rw [if_pos hc] at h
        refine zw_push hm_142 dX11_isSlot_14 (v := .inl (0 : Int32)) rfl ?_
        refine zw_bret hm_142 dX11_isSlot_15 (by decide) ?_
        show ma_wp X d w 141 16 [(0, .inr (.inr (some 64))), (1, .inl ki), (2, .inl rt)] [.inl (0 : Int32)] S _
        refine zw_if0 hm_141 dX11_make_16 (t := 27) rfl zc0_ne (fun hc => absurd hc (by decide)) (fun _ => ?_)
        exact zw_thr hm_141 dX11_make_19 dX11_make_22 dX11_make_23 dX11_make_26 x_11_79_81 n_11_79 (by omega) (by show 0 + 81 ≤ w; omega) h
      · intro hc
        rw [if_neg hc] at h
        refine zw_push hm_142 dX11_isSlot_4 (v := .inl rt) rfl ?_
        refine zw_push hm_142 dX11_isSlot_5 (v := .inl (16 : Int32)) rfl ?_
        refine zw_if2 hm_142 dX11_isSlot_7 (t := 14) rfl zc2_ge ?_ ?_
        · intro hc
          rw [if_pos hc] at h
          refine zw_push hm_142 dX11_isSlot_14 (v := .inl (0 : Int32)) rfl ?_
          refine zw_bret hm_142 dX11_isSlot_15 (by decide) ?_
          show ma_wp X d w 141 16 [(0, .inr (.inr (some 64))), (1, .inl ki), (2, .inl rt)] [.inl (0 : Int32)] S _
          refine zw_if0 hm_141 dX11_make_16 (t := 27) rfl zc0_ne (fun hc => absurd hc (by decide)) (fun _ => ?_)
          exact zw_thr hm_141 dX11_make_19 dX11_make_22 dX11_make_23 dX11_make_26 x_11_79_81 n_11_79 (by omega) (by show 0 + 81 ≤ w; omega) h
        · intro hc
          rw [if_neg hc] at h
          refine zw_push hm_142 dX11_isSlot_10 (v := .inl (1 : Int32)) rfl ?_
          refine zw_goto hm_142 dX11_isSlot_11 (t := 15) rfl ?_
          refine zw_bret hm_142 dX11_isSlot_15 (by decide) ?_
          show ma_wp X d w 141 16 [(0, .inr (.inr (some 64))), (1, .inl ki), (2, .inl rt)] [.inl (1 : Int32)] S _
          refine zw_if0 hm_141 dX11_make_16 (t := 27) rfl zc0_ne (fun _ => ?_) (fun hc => absurd (by decide) hc)
          refine zw_push hm_141 dX11_make_27 (v := .inr (.inr (some 64))) rfl ?_
          refine zw_push hm_141 dX11_make_28 (v := .inl ki) rfl ?_
          refine zw_push hm_141 dX11_make_29 (v := .inr (.inr (some 64))) rfl ?_
          refine zw_gf hm_141 dX11_make_30 (v := .inr (.inr (some 67))) (zT_is hS s_64) (zT_t hS s_64) rfl f_11_17_11 (zT_f hS r_64_5) ?_
          refine zw_push hm_141 dX11_make_33 (v := .inl ki) rfl ?_
          obtain ⟨hg, h⟩ := h
          refine zw_ia hm_141 dX11_make_34 (zT_is hS s_67) (zT_h hS s_67) rfl hg ?_
          show ma_wp X d w 141 35 [(0, .inr (.inr (some 64))), (1, .inl ki), (2, .inl rt)] [.inl (mI S 67 ki.toNatClampNeg), .inl ki, .inr (.inr (some 64))] S _
          refine zw_push hm_141 dX11_make_35 (v := .inr (.inr (some 64))) rfl ?_
          refine zw_gf hm_141 dX11_make_36 (v := .inr (.inr (some 68))) (zT_is hS s_64) (zT_t hS s_64) rfl f_11_20_11 (zT_f hS r_64_6) ?_
          refine zw_push hm_141 dX11_make_39 (v := .inl ki) rfl ?_
          obtain ⟨hg, h⟩ := h
          refine zw_ia hm_141 dX11_make_40 (zT_is hS s_68) (zT_h hS s_68) rfl hg ?_
          show ma_wp X d w 141 41 [(0, .inr (.inr (some 64))), (1, .inl ki), (2, .inl rt)] [.inl (mI S 68 ki.toNatClampNeg), .inl (mI S 67 ki.toNatClampNeg), .inl ki, .inr (.inr (some 64))] S _
          refine zw_stk hm_141 dX11_make_41 (st₉ := [.inr (.inl ((mI S 68 ki.toNatClampNeg).toInt64)), .inl (mI S 67 ki.toNatClampNeg), .inl ki, .inr (.inr (some 64))]) rfl rfl ?_
          refine zw_push hm_141 dX11_make_42 (v := .inl rt) rfl ?_
          refine zw_cv hm_141 dX11_make_43 v_11_113_11 hm_143 [.inl rt, .inr (.inl ((mI S 68 ki.toNatClampNeg).toInt64)), .inl (mI S 67 ki.toNatClampNeg), .inl ki] [] rfl (zT_rt hS s_64 rfl) ⟨by omega, by omega⟩ rfl (zw_mono h (zi_go ?_ ?_))
          · intro v2 S1 hv
            obtain ⟨hS1, h⟩ := hv
            exact zw_iret hm_141 dX11_make_46 h
          · intro x S9 hx
            exact ⟨by decide, hx⟩
theorem sp_141_64_sl_p80 {X : Nat × (Nat → Int32)} {d w : Nat} {f : Nat → Nat → Int32} {r : Nat → Nat → Option Nat} {C Z N : Nat} {Q : Option ma_V ⊕ Nat → ma_S → Prop} {ab : Nat→Nat→Int32} {S : ma_S} (ki : Int32) (rt : Int32) (hd : 8 ≤ d) (hw : 232 ≤ w) (hI : zB f r C Z N S) (hr : r 64 11 = some 80) (hpre0 : xB S (mR S 70)) (hpre1 : aL S = ab) (hpre2 : qI ab) (K : ∀ v S₉ r₉ C₉ Z₉ N₉, (∀ c k, c < 126 → r₉ c k = r c k) → C₉ ≤ C + 1 → Z₉ ≤ Z + 9 → (N ≤ N₉) → zB f r₉ C₉ Z₉ N₉ S₉ → (True) → (xB S₉ (mR S₉ 70)) → ((0 ≤ ki.toInt ∧ ki.toInt < (f 64 7).toInt ∧ 0 ≤ rt.toInt ∧ rt.toInt ≤ 15) ∧ aL S₉ = lMk ab ki (f 67 ki.toNatClampNeg) (f 68 ki.toNatClampNeg).toInt64 rt ∧ v = lMn ab (f 67 ki.toNatClampNeg)) → Q (.inl (some (.inl v))) S₉) (KX : ∀ x S₉, (x = 2) → zB f r C Z N S₉ → (xB S₉ (mR S₉ 70)) → (aL S₉ = ab) → (x = 2 ∧ ¬ (0 ≤ ki.toInt ∧ ki.toInt < (f 64 7).toInt ∧ 0 ≤ rt.toInt ∧ rt.toInt ≤ 15)) → Q (.inr x) (ma_bump S₉)) : ma_wp X d w 141 0 [(0, .inr (.inr (some 64))), (1, .inl ki), (2, .inl rt)] [] S Q := by
  refine g_141_64_sl_p80_0 ki rt (by omega) (by omega) (zG_T hI) ?_
  have b1 := i_bd ki
  have li2 : (0 : Int32).toInt = 0 := rfl
  refine zd (fun h3 => ?_) (fun h3 => ?_)
  · skip
    have g4 := i_lt h3
    exact KX 2 _ (by decide) hI (show xB S (mR S 70) from by first | (exact xB_x (xC_o (W := 75) hpre0).2)) (show aL S = ab from by first | (exact hpre1)) (show 2 = 2 ∧ ¬ (0 ≤ ki.toInt ∧ ki.toInt < (f 64 7).toInt ∧ 0 ≤ rt.toInt ∧ rt.toInt ≤ 15) from by first | (have f7 : (mI S 64 7).toInt = (f 64 7).toInt := zG_zi hI rfl; exact ⟨rfl, by omega⟩))
  · skip
    have g5 := i_nlt h3
    have f6 := zG_s hI (0) (16) (c := 64) (k := 7) (by decide)
    refine zd (fun h7 => ?_) (fun h7 => ?_)
    · skip
      have g8 := i_le h7
      exact KX 2 _ (by decide) hI (show xB S (mR S 70) from by first | (exact xB_x (xC_o (W := 75) hpre0).2)) (show aL S = ab from by first | (exact hpre1)) (show 2 = 2 ∧ ¬ (0 ≤ ki.toInt ∧ ki.toInt < (f 64 7).toInt ∧ 0 ≤ rt.toInt ∧ rt.toInt ≤ 15) from by first | (have f7 : (mI S 64 7).toInt = (f 64 7).toInt := zG_zi hI rfl; exact ⟨rfl, by omega⟩))
    · skip
      have g9 := i_nle h7
      have b10 := i_bd rt
      refine zd (fun h11 => ?_) (fun h11 => ?_)
      · skip
        have g12 := i_lt h11
        exact KX 2 _ (by decide) hI (show xB S (mR S 70) from by first | (exact xB_x (xC_o (W := 75) hpre0).2)) (show aL S = ab from by first | (exact hpre1)) (show 2 = 2 ∧ ¬ (0 ≤ ki.toInt ∧ ki.toInt < (f 64 7).toInt ∧ 0 ≤ rt.toInt ∧ rt.toInt ≤ 15) from by first | (have f7 : (mI S 64 7).toInt = (f 64 7).toInt := zG_zi hI rfl; exact ⟨rfl, by omega⟩))
      · skip
        have g13 := i_nlt h11
        have li14 : (16 : Int32).toInt = 16 := rfl
        refine zd (fun h15 => ?_) (fun h15 => ?_)
        · skip
          have g16 := i_le h15
          exact KX 2 _ (by decide) hI (show xB S (mR S 70) from by first | (exact xB_x (xC_o (W := 75) hpre0).2)) (show aL S = ab from by first | (exact hpre1)) (show 2 = 2 ∧ ¬ (0 ≤ ki.toInt ∧ ki.toInt < (f 64 7).toInt ∧ 0 ≤ rt.toInt ∧ rt.toInt ≤ 15) from by first | (have f7 : (mI S 64 7).toInt = (f 64 7).toInt := zG_zi hI rfl; exact ⟨rfl, by omega⟩))
        · skip
          have g17 := i_nle h15
          refine ⟨i_ix (by omega) (by omega), ?_⟩
          refine ⟨i_ix (by omega) (by omega), ?_⟩
          first | have f18 := zG_a hI 16 (0) (8) (c := 67) (k := ki.toNatClampNeg) (by decide) (i_ix (n := 16) (by omega) (by omega)).2 | have b19 := i_bd (mI S 67 ki.toNatClampNeg)
          refine sp_143_64_sl_p80 (ab := (aL S)) (ki) ((mI S 67 ki.toNatClampNeg)) (((mI S 68 ki.toNatClampNeg).toInt64)) (rt) (by omega) (by omega) hI hr (by omega) (by omega) (by omega) (by omega) (show xB S (mR S 70) from by first | (exact xB_x (xC_o (W := 75) hpre0).2)) (show aL S = (aL S) from by first | (exact rfl)) (show qI (aL S) from by first | (rw [hpre1]; exact hpre2) | (exact hpre2)) (fun v2 S1 r₉ C₉ Z₉ N₉ sl1 sl2 sl3 sl4 hI_S1 hp_v2 rp0_S1 rp1_S1 => zi_n ⟨zG_T hI_S1, ?_⟩)
          have rp0_S1 : xB S1 (mR S1 70) := rp0_S1
          have rp1_S1 : aL S1 = lMk (aL S) ki (mI S 67 ki.toNatClampNeg) (((mI S 68 ki.toNatClampNeg).toInt64)) rt ∧ v2 = lMn (aL S) (mI S 67 ki.toNatClampNeg) := rp1_S1
          have b20 := i_bd v2
          exact K (v2) _ _ _ _ _ sl1 sl2 sl3 sl4 hI_S1 trivial (show xB S1 (mR S1 70) from by first | (exact xB_x (xC_o (W := 75) rp0_S1).2)) (show (0 ≤ ki.toInt ∧ ki.toInt < (f 64 7).toInt ∧ 0 ≤ rt.toInt ∧ rt.toInt ≤ 15) ∧ aL S1 = lMk ab ki (f 67 ki.toNatClampNeg) (f 68 ki.toNatClampNeg).toInt64 rt ∧ v2 = lMn ab (f 67 ki.toNatClampNeg) from by first | (exfalso; omega) | (have f7 : (mI S 64 7).toInt = (f 64 7).toInt := zG_zi hI rfl; have q := rp1_S1; rw [hpre1, show mI S 67 ki.toNatClampNeg = f 67 ki.toNatClampNeg from zG_z hI rfl, show mI S 68 ki.toNatClampNeg = f 68 ki.toNatClampNeg from zG_z hI rfl] at q; exact ⟨⟨by omega, by omega, by omega, by omega⟩, q⟩))

/-! from 95.q23 -/
/-! the moving collectors, the class (written by wip/tools/gen15.py) -/
theorem g_147_64_sl_p80_0 {X : Nat × (Nat → Int32)} {d w : Nat} {S : ma_S} {Q : Option ma_V ⊕ Nat → ma_S → Prop} (b : Int32) (n : Int32) (rt : Int32) (hd : 8 ≤ d) (hw : 232 ≤ w) (hS : zT S) (h : if n < 0 then (Q (.inr 2) (ma_bump S)) else (if (60 : Int32) < n then (Q (.inr 2) (ma_bump S)) else (if rt < 0 then (Q (.inr 2) (ma_bump S)) else (if (16 : Int32) ≤ rt then (Q (.inr 2) (ma_bump S)) else (if b = 0 then (ma_wp X (d - 1) (w - 28) 143 0 [(0, .inr (.inr (some 64))), (1, .inl (17 : Int32)), (2, .inl n), (3, .inr (.inl (0 : Int64))), (5, .inl rt)] [] S (zi (fun v2 S1 => zT S1 ∧ (Q (.inl (some (.inl v2))) S1)) (fun x S9 => Q (.inr x) S9))) else (ma_wp X (d - 1) (w - 28) 143 0 [(0, .inr (.inr (some 64))), (1, .inl (16 : Int32)), (2, .inl n), (3, .inr (.inl (-1 : Int64))), (5, .inl rt)] [] S (zi (fun v4 S3 => zT S3 ∧ (Q (.inl (some (.inl v4))) S3)) (fun x S9 => Q (.inr x) S9)))))))) : ma_wp X d w 147 0 [(0, .inr (.inr (some 64))), (1, .inl b), (2, .inl n), (3, .inl rt)] [] S Q := by
  refine zw_push hm_147 dX11_row_0 (v := .inl n) rfl ?_
  refine zw_if0 hm_147 dX11_row_1 (t := 17) rfl zc0_lt ?_ ?_
  · intro hc
    rw [if_pos hc] at h
    exact zw_thr hm_147 dX11_row_17 dX11_row_20 dX11_row_21 dX11_row_24 x_11_79_81 n_11_79 (by omega) (by show 0 + 81 ≤ w; omega) h
  · intro hc
    rw [if_neg hc] at h
    refine zw_push hm_147 dX11_row_4 (v := .inl n) rfl ?_
    refine zw_push hm_147 dX11_row_5 (v := .inl (60 : Int32)) rfl ?_
    refine zw_if2 hm_147 dX11_row_7 (t := 17) rfl zc2_gt ?_ ?_
    · intro hc
      rw [if_pos hc] at h
      exact zw_thr hm_147 dX11_row_17 dX11_row_20 dX11_row_21 dX11_row_24 x_11_79_81 n_11_79 (by omega) (by show 0 + 81 ≤ w; omega) h
    · intro hc
      rw [if_neg hc] at h
      refine zw_push hm_147 dX11_row_10 (v := .inl rt) rfl ?_
      refine zw_cs hm_147 dX11_row_11 pn_11_109 sl_11_109 hm_142 [.inl rt] [] rfl ⟨by omega, by omega⟩ rfl ?_
      show ma_wp X (d - 1) (w - 20) 142 0 [(0, .inl rt)] [] S _
      refine zw_push hm_142 dX11_isSlot_0 (v := .inl rt) rfl ?_
      refine zw_if0 hm_142 dX11_isSlot_1 (t := 14) rfl zc0_lt ?_ ?_
      · intro hc
        rw [if_pos hc] at h
        refine zw_push hm_142 dX11_isSlot_14 (v := .inl (0 : Int32)) rfl ?_
        refine zw_bret hm_142 dX11_isSlot_15 (by decide) ?_
        show ma_wp X d w 147 14 [(0, .inr (.inr (some 64))), (1, .inl b), (2, .inl n), (3, .inl rt)] [.inl (0 : Int32)] S _
        refine zw_if0 hm_147 dX11_row_14 (t := 25) rfl zc0_ne (fun hc => absurd hc (by decide)) (fun _ => ?_)
        exact zw_thr hm_147 dX11_row_17 dX11_row_20 dX11_row_21 dX11_row_24 x_11_79_81 n_11_79 (by omega) (by show 0 + 81 ≤ w; omega) h
      · intro hc
        rw [if_neg hc] at h
        refine zw_push hm_142 dX11_isSlot_4 (v := .inl rt) rfl ?_
        refine zw_push hm_142 dX11_isSlot_5 (v := .inl (16 : Int32)) rfl ?_
        refine zw_if2 hm_142 dX11_isSlot_7 (t := 14) rfl zc2_ge ?_ ?_
        · intro hc
          rw [if_pos hc] at h
          refine zw_push hm_142 dX11_isSlot_14 (v := .inl (0 : Int32)) rfl ?_
          refine zw_bret hm_142 dX11_isSlot_15 (by decide) ?_
          show ma_wp X d w 147 14 [(0, .inr (.inr (some 64))), (1, .inl b), (2, .inl n), (3, .inl rt)] [.inl (0 : Int32)] S _
          refine zw_if0 hm_147 dX11_row_14 (t := 25) rfl zc0_ne (fun hc => absurd hc (by decide)) (fun _ => ?_)
          exact zw_thr hm_147 dX11_row_17 dX11_row_20 dX11_row_21 dX11_row_24 x_11_79_81 n_11_79 (by omega) (by show 0 + 81 ≤ w; omega) h
        · intro hc
          rw [if_neg hc] at h
          refine zw_push hm_142 dX11_isSlot_10 (v := .inl (1 : Int32)) rfl ?_
          refine zw_goto hm_142 dX11_isSlot_11 (t := 15) rfl ?_
          refine zw_bret hm_142 dX11_isSlot_15 (by decide) ?_
          show ma_wp X d w 147 14 [(0, .inr (.inr (some 64))), (1, .inl b), (2, .inl n), (3, .inl rt)] [.inl (1 : Int32)] S _
          refine zw_if0 hm_147 dX11_row_14 (t := 25) rfl zc0_ne (fun _ => ?_) (fun hc => absurd (by decide) hc)
          refine zw_push hm_147 dX11_row_25 (v := .inl b) rfl ?_
          refine zw_if0 hm_147 dX11_row_26 (t := 43) rfl zc0_eq ?_ ?_
          · intro hc
            rw [if_pos hc] at h
            refine zw_push hm_147 dX11_row_43 (v := .inr (.inr (some 64))) rfl ?_
            refine zw_push hm_147 dX11_row_44 (v := .inl (17 : Int32)) rfl ?_
            refine zw_push hm_147 dX11_row_46 (v := .inl n) rfl ?_
            refine zw_push hm_147 dX11_row_47 (v := .inr (.inl (0 : Int64))) rfl ?_
            refine zw_push hm_147 dX11_row_48 (v := .inl rt) rfl ?_
            refine zw_cv hm_147 dX11_row_49 v_11_113_11 hm_143 [.inl rt, .inr (.inl (0 : Int64)), .inl n, .inl (17 : Int32)] [] rfl (zT_rt hS s_64 rfl) ⟨by omega, by omega⟩ rfl (zw_mono h (zi_go ?_ ?_))
            · intro v2 S1 hv
              obtain ⟨hS1, h⟩ := hv
              exact zw_iret hm_147 dX11_row_52 h
            · intro x S9 hx
              exact ⟨by decide, hx⟩
          · intro hc
            rw [if_neg hc] at h
            refine zw_push hm_147 dX11_row_29 (v := .inr (.inr (some 64))) rfl ?_
            refine zw_push hm_147 dX11_row_30 (v := .inl (16 : Int32)) rfl ?_
            refine zw_push hm_147 dX11_row_32 (v := .inl n) rfl ?_
            refine zw_l2 hm_147 dX11_row_33 l2_11_117 ?_
            refine zw_push hm_147 dX11_row_36 (v := .inl rt) rfl ?_
            refine zw_cv hm_147 dX11_row_37 v_11_113_11 hm_143 [.inl rt, .inr (.inl (-1 : Int64)), .inl n, .inl (16 : Int32)] [] rfl (zT_rt hS s_64 rfl) ⟨by omega, by omega⟩ rfl (zw_mono h (zi_go ?_ ?_))
            · intro v4 S3 hv
              obtain ⟨hS3, h⟩ := hv
              refine zw_goto hm_147 dX11_row_40 (t := 52) rfl ?_
              exact zw_iret hm_147 dX11_row_52 h
            · intro x S9 hx
              exact ⟨by decide, hx⟩
theorem sp_147_64_sl_p80 {X : Nat × (Nat → Int32)} {d w : Nat} {f : Nat → Nat → Int32} {r : Nat → Nat → Option Nat} {C Z N : Nat} {Q : Option ma_V ⊕ Nat → ma_S → Prop} {ab : Nat→Nat→Int32} {S : ma_S} (b : Int32) (n : Int32) (rt : Int32) (hd : 8 ≤ d) (hw : 232 ≤ w) (hI : zB f r C Z N S) (hr : r 64 11 = some 80) (hpre0 : 0 ≤ b.toInt) (hpre1 : b.toInt ≤ 1) (hpre2 : xB S (mR S 70)) (hpre3 : aL S = ab) (hpre4 : qI ab) (K : ∀ v S₉ r₉ C₉ Z₉ N₉, (∀ c k, c < 126 → r₉ c k = r c k) → C₉ ≤ C + 1 → Z₉ ≤ Z + 9 → (N ≤ N₉) → zB f r₉ C₉ Z₉ N₉ S₉ → (True) → (xB S₉ (mR S₉ 70)) → ((0 ≤ n.toInt ∧ n.toInt ≤ 60 ∧ 0 ≤ rt.toInt ∧ rt.toInt ≤ 15) ∧ aL S₉ = (if b = 0 then lMk ab 17 n 0 rt else lMk ab 16 n (-1) rt) ∧ v = lMn ab n) → Q (.inl (some (.inl v))) S₉) (KX : ∀ x S₉, (x = 2) → zB f r C Z N S₉ → (xB S₉ (mR S₉ 70)) → (aL S₉ = ab) → (x = 2 ∧ ¬ (0 ≤ n.toInt ∧ n.toInt ≤ 60 ∧ 0 ≤ rt.toInt ∧ rt.toInt ≤ 15)) → Q (.inr x) (ma_bump S₉)) : ma_wp X d w 147 0 [(0, .inr (.inr (some 64))), (1, .inl b), (2, .inl n), (3, .inl rt)] [] S Q := by
  refine g_147_64_sl_p80_0 b n rt (by omega) (by omega) (zG_T hI) ?_
  have b1 := i_bd n
  have li2 : (0 : Int32).toInt = 0 := rfl
  refine zd (fun h3 => ?_) (fun h3 => ?_)
  · skip
    have g4 := i_lt h3
    exact KX 2 _ (by decide) hI (show xB S (mR S 70) from by first | (exact xB_x (xC_o (W := 75) hpre2).2)) (show aL S = ab from by first | (exact hpre3)) (show 2 = 2 ∧ ¬ (0 ≤ n.toInt ∧ n.toInt ≤ 60 ∧ 0 ≤ rt.toInt ∧ rt.toInt ≤ 15) from by first | (exact ⟨rfl, by omega⟩))
  · skip
    have g5 := i_nlt h3
    have li6 : (60 : Int32).toInt = 60 := rfl
    refine zd (fun h7 => ?_) (fun h7 => ?_)
    · skip
      have g8 := i_lt h7
      exact KX 2 _ (by decide) hI (show xB S (mR S 70) from by first | (exact xB_x (xC_o (W := 75) hpre2).2)) (show aL S = ab from by first | (exact hpre3)) (show 2 = 2 ∧ ¬ (0 ≤ n.toInt ∧ n.toInt ≤ 60 ∧ 0 ≤ rt.toInt ∧ rt.toInt ≤ 15) from by first | (exact ⟨rfl, by omega⟩))
    · skip
      have g9 := i_nlt h7
      have b10 := i_bd rt
      refine zd (fun h11 => ?_) (fun h11 => ?_)
      · skip
        have g12 := i_lt h11
        exact KX 2 _ (by decide) hI (show xB S (mR S 70) from by first | (exact xB_x (xC_o (W := 75) hpre2).2)) (show aL S = ab from by first | (exact hpre3)) (show 2 = 2 ∧ ¬ (0 ≤ n.toInt ∧ n.toInt ≤ 60 ∧ 0 ≤ rt.toInt ∧ rt.toInt ≤ 15) from by first | (exact ⟨rfl, by omega⟩))
      · skip
        have g13 := i_nlt h11
        have li14 : (16 : Int32).toInt = 16 := rfl
        refine zd (fun h15 => ?_) (fun h15 => ?_)
        · skip
          have g16 := i_le h15
          exact KX 2 _ (by decide) hI (show xB S (mR S 70) from by first | (exact xB_x (xC_o (W := 75) hpre2).2)) (show aL S = ab from by first | (exact hpre3)) (show 2 = 2 ∧ ¬ (0 ≤ n.toInt ∧ n.toInt ≤ 60 ∧ 0 ≤ rt.toInt ∧ rt.toInt ≤ 15) from by first | (exact ⟨rfl, by omega⟩))
        · skip
          have g17 := i_nle h15
          have b18 := i_bd b
          refine zd (fun h19 => ?_) (fun h19 => ?_)
          · skip
            have g20 := i_eq h19
            have li21 : (17 : Int32).toInt = 17 := rfl
            refine sp_143_64_sl_p80 (ab := (aL S)) ((17 : Int32)) (n) ((0 : Int64)) (rt) (by omega) (by omega) hI hr (by omega) (by omega) (by omega) (by omega) (show xB S (mR S 70) from by first | (exact xB_x (xC_o (W := 75) hpre2).2)) (show aL S = (aL S) from by first | (exact rfl)) (show qI (aL S) from by first | (rw [hpre3]; exact hpre4) | (exact hpre4)) (fun v2 S1 r₉ C₉ Z₉ N₉ sl1 sl2 sl3 sl4 hI_S1 hp_v2 rp0_S1 rp1_S1 => zi_n ⟨zG_T hI_S1, ?_⟩)
            have rp0_S1 : xB S1 (mR S1 70) := rp0_S1
            have rp1_S1 : aL S1 = lMk (aL S) (17 : Int32) n (0 : Int64) rt ∧ v2 = lMn (aL S) n := rp1_S1
            have b22 := i_bd v2
            exact K (v2) _ _ _ _ _ sl1 sl2 sl3 sl4 hI_S1 trivial (show xB S1 (mR S1 70) from by first | (exact xB_x (xC_o (W := 75) rp0_S1).2)) (show (0 ≤ n.toInt ∧ n.toInt ≤ 60 ∧ 0 ≤ rt.toInt ∧ rt.toInt ≤ 15) ∧ aL S1 = (if b = 0 then lMk ab 17 n 0 rt else lMk ab 16 n (-1) rt) ∧ v2 = lMn ab n from by first | (exfalso; omega) | (have q := rp1_S1; rw [hpre3] at q; refine ⟨⟨by omega, by omega, by omega, by omega⟩, ?_⟩; rw [if_pos (by assumption)]; exact q) | (have q := rp1_S1; rw [hpre3] at q; refine ⟨⟨by omega, by omega, by omega, by omega⟩, ?_⟩; rw [if_neg (by assumption)]; exact q))
          · skip
            have g23 := i_ne h19
            refine sp_143_64_sl_p80 (ab := (aL S)) ((16 : Int32)) (n) ((-1 : Int64)) (rt) (by omega) (by omega) hI hr (by omega) (by omega) (by omega) (by omega) (show xB S (mR S 70) from by first | (exact xB_x (xC_o (W := 75) hpre2).2)) (show aL S = (aL S) from by first | (exact rfl)) (show qI (aL S) from by first | (rw [hpre3]; exact hpre4) | (exact hpre4)) (fun v4 S3 r₉ C₉ Z₉ N₉ sl1 sl2 sl3 sl4 hI_S3 hp_v4 rp0_S3 rp1_S3 => zi_n ⟨zG_T hI_S3, ?_⟩)
            have rp0_S3 : xB S3 (mR S3 70) := rp0_S3
            have rp1_S3 : aL S3 = lMk (aL S) (16 : Int32) n (-1 : Int64) rt ∧ v4 = lMn (aL S) n := rp1_S3
            have b24 := i_bd v4
            exact K (v4) _ _ _ _ _ sl1 sl2 sl3 sl4 hI_S3 trivial (show xB S3 (mR S3 70) from by first | (exact xB_x (xC_o (W := 75) rp0_S3).2)) (show (0 ≤ n.toInt ∧ n.toInt ≤ 60 ∧ 0 ≤ rt.toInt ∧ rt.toInt ≤ 15) ∧ aL S3 = (if b = 0 then lMk ab 17 n 0 rt else lMk ab 16 n (-1) rt) ∧ v4 = lMn ab n from by first | (exfalso; omega) | (have q := rp1_S3; rw [hpre3] at q; refine ⟨⟨by omega, by omega, by omega, by omega⟩, ?_⟩; rw [if_pos (by assumption)]; exact q) | (have q := rp1_S3; rw [hpre3] at q; refine ⟨⟨by omega, by omega, by omega, by omega⟩, ?_⟩; rw [if_neg (by assumption)]; exact q))
theorem g_264_81_s_0 {X : Nat × (Nat → Int32)} {d w : Nat} {S : ma_S} {Q : Option ma_V ⊕ Nat → ma_S → Prop}  (hd : 3 ≤ d) (hw : 72 ≤ w) (hS : zT S) (h : ma_wp X (d - 1) (w - 20) 116 0 [(0, .inr (.inr (some 75)))] [] S (zv (fun S1 => zT S1 ∧ (ma_wp X (d - 1) (w - 23) 83 0 [(0, .inr (.inr (some 69))), (1, .inr (.inr (some 75)))] [] S1 (zv (fun S3 => zT S3 ∧ (ma_wp X (d - 1) (w - 24) 86 0 [(0, .inr (.inr (some 69))), (1, .inr (.inr (some 75)))] [] S3 (zi (fun v6 S5 => zT S5 ∧ (Q (.inl (some (.inl v6))) S5)) (fun x S9 => Q (.inr x) S9)))) (fun x S9 => Q (.inr x) S9)))) (fun x S9 => Q (.inr x) S9))) : ma_wp X d w 264 0 [(0, .inr (.inr (some 81)))] [] S Q := by
  refine zw_push hm_264 dX1_removeUnreached_0 (v := .inr (.inr (some 81))) rfl ?_
  refine zw_gf hm_264 dX1_removeUnreached_1 (v := .inr (.inr (some 75))) (zT_is hS s_81) (zT_t hS s_81) rfl f_13_15_3 (zT_f hS r_81_1) ?_
  refine zw_cv hm_264 dX1_removeUnreached_4 v_13_19_10 hm_116 [] [] rfl (zT_rt hS s_75 rfl) ⟨by omega, by omega⟩ rfl (zw_mono h (zv_go ?_ ?_))
  · intro S1 hv
    obtain ⟨hS1, h⟩ := hv
    refine zw_push hm_264 dX1_removeUnreached_7 (v := .inr (.inr (some 81))) rfl ?_
    refine zw_gf hm_264 dX1_removeUnreached_8 (v := .inr (.inr (some 69))) (zT_is hS1 s_81) (zT_t hS1 s_81) rfl f_13_9_3 (zT_f hS1 r_81_0) ?_
    refine zw_push hm_264 dX1_removeUnreached_11 (v := .inr (.inr (some 81))) rfl ?_
    refine zw_gf hm_264 dX1_removeUnreached_12 (v := .inr (.inr (some 75))) (zT_is hS1 s_81) (zT_t hS1 s_81) rfl f_13_15_3 (zT_f hS1 r_81_1) ?_
    refine zw_cv hm_264 dX1_removeUnreached_15 v_13_24_7 hm_83 [.inr (.inr (some 75))] [] rfl (zT_rt hS1 s_69 rfl) ⟨by omega, by omega⟩ rfl (zw_mono h (zv_go ?_ ?_))
    · intro S3 hv
      obtain ⟨hS3, h⟩ := hv
      refine zw_push hm_264 dX1_removeUnreached_18 (v := .inr (.inr (some 81))) rfl ?_
      refine zw_gf hm_264 dX1_removeUnreached_19 (v := .inr (.inr (some 69))) (zT_is hS3 s_81) (zT_t hS3 s_81) rfl f_13_9_3 (zT_f hS3 r_81_0) ?_
      refine zw_push hm_264 dX1_removeUnreached_22 (v := .inr (.inr (some 81))) rfl ?_
      refine zw_gf hm_264 dX1_removeUnreached_23 (v := .inr (.inr (some 75))) (zT_is hS3 s_81) (zT_t hS3 s_81) rfl f_13_15_3 (zT_f hS3 r_81_1) ?_
      refine zw_cv hm_264 dX1_removeUnreached_26 v_13_30_7 hm_86 [.inr (.inr (some 75))] [] rfl (zT_rt hS3 s_69 rfl) ⟨by omega, by omega⟩ rfl (zw_mono h (zi_go ?_ ?_))
      · intro v6 S5 hv
        obtain ⟨hS5, h⟩ := hv
        exact zw_iret hm_264 dX1_removeUnreached_29 h
      · intro x S9 hx
        exact ⟨by decide, hx⟩
    · intro x S9 hx
      exact ⟨by decide, hx⟩
  · intro x S9 hx
    exact ⟨by decide, hx⟩
theorem sp_264_81_s {X : Nat × (Nat → Int32)} {d w : Nat} {f : Nat → Nat → Int32} {r : Nat → Nat → Option Nat} {C Z N : Nat} {Q : Option ma_V ⊕ Nat → ma_S → Prop} {ab : Nat→Nat→Int32} {S : ma_S}  (hd : 3 ≤ d) (hw : 72 ≤ w) (hI : zI f r C Z N S) (hpre0 : xB S (mR S 70)) (hpre1 : aS 75 S = ab) (K : ∀ v S₉, zI f r C Z N S₉ → (True) → (xB S₉ (mR S₉ 70)) → (aS 75 S₉ = aSw ab ∧ v = aSv ab) → Q (.inl (some (.inl v))) S₉) : ma_wp X d w 264 0 [(0, .inr (.inr (some 81)))] [] S Q := by
  refine g_264_81_s_0  (by omega) (by omega) (zG_T hI) ?_
  refine sp_116_75_s (ab := (aS 75 S)) (R := (mR S 70)) (a8 := (aS 88 S)) (by omega) (by omega) hI (show xB S (mR S 70) from by first | (exact xB_x (xC_o (W := 75) hpre0).2)) (show aS 75 S = (aS 75 S) from by first | (exact rfl)) (show aS 88 S = (aS 88 S) from by first | (exact rfl)) (fun S1 hI_S1 rp0_S1 rp1_S1 rp2_S1 => zv_n ⟨zG_T hI_S1, ?_⟩)
  have rp0_S1 : xB S1 (mR S 70) := rp0_S1
  have rp1_S1 : aS 75 S1 = aSp 512 (aRo (aWh (aS 75 S) 0) 0) := rp1_S1
  have rp2_S1 : aS 88 S1 = (aS 88 S) := rp2_S1
  refine sp_83_69_75_s (ab := (aS 75 S1)) (R := (mR S1 70)) (by omega) (by omega) hI_S1 (show xB S1 (mR S1 70) from by first | (exact xB_x (xC_o (W := 75) rp0_S1).2)) (show aS 75 S1 = (aS 75 S1) from by first | (exact rfl)) (fun S3 hI_S3 rp0_S3 rp1_S3 => zv_n ⟨zG_T hI_S3, ?_⟩)
  have rp0_S3 : xB S3 (mR S1 70) := rp0_S3
  have rp1_S3 : aS 75 S3 = aGw (aS 75 S1) 0 := rp1_S3
  refine sp_86_69_75_s (ab := (aS 75 S3)) (by omega) (by omega) hI_S3 (show xB S3 (mR S3 70) from by first | (exact xB_x (xC_o (W := 75) rp0_S3).2)) (show aS 75 S3 = (aS 75 S3) from by first | (exact rfl)) (fun v6 S5 hI_S5 hp_v6 rp0_S5 rp1_S5 => zi_n ⟨zG_T hI_S5, ?_⟩)
  have rp0_S5 : xB S5 (mR S5 70) := rp0_S5
  have rp1_S5 : aS 75 S5 = aMv (aS 75 S3) 0 ∧ v6 = aMv (aS 75 S3) 0 69 11 - (aS 75 S3) 69 11 := rp1_S5
  have b1 := i_bd v6
  exact K (v6) _ hI_S5 trivial (show xB S5 (mR S5 70) from by first | (exact xB_x (xC_o (W := 75) rp0_S5).2)) (show aS 75 S5 = aSw ab ∧ v6 = aSv ab from by first | (have z := rp1_S5; rw [rp1_S3, rp1_S1, hpre1] at z; exact z))
theorem g_124_75_s_0 {X : Nat × (Nat → Int32)} {d w : Nat} {S : ma_S} {Q : Option ma_V ⊕ Nat → ma_S → Prop} (i : Int32) (hd : 1 ≤ d) (hw : 21 ≤ w) (hS : zT S) (h : if i < 0 then (Q (.inl (some (.inr (.inr none)))) S) else (if (mI S 75 4) ≤ i then (Q (.inl (some (.inr (.inr none)))) S) else ((0 ≤ i ∧ i.toNatClampNeg < 512) ∧ (if (mI S 76 i.toNatClampNeg) < 0 then (Q (.inl (some (.inr (.inr none)))) S) else (if (512 : Int32) ≤ (mI S 76 i.toNatClampNeg) then (Q (.inl (some (.inr (.inr none)))) S) else ((0 ≤ (mI S 76 i.toNatClampNeg) ∧ (mI S 76 i.toNatClampNeg).toNatClampNeg < 512) ∧ (Q (.inl (some (.inr (.inr (mR S 70 (mI S 76 i.toNatClampNeg).toNatClampNeg))))) S))))))) : ma_wp X d w 124 0 [(0, .inr (.inr (some 75))), (1, .inl i)] [] S Q := by
  refine zw_push hm_124 dX10_thingInQueue_0 (v := .inl i) rfl ?_
  refine zw_if0 hm_124 dX10_thingInQueue_1 (t := 28) rfl zc0_lt ?_ ?_
  · intro hc
    rw [if_pos hc] at h
    refine zw_push hm_124 dX10_thingInQueue_28 (v := .inr (.inr none)) rfl ?_
    exact zw_aret hm_124 dX10_thingInQueue_29 h
  · intro hc
    rw [if_neg hc] at h
    refine zw_push hm_124 dX10_thingInQueue_4 (v := .inl i) rfl ?_
    refine zw_push hm_124 dX10_thingInQueue_5 (v := .inr (.inr (some 75))) rfl ?_
    refine zw_gf hm_124 dX10_thingInQueue_6 (v := .inl (mI S 75 4)) (zT_is hS s_75) (zT_t hS s_75) rfl f_10_32_10 rfl ?_
    refine zw_if2 hm_124 dX10_thingInQueue_9 (t := 28) rfl zc2_ge ?_ ?_
    · intro hc
      rw [if_pos hc] at h
      refine zw_push hm_124 dX10_thingInQueue_28 (v := .inr (.inr none)) rfl ?_
      exact zw_aret hm_124 dX10_thingInQueue_29 h
    · intro hc
      rw [if_neg hc] at h
      refine zw_push hm_124 dX10_thingInQueue_12 (v := .inr (.inr (some 75))) rfl ?_
      refine zw_gf hm_124 dX10_thingInQueue_13 (v := .inr (.inr (some 69))) (zT_is hS s_75) (zT_t hS s_75) rfl f_10_18_10 (zT_f hS r_75_0) ?_
      refine zw_push hm_124 dX10_thingInQueue_16 (v := .inr (.inr (some 75))) rfl ?_
      refine zw_gf hm_124 dX10_thingInQueue_17 (v := .inr (.inr (some 76))) (zT_is hS s_75) (zT_t hS s_75) rfl f_10_9_10 (zT_f hS r_75_1) ?_
      refine zw_push hm_124 dX10_thingInQueue_20 (v := .inl i) rfl ?_
      obtain ⟨hg, h⟩ := h
      refine zw_ia hm_124 dX10_thingInQueue_21 (zT_is hS s_76) (zT_h hS s_76) rfl hg ?_
      show ma_wp X d w 124 22 [(0, .inr (.inr (some 75))), (1, .inl i)] [.inl (mI S 76 i.toNatClampNeg), .inr (.inr (some 69))] S _
      refine zw_cv hm_124 dX10_thingInQueue_22 v_10_66_7 hm_81 [.inl (mI S 76 i.toNatClampNeg)] [] rfl (zT_rt hS s_69 rfl) ⟨by omega, by omega⟩ rfl ?_
      show ma_wp X (d - 1) (w - 21) 81 0 [(0, .inr (.inr (some 69))), (1, .inl (mI S 76 i.toNatClampNeg))] [] S _
      refine zw_push hm_81 dX7_thingAt_0 (v := .inl (mI S 76 i.toNatClampNeg)) rfl ?_
      refine zw_if0 hm_81 dX7_thingAt_1 (t := 20) rfl zc0_lt ?_ ?_
      · intro hc
        rw [if_pos hc] at h
        refine zw_push hm_81 dX7_thingAt_20 (v := .inr (.inr none)) rfl ?_
        refine zw_aret hm_81 dX7_thingAt_21 ?_
        show ma_wp X d w 124 25 [(0, .inr (.inr (some 75))), (1, .inl i)] [.inr (.inr none)] S _
        refine zw_goto hm_124 dX10_thingInQueue_25 (t := 29) rfl ?_
        exact zw_aret hm_124 dX10_thingInQueue_29 h
      · intro hc
        rw [if_neg hc] at h
        refine zw_push hm_81 dX7_thingAt_4 (v := .inl (mI S 76 i.toNatClampNeg)) rfl ?_
        refine zw_push hm_81 dX7_thingAt_5 (v := .inl (512 : Int32)) rfl ?_
        refine zw_if2 hm_81 dX7_thingAt_8 (t := 20) rfl zc2_ge ?_ ?_
        · intro hc
          rw [if_pos hc] at h
          refine zw_push hm_81 dX7_thingAt_20 (v := .inr (.inr none)) rfl ?_
          refine zw_aret hm_81 dX7_thingAt_21 ?_
          show ma_wp X d w 124 25 [(0, .inr (.inr (some 75))), (1, .inl i)] [.inr (.inr none)] S _
          refine zw_goto hm_124 dX10_thingInQueue_25 (t := 29) rfl ?_
          exact zw_aret hm_124 dX10_thingInQueue_29 h
        · intro hc
          rw [if_neg hc] at h
          refine zw_push hm_81 dX7_thingAt_11 (v := .inr (.inr (some 69))) rfl ?_
          refine zw_gf hm_81 dX7_thingAt_12 (v := .inr (.inr (some 70))) (zT_is hS s_69) (zT_t hS s_69) rfl f_7_11_7 (zT_f hS r_69_0) ?_
          refine zw_push hm_81 dX7_thingAt_15 (v := .inl (mI S 76 i.toNatClampNeg)) rfl ?_
          obtain ⟨hg, h⟩ := h
          refine zw_aa hm_81 dX7_thingAt_16 (zT_is hS s_70) (zT_h hS s_70) rfl rfl hg rfl ?_
          show ma_wp X (d - 1) (w - 21) 81 17 [(0, .inr (.inr (some 69))), (1, .inl (mI S 76 i.toNatClampNeg))] [.inr (.inr (mR S 70 (mI S 76 i.toNatClampNeg).toNatClampNeg))] S _
          refine zw_goto hm_81 dX7_thingAt_17 (t := 21) rfl ?_
          refine zw_aret hm_81 dX7_thingAt_21 ?_
          show ma_wp X d w 124 25 [(0, .inr (.inr (some 75))), (1, .inl i)] [.inr (.inr (mR S 70 (mI S 76 i.toNatClampNeg).toNatClampNeg))] S _
          refine zw_goto hm_124 dX10_thingInQueue_25 (t := 29) rfl ?_
          exact zw_aret hm_124 dX10_thingInQueue_29 h
theorem sp_124_75_s {X : Nat × (Nat → Int32)} {d w : Nat} {f : Nat → Nat → Int32} {r : Nat → Nat → Option Nat} {C Z N : Nat} {Q : Option ma_V ⊕ Nat → ma_S → Prop} {S : ma_S} (i : Int32) (hd : 1 ≤ d) (hw : 21 ≤ w) (hI : zI f r C Z N S) (hpre0 : xB S (mR S 70)) (hpre1 : 0 ≤ i.toInt) (hpre2 : i.toInt < (mI S 75 4).toInt) (K : ∀ v S₉, S₉ = S → (∀ c, v = some c → 126 ≤ c ∧ c < N) → (v = zTa (mR S 70) (mI S 76 i.toNatClampNeg)) → Q (.inl (some (.inr (.inr v)))) S₉) : ma_wp X d w 124 0 [(0, .inr (.inr (some 75))), (1, .inl i)] [] S Q := by
  refine g_124_75_s_0 i (by omega) (by omega) (zG_T hI) ?_
  have b1 := i_bd i
  have li2 : (0 : Int32).toInt = 0 := rfl
  refine zd (fun h3 => ?_) (fun h3 => ?_)
  · skip
    have g4 := i_lt h3
    exact K (none) _ rfl (fun _ z => by cases z) (show none = zTa (mR S 70) (mI S 76 i.toNatClampNeg) from by first | (exact ta_no (by omega)) | (exfalso; omega))
  · skip
    have g5 := i_nlt h3
    have f6 := zG_s hI (0) (512) (c := 75) (k := 4) (by decide)
    refine zd (fun h7 => ?_) (fun h7 => ?_)
    · skip
      have g8 := i_le h7
      exact K (none) _ rfl (fun _ z => by cases z) (show none = zTa (mR S 70) (mI S 76 i.toNatClampNeg) from by first | (exact ta_no (by omega)) | (exfalso; omega))
    · skip
      have g9 := i_nle h7
      refine ⟨i_ix (by omega) (by omega), ?_⟩
      have b10 := i_bd (mI S 76 i.toNatClampNeg)
      refine zd (fun h11 => ?_) (fun h11 => ?_)
      · skip
        have g12 := i_lt h11
        exact K (none) _ rfl (fun _ z => by cases z) (show none = zTa (mR S 70) (mI S 76 i.toNatClampNeg) from by first | (exact ta_no (by omega)) | (exfalso; omega))
      · skip
        have g13 := i_nlt h11
        have li14 : (512 : Int32).toInt = 512 := rfl
        refine zd (fun h15 => ?_) (fun h15 => ?_)
        · skip
          have g16 := i_le h15
          exact K (none) _ rfl (fun _ z => by cases z) (show none = zTa (mR S 70) (mI S 76 i.toNatClampNeg) from by first | (exact ta_no (by omega)) | (exfalso; omega))
        · skip
          have g17 := i_nle h15
          refine ⟨i_ix (by omega) (by omega), ?_⟩
          exact K ((mR S 70 (mI S 76 i.toNatClampNeg).toNatClampNeg)) _ rfl (fun _ z => zG_70 hI (c := 70) (by decide) z) (show (mR S 70 (mI S 76 i.toNatClampNeg).toNatClampNeg) = zTa (mR S 70) (mI S 76 i.toNatClampNeg) from by first | (exact ta_rd hpre0 (by omega) (by omega)))

/-! from 95.q24 -/
/-! the moving collectors, the class (written by wip/tools/gen15.py) -/
theorem g_33_81_sv_0 {X : Nat × (Nat → Int32)} {d w : Nat} {S : ma_S} {Q : Option ma_V ⊕ Nat → ma_S → Prop}  (hd : 4 ≤ d) (hw : 92 ≤ w) (hS : zT S) (h : ma_wp X (d - 1) (w - 20) 264 0 [(0, .inr (.inr (some 81)))] [] S (zi (fun v2 S1 => zT S1 ∧ (ma_wp X d w 33 28 [(0, .inr (.inr (some 81))), (1, .inl v2), (2, .inl (0 : Int32))] [] (ma_put (ma_put S1 81 3 (.inl ((mI S1 81 2) - (mI S1 81 3)))) 81 4 (.inl ((mI S1 81 2) - (mI S1 81 3)))) Q)) (fun _ _ => False))) : ma_wp X d w 33 0 [(0, .inr (.inr (some 81)))] [] S Q := by
  refine zw_push hm_33 dX3_cleanAll_0 (v := .inr (.inr (some 81))) rfl ?_
  refine zw_cv hm_33 dX3_cleanAll_1 v_3_37_3 hm_264 [] [] rfl (zT_rt hS s_81 rfl) ⟨by omega, by omega⟩ rfl (zw_mono h (zi_go ?_ ?_))
  · intro v2 S1 hv
    obtain ⟨hS1, h⟩ := hv
    refine zw_sto hm_33 dX3_cleanAll_4 [(1, .inl v2), (0, .inr (.inr (some 81)))] rfl rfl rfl ?_
    refine zw_push hm_33 dX3_cleanAll_5 (v := .inr (.inr (some 81))) rfl ?_
    refine zw_push hm_33 dX3_cleanAll_6 (v := .inr (.inr (some 81))) rfl ?_
    refine zw_gf hm_33 dX3_cleanAll_7 (v := .inl (mI S1 81 2)) (zT_is hS1 s_81) (zT_t hS1 s_81) rfl f_3_9_3 rfl ?_
    refine zw_push hm_33 dX3_cleanAll_10 (v := .inr (.inr (some 81))) rfl ?_
    refine zw_gf hm_33 dX3_cleanAll_11 (v := .inl (mI S1 81 3)) (zT_is hS1 s_81) (zT_t hS1 s_81) rfl f_3_15_3 rfl ?_
    refine zw_stk hm_33 dX3_cleanAll_14 (st₉ := [.inl ((mI S1 81 2) - (mI S1 81 3)), .inr (.inr (some 81))]) rfl rfl ?_
    refine zw_pf hm_33 dX3_cleanAll_15 (zT_is hS1 s_81) (zT_t hS1 s_81) p_3_15_3 zk_int ?_
    refine zw_push hm_33 dX3_cleanAll_18 (v := .inr (.inr (some 81))) rfl ?_
    refine zw_push hm_33 dX3_cleanAll_19 (v := .inr (.inr (some 81))) rfl ?_
    refine zw_gf hm_33 dX3_cleanAll_20 (v := .inl ((mI S1 81 2) - (mI S1 81 3))) (zT_is (zT_pi hS1) s_81) (zT_t (zT_pi hS1) s_81) rfl f_3_15_3 rfl ?_
    refine zw_pf hm_33 dX3_cleanAll_23 (zT_is (zT_pi hS1) s_81) (zT_t (zT_pi hS1) s_81) p_3_18_3 zk_int ?_
    refine zw_push hm_33 dX3_cleanAll_26 (v := .inl (0 : Int32)) rfl ?_
    refine zw_sto hm_33 dX3_cleanAll_27 [(2, .inl (0 : Int32)), (1, .inl v2), (0, .inr (.inr (some 81)))] rfl rfl rfl ?_
    exact zw_sub (ma_nd_of (ks := [0, 1, 2]) rfl (by decide)) (ma_nd_of (ks := [2, 1, 0]) rfl (by decide)) (ma_le_cons rfl (ma_le_cons rfl (ma_le_cons rfl (ma_le_nil _)))) h
  · intro x S9 hx
    exact hx.elim
theorem g_33_81_sv_28 {X : Nat × (Nat → Int32)} {d w : Nat} {S : ma_S} {Q : Option ma_V ⊕ Nat → ma_S → Prop} (l1 : Int32) (l2 : Int32) (hd : 4 ≤ d) (hw : 114 ≤ w) (hS : zT S) (h : if (mI S 75 4) ≤ l2 then (Q (.inl (some (.inl l1))) S) else (ma_wp X (d - 1) (w - 21) 124 0 [(0, .inr (.inr (some 75))), (1, .inl l2)] [] S (zo (fun v2 S1 => zT S1 ∧ ((v2 = none → ma_wp X d w 33 28 [(0, .inr (.inr (some 81))), (1, .inl l1), (2, .inl (l2 + (1 : Int32)))] [] S1 Q) ∧ (∀ c3, v2 = some c3 → ma_wp X (d - 1) (w - 24) 90 0 [(0, .inr (.inr (some 69))), (1, .inr (.inr (some c3))), (2, .inl (mI S1 81 4))] [] S1 (zv (fun S4 => zT S4 ∧ ((126 ≤ c3 ∧ c3 < mN S4) ∧ (ma_wp X d w 33 28 [(0, .inr (.inr (some 81))), (1, .inl l1), (2, .inl (l2 + (1 : Int32)))] [] (ma_put S4 81 4 (.inl ((mI S4 81 4) + (mI S4 c3 2)))) Q))) (fun x S9 => Q (.inr x) S9))))) (fun x S9 => Q (.inr x) S9)))) : ma_wp X d w 33 28 [(0, .inr (.inr (some 81))), (1, .inl l1), (2, .inl l2)] [] S Q := by
  refine zw_push hm_33 dX3_cleanAll_28 (v := .inl l2) rfl ?_
  refine zw_push hm_33 dX3_cleanAll_29 (v := .inr (.inr (some 81))) rfl ?_
  refine zw_gf hm_33 dX3_cleanAll_30 (v := .inr (.inr (some 75))) (zT_is hS s_81) (zT_t hS s_81) rfl f_3_40_3 (zT_f hS r_81_1) ?_
  refine zw_gf hm_33 dX3_cleanAll_33 (v := .inl (mI S 75 4)) (zT_is hS s_75) (zT_t hS s_75) rfl f_3_44_10 rfl ?_
  refine zw_if2 hm_33 dX3_cleanAll_36 (t := 83) rfl zc2_ge ?_ ?_
  · intro hc
    rw [if_pos hc] at h
    refine zw_push hm_33 dX3_cleanAll_83 (v := .inl l1) rfl ?_
    exact zw_iret hm_33 dX3_cleanAll_84 h
  · intro hc
    rw [if_neg hc] at h
    refine zw_push hm_33 dX3_cleanAll_39 (v := .inr (.inr (some 81))) rfl ?_
    refine zw_gf hm_33 dX3_cleanAll_40 (v := .inr (.inr (some 75))) (zT_is hS s_81) (zT_t hS s_81) rfl f_3_40_3 (zT_f hS r_81_1) ?_
    refine zw_push hm_33 dX3_cleanAll_43 (v := .inl l2) rfl ?_
    refine zw_cv hm_33 dX3_cleanAll_44 v_3_49_10 hm_124 [.inl l2] [] rfl (zT_rt hS s_75 rfl) ⟨by omega, by omega⟩ rfl (zw_mono h (zo_go ?_ ?_))
    · intro v2 S1 hv
      obtain ⟨hS1, h⟩ := hv
      refine zw_sto hm_33 dX3_cleanAll_47 [(3, .inr (.inr v2)), (0, .inr (.inr (some 81))), (1, .inl l1), (2, .inl l2)] rfl rfl rfl ?_
      refine zw_push hm_33 dX3_cleanAll_48 (v := .inr (.inr v2)) rfl ?_
      refine zw_ifnull hm_33 dX3_cleanAll_49 (t := 77) rfl ?_ ?_
      · intro hc
        have h := h.1 hc
        (try rw [hc])
        show ma_wp X d w 33 77 [(3, .inr (.inr none)), (0, .inr (.inr (some 81))), (1, .inl l1), (2, .inl l2)] [] S1 _
        refine zw_sto hm_33 dX3_cleanAll_77 [(2, .inl (l2 + (1 : Int32))), (3, .inr (.inr none)), (0, .inr (.inr (some 81))), (1, .inl l1)] rfl rfl rfl ?_
        refine zw_goto hm_33 dX3_cleanAll_80 (t := 28) rfl ?_
        exact zw_sub (ma_nd_of (ks := [0, 1, 2]) rfl (by decide)) (ma_nd_of (ks := [2, 3, 0, 1]) rfl (by decide)) (ma_le_cons rfl (ma_le_cons rfl (ma_le_cons rfl (ma_le_nil _)))) h
      · intro c3 hc
        have h := h.2 c3 hc
        (try rw [hc])
        show ma_wp X d w 33 52 [(3, .inr (.inr (some c3))), (0, .inr (.inr (some 81))), (1, .inl l1), (2, .inl l2)] [] S1 _
        refine zw_push hm_33 dX3_cleanAll_52 (v := .inr (.inr (some 81))) rfl ?_
        refine zw_gf hm_33 dX3_cleanAll_53 (v := .inr (.inr (some 69))) (zT_is hS1 s_81) (zT_t hS1 s_81) rfl f_3_53_3 (zT_f hS1 r_81_0) ?_
        refine zw_push hm_33 dX3_cleanAll_56 (v := .inr (.inr (some c3))) rfl ?_
        refine zw_push hm_33 dX3_cleanAll_57 (v := .inr (.inr (some 81))) rfl ?_
        refine zw_gf hm_33 dX3_cleanAll_58 (v := .inl (mI S1 81 4)) (zT_is hS1 s_81) (zT_t hS1 s_81) rfl f_3_18_3 rfl ?_
        refine zw_cv hm_33 dX3_cleanAll_61 v_3_57_7 hm_90 [.inl (mI S1 81 4), .inr (.inr (some c3))] [] rfl (zT_rt hS1 s_69 rfl) ⟨by omega, by omega⟩ rfl (zw_mono h (zv_go ?_ ?_))
        · intro S4 hv
          obtain ⟨hS4, h⟩ := hv
          refine zw_push hm_33 dX3_cleanAll_64 (v := .inr (.inr (some 81))) rfl ?_
          refine zw_stk hm_33 dX3_cleanAll_65 (st₉ := [.inr (.inr (some 81)), .inr (.inr (some 81))]) rfl rfl ?_
          refine zw_gf hm_33 dX3_cleanAll_66 (v := .inl (mI S4 81 4)) (zT_is hS4 s_81) (zT_t hS4 s_81) rfl f_3_18_3 rfl ?_
          refine zw_push hm_33 dX3_cleanAll_69 (v := .inr (.inr (some c3))) rfl ?_
          obtain ⟨hg, h⟩ := h
          refine zw_gf hm_33 dX3_cleanAll_70 (v := .inl (mI S4 c3 2)) (zT_tis hS4 hg) (zT_tt hS4 hg) rfl f_3_34_9 rfl ?_
          refine zw_stk hm_33 dX3_cleanAll_73 (st₉ := [.inl ((mI S4 81 4) + (mI S4 c3 2)), .inr (.inr (some 81))]) rfl rfl ?_
          refine zw_pf hm_33 dX3_cleanAll_74 (zT_is hS4 s_81) (zT_t hS4 s_81) p_3_18_3 zk_int ?_
          refine zw_sto hm_33 dX3_cleanAll_77 [(2, .inl (l2 + (1 : Int32))), (3, .inr (.inr (some c3))), (0, .inr (.inr (some 81))), (1, .inl l1)] rfl rfl rfl ?_
          refine zw_goto hm_33 dX3_cleanAll_80 (t := 28) rfl ?_
          exact zw_sub (ma_nd_of (ks := [0, 1, 2]) rfl (by decide)) (ma_nd_of (ks := [2, 3, 0, 1]) rfl (by decide)) (ma_le_cons rfl (ma_le_cons rfl (ma_le_cons rfl (ma_le_nil _)))) h
        · intro x S9 hx
          exact ⟨by decide, hx⟩
    · intro x S9 hx
      exact ⟨by decide, hx⟩
theorem lp_33_81_sv_28 {X : Nat × (Nat → Int32)} {d w : Nat} {f : Nat → Nat → Int32} {r : Nat → Nat → Option Nat} {C Z N : Nat} {Q : Option ma_V ⊕ Nat → ma_S → Prop} {ab : Nat→Nat→Int32} (hd : 4 ≤ d) (hw : 114 ≤ w) (K : ∀ v S₉, zJ81 f r C Z N S₉ → (True) → (xB S₉ (mR S₉ 70)) → (aH S₉ = hCl ab ∧ v = aSv ab) → Q (.inl (some (.inl v))) S₉) : ∀ (n : Nat) (S : ma_S) (l1 : Int32) (l2 : Int32), (512 - l2.toInt).toNat = n → zJ81 f r C Z N S → (0 ≤ l2.toInt) → ((mI S 81 4).toInt ≤ 1500 + 61 * l2.toInt) → (xB S (mR S 70)) → ((mI S 81 3) = ab 87 5 - ab 87 3) → ((mI S 81 2) = ab 87 5) → (qK7 ab) → (l1 = aSv ab) → (hMf ((mI S 75 4).toInt - l2.toInt).toNat l2.toNatClampNeg (aM (ab 87) S) (mI S 81 4).toInt = hFo (aSw ab)) → (qJh (aM (ab 87) S) (ab 87 5 - ab 87 3).toInt (ab 87 3).toInt (ab 87 5).toInt l2.toNatClampNeg (mI S 81 4).toInt) → ma_wp X d w 33 28 [(0, .inr (.inr (some 81))), (1, .inl l1), (2, .inl l2)] [] S Q := by
  intro n
  induction n using Nat.strongRecOn with
  | _ n IH =>
    intro S l1 l2 hmu hI  hi0 hi1 hi2 hi3 hi4 hi5 hi6 hi7 hi8
    refine g_33_81_sv_28 l1 l2 (by omega) (by omega) (zG_T hI) ?_
    have x1 : 0 ≤ (mI S 81 3).toInt ∧ (mI S 81 3).toInt ≤ (mI S 81 2).toInt := zG_x hI
    have f2 := zG_s hI (0) (1500) (c := 81) (k := 3) (by decide)
    have f3 := zG_s hI (0) (1500) (c := 81) (k := 2) (by decide)
    have f4 := zG_s hI (0) (512) (c := 75) (k := 4) (by decide)
    have f5 := zG_s hI (0) (400000) (c := 81) (k := 4) (by decide)
    have b6 := i_bd l2
    refine zd (fun h7 => ?_) (fun h7 => ?_)
    · skip
      have g8 := i_le h7
      have b9 := i_bd l1
      exact K (l1) _ hI trivial (show xB S (mR S 70) from by first | (exact xB_x (xC_o (W := 75) hi2).2)) (show aH S = hCl ab ∧ l1 = aSv ab from by first | (have z := Fo_e hi7 (by omega); exact ⟨Hcl_e z.1 z.2 hi3 hi4 hi5, hi6⟩))
    · skip
      have g10 := i_nle h7
      refine sp_124_75_s (l2) (by omega) (by omega) (zJ81_dn hI) (show xB S (mR S 70) from by first | (exact xB_x (xC_o (W := 75) hi2).2)) (by omega) (show l2.toInt < (mI S 75 4).toInt from by omega) (fun v2 S1 eS_S1 hq_v2 rp0_S1 => zo_n ⟨(by rw [eS_S1]; exact zG_T hI), ?_⟩)
      replace eS_S1 := eS_S1.symm; subst eS_S1
      have rp0_S1 : v2 = zTa (mR S 70) (mI S 76 l2.toNatClampNeg) := rp0_S1
      refine ⟨fun hc => ?_, fun c3 hc => ?_⟩
      · skip
        have rn_c3 : zTa (mR S 70) (mI S 76 l2.toNatClampNeg) = none := rp0_S1.symm.trans hc
        have b11 := i_bd l1
        first | have e12 : (l2 + (1 : Int32)).toInt = l2.toInt + (1) := i_addk rfl (by omega) (by omega) | have b13 := i_bd (l2 + (1 : Int32))
        exact IH _ (by omega) _ (l1) ((l2 + (1 : Int32))) rfl hI (by omega) (show (mI S 81 4).toInt ≤ 1500 + 61 * ((l2 + (1 : Int32))).toInt from by omega) (show xB S (mR S 70) from by first | (exact (Jh_no (Jh_q hi8 (by omega) (by omega) rfl).1 hi2 rn_c3).elim)) (show (mI S 81 3) = ab 87 5 - ab 87 3 from by first | (exact (Jh_no (Jh_q hi8 (by omega) (by omega) rfl).1 hi2 rn_c3).elim)) (show (mI S 81 2) = ab 87 5 from by first | (exact (Jh_no (Jh_q hi8 (by omega) (by omega) rfl).1 hi2 rn_c3).elim)) (show qK7 ab from by first | (exact (Jh_no (Jh_q hi8 (by omega) (by omega) rfl).1 hi2 rn_c3).elim)) (show (l1) = aSv ab from by first | (exact (Jh_no (Jh_q hi8 (by omega) (by omega) rfl).1 hi2 rn_c3).elim)) (show hMf ((mI S 75 4).toInt - ((l2 + (1 : Int32))).toInt).toNat ((l2 + (1 : Int32))).toNatClampNeg (aM (ab 87) S) (mI S 81 4).toInt = hFo (aSw ab) from by first | (exact (Jh_no (Jh_q hi8 (by omega) (by omega) rfl).1 hi2 rn_c3).elim)) (show qJh (aM (ab 87) S) (ab 87 5 - ab 87 3).toInt (ab 87 3).toInt (ab 87 5).toInt ((l2 + (1 : Int32))).toNatClampNeg (mI S 81 4).toInt from by first | (exact (Jh_no (Jh_q hi8 (by omega) (by omega) rfl).1 hi2 rn_c3).elim))
      · skip
        have th_c3 := hq_v2 c3 hc
        have rg_c3 : zTa (mR S 70) (mI S 76 l2.toNatClampNeg) = some c3 := rp0_S1.symm.trans hc
        subst hc
        refine sp_90_69_s (ab := (aS 75 S)) (R := (mR S 70)) (y := ((mI S 76 l2.toNatClampNeg))) c3 ((mI S 81 4)) (by omega) (by omega) (zJ81_dn hI) th_c3 (show xB S (mR S 70) from by first | (exact xB_x (xC_o (W := 75) hi2).2)) (show aS 75 S = (aS 75 S) from by first | (exact rfl)) (show zTa (mR S 70) ((mI S 76 l2.toNatClampNeg)) = some c3 from by first | (exact rg_c3)) (show qMv (aS 75 S) ((mI S 76 l2.toNatClampNeg)).toNatClampNeg (mI S 81 4) from by first | (exact (Jh_q hi8 (by omega) (by omega) rfl).2)) (by omega) (fun S4 hL_S4 rp0_S4 rp1_S4 => zv_n ⟨zG_T hL_S4, ?_⟩)
        have hI_S4 := zJ81_up hI hL_S4
        have rp0_S4 : xB S4 (mR S 70) := by
          have z := rp0_S4
          (try rw [show mI S 65 = f 65 from funext (fun k => zG_z hI rfl)] at z)
          (try rw [show mI S 64 1 = f 64 1 from zG_z hI rfl] at z)
          exact z
        have rp1_S4 : aS 75 S4 = aMo (aS 75 S) ((mI S 76 l2.toNatClampNeg)).toNatClampNeg (mI S 81 4) := by
          have z := rp1_S4
          (try rw [show mI S 65 = f 65 from funext (fun k => zG_z hI rfl)] at z)
          (try rw [show mI S 64 1 = f 64 1 from zG_z hI rfl] at z)
          exact z
        refine ⟨zG_n hI_S4 th_c3, ?_⟩
        have q15 : (mI S4 81 4).toInt = (mI S 81 4).toInt := zG_zi hL_S4 rfl
        have f16 := zG_s hI_S4 (0) (400000) (c := 81) (k := 4) (by decide)
        have f17 := zG_th hI_S4 th_c3
        first | have e18 : ((mI S4 81 4) + (mI S4 c3 2)).toInt = (mI S4 81 4).toInt + (mI S4 c3 2).toInt := i_add (by omega) (by omega) | have b19 := i_bd ((mI S4 81 4) + (mI S4 c3 2))
        have hI14 : zJ81 f r C Z N (ma_put S4 81 4 (.inl ((mI S4 81 4) + (mI S4 c3 2)))) := zG_sp hI_S4 (0) (400000) rfl (by decide) (by decide) (by decide) (show zJ81_x (mI S4) from zG_x hI_S4) (by omega) (by omega)
        have b20 := i_bd l1
        first | have e21 : (l2 + (1 : Int32)).toInt = l2.toInt + (1) := i_addk rfl (by omega) (by omega) | have b22 := i_bd (l2 + (1 : Int32))
        have q23 : (mI S4 81 3).toInt = (mI S 81 3).toInt := zG_zi hL_S4 rfl
        have x24 : 0 ≤ (mI S4 81 3).toInt ∧ (mI S4 81 3).toInt ≤ (mI S4 81 2).toInt := zG_x hI_S4
        have f25 := zG_s hI_S4 (0) (1500) (c := 81) (k := 3) (by decide)
        have q26 : (mI S4 81 2).toInt = (mI S 81 2).toInt := zG_zi hL_S4 rfl
        have f27 := zG_s hI_S4 (0) (1500) (c := 81) (k := 2) (by decide)
        have f28 := zG_s hI_S4 (0) (512) (c := 75) (k := 4) (by decide)
        exact IH _ (by omega) _ (l1) ((l2 + (1 : Int32))) rfl hI14 (by omega) (show ((mI S4 81 4) + (mI S4 c3 2)).toInt ≤ 1500 + 61 * ((l2 + (1 : Int32))).toInt from by omega) (show xB (ma_put S4 81 4 (.inl ((mI S4 81 4) + (mI S4 c3 2)))) (mR (ma_put S4 81 4 (.inl ((mI S4 81 4) + (mI S4 c3 2)))) 70) from by first | (exact xB_x (xC_n (c := 81) (k := 4) (x := ((mI S4 81 4) + (mI S4 c3 2))) (xC_o (W := 75) rp0_S4) ⟨by decide, Or.inl ⟨rfl, rfl⟩⟩).2)) (show (mI S4 81 3) = ab 87 5 - ab 87 3 from by first | (exact (show mI S4 81 3 = mI S 81 3 from zG_z hL_S4 rfl).trans hi3)) (show (mI S4 81 2) = ab 87 5 from by first | (exact (show mI S4 81 2 = mI S 81 2 from zG_z hL_S4 rfl).trans hi4)) (show qK7 ab from by first | (exact hi5)) (show (l1) = aSv ab from by first | (exact hi6)) (show hMf ((mI S4 75 4).toInt - ((l2 + (1 : Int32))).toInt).toNat ((l2 + (1 : Int32))).toNatClampNeg (aM (ab 87) (ma_put S4 81 4 (.inl ((mI S4 81 4) + (mI S4 c3 2))))) ((mI S4 81 4) + (mI S4 c3 2)).toInt = hFo (aSw ab) from by first | (have ty := xB_th (W := 75) hi2 rg_c3; have f2 := congrArg Int32.toInt ty.2.2.2.2.1; have u := xB_th (W := 75) rp0_S4 rg_c3; have u2 := congrArg Int32.toInt u.2.2.2.2.1; rw [rp1_S4, Mo_r (by decide) (by decide)] at u2; exact Fo_s (S₉ := (ma_put S4 81 4 (.inl ((mI S4 81 4) + (mI S4 c3 2))))) hi7 (by omega) (by omega) (by omega) (Jh_q hi8 (by omega) (by omega) rfl).1 ((xC_n (c := 81) (k := 4) (x := ((mI S4 81 4) + (mI S4 c3 2))) (xC_o (W := 75) rp0_S4) ⟨by decide, Or.inl ⟨rfl, rfl⟩⟩).1.trans rp1_S4) (by omega) (by omega))) (show qJh (aM (ab 87) (ma_put S4 81 4 (.inl ((mI S4 81 4) + (mI S4 c3 2))))) (ab 87 5 - ab 87 3).toInt (ab 87 3).toInt (ab 87 5).toInt ((l2 + (1 : Int32))).toNatClampNeg ((mI S4 81 4) + (mI S4 c3 2)).toInt from by first | (have ty := xB_th (W := 75) hi2 rg_c3; have f2 := congrArg Int32.toInt ty.2.2.2.2.1; have u := xB_th (W := 75) rp0_S4 rg_c3; have u2 := congrArg Int32.toInt u.2.2.2.2.1; rw [rp1_S4, Mo_r (by decide) (by decide)] at u2; exact Jh_s (S₉ := (ma_put S4 81 4 (.inl ((mI S4 81 4) + (mI S4 c3 2))))) hi8 (by omega) (by omega) ((xC_n (c := 81) (k := 4) (x := ((mI S4 81 4) + (mI S4 c3 2))) (xC_o (W := 75) rp0_S4) ⟨by decide, Or.inl ⟨rfl, rfl⟩⟩).1.trans rp1_S4) (by omega) (by omega)))
theorem sp_33_81_sv {X : Nat × (Nat → Int32)} {d w : Nat} {f : Nat → Nat → Int32} {r : Nat → Nat → Option Nat} {C Z N : Nat} {Q : Option ma_V ⊕ Nat → ma_S → Prop} {ab : Nat→Nat→Int32} {S : ma_S}  (hd : 4 ≤ d) (hw : 114 ≤ w) (hI : zJ81 f r C Z N S) (hpre0 : xB S (mR S 70)) (hpre1 : aH S = ab) (hpre2 : qHv ab) (K : ∀ v S₉, zJ81 f r C Z N S₉ → (True) → (xB S₉ (mR S₉ 70)) → (aH S₉ = hCl ab ∧ v = aSv ab) → Q (.inl (some (.inl v))) S₉) : ma_wp X d w 33 0 [(0, .inr (.inr (some 81)))] [] S Q := by
  refine g_33_81_sv_0  (by omega) (by omega) (zG_T hI) ?_
  refine sp_264_81_s (ab := (aS 75 S)) (by omega) (by omega) (zJ81_dn hI) (show xB S (mR S 70) from by first | (exact xB_x (xC_o (W := 75) hpre0).2)) (show aS 75 S = (aS 75 S) from by first | (exact rfl)) (fun v2 S1 hL_S1 hp_v2 rp0_S1 rp1_S1 => zi_n ⟨zG_T hL_S1, ?_⟩)
  have hI_S1 := zJ81_up hI hL_S1
  have rp0_S1 : xB S1 (mR S1 70) := by
    have z := rp0_S1
    (try rw [show mI S 65 = f 65 from funext (fun k => zG_z hI rfl)] at z)
    (try rw [show mI S 64 1 = f 64 1 from zG_z hI rfl] at z)
    exact z
  have rp1_S1 : aS 75 S1 = aSw (aS 75 S) ∧ v2 = aSv (aS 75 S) := by
    have z := rp1_S1
    (try rw [show mI S 65 = f 65 from funext (fun k => zG_z hI rfl)] at z)
    (try rw [show mI S 64 1 = f 64 1 from zG_z hI rfl] at z)
    exact z
  have x2 : 0 ≤ (mI S 81 3).toInt ∧ (mI S 81 3).toInt ≤ (mI S 81 2).toInt := zG_x hI
  have f3 := zG_s hI (0) (1500) (c := 81) (k := 2) (by decide)
  have q4 : (mI S1 81 2).toInt = (mI S 81 2).toInt := zG_zi hL_S1 rfl
  have x5 : 0 ≤ (mI S1 81 3).toInt ∧ (mI S1 81 3).toInt ≤ (mI S1 81 2).toInt := zG_x hI_S1
  have f6 := zG_s hI_S1 (0) (1500) (c := 81) (k := 2) (by decide)
  have f7 := zG_s hI (0) (1500) (c := 81) (k := 3) (by decide)
  have q8 : (mI S1 81 3).toInt = (mI S 81 3).toInt := zG_zi hL_S1 rfl
  have f9 := zG_s hI_S1 (0) (1500) (c := 81) (k := 3) (by decide)
  first | have e10 : ((mI S1 81 2) - (mI S1 81 3)).toInt = (mI S1 81 2).toInt - (mI S1 81 3).toInt := i_sub (by omega) (by omega) | have b11 := i_bd ((mI S1 81 2) - (mI S1 81 3))
  have hI1 : zJ81 f r C Z N (ma_put S1 81 3 (.inl ((mI S1 81 2) - (mI S1 81 3)))) := zG_sp hI_S1 (0) (1500) rfl (by decide) (by decide) (by decide) (show 0 ≤ ((mI S1 81 2) - (mI S1 81 3)).toInt ∧ ((mI S1 81 2) - (mI S1 81 3)).toInt ≤ (mI S1 81 2).toInt from by omega) (by omega) (by omega)
  have hI12 : zJ81 f r C Z N (ma_put (ma_put S1 81 3 (.inl ((mI S1 81 2) - (mI S1 81 3)))) 81 4 (.inl ((mI S1 81 2) - (mI S1 81 3)))) := zG_sp hI1 (0) (400000) rfl (by decide) (by decide) (by decide) (show zJ81_x (mI (ma_put S1 81 3 (.inl ((mI S1 81 2) - (mI S1 81 3))))) from zG_x hI1) (by omega) (by omega)
  have b13 := i_bd v2
  have li14 : (0 : Int32).toInt = 0 := rfl
  have f15 := zG_s hI_S1 (0) (512) (c := 75) (k := 4) (by decide)
  exact lp_33_81_sv_28 (by omega) (by omega) K _ _ (v2) ((0 : Int32)) rfl hI12 (by omega) (show ((mI S1 81 2) - (mI S1 81 3)).toInt ≤ 1500 + 61 * ((0 : Int32)).toInt from by omega) (show xB (ma_put (ma_put S1 81 3 (.inl ((mI S1 81 2) - (mI S1 81 3)))) 81 4 (.inl ((mI S1 81 2) - (mI S1 81 3)))) (mR (ma_put (ma_put S1 81 3 (.inl ((mI S1 81 2) - (mI S1 81 3)))) 81 4 (.inl ((mI S1 81 2) - (mI S1 81 3)))) 70) from by first | (exact xB_x (xC_n (c := 81) (k := 4) (x := ((mI S1 81 2) - (mI S1 81 3))) (xC_n (c := 81) (k := 3) (x := ((mI S1 81 2) - (mI S1 81 3))) (xC_o (W := 75) rp0_S1) ⟨by decide, Or.inl ⟨rfl, rfl⟩⟩) ⟨by decide, Or.inl ⟨rfl, rfl⟩⟩).2)) (show ((mI S1 81 2) - (mI S1 81 3)) = ab 87 5 - ab 87 3 from by first | (exact (show mI S1 81 2 - mI S1 81 3 = ab 87 5 - ab 87 3 from by rw [(show mI S1 81 2 = mI S 81 2 from zG_z hL_S1 rfl), (show mI S1 81 3 = mI S 81 3 from zG_z hL_S1 rfl), ← hpre1]; rfl))) (show (mI S1 81 2) = ab 87 5 from by first | (rw [(show mI S1 81 2 = mI S 81 2 from zG_z hL_S1 rfl), ← hpre1]; rfl)) (show qK7 ab from by first | (exact K7_H hpre1)) (show (v2) = aSv ab from by first | (exact rp1_S1.2.trans (H_sv.trans (congrArg aSv hpre1)))) (show hMf ((mI S1 75 4).toInt - ((0 : Int32)).toInt).toNat ((0 : Int32)).toNatClampNeg (aM (ab 87) (ma_put (ma_put S1 81 3 (.inl ((mI S1 81 2) - (mI S1 81 3)))) 81 4 (.inl ((mI S1 81 2) - (mI S1 81 3))))) ((mI S1 81 2) - (mI S1 81 3)).toInt = hFo (aSw ab) from by first | (exact Fo_0 (S₉ := (ma_put (ma_put S1 81 3 (.inl ((mI S1 81 2) - (mI S1 81 3)))) 81 4 (.inl ((mI S1 81 2) - (mI S1 81 3))))) (show aM (ab 87) (ma_put (ma_put S1 81 3 (.inl ((mI S1 81 2) - (mI S1 81 3)))) 81 4 (.inl ((mI S1 81 2) - (mI S1 81 3)))) = aSw ab from (M_sw (S := S) ((xC_n (c := 81) (k := 4) (x := ((mI S1 81 2) - (mI S1 81 3))) (xC_n (c := 81) (k := 3) (x := ((mI S1 81 2) - (mI S1 81 3))) (xC_o (W := 75) rp0_S1) ⟨by decide, Or.inl ⟨rfl, rfl⟩⟩) ⟨by decide, Or.inl ⟨rfl, rfl⟩⟩).1.trans rp1_S1.1)).trans (congrArg aSw (H_id hpre1))) (show mI S1 81 2 - mI S1 81 3 = ab 87 5 - ab 87 3 from by rw [(show mI S1 81 2 = mI S 81 2 from zG_z hL_S1 rfl), (show mI S1 81 3 = mI S 81 3 from zG_z hL_S1 rfl), ← hpre1]; rfl))) (show qJh (aM (ab 87) (ma_put (ma_put S1 81 3 (.inl ((mI S1 81 2) - (mI S1 81 3)))) 81 4 (.inl ((mI S1 81 2) - (mI S1 81 3))))) (ab 87 5 - ab 87 3).toInt (ab 87 3).toInt (ab 87 5).toInt ((0 : Int32)).toNatClampNeg ((mI S1 81 2) - (mI S1 81 3)).toInt from by first | (exact Jh_1 (S₉ := (ma_put (ma_put S1 81 3 (.inl ((mI S1 81 2) - (mI S1 81 3)))) 81 4 (.inl ((mI S1 81 2) - (mI S1 81 3))))) hpre2 (show aM (ab 87) (ma_put (ma_put S1 81 3 (.inl ((mI S1 81 2) - (mI S1 81 3)))) 81 4 (.inl ((mI S1 81 2) - (mI S1 81 3)))) = aSw ab from (M_sw (S := S) ((xC_n (c := 81) (k := 4) (x := ((mI S1 81 2) - (mI S1 81 3))) (xC_n (c := 81) (k := 3) (x := ((mI S1 81 2) - (mI S1 81 3))) (xC_o (W := 75) rp0_S1) ⟨by decide, Or.inl ⟨rfl, rfl⟩⟩) ⟨by decide, Or.inl ⟨rfl, rfl⟩⟩).1.trans rp1_S1.1)).trans (congrArg aSw (H_id hpre1))) (show mI S1 81 2 - mI S1 81 3 = ab 87 5 - ab 87 3 from by rw [(show mI S1 81 2 = mI S 81 2 from zG_z hL_S1 rfl), (show mI S1 81 3 = mI S 81 3 from zG_z hL_S1 rfl), ← hpre1]; rfl)))

/-! from 95.q25 -/
/-! the moving collectors, the class (written by wip/tools/gen15.py) -/
theorem g_31_81_sv_0 {X : Nat × (Nat → Int32)} {d w : Nat} {S : ma_S} {Q : Option ma_V ⊕ Nat → ma_S → Prop} (z : Int32) (hd : 5 ≤ d) (hw : 137 ≤ w) (hS : zT S) (h : if ((mI S 81 3) + (mI S 81 2)) < ((mI S 81 4) + z) then (ma_wp X (d - 1) (w - 23) 33 0 [(0, .inr (.inr (some 81)))] [] S (zi (fun v2 S1 => zT S1 ∧ (if ((mI S1 81 3) + (mI S1 81 2)) < ((mI S1 81 4) + z) then (Q (.inl (some (.inl (-1 : Int32)))) S1) else (Q (.inl (some (.inl (mI S1 81 4)))) S1))) (fun x S9 => Q (.inr x) S9))) else (if ((mI S 81 3) + (mI S 81 2)) < ((mI S 81 4) + z) then (Q (.inl (some (.inl (-1 : Int32)))) S) else (Q (.inl (some (.inl (mI S 81 4)))) S))) : ma_wp X d w 31 0 [(0, .inr (.inr (some 81))), (1, .inl z)] [] S Q := by
  refine zw_push hm_31 dX3_findRoom_0 (v := .inr (.inr (some 81))) rfl ?_
  refine zw_push hm_31 dX3_findRoom_1 (v := .inl z) rfl ?_
  refine zw_cv hm_31 dX3_findRoom_2 v_3_21_3 hm_32 [.inl z] [] rfl (zT_rt hS s_81 rfl) ⟨by omega, by omega⟩ rfl ?_
  show ma_wp X (d - 1) (w - 21) 32 0 [(0, .inr (.inr (some 81))), (1, .inl z)] [] S _
  refine zw_push hm_32 dX3_hasRoom_0 (v := .inr (.inr (some 81))) rfl ?_
  refine zw_gf hm_32 dX3_hasRoom_1 (v := .inl (mI S 81 4)) (zT_is hS s_81) (zT_t hS s_81) rfl f_3_18_3 rfl ?_
  refine zw_push hm_32 dX3_hasRoom_4 (v := .inl z) rfl ?_
  refine zw_stk hm_32 dX3_hasRoom_5 (st₉ := [.inl ((mI S 81 4) + z)]) rfl rfl ?_
  refine zw_push hm_32 dX3_hasRoom_6 (v := .inr (.inr (some 81))) rfl ?_
  refine zw_gf hm_32 dX3_hasRoom_7 (v := .inl (mI S 81 3)) (zT_is hS s_81) (zT_t hS s_81) rfl f_3_15_3 rfl ?_
  refine zw_push hm_32 dX3_hasRoom_10 (v := .inr (.inr (some 81))) rfl ?_
  refine zw_gf hm_32 dX3_hasRoom_11 (v := .inl (mI S 81 2)) (zT_is hS s_81) (zT_t hS s_81) rfl f_3_9_3 rfl ?_
  refine zw_stk hm_32 dX3_hasRoom_14 (st₉ := [.inl ((mI S 81 3) + (mI S 81 2)), .inl ((mI S 81 4) + z)]) rfl rfl ?_
  refine zw_if2 hm_32 dX3_hasRoom_15 (t := 22) rfl zc2_gt ?_ ?_
  · intro hc
    rw [if_pos hc] at h
    refine zw_push hm_32 dX3_hasRoom_22 (v := .inl (0 : Int32)) rfl ?_
    refine zw_bret hm_32 dX3_hasRoom_23 (by decide) ?_
    show ma_wp X d w 31 5 [(0, .inr (.inr (some 81))), (1, .inl z)] [.inl (0 : Int32)] S _
    refine zw_if0 hm_31 dX3_findRoom_5 (t := 13) rfl zc0_ne (fun hc => absurd hc (by decide)) (fun _ => ?_)
    refine zw_push hm_31 dX3_findRoom_8 (v := .inr (.inr (some 81))) rfl ?_
    refine zw_cv hm_31 dX3_findRoom_9 v_3_25_3 hm_33 [] [] rfl (zT_rt hS s_81 rfl) ⟨by omega, by omega⟩ rfl (zw_mono h (zi_go ?_ ?_))
    · intro v2 S1 hv
      obtain ⟨hS1, h⟩ := hv
      refine zw_stk hm_31 dX3_findRoom_12 (st₉ := []) rfl rfl ?_
      refine zw_push hm_31 dX3_findRoom_13 (v := .inr (.inr (some 81))) rfl ?_
      refine zw_push hm_31 dX3_findRoom_14 (v := .inl z) rfl ?_
      refine zw_cv hm_31 dX3_findRoom_15 v_3_21_3 hm_32 [.inl z] [] rfl (zT_rt hS1 s_81 rfl) ⟨by omega, by omega⟩ rfl ?_
      show ma_wp X (d - 1) (w - 21) 32 0 [(0, .inr (.inr (some 81))), (1, .inl z)] [] S1 _
      refine zw_push hm_32 dX3_hasRoom_0 (v := .inr (.inr (some 81))) rfl ?_
      refine zw_gf hm_32 dX3_hasRoom_1 (v := .inl (mI S1 81 4)) (zT_is hS1 s_81) (zT_t hS1 s_81) rfl f_3_18_3 rfl ?_
      refine zw_push hm_32 dX3_hasRoom_4 (v := .inl z) rfl ?_
      refine zw_stk hm_32 dX3_hasRoom_5 (st₉ := [.inl ((mI S1 81 4) + z)]) rfl rfl ?_
      refine zw_push hm_32 dX3_hasRoom_6 (v := .inr (.inr (some 81))) rfl ?_
      refine zw_gf hm_32 dX3_hasRoom_7 (v := .inl (mI S1 81 3)) (zT_is hS1 s_81) (zT_t hS1 s_81) rfl f_3_15_3 rfl ?_
      refine zw_push hm_32 dX3_hasRoom_10 (v := .inr (.inr (some 81))) rfl ?_
      refine zw_gf hm_32 dX3_hasRoom_11 (v := .inl (mI S1 81 2)) (zT_is hS1 s_81) (zT_t hS1 s_81) rfl f_3_9_3 rfl ?_
      refine zw_stk hm_32 dX3_hasRoom_14 (st₉ := [.inl ((mI S1 81 3) + (mI S1 81 2)), .inl ((mI S1 81 4) + z)]) rfl rfl ?_
      refine zw_if2 hm_32 dX3_hasRoom_15 (t := 22) rfl zc2_gt ?_ ?_
      · intro hc
        rw [if_pos hc] at h
        refine zw_push hm_32 dX3_hasRoom_22 (v := .inl (0 : Int32)) rfl ?_
        refine zw_bret hm_32 dX3_hasRoom_23 (by decide) ?_
        show ma_wp X d w 31 18 [(0, .inr (.inr (some 81))), (1, .inl z)] [.inl (0 : Int32)] S1 _
        refine zw_if0 hm_31 dX3_findRoom_18 (t := 28) rfl zc0_eq (fun _ => ?_) (fun hc => absurd (by decide) hc)
        refine zw_push hm_31 dX3_findRoom_28 (v := .inl (-1 : Int32)) rfl ?_
        exact zw_iret hm_31 dX3_findRoom_29 h
      · intro hc
        rw [if_neg hc] at h
        refine zw_push hm_32 dX3_hasRoom_18 (v := .inl (1 : Int32)) rfl ?_
        refine zw_goto hm_32 dX3_hasRoom_19 (t := 23) rfl ?_
        refine zw_bret hm_32 dX3_hasRoom_23 (by decide) ?_
        show ma_wp X d w 31 18 [(0, .inr (.inr (some 81))), (1, .inl z)] [.inl (1 : Int32)] S1 _
        refine zw_if0 hm_31 dX3_findRoom_18 (t := 28) rfl zc0_eq (fun hc => absurd hc (by decide)) (fun _ => ?_)
        refine zw_push hm_31 dX3_findRoom_21 (v := .inr (.inr (some 81))) rfl ?_
        refine zw_gf hm_31 dX3_findRoom_22 (v := .inl (mI S1 81 4)) (zT_is hS1 s_81) (zT_t hS1 s_81) rfl f_3_18_3 rfl ?_
        refine zw_goto hm_31 dX3_findRoom_25 (t := 29) rfl ?_
        exact zw_iret hm_31 dX3_findRoom_29 h
    · intro x S9 hx
      exact ⟨by decide, hx⟩
  · intro hc
    rw [if_neg hc] at h
    refine zw_push hm_32 dX3_hasRoom_18 (v := .inl (1 : Int32)) rfl ?_
    refine zw_goto hm_32 dX3_hasRoom_19 (t := 23) rfl ?_
    refine zw_bret hm_32 dX3_hasRoom_23 (by decide) ?_
    show ma_wp X d w 31 5 [(0, .inr (.inr (some 81))), (1, .inl z)] [.inl (1 : Int32)] S _
    refine zw_if0 hm_31 dX3_findRoom_5 (t := 13) rfl zc0_ne (fun _ => ?_) (fun hc => absurd (by decide) hc)
    refine zw_push hm_31 dX3_findRoom_13 (v := .inr (.inr (some 81))) rfl ?_
    refine zw_push hm_31 dX3_findRoom_14 (v := .inl z) rfl ?_
    refine zw_cv hm_31 dX3_findRoom_15 v_3_21_3 hm_32 [.inl z] [] rfl (zT_rt hS s_81 rfl) ⟨by omega, by omega⟩ rfl ?_
    show ma_wp X (d - 1) (w - 21) 32 0 [(0, .inr (.inr (some 81))), (1, .inl z)] [] S _
    refine zw_push hm_32 dX3_hasRoom_0 (v := .inr (.inr (some 81))) rfl ?_
    refine zw_gf hm_32 dX3_hasRoom_1 (v := .inl (mI S 81 4)) (zT_is hS s_81) (zT_t hS s_81) rfl f_3_18_3 rfl ?_
    refine zw_push hm_32 dX3_hasRoom_4 (v := .inl z) rfl ?_
    refine zw_stk hm_32 dX3_hasRoom_5 (st₉ := [.inl ((mI S 81 4) + z)]) rfl rfl ?_
    refine zw_push hm_32 dX3_hasRoom_6 (v := .inr (.inr (some 81))) rfl ?_
    refine zw_gf hm_32 dX3_hasRoom_7 (v := .inl (mI S 81 3)) (zT_is hS s_81) (zT_t hS s_81) rfl f_3_15_3 rfl ?_
    refine zw_push hm_32 dX3_hasRoom_10 (v := .inr (.inr (some 81))) rfl ?_
    refine zw_gf hm_32 dX3_hasRoom_11 (v := .inl (mI S 81 2)) (zT_is hS s_81) (zT_t hS s_81) rfl f_3_9_3 rfl ?_
    refine zw_stk hm_32 dX3_hasRoom_14 (st₉ := [.inl ((mI S 81 3) + (mI S 81 2)), .inl ((mI S 81 4) + z)]) rfl rfl ?_
    refine zw_if2 hm_32 dX3_hasRoom_15 (t := 22) rfl zc2_gt ?_ ?_
    · intro hc
      rw [if_pos hc] at h
      refine zw_push hm_32 dX3_hasRoom_22 (v := .inl (0 : Int32)) rfl ?_
      refine zw_bret hm_32 dX3_hasRoom_23 (by decide) ?_
      show ma_wp X d w 31 18 [(0, .inr (.inr (some 81))), (1, .inl z)] [.inl (0 : Int32)] S _
      refine zw_if0 hm_31 dX3_findRoom_18 (t := 28) rfl zc0_eq (fun _ => ?_) (fun hc => absurd (by decide) hc)
      refine zw_push hm_31 dX3_findRoom_28 (v := .inl (-1 : Int32)) rfl ?_
      exact zw_iret hm_31 dX3_findRoom_29 h
    · intro hc
      rw [if_neg hc] at h
      refine zw_push hm_32 dX3_hasRoom_18 (v := .inl (1 : Int32)) rfl ?_
      refine zw_goto hm_32 dX3_hasRoom_19 (t := 23) rfl ?_
      refine zw_bret hm_32 dX3_hasRoom_23 (by decide) ?_
      show ma_wp X d w 31 18 [(0, .inr (.inr (some 81))), (1, .inl z)] [.inl (1 : Int32)] S _
      refine zw_if0 hm_31 dX3_findRoom_18 (t := 28) rfl zc0_eq (fun hc => absurd hc (by decide)) (fun _ => ?_)
      refine zw_push hm_31 dX3_findRoom_21 (v := .inr (.inr (some 81))) rfl ?_
      refine zw_gf hm_31 dX3_findRoom_22 (v := .inl (mI S 81 4)) (zT_is hS s_81) (zT_t hS s_81) rfl f_3_18_3 rfl ?_
      refine zw_goto hm_31 dX3_findRoom_25 (t := 29) rfl ?_
      exact zw_iret hm_31 dX3_findRoom_29 h
theorem sp_31_81_sv {X : Nat × (Nat → Int32)} {d w : Nat} {f : Nat → Nat → Int32} {r : Nat → Nat → Option Nat} {C Z N : Nat} {Q : Option ma_V ⊕ Nat → ma_S → Prop} {ab : Nat→Nat→Int32} {S : ma_S} (z : Int32) (hd : 5 ≤ d) (hw : 137 ≤ w) (hI : zJ81 f r C Z N S) (hpre0 : xB S (mR S 70)) (hpre1 : aH S = ab) (hpre2 : qHv ab) (hpre3 : 1 ≤ z.toInt) (hpre4 : z.toInt ≤ 61) (K : ∀ v S₉, zJ81 f r C Z N S₉ → (-1 ≤ v.toInt ∧ v.toInt ≤ 3000) → (xB S₉ (mR S₉ 70)) → (aH S₉ = hRs ab z.toInt ∧ v.toInt = hRp ab z.toInt) → Q (.inl (some (.inl v))) S₉) : ma_wp X d w 31 0 [(0, .inr (.inr (some 81))), (1, .inl z)] [] S Q := by
  refine g_31_81_sv_0 z (by omega) (by omega) (zG_T hI) ?_
  have x1 : 0 ≤ (mI S 81 3).toInt ∧ (mI S 81 3).toInt ≤ (mI S 81 2).toInt := zG_x hI
  have f2 := zG_s hI (0) (1500) (c := 81) (k := 3) (by decide)
  have f3 := zG_s hI (0) (1500) (c := 81) (k := 2) (by decide)
  first | have e4 : ((mI S 81 3) + (mI S 81 2)).toInt = (mI S 81 3).toInt + (mI S 81 2).toInt := i_add (by omega) (by omega) | have b5 := i_bd ((mI S 81 3) + (mI S 81 2))
  have f6 := zG_s hI (0) (400000) (c := 81) (k := 4) (by decide)
  have b7 := i_bd z
  first | have e8 : ((mI S 81 4) + z).toInt = (mI S 81 4).toInt + z.toInt := i_add (by omega) (by omega) | have b9 := i_bd ((mI S 81 4) + z)
  refine zd (fun h10 => ?_) (fun h10 => ?_)
  · skip
    have g11 := i_lt h10
    refine sp_33_81_sv (ab := (aH S)) (by omega) (by omega) hI (show xB S (mR S 70) from by first | (exact xB_x (xC_o (W := 75) hpre0).2)) (show aH S = (aH S) from by first | (exact rfl)) (show qHv (aH S) from by first | (rw [hpre1]; exact hpre2) | (exact hpre2)) (fun v2 S1 hI_S1 hp_v2 rp0_S1 rp1_S1 => zi_n ⟨zG_T hI_S1, ?_⟩)
    have rp0_S1 : xB S1 (mR S1 70) := rp0_S1
    have rp1_S1 : aH S1 = hCl (aH S) ∧ v2 = aSv (aH S) := rp1_S1
    have x12 : 0 ≤ (mI S1 81 3).toInt ∧ (mI S1 81 3).toInt ≤ (mI S1 81 2).toInt := zG_x hI_S1
    have f13 := zG_s hI_S1 (0) (1500) (c := 81) (k := 3) (by decide)
    have f14 := zG_s hI_S1 (0) (1500) (c := 81) (k := 2) (by decide)
    first | have e15 : ((mI S1 81 3) + (mI S1 81 2)).toInt = (mI S1 81 3).toInt + (mI S1 81 2).toInt := i_add (by omega) (by omega) | have b16 := i_bd ((mI S1 81 3) + (mI S1 81 2))
    have f17 := zG_s hI_S1 (0) (400000) (c := 81) (k := 4) (by decide)
    first | have e18 : ((mI S1 81 4) + z).toInt = (mI S1 81 4).toInt + z.toInt := i_add (by omega) (by omega) | have b19 := i_bd ((mI S1 81 4) + z)
    refine zd (fun h20 => ?_) (fun h20 => ?_)
    · skip
      have g21 := i_lt h20
      have li22 : (-1 : Int32).toInt = -1 := rfl
      exact K ((-1 : Int32)) _ hI_S1 (by omega) (show xB S1 (mR S1 70) from by first | (exact xB_x (xC_o (W := 75) rp0_S1).2)) (show aH S1 = hRs ab z.toInt ∧ (-1 : Int32).toInt = hRp ab z.toInt from by first | (have a3 := congrArg Int32.toInt (show ab 87 3 = mI S 81 3 from by rw [← hpre1]; rfl); have a4 := congrArg Int32.toInt (show ab 87 4 = mI S 81 4 from by rw [← hpre1]; rfl); have a5 := congrArg Int32.toInt (show ab 87 5 = mI S 81 2 from by rw [← hpre1]; rfl); have E := hRs_2 (a := ab) (z := z.toInt) (by unfold hOk; omega); have cl := rp1_S1.1; rw [hpre1] at cl; have b3 := congrArg Int32.toInt (show hCl ab 87 3 = mI S1 81 3 from by rw [← cl]; rfl); have b4 := congrArg Int32.toInt (show hCl ab 87 4 = mI S1 81 4 from by rw [← cl]; rfl); have b5 := congrArg Int32.toInt (show hCl ab 87 5 = mI S1 81 2 from by rw [← cl]; rfl); refine ⟨cl.trans E.symm, ?_⟩; first | (rw [hRp_1 E (by unfold hOk; omega)]; omega) | (rw [hRp_2 E (by unfold hOk; omega)]; rfl)))
    · skip
      have g23 := i_nlt h20
      exact K ((mI S1 81 4)) _ hI_S1 (by omega) (show xB S1 (mR S1 70) from by first | (exact xB_x (xC_o (W := 75) rp0_S1).2)) (show aH S1 = hRs ab z.toInt ∧ (mI S1 81 4).toInt = hRp ab z.toInt from by first | (have a3 := congrArg Int32.toInt (show ab 87 3 = mI S 81 3 from by rw [← hpre1]; rfl); have a4 := congrArg Int32.toInt (show ab 87 4 = mI S 81 4 from by rw [← hpre1]; rfl); have a5 := congrArg Int32.toInt (show ab 87 5 = mI S 81 2 from by rw [← hpre1]; rfl); have E := hRs_2 (a := ab) (z := z.toInt) (by unfold hOk; omega); have cl := rp1_S1.1; rw [hpre1] at cl; have b3 := congrArg Int32.toInt (show hCl ab 87 3 = mI S1 81 3 from by rw [← cl]; rfl); have b4 := congrArg Int32.toInt (show hCl ab 87 4 = mI S1 81 4 from by rw [← cl]; rfl); have b5 := congrArg Int32.toInt (show hCl ab 87 5 = mI S1 81 2 from by rw [← cl]; rfl); refine ⟨cl.trans E.symm, ?_⟩; first | (rw [hRp_1 E (by unfold hOk; omega)]; omega) | (rw [hRp_2 E (by unfold hOk; omega)]; rfl)))
  · skip
    have g24 := i_nlt h10
    refine zd (fun h25 => ?_) (fun h25 => ?_)
    · skip
      have g26 := i_lt h25
      have li27 : (-1 : Int32).toInt = -1 := rfl
      exact K ((-1 : Int32)) _ hI (by omega) (show xB S (mR S 70) from by first | (exact xB_x (xC_o (W := 75) hpre0).2)) (show aH S = hRs ab z.toInt ∧ (-1 : Int32).toInt = hRp ab z.toInt from by first | (have a3 := congrArg Int32.toInt (show ab 87 3 = mI S 81 3 from by rw [← hpre1]; rfl); have a4 := congrArg Int32.toInt (show ab 87 4 = mI S 81 4 from by rw [← hpre1]; rfl); have a5 := congrArg Int32.toInt (show ab 87 5 = mI S 81 2 from by rw [← hpre1]; rfl); have E := hRs_1 (a := ab) (z := z.toInt) (by unfold hOk; omega); refine ⟨hpre1.trans E.symm, ?_⟩; rw [hRp_1 E (by unfold hOk; omega)]; omega) | (have a3 := congrArg Int32.toInt (show ab 87 3 = mI S 81 3 from by rw [← hpre1]; rfl); have a4 := congrArg Int32.toInt (show ab 87 4 = mI S 81 4 from by rw [← hpre1]; rfl); have a5 := congrArg Int32.toInt (show ab 87 5 = mI S 81 2 from by rw [← hpre1]; rfl); exfalso; omega))
    · skip
      have g28 := i_nlt h25
      exact K ((mI S 81 4)) _ hI (by omega) (show xB S (mR S 70) from by first | (exact xB_x (xC_o (W := 75) hpre0).2)) (show aH S = hRs ab z.toInt ∧ (mI S 81 4).toInt = hRp ab z.toInt from by first | (have a3 := congrArg Int32.toInt (show ab 87 3 = mI S 81 3 from by rw [← hpre1]; rfl); have a4 := congrArg Int32.toInt (show ab 87 4 = mI S 81 4 from by rw [← hpre1]; rfl); have a5 := congrArg Int32.toInt (show ab 87 5 = mI S 81 2 from by rw [← hpre1]; rfl); have E := hRs_1 (a := ab) (z := z.toInt) (by unfold hOk; omega); refine ⟨hpre1.trans E.symm, ?_⟩; rw [hRp_1 E (by unfold hOk; omega)]; omega) | (have a3 := congrArg Int32.toInt (show ab 87 3 = mI S 81 3 from by rw [← hpre1]; rfl); have a4 := congrArg Int32.toInt (show ab 87 4 = mI S 81 4 from by rw [← hpre1]; rfl); have a5 := congrArg Int32.toInt (show ab 87 5 = mI S 81 2 from by rw [← hpre1]; rfl); exfalso; omega))
theorem g_159_64_sv_p81_0 {X : Nat × (Nat → Int32)} {d w : Nat} {S : ma_S} {Q : Option ma_V ⊕ Nat → ma_S → Prop}  (hd : 7 ≤ d) (hw : 179 ≤ w) (hS : zT S) (h : mR S 64 11 = some 81 ∧ (mR S 64 11 = some 81 ∧ (ma_wp X (d - 1) (w - 23) 33 0 [(0, .inr (.inr (some 81)))] [] S (zi (fun v2 S1 => zT S1 ∧ (Q (.inl (some (.inl v2))) S1)) (fun _ _ => False))))) : ma_wp X d w 159 0 [(0, .inr (.inr (some 64)))] [] S Q := by
  refine zw_push hm_159 dX11_clean_0 (v := .inr (.inr (some 64))) rfl ?_
  refine zw_cv hm_159 dX11_clean_1 v_11_119_11 hm_144 [] [] rfl (zT_rt hS s_64 rfl) ⟨by omega, by omega⟩ rfl ?_
  show ma_wp X (d - 1) (w - 20) 144 0 [(0, .inr (.inr (some 64)))] [] S _
  refine zw_push hm_144 dX11_needCollector_0 (v := .inr (.inr (some 64))) rfl ?_
  obtain ⟨hg, h⟩ := h
  refine zw_gf hm_144 dX11_needCollector_1 (v := .inr (.inr (some 81))) (zT_is hS s_64) (zT_t hS s_64) rfl f_11_98_11 (congrArg (fun z => Sum.inr (Sum.inr z)) hg) ?_
  refine zw_ifnonnull hm_144 dX11_needCollector_4 (t := 15) rfl (fun z => by cases z) (fun _ _ => ?_)
  refine zw_push hm_144 dX11_needCollector_15 (v := .inr (.inr (some 64))) rfl ?_
  obtain ⟨hg, h⟩ := h
  refine zw_gf hm_144 dX11_needCollector_16 (v := .inr (.inr (some 81))) (zT_is hS s_64) (zT_t hS s_64) rfl f_11_98_11 (congrArg (fun z => Sum.inr (Sum.inr z)) hg) ?_
  refine zw_aret hm_144 dX11_needCollector_19 ?_
  show ma_wp X d w 159 4 [(0, .inr (.inr (some 64)))] [.inr (.inr (some 81))] S _
  refine zw_cv hm_159 dX11_clean_4 v_11_207_3 hm_33 [] [] rfl (zT_rt hS s_81 rfl) ⟨by omega, by omega⟩ rfl (zw_mono h (zi_go ?_ ?_))
  · intro v2 S1 hv
    obtain ⟨hS1, h⟩ := hv
    exact zw_iret hm_159 dX11_clean_7 h
  · intro x S9 hx
    exact hx.elim
theorem sp_159_64_sv_p81 {X : Nat × (Nat → Int32)} {d w : Nat} {f : Nat → Nat → Int32} {r : Nat → Nat → Option Nat} {C Z N : Nat} {Q : Option ma_V ⊕ Nat → ma_S → Prop} {ab : Nat→Nat→Int32} {S : ma_S}  (hd : 7 ≤ d) (hw : 179 ≤ w) (hI : zB f r C Z N S) (hr : r 64 11 = some 81) (hpre0 : xB S (mR S 70)) (hpre1 : aH S = ab) (hpre2 : qHv ab) (K : ∀ v S₉, zB f r C Z N S₉ → (True) → (xB S₉ (mR S₉ 70)) → (aH S₉ = hCl ab ∧ v = aSv ab) → Q (.inl (some (.inl v))) S₉) : ma_wp X d w 159 0 [(0, .inr (.inr (some 64)))] [] S Q := by
  refine g_159_64_sv_p81_0  (by omega) (by omega) (zG_T hI) ?_
  refine ⟨((zG_r hI (by decide)).trans hr), ?_⟩
  refine ⟨((zG_r hI (by decide)).trans hr), ?_⟩
  refine sp_33_81_sv (ab := (aH S)) (by omega) (by omega) (zB_dn_zJ81 hI) (show xB S (mR S 70) from by first | (exact xB_x (xC_o (W := 75) hpre0).2)) (show aH S = (aH S) from by first | (exact rfl)) (show qHv (aH S) from by first | (rw [hpre1]; exact hpre2) | (exact hpre2)) (fun v2 S1 hL_S1 hp_v2 rp0_S1 rp1_S1 => zi_n ⟨zG_T hL_S1, ?_⟩)
  have hI_S1 := zB_up_zJ81 hI hL_S1
  have rp0_S1 : xB S1 (mR S1 70) := by
    have z := rp0_S1
    (try rw [show mI S 65 = f 65 from funext (fun k => zG_z hI rfl)] at z)
    (try rw [show mI S 64 1 = f 64 1 from zG_z hI rfl] at z)
    exact z
  have rp1_S1 : aH S1 = hCl (aH S) ∧ v2 = aSv (aH S) := by
    have z := rp1_S1
    (try rw [show mI S 65 = f 65 from funext (fun k => zG_z hI rfl)] at z)
    (try rw [show mI S 64 1 = f 64 1 from zG_z hI rfl] at z)
    exact z
  have b1 := i_bd v2
  exact K (v2) _ hI_S1 trivial (show xB S1 (mR S1 70) from by first | (exact xB_x (xC_o (W := 75) rp0_S1).2)) (show aH S1 = hCl ab ∧ v2 = aSv ab from by first | (have z := rp1_S1; rw [hpre1] at z; exact z))
theorem g_145_64_81_sv_0 {X : Nat × (Nat → Int32)} {d w : Nat} {S : ma_S} {Q : Option ma_V ⊕ Nat → ma_S → Prop} (i : Int32) (x : Option Nat) (hd : 5 ≤ d) (hw : 110 ≤ w) (hS : zT S) (h : ma_wp X (d - 1) (w - 23) 92 0 [(0, .inr (.inr (some 69))), (1, .inl i), (2, .inr (.inr x))] [] S (zo (fun v2 S1 => zT S1 ∧ (Q (.inl (some (.inr (.inr v2)))) S1)) (fun x S9 => Q (.inr x) S9))) : ma_wp X d w 145 0 [(0, .inr (.inr (some 64))), (1, .inr (.inr (some 81))), (2, .inl i), (3, .inr (.inr x))] [] S Q := by
  refine zw_push hm_145 dX11_changeRoot_0 (v := .inr (.inr (some 64))) rfl ?_
  refine zw_gf hm_145 dX11_changeRoot_1 (v := .inr (.inr (some 69))) (zT_is hS s_64) (zT_t hS s_64) rfl f_11_26_11 (zT_f hS r_64_8) ?_
  refine zw_push hm_145 dX11_changeRoot_4 (v := .inl i) rfl ?_
  refine zw_push hm_145 dX11_changeRoot_5 (v := .inr (.inr x)) rfl ?_
  refine zw_cv hm_145 dX11_changeRoot_6 v_11_379_7 hm_92 [.inr (.inr x), .inl i] [] rfl (zT_rt hS s_69 rfl) ⟨by omega, by omega⟩ rfl (zw_mono h (zo_go ?_ ?_))
  · intro v2 S1 hv
    obtain ⟨hS1, h⟩ := hv
    refine zw_sto hm_145 dX11_changeRoot_9 [(4, .inr (.inr v2)), (0, .inr (.inr (some 64))), (1, .inr (.inr (some 81))), (2, .inl i), (3, .inr (.inr x))] rfl rfl rfl ?_
    refine zw_push hm_145 dX11_changeRoot_11 (v := .inr (.inr (some 81))) rfl ?_
    refine zw_push hm_145 dX11_changeRoot_12 (v := .inr (.inr v2)) rfl ?_
    refine zw_push hm_145 dX11_changeRoot_14 (v := .inr (.inr x)) rfl ?_
    refine zw_cv hm_145 dX11_changeRoot_15 v_11_153_3 hm_265 [.inr (.inr x), .inr (.inr v2)] [] rfl (zT_rt hS1 s_81 rfl) ⟨by omega, by omega⟩ rfl ?_
    show ma_wp X (d - 1) (w - 22) 265 0 [(0, .inr (.inr (some 81))), (1, .inr (.inr v2)), (2, .inr (.inr x))] [] S1 _
    refine zw_vret hm_265 dX1_noteChange_0 ?_
    show ma_wp X d w 145 18 [(4, .inr (.inr v2)), (0, .inr (.inr (some 64))), (1, .inr (.inr (some 81))), (2, .inl i), (3, .inr (.inr x))] [] S1 _
    refine zw_push hm_145 dX11_changeRoot_18 (v := .inr (.inr (some 81))) rfl ?_
    refine zw_push hm_145 dX11_changeRoot_19 (v := .inr (.inr v2)) rfl ?_
    refine zw_cv hm_145 dX11_changeRoot_21 v_11_157_3 hm_266 [.inr (.inr v2)] [] rfl (zT_rt hS1 s_81 rfl) ⟨by omega, by omega⟩ rfl ?_
    show ma_wp X (d - 1) (w - 21) 266 0 [(0, .inr (.inr (some 81))), (1, .inr (.inr v2))] [] S1 _
    refine zw_vret hm_266 dX1_noteFewer_0 ?_
    show ma_wp X d w 145 24 [(4, .inr (.inr v2)), (0, .inr (.inr (some 64))), (1, .inr (.inr (some 81))), (2, .inl i), (3, .inr (.inr x))] [] S1 _
    refine zw_push hm_145 dX11_changeRoot_24 (v := .inr (.inr v2)) rfl ?_
    exact zw_aret hm_145 dX11_changeRoot_26 h
  · intro x S9 hx
    exact ⟨by decide, hx⟩
theorem sp_145_64_81_sv {X : Nat × (Nat → Int32)} {d w : Nat} {f : Nat → Nat → Int32} {r : Nat → Nat → Option Nat} {C Z N : Nat} {Q : Option ma_V ⊕ Nat → ma_S → Prop} {ab : Nat→Nat→Int32} {R : zRT} {y : Int32} {fp : Nat→Int32} {S : ma_S} (i : Int32) (x : Option Nat) (hd : 5 ≤ d) (hw : 110 ≤ w) (hI : zJ81 f r C Z N S) (hq_x : ∀ c, x = some c → 126 ≤ c ∧ c < N) (hpre0 : xB S R) (hpre1 : aS 75 S = ab) (hpre2 : x = zTa R y) (hpre3 : 0 ≤ i.toInt) (hpre4 : i.toInt ≤ 15) (hpre5 : (mI S 81) = fp) (K : ∀ v S₉, zJ81 f r C Z N S₉ → (∀ c, v = some c → 126 ≤ c ∧ c < N) → (xB S₉ R) → (aS 75 S₉ = aR0 ab i y) → ((mI S₉ 81) = fp) → Q (.inl (some (.inr (.inr v)))) S₉) : ma_wp X d w 145 0 [(0, .inr (.inr (some 64))), (1, .inr (.inr (some 81))), (2, .inl i), (3, .inr (.inr x))] [] S Q := by
  refine g_145_64_81_sv_0 i x (by omega) (by omega) (zG_T hI) ?_
  have b1 := i_bd i
  refine sp_92_69_s (ab := (aS 75 S)) (R := R) (W := 75) (y := (y)) (i) (x) (by omega) (by omega) (zJ81_dn hI) hq_x (show xB S R from by first | (exact (xC_o (W := 75) hpre0).2)) (show aS 75 S = (aS 75 S) from by first | (exact rfl)) (show xW 75 from by first | (exact xW88) | (exact xW75)) (show x = zTa R (y) from by first | (exact hpre2)) (by omega) (by omega) (fun v2 S1 hL_S1 hq_v2 rp0_S1 rp1_S1 rp2_S1 => zo_n ⟨zG_T hL_S1, ?_⟩)
  have hI_S1 := zJ81_up hI hL_S1
  have rp0_S1 : xB S1 R := by
    have z := rp0_S1
    (try rw [show mI S 65 = f 65 from funext (fun k => zG_z hI rfl)] at z)
    (try rw [show mI S 64 1 = f 64 1 from zG_z hI rfl] at z)
    exact z
  have rp1_S1 : aS 75 S1 = ma_u (aS 75 S) 72 i.toNatClampNeg (aNm (aS 75 S) (y)) := by
    have z := rp1_S1
    (try rw [show mI S 65 = f 65 from funext (fun k => zG_z hI rfl)] at z)
    (try rw [show mI S 64 1 = f 64 1 from zG_z hI rfl] at z)
    exact z
  have rp2_S1 : v2 = zTa R ((aS 75 S) 72 i.toNatClampNeg) := by
    have z := rp2_S1
    (try rw [show mI S 65 = f 65 from funext (fun k => zG_z hI rfl)] at z)
    (try rw [show mI S 64 1 = f 64 1 from zG_z hI rfl] at z)
    exact z
  exact K (v2) _ hI_S1 hq_v2 (show xB S1 R from by first | (exact (xC_o (W := 75) rp0_S1).2)) (show aS 75 S1 = aR0 ab i y from by first | (rw [rp1_S1, hpre1]; rfl)) (show (mI S1 81) = fp from by first | (exact ((show mI S1 81 = mI S 81 from funext (fun _ => zG_z hL_S1 rfl)).trans hpre5)))
theorem g_34_81_sv_0 {X : Nat × (Nat → Int32)} {d w : Nat} {S : ma_S} {Q : Option ma_V ⊕ Nat → ma_S → Prop} (t : Nat) (hd : 0 ≤ d) (hw : 0 ≤ w) (hS : zT S) (h : (126 ≤ t ∧ t < mN S) ∧ ((126 ≤ t ∧ t < mN S) ∧ (Q (.inl none) (ma_put S 81 4 (.inl ((mI S t 4) + (mI S t 2))))))) : ma_wp X d w 34 0 [(0, .inr (.inr (some 81))), (1, .inr (.inr (some t)))] [] S Q := by
  refine zw_push hm_34 dX3_noteMade_0 (v := .inr (.inr (some 81))) rfl ?_
  refine zw_push hm_34 dX3_noteMade_1 (v := .inr (.inr (some t))) rfl ?_
  obtain ⟨hg, h⟩ := h
  refine zw_gf hm_34 dX3_noteMade_2 (v := .inl (mI S t 4)) (zT_tis hS hg) (zT_tt hS hg) rfl f_3_29_9 rfl ?_
  refine zw_push hm_34 dX3_noteMade_5 (v := .inr (.inr (some t))) rfl ?_
  obtain ⟨hg, h⟩ := h
  refine zw_gf hm_34 dX3_noteMade_6 (v := .inl (mI S t 2)) (zT_tis hS hg) (zT_tt hS hg) rfl f_3_34_9 rfl ?_
  refine zw_stk hm_34 dX3_noteMade_9 (st₉ := [.inl ((mI S t 4) + (mI S t 2)), .inr (.inr (some 81))]) rfl rfl ?_
  refine zw_pf hm_34 dX3_noteMade_10 (zT_is hS s_81) (zT_t hS s_81) p_3_18_3 zk_int ?_
  exact zw_vret hm_34 dX3_noteMade_13 h
theorem sp_34_81_sv {X : Nat × (Nat → Int32)} {d w : Nat} {f : Nat → Nat → Int32} {r : Nat → Nat → Option Nat} {C Z N : Nat} {Q : Option ma_V ⊕ Nat → ma_S → Prop} {ab : Nat→Nat→Int32} {R : zRT} {y : Int32} {S : ma_S} (t : Nat) (hd : 0 ≤ d) (hw : 0 ≤ w) (hI : zJ81 f r C Z N S) (th_t : 126 ≤ t ∧ t < N) (hpre0 : xB S R) (hpre1 : aH S = ab) (hpre2 : zTa R y = some t) (K : ∀ S₉, zJ81 f r C Z N S₉ → (xB S₉ R) → (aH S₉ = ma_u ab 87 4 (ab 130 y.toNatClampNeg + ab 128 y.toNatClampNeg)) → Q (.inl none) S₉) : ma_wp X d w 34 0 [(0, .inr (.inr (some 81))), (1, .inr (.inr (some t)))] [] S Q := by
  refine g_34_81_sv_0 t (by omega) (by omega) (zG_T hI) ?_
  refine ⟨zG_n hI th_t, ?_⟩
  refine ⟨zG_n hI th_t, ?_⟩
  have f2 := zG_th hI th_t
  have f3 := zG_th hI th_t
  first | have e4 : ((mI S t 4) + (mI S t 2)).toInt = (mI S t 4).toInt + (mI S t 2).toInt := i_add (by omega) (by omega) | have b5 := i_bd ((mI S t 4) + (mI S t 2))
  have hI1 : zJ81 f r C Z N (ma_put S 81 4 (.inl ((mI S t 4) + (mI S t 2)))) := zG_sp hI (0) (400000) rfl (by decide) (by decide) (by decide) (show zJ81_x (mI S) from zG_x hI) (by omega) (by omega)
  exact K _ hI1 (show xB (ma_put S 81 4 (.inl ((mI S t 4) + (mI S t 2)))) R from by first | (exact (xC_n (c := 81) (k := 4) (x := ((mI S t 4) + (mI S t 2))) (xC_o (W := 75) hpre0) ⟨by decide, Or.inl ⟨rfl, rfl⟩⟩).2)) (show aH (ma_put S 81 4 (.inl ((mI S t 4) + (mI S t 2)))) = ma_u ab 87 4 (ab 130 y.toNatClampNeg + ab 128 y.toNatClampNeg) from by first | (have ty := xB_th (W := 75) hpre0 hpre2; have f2 : mI S t 2 = ab 128 y.toNatClampNeg := (by rw [← hpre1, aH_o (by decide)]; exact ty.2.2.2.2.1); have f4 : mI S t 4 = ab 130 y.toNatClampNeg := (by rw [← hpre1, aH_o (by decide)]; exact ty.2.2.2.2.2.1); refine (aH_p hpre0).trans ?_; rw [f2, f4, hpre1]))

/-! from 95.q26 -/
/-! the moving collectors, the class (written by wip/tools/gen15.py) -/
theorem g_143_64_sv_64 {X : Nat × (Nat → Int32)} {d w : Nat} {S : ma_S} {Q : Option ma_V ⊕ Nat → ma_S → Prop} (l5 : Int32) (l8 : Nat) (hd : 7 ≤ d) (hw : 182 ≤ w) (hS : zT S) (h : ma_wp X (d - 1) (w - 23) 91 0 [(0, .inr (.inr (some 69))), (1, .inr (.inr (some l8)))] [] S (zv (fun S1 => zT S1 ∧ (ma_wp X (d - 1) (w - 21) 34 0 [(0, .inr (.inr (some 81))), (1, .inr (.inr (some l8)))] [] S1 (zv (fun S3 => zT S3 ∧ (ma_wp X (d - 1) (w - 24) 145 0 [(0, .inr (.inr (some 64))), (1, .inr (.inr (some 81))), (2, .inl l5), (3, .inr (.inr (some l8)))] [] S3 (zo (fun v6 S5 => zT S5 ∧ ((126 ≤ l8 ∧ l8 < mN S5) ∧ (Q (.inl (some (.inl (mI S5 l8 0)))) S5))) (fun x S9 => Q (.inr x) S9)))) (fun _ _ => False)))) (fun x S9 => Q (.inr x) S9))) : ma_wp X d w 143 64 [(0, .inr (.inr (some 64))), (5, .inl l5), (6, .inr (.inr (some 81))), (8, .inr (.inr (some l8)))] [] S Q := by
  refine zw_push hm_143 dX11_addObject_64 (v := .inr (.inr (some 64))) rfl ?_
  refine zw_gf hm_143 dX11_addObject_65 (v := .inr (.inr (some 69))) (zT_is hS s_64) (zT_t hS s_64) rfl f_11_26_11 (zT_f hS r_64_8) ?_
  refine zw_push hm_143 dX11_addObject_68 (v := .inr (.inr (some l8))) rfl ?_
  refine zw_cv hm_143 dX11_addObject_70 v_11_373_7 hm_91 [.inr (.inr (some l8))] [] rfl (zT_rt hS s_69 rfl) ⟨by omega, by omega⟩ rfl (zw_mono h (zv_go ?_ ?_))
  · intro S1 hv
    obtain ⟨hS1, h⟩ := hv
    refine zw_push hm_143 dX11_addObject_73 (v := .inr (.inr (some 81))) rfl ?_
    refine zw_push hm_143 dX11_addObject_75 (v := .inr (.inr (some l8))) rfl ?_
    refine zw_cv hm_143 dX11_addObject_77 v_11_376_3 hm_34 [.inr (.inr (some l8))] [] rfl (zT_rt hS1 s_81 rfl) ⟨by omega, by omega⟩ rfl (zw_mono h (zv_go ?_ ?_))
    · intro S3 hv
      obtain ⟨hS3, h⟩ := hv
      refine zw_push hm_143 dX11_addObject_80 (v := .inr (.inr (some 64))) rfl ?_
      refine zw_push hm_143 dX11_addObject_81 (v := .inr (.inr (some 81))) rfl ?_
      refine zw_push hm_143 dX11_addObject_83 (v := .inl l5) rfl ?_
      refine zw_push hm_143 dX11_addObject_85 (v := .inr (.inr (some l8))) rfl ?_
      refine zw_cv hm_143 dX11_addObject_87 v_11_169_11 hm_145 [.inr (.inr (some l8)), .inl l5, .inr (.inr (some 81))] [] rfl (zT_rt hS3 s_64 rfl) ⟨by omega, by omega⟩ rfl (zw_mono h (zo_go ?_ ?_))
      · intro v6 S5 hv
        obtain ⟨hS5, h⟩ := hv
        refine zw_stk hm_143 dX11_addObject_90 (st₉ := []) rfl rfl ?_
        refine zw_push hm_143 dX11_addObject_91 (v := .inr (.inr (some l8))) rfl ?_
        obtain ⟨hg, h⟩ := h
        refine zw_gf hm_143 dX11_addObject_93 (v := .inl (mI S5 l8 0)) (zT_tis hS5 hg) (zT_tt hS5 hg) rfl f_11_182_9 rfl ?_
        exact zw_iret hm_143 dX11_addObject_96 h
      · intro x S9 hx
        exact ⟨by decide, hx⟩
    · intro x S9 hx
      exact hx.elim
  · intro x S9 hx
    exact ⟨by decide, hx⟩
theorem sg_143_64_sv_64 {X : Nat × (Nat → Int32)} {d w : Nat} {f : Nat → Nat → Int32} {r : Nat → Nat → Option Nat} {C Z N : Nat} {Q : Option ma_V ⊕ Nat → ma_S → Prop} {ab : Nat→Nat→Int32} {R : zRT} {y : Int32} {I0 : Nat→Int32} {L0 : Int64} {S : ma_S} (l5 : Int32) (l8 : Nat) (hd : 7 ≤ d) (hw : 182 ≤ w) (hI : zB f r C Z N S) (th_l8 : 126 ≤ l8 ∧ l8 < N) (hpre0 : (mI S 69 6).toInt ≤ 511) (hpre1 : xB S R) (hpre2 : aH S = ab) (hpre3 : mI S l8 = I0) (hpre4 : mL S l8 3 = L0) (hpre5 : I0 0 = y) (hpre6 : (0 ≤ (I0 0).toInt ∧ (I0 0).toInt ≤ 511) ∧ (1 ≤ (I0 2).toInt ∧ (I0 2).toInt ≤ 61) ∧ 0 ≤ (I0 4).toInt ∧ (I0 4).toInt + (I0 2).toInt ≤ 4500) (hpre7 : 0 ≤ y.toInt ∧ y.toInt < 512) (hpre8 : 0 ≤ l5.toInt) (hpre9 : l5.toInt ≤ 15) (K : ∀ v S₉, zB f r C Z N S₉ → (True) → (xB S₉ (mR S₉ 70)) → (aH S₉ = aR0 (hMd (aAd ab y I0 L0) y) l5 y ∧ v = y) → Q (.inl (some (.inl v))) S₉) : ma_wp X d w 143 64 [(0, .inr (.inr (some 64))), (5, .inl l5), (6, .inr (.inr (some 81))), (8, .inr (.inr (some l8)))] [] S Q := by
  refine g_143_64_sv_64 l5 l8 (by omega) (by omega) (zG_T hI) ?_
  have f1 := zG_s hI (0) (512) (c := 69) (k := 6) (by decide)
  refine sp_91_69_s (ab := (aS 75 S)) (R := R) (W := 75) (y := y) (I0 := I0) (L0 := L0) (u := l8) l8 (by omega) (by omega) (zB_dn_zS hI) th_l8 (show (mI S 69 6).toInt ≤ 511 from by omega) (show xB S R from by first | (exact (xC_o (W := 75) hpre1).2)) (show aS 75 S = (aS 75 S) from by first | (exact rfl)) (show xW 75 from by first | (exact xW88) | (exact xW75)) (show mI S l8 = I0 from by first | (exact rfl) | (exact hpre3)) (show mL S l8 3 = L0 from by first | (exact rfl) | (exact hpre4)) (show I0 0 = y from by first | (exact rfl) | (exact hpre5)) (show (0 ≤ (I0 0).toInt ∧ (I0 0).toInt ≤ 511) ∧ (1 ≤ (I0 2).toInt ∧ (I0 2).toInt ≤ 61) ∧ 0 ≤ (I0 4).toInt ∧ (I0 4).toInt + (I0 2).toInt ≤ 4500 from by first | (exact hpre6) | (omega)) (show l8 = l8 from by first | (exact rfl)) (fun S1 hL_S1 rp0_S1 rp1_S1 => zv_n ⟨zG_T hL_S1, ?_⟩)
  have hI_S1 := zB_up_zS hI hL_S1
  have rp0_S1 : xB S1 (zRu R y.toNatClampNeg (some l8)) := by
    have z := rp0_S1
    (try rw [show mI S 65 = f 65 from funext (fun k => zG_z hI rfl)] at z)
    (try rw [show mI S 64 1 = f 64 1 from zG_z hI rfl] at z)
    exact z
  have rp1_S1 : aS 75 S1 = aAd (aS 75 S) y I0 L0 := by
    have z := rp1_S1
    (try rw [show mI S 65 = f 65 from funext (fun k => zG_z hI rfl)] at z)
    (try rw [show mI S 64 1 = f 64 1 from zG_z hI rfl] at z)
    exact z
  refine sp_34_81_sv (ab := (aH S1)) (R := (zRu R y.toNatClampNeg (some l8))) (y := (y)) l8 (by omega) (by omega) (zB_dn_zJ81 hI_S1) th_l8 (show xB S1 (zRu R y.toNatClampNeg (some l8)) from by first | (exact (xC_o (W := 75) rp0_S1).2)) (show aH S1 = (aH S1) from by first | (exact rfl)) (show zTa (zRu R y.toNatClampNeg (some l8)) (y) = some l8 from by first | (exact (zTa_u (R := R) (c := l8) hpre7.1 hpre7.2))) (fun S3 hL_S3 rp0_S3 rp1_S3 => zv_n ⟨zG_T hL_S3, ?_⟩)
  have hI_S3 := zB_up_zJ81 hI_S1 hL_S3
  have rp0_S3 : xB S3 (zRu R y.toNatClampNeg (some l8)) := by
    have z := rp0_S3
    (try rw [show mI S1 65 = f 65 from funext (fun k => zG_z hI_S1 rfl)] at z)
    (try rw [show mI S1 64 1 = f 64 1 from zG_z hI_S1 rfl] at z)
    exact z
  have rp1_S3 : aH S3 = ma_u (aH S1) 87 4 ((aH S1) 130 (y).toNatClampNeg + (aH S1) 128 (y).toNatClampNeg) := by
    have z := rp1_S3
    (try rw [show mI S1 65 = f 65 from funext (fun k => zG_z hI_S1 rfl)] at z)
    (try rw [show mI S1 64 1 = f 64 1 from zG_z hI_S1 rfl] at z)
    exact z
  have b2 := i_bd l5
  refine sp_145_64_81_sv (ab := (aS 75 S3)) (R := (zRu R y.toNatClampNeg (some l8))) (y := (y)) (fp := (mI S3 81)) (l5) ((some l8)) (by omega) (by omega) (zB_dn_zJ81 hI_S3) (fun _ z => by cases z; exact th_l8) (show xB S3 (zRu R y.toNatClampNeg (some l8)) from by first | (exact (xC_o (W := 75) rp0_S3).2)) (show aS 75 S3 = (aS 75 S3) from by first | (exact rfl)) (show (some l8) = zTa (zRu R y.toNatClampNeg (some l8)) (y) from by first | (exact (zTa_u (R := R) (c := l8) hpre7.1 hpre7.2).symm)) (by omega) (by omega) (show (mI S3 81) = (mI S3 81) from by first | (exact rfl)) (fun v6 S5 hL_S5 hq_v6 rp0_S5 rp1_S5 rp2_S5 => zo_n ⟨zG_T hL_S5, ?_⟩)
  have hI_S5 := zB_up_zJ81 hI_S3 hL_S5
  have rp0_S5 : xB S5 (zRu R y.toNatClampNeg (some l8)) := by
    have z := rp0_S5
    (try rw [show mI S3 65 = f 65 from funext (fun k => zG_z hI_S3 rfl)] at z)
    (try rw [show mI S3 64 1 = f 64 1 from zG_z hI_S3 rfl] at z)
    exact z
  have rp1_S5 : aS 75 S5 = aR0 (aS 75 S3) l5 (y) := by
    have z := rp1_S5
    (try rw [show mI S3 65 = f 65 from funext (fun k => zG_z hI_S3 rfl)] at z)
    (try rw [show mI S3 64 1 = f 64 1 from zG_z hI_S3 rfl] at z)
    exact z
  have rp2_S5 : (mI S5 81) = (mI S3 81) := by
    have z := rp2_S5
    (try rw [show mI S3 65 = f 65 from funext (fun k => zG_z hI_S3 rfl)] at z)
    (try rw [show mI S3 64 1 = f 64 1 from zG_z hI_S3 rfl] at z)
    exact z
  refine ⟨zG_n hI_S5 th_l8, ?_⟩
  have f3 := zG_th hI_S5 th_l8
  exact K ((mI S5 l8 0)) _ hI_S5 trivial (show xB S5 (mR S5 70) from by first | (exact xB_x (xC_o (W := 75) rp0_S5).2)) (show aH S5 = aR0 (hMd (aAd ab y I0 L0) y) l5 y ∧ (mI S5 l8 0) = y from by first | (have ty := xB_th (W := 75) rp0_S5 (zTa_u (R := R) (c := l8) hpre7.1 hpre7.2); have s1 := H_ad rp1_S1 (zf_81 (show mI S1 81 = mI S 81 from funext (fun _ => zG_z hL_S1 rfl))); rw [hpre2] at s1; have s2 := rp1_S3; have s3 := H_r0 rp1_S5 (zf_81 rp2_S5); rw [s2, s1] at s3; exact ⟨s3, ty.2.2.1⟩))
theorem g_143_64_sv_p81_0 {X : Nat × (Nat → Int32)} {d w : Nat} {S : ma_S} {Q : Option ma_V ⊕ Nat → ma_S → Prop} (kd : Int32) (wd : Int32) (rf : Int64) (rt : Int32) (hd : 7 ≤ d) (hw : 182 ≤ w) (hS : zT S) (h : mR S 64 11 = some 81 ∧ (mR S 64 11 = some 81 ∧ (if (512 : Int32) ≤ (mI S 69 6) then (Q (.inl (some (.inl (-1 : Int32)))) S) else (ma_wp X (d - 1) (w - 21) 31 0 [(0, .inr (.inr (some 81))), (1, .inl (wd + (1 : Int32)))] [] S (zi (fun v2 S1 => zT S1 ∧ (if v2 = (-1 : Int32) then (Q (.inl (some (.inl (-1 : Int32)))) S1) else (ma_wp X d w 143 41 [(0, .inr (.inr (some 64))), (1, .inl kd), (2, .inl wd), (3, .inr (.inl rf)), (5, .inl rt), (6, .inr (.inr (some 81))), (7, .inl v2)] [] S1 Q))) (fun _ _ => False)))))) : ma_wp X d w 143 0 [(0, .inr (.inr (some 64))), (1, .inl kd), (2, .inl wd), (3, .inr (.inl rf)), (5, .inl rt)] [] S Q := by
  refine zw_push hm_143 dX11_addObject_0 (v := .inr (.inr (some 64))) rfl ?_
  refine zw_cv hm_143 dX11_addObject_1 v_11_119_11 hm_144 [] [] rfl (zT_rt hS s_64 rfl) ⟨by omega, by omega⟩ rfl ?_
  show ma_wp X (d - 1) (w - 20) 144 0 [(0, .inr (.inr (some 64)))] [] S _
  refine zw_push hm_144 dX11_needCollector_0 (v := .inr (.inr (some 64))) rfl ?_
  obtain ⟨hg, h⟩ := h
  refine zw_gf hm_144 dX11_needCollector_1 (v := .inr (.inr (some 81))) (zT_is hS s_64) (zT_t hS s_64) rfl f_11_98_11 (congrArg (fun z => Sum.inr (Sum.inr z)) hg) ?_
  refine zw_ifnonnull hm_144 dX11_needCollector_4 (t := 15) rfl (fun z => by cases z) (fun _ _ => ?_)
  refine zw_push hm_144 dX11_needCollector_15 (v := .inr (.inr (some 64))) rfl ?_
  obtain ⟨hg, h⟩ := h
  refine zw_gf hm_144 dX11_needCollector_16 (v := .inr (.inr (some 81))) (zT_is hS s_64) (zT_t hS s_64) rfl f_11_98_11 (congrArg (fun z => Sum.inr (Sum.inr z)) hg) ?_
  refine zw_aret hm_144 dX11_needCollector_19 ?_
  show ma_wp X d w 143 4 [(0, .inr (.inr (some 64))), (1, .inl kd), (2, .inl wd), (3, .inr (.inl rf)), (5, .inl rt)] [.inr (.inr (some 81))] S _
  refine zw_sto hm_143 dX11_addObject_4 [(6, .inr (.inr (some 81))), (0, .inr (.inr (some 64))), (1, .inl kd), (2, .inl wd), (3, .inr (.inl rf)), (5, .inl rt)] rfl rfl rfl ?_
  refine zw_push hm_143 dX11_addObject_6 (v := .inr (.inr (some 64))) rfl ?_
  refine zw_gf hm_143 dX11_addObject_7 (v := .inr (.inr (some 69))) (zT_is hS s_64) (zT_t hS s_64) rfl f_11_26_11 (zT_f hS r_64_8) ?_
  refine zw_gf hm_143 dX11_addObject_10 (v := .inl (mI S 69 6)) (zT_is hS s_69) (zT_t hS s_69) rfl f_11_244_7 rfl ?_
  refine zw_push hm_143 dX11_addObject_13 (v := .inl (512 : Int32)) rfl ?_
  refine zw_if2 hm_143 dX11_addObject_16 (t := 30) rfl zc2_ge ?_ ?_
  · intro hc
    rw [if_pos hc] at h
    refine zw_push hm_143 dX11_addObject_30 (v := .inl (-1 : Int32)) rfl ?_
    refine zw_sto hm_143 dX11_addObject_31 [(7, .inl (-1 : Int32)), (6, .inr (.inr (some 81))), (0, .inr (.inr (some 64))), (1, .inl kd), (2, .inl wd), (3, .inr (.inl rf)), (5, .inl rt)] rfl rfl rfl ?_
    refine zw_push hm_143 dX11_addObject_33 (v := .inl (-1 : Int32)) rfl ?_
    refine zw_push hm_143 dX11_addObject_35 (v := .inl (-1 : Int32)) rfl ?_
    refine zw_if2 hm_143 dX11_addObject_36 (t := 41) rfl zc2_ne (fun hc => absurd hc (by decide)) (fun _ => ?_)
    refine zw_push hm_143 dX11_addObject_39 (v := .inl (-1 : Int32)) rfl ?_
    exact zw_iret hm_143 dX11_addObject_40 h
  · intro hc
    rw [if_neg hc] at h
    refine zw_push hm_143 dX11_addObject_19 (v := .inr (.inr (some 81))) rfl ?_
    refine zw_push hm_143 dX11_addObject_21 (v := .inl wd) rfl ?_
    refine zw_push hm_143 dX11_addObject_22 (v := .inl (1 : Int32)) rfl ?_
    refine zw_stk hm_143 dX11_addObject_23 (st₉ := [.inl (wd + (1 : Int32)), .inr (.inr (some 81))]) rfl rfl ?_
    refine zw_cv hm_143 dX11_addObject_24 v_11_367_3 hm_31 [.inl (wd + (1 : Int32))] [] rfl (zT_rt hS s_81 rfl) ⟨by omega, by omega⟩ rfl (zw_mono h (zi_go ?_ ?_))
    · intro v2 S1 hv
      obtain ⟨hS1, h⟩ := hv
      refine zw_goto hm_143 dX11_addObject_27 (t := 31) rfl ?_
      refine zw_sto hm_143 dX11_addObject_31 [(7, .inl v2), (6, .inr (.inr (some 81))), (0, .inr (.inr (some 64))), (1, .inl kd), (2, .inl wd), (3, .inr (.inl rf)), (5, .inl rt)] rfl rfl rfl ?_
      refine zw_push hm_143 dX11_addObject_33 (v := .inl v2) rfl ?_
      refine zw_push hm_143 dX11_addObject_35 (v := .inl (-1 : Int32)) rfl ?_
      refine zw_if2 hm_143 dX11_addObject_36 (t := 41) rfl zc2_ne ?_ ?_
      · intro hc
        rw [if_neg hc] at h
        exact zw_sub (ma_nd_of (ks := [0, 1, 2, 3, 5, 6, 7]) rfl (by decide)) (ma_nd_of (ks := [7, 6, 0, 1, 2, 3, 5]) rfl (by decide)) (ma_le_cons rfl (ma_le_cons rfl (ma_le_cons rfl (ma_le_cons rfl (ma_le_cons rfl (ma_le_cons rfl (ma_le_cons rfl (ma_le_nil _)))))))) h
      · intro hc
        rw [if_pos (Classical.not_not.mp hc)] at h
        refine zw_push hm_143 dX11_addObject_39 (v := .inl (-1 : Int32)) rfl ?_
        exact zw_iret hm_143 dX11_addObject_40 h
    · intro x S9 hx
      exact hx.elim
theorem sp_143_64_sv_p81 {X : Nat × (Nat → Int32)} {d w : Nat} {f : Nat → Nat → Int32} {r : Nat → Nat → Option Nat} {C Z N : Nat} {Q : Option ma_V ⊕ Nat → ma_S → Prop} {ab : Nat→Nat→Int32} {S : ma_S} (kd : Int32) (wd : Int32) (rf : Int64) (rt : Int32) (hd : 7 ≤ d) (hw : 182 ≤ w) (hI : zB f r C Z N S) (hr : r 64 11 = some 81) (hpre0 : 0 ≤ wd.toInt) (hpre1 : wd.toInt ≤ 60) (hpre2 : 0 ≤ rt.toInt) (hpre3 : rt.toInt ≤ 15) (hpre4 : xB S (mR S 70)) (hpre5 : aH S = ab) (hpre6 : qHv ab) (K : ∀ v S₉ r₉ C₉ Z₉ N₉, (∀ c k, c < 126 → r₉ c k = r c k) → C₉ ≤ C + 1 → Z₉ ≤ Z + 9 → (N ≤ N₉) → zB f r₉ C₉ Z₉ N₉ S₉ → (True) → (xB S₉ (mR S₉ 70)) → (aH S₉ = hMk ab kd wd rf rt ∧ v = hMn ab wd) → Q (.inl (some (.inl v))) S₉) : ma_wp X d w 143 0 [(0, .inr (.inr (some 64))), (1, .inl kd), (2, .inl wd), (3, .inr (.inl rf)), (5, .inl rt)] [] S Q := by
  refine g_143_64_sv_p81_0 kd wd rf rt (by omega) (by omega) (zG_T hI) ?_
  refine ⟨((zG_r hI (by decide)).trans hr), ?_⟩
  refine ⟨((zG_r hI (by decide)).trans hr), ?_⟩
  have li1 : (512 : Int32).toInt = 512 := rfl
  have f2 := zG_s hI (0) (512) (c := 69) (k := 6) (by decide)
  refine zd (fun h3 => ?_) (fun h3 => ?_)
  · skip
    have g4 := i_le h3
    have li5 : (-1 : Int32).toInt = -1 := rfl
    exact K ((-1 : Int32)) _ _ _ _ _ (fun _ _ _ => rfl) (by omega) (by omega) (Nat.le_refl _) hI trivial (show xB S (mR S 70) from by first | (exact xB_x (xC_o (W := 75) hpre4).2)) (show aH S = hMk ab kd wd rf rt ∧ (-1 : Int32) = hMn ab wd from by first | (have z := hMk_0 (a := ab) (kd := kd) (wd := wd) (rt := rt) (L := rf) (by rw [← hpre5, (show aH S 69 6 = mI S 69 6 from (aH_o (by decide)).trans (aS_I (W := 75) (S := S) (c := 69) (c₉ := 69) (k := 6) rfl rfl))]; omega); exact ⟨hpre5.trans z.1.symm, z.2.symm⟩))
  · skip
    have g6 := i_nle h3
    have b7 := i_bd wd
    first | have e8 : (wd + (1 : Int32)).toInt = wd.toInt + (1) := i_addk rfl (by omega) (by omega) | have b9 := i_bd (wd + (1 : Int32))
    refine sp_31_81_sv (ab := (aH S)) ((wd + (1 : Int32))) (by omega) (by omega) (zB_dn_zJ81 hI) (show xB S (mR S 70) from by first | (exact xB_x (xC_o (W := 75) hpre4).2)) (show aH S = (aH S) from by first | (exact rfl)) (show qHv (aH S) from by first | (rw [hpre5]; exact hpre6) | (exact hpre6)) (by omega) (by omega) (fun v2 S1 hL_S1 hp_v2 rp0_S1 rp1_S1 => zi_n ⟨zG_T hL_S1, ?_⟩)
    have hI_S1 := zB_up_zJ81 hI hL_S1
    have rp0_S1 : xB S1 (mR S1 70) := by
      have z := rp0_S1
      (try rw [show mI S 65 = f 65 from funext (fun k => zG_z hI rfl)] at z)
      (try rw [show mI S 64 1 = f 64 1 from zG_z hI rfl] at z)
      exact z
    have rp1_S1 : aH S1 = hRs (aH S) (wd + (1 : Int32)).toInt ∧ v2.toInt = hRp (aH S) (wd + (1 : Int32)).toInt := by
      have z := rp1_S1
      (try rw [show mI S 65 = f 65 from funext (fun k => zG_z hI rfl)] at z)
      (try rw [show mI S 64 1 = f 64 1 from zG_z hI rfl] at z)
      exact z
    have b10 := i_bd v2
    have li11 : (-1 : Int32).toInt = -1 := rfl
    refine zd (fun h12 => ?_) (fun h12 => ?_)
    · skip
      have g13 := i_eq h12
      exact K ((-1 : Int32)) _ _ _ _ _ (fun _ _ _ => rfl) (by omega) (by omega) (Nat.le_refl _) hI_S1 trivial (show xB S1 (mR S1 70) from by first | (exact xB_x (xC_o (W := 75) rp0_S1).2)) (show aH S1 = hMk ab kd wd rf rt ∧ (-1 : Int32) = hMn ab wd from by first | (have wd1 : (wd + (1 : Int32)).toInt = wd.toInt + 1 := i_addk rfl (by omega) (by omega); have rs := rp1_S1; rw [hpre5] at rs; have z := hMk_1 (a := ab) (kd := kd) (wd := wd) (rt := rt) (L := rf) (by rw [← hpre5, (show aH S 69 6 = mI S 69 6 from (aH_o (by decide)).trans (aS_I (W := 75) (S := S) (c := 69) (c₉ := 69) (k := 6) rfl rfl))]; omega) (by omega); exact ⟨rs.1.trans z.1.symm, z.2.symm⟩))
    · skip
      have g14 := i_ne h12
      have b15 := i_bd rt
      have q16 : (mI S1 69 6).toInt = (mI S 69 6).toInt := zG_zi (f := mI S) hL_S1 rfl
      have f17 := zG_s hI_S1 (0) (512) (c := 69) (k := 6) (by decide)
      have hN2 : 126 ≤ mN S1 := (zG_T hI_S1).2.1
      have hr2 : ∀ n c, mR S1 70 n = some c → c < mN S1 := fun n c q => by have z := zG_70 hI_S1 (by decide) q; rw [zG_N hI_S1]; exact z.2
      have wd1 : (wd + (1 : Int32)).toInt = wd.toInt + 1 := i_addk rfl (by omega) (by omega)
      have hy : (mI S1 69 6) = aH S1 69 6 := (show aH S1 69 6 = mI S1 69 6 from (aH_o (by decide)).trans (aS_I (W := 75) (S := S1) (c := 69) (c₉ := 69) (k := 6) rfl rfl)).symm
      have rs := rp1_S1
      have mk2 := hMk_2 (a := ab) (b := aH S1) (kd := kd) (wd := wd) (rt := rt) (L := rf) (pl := v2) (y := (mI S1 69 6)) (by rw [← hpre5, (show aH S 69 6 = mI S 69 6 from (aH_o (by decide)).trans (aS_I (W := 75) (S := S) (c := 69) (c₉ := 69) (k := 6) rfl rfl))]; omega) (by rw [← hpre5]; exact rs.1) (by rw [← hpre5]; exact rs.2) (by omega) hy
      exact mk_143s (p := 81) (by omega) (by omega) hI_S1 (by show 0 ≤ (mI S1 69 6).toInt; omega) (by show (mI S1 69 6).toInt ≤ 511; omega) (by omega) (by omega) (by omega) (by omega) (fun Sn hn hj => sg_143_64_sv_64 (ab := aH S1) (R := mR S1 70) (y := (mI S1 69 6)) (I0 := (zFn (mI S1 69 6) kd (wd + (1 : Int32)) v2)) (L0 := rf) (rt) N (by omega) (by omega) hn ⟨Nat.le_trans (zG_T hI_S1).2.1 (Nat.le_of_eq (zG_N hI_S1)), Nat.lt_succ_self _⟩ (by rw [hj, zTh_lo (by decide) hN2]; omega) (by rw [hj]; exact mk_B rp0_S1 hN2 hr2) (by rw [hj]; exact H_th hN2 hr2) (by rw [hj]; have q := zTh_eq (S := S1) (nu := (mI S1 69 6)) (kd := kd) (sz := wd + (1 : Int32)) (rr := rf) (pl := v2); rw [zG_N hI_S1] at q; exact q) (by rw [hj]; have q := zTh_L3 (S := S1) (nu := (mI S1 69 6)) (kd := kd) (sz := wd + (1 : Int32)) (rr := rf) (pl := v2); rw [zG_N hI_S1] at q; exact q) rfl (show (0 ≤ (mI S1 69 6).toInt ∧ (mI S1 69 6).toInt ≤ 511) ∧ (1 ≤ (wd + (1 : Int32)).toInt ∧ (wd + (1 : Int32)).toInt ≤ 61) ∧ 0 ≤ v2.toInt ∧ v2.toInt + (wd + (1 : Int32)).toInt ≤ 4500 by omega) ⟨by omega, by omega⟩ (by omega) (by omega) (fun v9 S9 h9 h10 q0 q1 => K v9 S9 _ _ _ _ (zrN_lo (zG_T hI_S1) (zG_N hI_S1)) (by omega) (by omega) (by omega) h9 h10 q0 (by rw [mk2.1, mk2.2]; exact q1)))
theorem g_141_64_sv_p81_0 {X : Nat × (Nat → Int32)} {d w : Nat} {S : ma_S} {Q : Option ma_V ⊕ Nat → ma_S → Prop} (ki : Int32) (rt : Int32) (hd : 8 ≤ d) (hw : 232 ≤ w) (hS : zT S) (h : if ki < 0 then (Q (.inr 2) (ma_bump S)) else (if (mI S 64 7) ≤ ki then (Q (.inr 2) (ma_bump S)) else (if rt < 0 then (Q (.inr 2) (ma_bump S)) else (if (16 : Int32) ≤ rt then (Q (.inr 2) (ma_bump S)) else ((0 ≤ ki ∧ ki.toNatClampNeg < 16) ∧ ((0 ≤ ki ∧ ki.toNatClampNeg < 16) ∧ (ma_wp X (d - 1) (w - 28) 143 0 [(0, .inr (.inr (some 64))), (1, .inl ki), (2, .inl (mI S 67 ki.toNatClampNeg)), (3, .inr (.inl ((mI S 68 ki.toNatClampNeg).toInt64))), (5, .inl rt)] [] S (zi (fun v2 S1 => zT S1 ∧ (Q (.inl (some (.inl v2))) S1)) (fun x S9 => Q (.inr x) S9))))))))) : ma_wp X d w 141 0 [(0, .inr (.inr (some 64))), (1, .inl ki), (2, .inl rt)] [] S Q := by
  refine zw_push hm_141 dX11_make_0 (v := .inl ki) rfl ?_
  refine zw_if0 hm_141 dX11_make_1 (t := 19) rfl zc0_lt ?_ ?_
  · intro hc
    rw [if_pos hc] at h
    exact zw_thr hm_141 dX11_make_19 dX11_make_22 dX11_make_23 dX11_make_26 x_11_79_81 n_11_79 (by omega) (by show 0 + 81 ≤ w; omega) h
  · intro hc
    rw [if_neg hc] at h
    refine zw_push hm_141 dX11_make_4 (v := .inl ki) rfl ?_
    refine zw_push hm_141 dX11_make_5 (v := .inr (.inr (some 64))) rfl ?_
    refine zw_gf hm_141 dX11_make_6 (v := .inl (mI S 64 7)) (zT_is hS s_64) (zT_t hS s_64) rfl f_11_82_11 rfl ?_
    refine zw_if2 hm_141 dX11_make_9 (t := 19) rfl zc2_ge ?_ ?_
    · intro hc
      rw [if_pos hc] at h
      exact zw_thr hm_141 dX11_make_19 dX11_make_22 dX11_make_23 dX11_make_26 x_11_79_81 n_11_79 (by omega) (by show 0 + 81 ≤ w; omega) h
    · intro hc
      rw [if_neg hc] at h
      refine zw_push hm_141 dX11_make_12 (v := .inl rt) rfl ?_
      refine zw_cs hm_141 dX11_make_13 pn_11_109 sl_11_109 hm_142 [.inl rt] [] rfl ⟨by omega, by omega⟩ rfl ?_
      show ma_wp X (d - 1) (w - 20) 142 0 [(0, .inl rt)] [] S _
      refine zw_push hm_142 dX11_isSlot_0 (v := .inl rt) rfl ?_
      refine zw_if0 hm_142 dX11_isSlot_1 (t := 14) rfl zc0_lt ?_ ?_
      · intro hc
        rw [if_pos hc] at h
        refine zw_push hm_142 dX11_isSlot_14 (v := .inl (0 : Int32)) rfl ?_
        refine zw_bret hm_142 dX11_isSlot_15 (by decide) ?_
        show ma_wp X d w 141 16 [(0, .inr (.inr (some 64))), (1, .inl ki), (2, .inl rt)] [.inl (0 : Int32)] S _
        refine zw_if0 hm_141 dX11_make_16 (t := 27) rfl zc0_ne (fun hc => absurd hc (by decide)) (fun _ => ?_)
        exact zw_thr hm_141 dX11_make_19 dX11_make_22 dX11_make_23 dX11_make_26 x_11_79_81 n_11_79 (by omega) (by show 0 + 81 ≤ w; omega) h
      · intro hc
        rw [if_neg hc] at h
        refine zw_push hm_142 dX11_isSlot_4 (v := .inl rt) rfl ?_
        refine zw_push hm_142 dX11_isSlot_5 (v := .inl (16 : Int32)) rfl ?_
        refine zw_if2 hm_142 dX11_isSlot_7 (t := 14) rfl zc2_ge ?_ ?_
        · intro hc
          rw [if_pos hc] at h
          refine zw_push hm_142 dX11_isSlot_14 (v := .inl (0 : Int32)) rfl ?_
          refine zw_bret hm_142 dX11_isSlot_15 (by decide) ?_
          show ma_wp X d w 141 16 [(0, .inr (.inr (some 64))), (1, .inl ki), (2, .inl rt)] [.inl (0 : Int32)] S _
          refine zw_if0 hm_141 dX11_make_16 (t := 27) rfl zc0_ne (fun hc => absurd hc (by decide)) (fun _ => ?_)
          exact zw_thr hm_141 dX11_make_19 dX11_make_22 dX11_make_23 dX11_make_26 x_11_79_81 n_11_79 (by omega) (by show 0 + 81 ≤ w; omega) h
        · intro hc
          rw [if_neg hc] at h
          refine zw_push hm_142 dX11_isSlot_10 (v := .inl (1 : Int32)) rfl ?_
          refine zw_goto hm_142 dX11_isSlot_11 (t := 15) rfl ?_
          refine zw_bret hm_142 dX11_isSlot_15 (by decide) ?_
          show ma_wp X d w 141 16 [(0, .inr (.inr (some 64))), (1, .inl ki), (2, .inl rt)] [.inl (1 : Int32)] S _
          refine zw_if0 hm_141 dX11_make_16 (t := 27) rfl zc0_ne (fun _ => ?_) (fun hc => absurd (by decide) hc)
          refine zw_push hm_141 dX11_make_27 (v := .inr (.inr (some 64))) rfl ?_
          refine zw_push hm_141 dX11_make_28 (v := .inl ki) rfl ?_
          refine zw_push hm_141 dX11_make_29 (v := .inr (.inr (some 64))) rfl ?_
          refine zw_gf hm_141 dX11_make_30 (v := .inr (.inr (some 67))) (zT_is hS s_64) (zT_t hS s_64) rfl f_11_17_11 (zT_f hS r_64_5) ?_
          refine zw_push hm_141 dX11_make_33 (v := .inl ki) rfl ?_
          obtain ⟨hg, h⟩ := h
          refine zw_ia hm_141 dX11_make_34 (zT_is hS s_67) (zT_h hS s_67) rfl hg ?_
          show ma_wp X d w 141 35 [(0, .inr (.inr (some 64))), (1, .inl ki), (2, .inl rt)] [.inl (mI S 67 ki.toNatClampNeg), .inl ki, .inr (.inr (some 64))] S _
          refine zw_push hm_141 dX11_make_35 (v := .inr (.inr (some 64))) rfl ?_
          refine zw_gf hm_141 dX11_make_36 (v := .inr (.inr (some 68))) (zT_is hS s_64) (zT_t hS s_64) rfl f_11_20_11 (zT_f hS r_64_6) ?_
          refine zw_push hm_141 dX11_make_39 (v := .inl ki) rfl ?_
          obtain ⟨hg, h⟩ := h
          refine zw_ia hm_141 dX11_make_40 (zT_is hS s_68) (zT_h hS s_68) rfl hg ?_
          show ma_wp X d w 141 41 [(0, .inr (.inr (some 64))), (1, .inl ki), (2, .inl rt)] [.inl (mI S 68 ki.toNatClampNeg), .inl (mI S 67 ki.toNatClampNeg), .inl ki, .inr (.inr (some 64))] S _
          refine zw_stk hm_141 dX11_make_41 (st₉ := [.inr (.inl ((mI S 68 ki.toNatClampNeg).toInt64)), .inl (mI S 67 ki.toNatClampNeg), .inl ki, .inr (.inr (some 64))]) rfl rfl ?_
          refine zw_push hm_141 dX11_make_42 (v := .inl rt) rfl ?_
          refine zw_cv hm_141 dX11_make_43 v_11_113_11 hm_143 [.inl rt, .inr (.inl ((mI S 68 ki.toNatClampNeg).toInt64)), .inl (mI S 67 ki.toNatClampNeg), .inl ki] [] rfl (zT_rt hS s_64 rfl) ⟨by omega, by omega⟩ rfl (zw_mono h (zi_go ?_ ?_))
          · intro v2 S1 hv
            obtain ⟨hS1, h⟩ := hv
            exact zw_iret hm_141 dX11_make_46 h
          · intro x S9 hx
            exact ⟨by decide, hx⟩
theorem sp_141_64_sv_p81 {X : Nat × (Nat → Int32)} {d w : Nat} {f : Nat → Nat → Int32} {r : Nat → Nat → Option Nat} {C Z N : Nat} {Q : Option ma_V ⊕ Nat → ma_S → Prop} {ab : Nat→Nat→Int32} {S : ma_S} (ki : Int32) (rt : Int32) (hd : 8 ≤ d) (hw : 232 ≤ w) (hI : zB f r C Z N S) (hr : r 64 11 = some 81) (hpre0 : xB S (mR S 70)) (hpre1 : aH S = ab) (hpre2 : qHv ab) (K : ∀ v S₉ r₉ C₉ Z₉ N₉, (∀ c k, c < 126 → r₉ c k = r c k) → C₉ ≤ C + 1 → Z₉ ≤ Z + 9 → (N ≤ N₉) → zB f r₉ C₉ Z₉ N₉ S₉ → (True) → (xB S₉ (mR S₉ 70)) → ((0 ≤ ki.toInt ∧ ki.toInt < (f 64 7).toInt ∧ 0 ≤ rt.toInt ∧ rt.toInt ≤ 15) ∧ aH S₉ = hMk ab ki (f 67 ki.toNatClampNeg) (f 68 ki.toNatClampNeg).toInt64 rt ∧ v = hMn ab (f 67 ki.toNatClampNeg)) → Q (.inl (some (.inl v))) S₉) (KX : ∀ x S₉, (x = 2) → zB f r C Z N S₉ → (xB S₉ (mR S₉ 70)) → (aH S₉ = ab) → (x = 2 ∧ ¬ (0 ≤ ki.toInt ∧ ki.toInt < (f 64 7).toInt ∧ 0 ≤ rt.toInt ∧ rt.toInt ≤ 15)) → Q (.inr x) (ma_bump S₉)) : ma_wp X d w 141 0 [(0, .inr (.inr (some 64))), (1, .inl ki), (2, .inl rt)] [] S Q := by
  refine g_141_64_sv_p81_0 ki rt (by omega) (by omega) (zG_T hI) ?_
  have b1 := i_bd ki
  have li2 : (0 : Int32).toInt = 0 := rfl
  refine zd (fun h3 => ?_) (fun h3 => ?_)
  · skip
    have g4 := i_lt h3
    exact KX 2 _ (by decide) hI (show xB S (mR S 70) from by first | (exact xB_x (xC_o (W := 75) hpre0).2)) (show aH S = ab from by first | (exact hpre1)) (show 2 = 2 ∧ ¬ (0 ≤ ki.toInt ∧ ki.toInt < (f 64 7).toInt ∧ 0 ≤ rt.toInt ∧ rt.toInt ≤ 15) from by first | (have f7 : (mI S 64 7).toInt = (f 64 7).toInt := zG_zi hI rfl; exact ⟨rfl, by omega⟩))
  · skip
    have g5 := i_nlt h3
    have f6 := zG_s hI (0) (16) (c := 64) (k := 7) (by decide)
    refine zd (fun h7 => ?_) (fun h7 => ?_)
    · skip
      have g8 := i_le h7
      exact KX 2 _ (by decide) hI (show xB S (mR S 70) from by first | (exact xB_x (xC_o (W := 75) hpre0).2)) (show aH S = ab from by first | (exact hpre1)) (show 2 = 2 ∧ ¬ (0 ≤ ki.toInt ∧ ki.toInt < (f 64 7).toInt ∧ 0 ≤ rt.toInt ∧ rt.toInt ≤ 15) from by first | (have f7 : (mI S 64 7).toInt = (f 64 7).toInt := zG_zi hI rfl; exact ⟨rfl, by omega⟩))
    · skip
      have g9 := i_nle h7
      have b10 := i_bd rt
      refine zd (fun h11 => ?_) (fun h11 => ?_)
      · skip
        have g12 := i_lt h11
        exact KX 2 _ (by decide) hI (show xB S (mR S 70) from by first | (exact xB_x (xC_o (W := 75) hpre0).2)) (show aH S = ab from by first | (exact hpre1)) (show 2 = 2 ∧ ¬ (0 ≤ ki.toInt ∧ ki.toInt < (f 64 7).toInt ∧ 0 ≤ rt.toInt ∧ rt.toInt ≤ 15) from by first | (have f7 : (mI S 64 7).toInt = (f 64 7).toInt := zG_zi hI rfl; exact ⟨rfl, by omega⟩))
      · skip
        have g13 := i_nlt h11
        have li14 : (16 : Int32).toInt = 16 := rfl
        refine zd (fun h15 => ?_) (fun h15 => ?_)
        · skip
          have g16 := i_le h15
          exact KX 2 _ (by decide) hI (show xB S (mR S 70) from by first | (exact xB_x (xC_o (W := 75) hpre0).2)) (show aH S = ab from by first | (exact hpre1)) (show 2 = 2 ∧ ¬ (0 ≤ ki.toInt ∧ ki.toInt < (f 64 7).toInt ∧ 0 ≤ rt.toInt ∧ rt.toInt ≤ 15) from by first | (have f7 : (mI S 64 7).toInt = (f 64 7).toInt := zG_zi hI rfl; exact ⟨rfl, by omega⟩))
        · skip
          have g17 := i_nle h15
          refine ⟨i_ix (by omega) (by omega), ?_⟩
          refine ⟨i_ix (by omega) (by omega), ?_⟩
          first | have f18 := zG_a hI 16 (0) (8) (c := 67) (k := ki.toNatClampNeg) (by decide) (i_ix (n := 16) (by omega) (by omega)).2 | have b19 := i_bd (mI S 67 ki.toNatClampNeg)
          refine sp_143_64_sv_p81 (ab := (aH S)) (ki) ((mI S 67 ki.toNatClampNeg)) (((mI S 68 ki.toNatClampNeg).toInt64)) (rt) (by omega) (by omega) hI hr (by omega) (by omega) (by omega) (by omega) (show xB S (mR S 70) from by first | (exact xB_x (xC_o (W := 75) hpre0).2)) (show aH S = (aH S) from by first | (exact rfl)) (show qHv (aH S) from by first | (rw [hpre1]; exact hpre2) | (exact hpre2)) (fun v2 S1 r₉ C₉ Z₉ N₉ sl1 sl2 sl3 sl4 hI_S1 hp_v2 rp0_S1 rp1_S1 => zi_n ⟨zG_T hI_S1, ?_⟩)
          have rp0_S1 : xB S1 (mR S1 70) := rp0_S1
          have rp1_S1 : aH S1 = hMk (aH S) ki (mI S 67 ki.toNatClampNeg) (((mI S 68 ki.toNatClampNeg).toInt64)) rt ∧ v2 = hMn (aH S) (mI S 67 ki.toNatClampNeg) := rp1_S1
          have b20 := i_bd v2
          exact K (v2) _ _ _ _ _ sl1 sl2 sl3 sl4 hI_S1 trivial (show xB S1 (mR S1 70) from by first | (exact xB_x (xC_o (W := 75) rp0_S1).2)) (show (0 ≤ ki.toInt ∧ ki.toInt < (f 64 7).toInt ∧ 0 ≤ rt.toInt ∧ rt.toInt ≤ 15) ∧ aH S1 = hMk ab ki (f 67 ki.toNatClampNeg) (f 68 ki.toNatClampNeg).toInt64 rt ∧ v2 = hMn ab (f 67 ki.toNatClampNeg) from by first | (exfalso; omega) | (have f7 : (mI S 64 7).toInt = (f 64 7).toInt := zG_zi hI rfl; have q := rp1_S1; rw [hpre1, show mI S 67 ki.toNatClampNeg = f 67 ki.toNatClampNeg from zG_z hI rfl, show mI S 68 ki.toNatClampNeg = f 68 ki.toNatClampNeg from zG_z hI rfl] at q; exact ⟨⟨by omega, by omega, by omega, by omega⟩, q⟩))

/-! from 95.q27 -/
/-! the moving collectors, the class (written by wip/tools/gen15.py) -/
theorem g_147_64_sv_p81_0 {X : Nat × (Nat → Int32)} {d w : Nat} {S : ma_S} {Q : Option ma_V ⊕ Nat → ma_S → Prop} (b : Int32) (n : Int32) (rt : Int32) (hd : 8 ≤ d) (hw : 232 ≤ w) (hS : zT S) (h : if n < 0 then (Q (.inr 2) (ma_bump S)) else (if (60 : Int32) < n then (Q (.inr 2) (ma_bump S)) else (if rt < 0 then (Q (.inr 2) (ma_bump S)) else (if (16 : Int32) ≤ rt then (Q (.inr 2) (ma_bump S)) else (if b = 0 then (ma_wp X (d - 1) (w - 28) 143 0 [(0, .inr (.inr (some 64))), (1, .inl (17 : Int32)), (2, .inl n), (3, .inr (.inl (0 : Int64))), (5, .inl rt)] [] S (zi (fun v2 S1 => zT S1 ∧ (Q (.inl (some (.inl v2))) S1)) (fun x S9 => Q (.inr x) S9))) else (ma_wp X (d - 1) (w - 28) 143 0 [(0, .inr (.inr (some 64))), (1, .inl (16 : Int32)), (2, .inl n), (3, .inr (.inl (-1 : Int64))), (5, .inl rt)] [] S (zi (fun v4 S3 => zT S3 ∧ (Q (.inl (some (.inl v4))) S3)) (fun x S9 => Q (.inr x) S9)))))))) : ma_wp X d w 147 0 [(0, .inr (.inr (some 64))), (1, .inl b), (2, .inl n), (3, .inl rt)] [] S Q := by
  refine zw_push hm_147 dX11_row_0 (v := .inl n) rfl ?_
  refine zw_if0 hm_147 dX11_row_1 (t := 17) rfl zc0_lt ?_ ?_
  · intro hc
    rw [if_pos hc] at h
    exact zw_thr hm_147 dX11_row_17 dX11_row_20 dX11_row_21 dX11_row_24 x_11_79_81 n_11_79 (by omega) (by show 0 + 81 ≤ w; omega) h
  · intro hc
    rw [if_neg hc] at h
    refine zw_push hm_147 dX11_row_4 (v := .inl n) rfl ?_
    refine zw_push hm_147 dX11_row_5 (v := .inl (60 : Int32)) rfl ?_
    refine zw_if2 hm_147 dX11_row_7 (t := 17) rfl zc2_gt ?_ ?_
    · intro hc
      rw [if_pos hc] at h
      exact zw_thr hm_147 dX11_row_17 dX11_row_20 dX11_row_21 dX11_row_24 x_11_79_81 n_11_79 (by omega) (by show 0 + 81 ≤ w; omega) h
    · intro hc
      rw [if_neg hc] at h
      refine zw_push hm_147 dX11_row_10 (v := .inl rt) rfl ?_
      refine zw_cs hm_147 dX11_row_11 pn_11_109 sl_11_109 hm_142 [.inl rt] [] rfl ⟨by omega, by omega⟩ rfl ?_
      show ma_wp X (d - 1) (w - 20) 142 0 [(0, .inl rt)] [] S _
      refine zw_push hm_142 dX11_isSlot_0 (v := .inl rt) rfl ?_
      refine zw_if0 hm_142 dX11_isSlot_1 (t := 14) rfl zc0_lt ?_ ?_
      · intro hc
        rw [if_pos hc] at h
        refine zw_push hm_142 dX11_isSlot_14 (v := .inl (0 : Int32)) rfl ?_
        refine zw_bret hm_142 dX11_isSlot_15 (by decide) ?_
        show ma_wp X d w 147 14 [(0, .inr (.inr (some 64))), (1, .inl b), (2, .inl n), (3, .inl rt)] [.inl (0 : Int32)] S _
        refine zw_if0 hm_147 dX11_row_14 (t := 25) rfl zc0_ne (fun hc => absurd hc (by decide)) (fun _ => ?_)
        exact zw_thr hm_147 dX11_row_17 dX11_row_20 dX11_row_21 dX11_row_24 x_11_79_81 n_11_79 (by omega) (by show 0 + 81 ≤ w; omega) h
      · intro hc
        rw [if_neg hc] at h
        refine zw_push hm_142 dX11_isSlot_4 (v := .inl rt) rfl ?_
        refine zw_push hm_142 dX11_isSlot_5 (v := .inl (16 : Int32)) rfl ?_
        refine zw_if2 hm_142 dX11_isSlot_7 (t := 14) rfl zc2_ge ?_ ?_
        · intro hc
          rw [if_pos hc] at h
          refine zw_push hm_142 dX11_isSlot_14 (v := .inl (0 : Int32)) rfl ?_
          refine zw_bret hm_142 dX11_isSlot_15 (by decide) ?_
          show ma_wp X d w 147 14 [(0, .inr (.inr (some 64))), (1, .inl b), (2, .inl n), (3, .inl rt)] [.inl (0 : Int32)] S _
          refine zw_if0 hm_147 dX11_row_14 (t := 25) rfl zc0_ne (fun hc => absurd hc (by decide)) (fun _ => ?_)
          exact zw_thr hm_147 dX11_row_17 dX11_row_20 dX11_row_21 dX11_row_24 x_11_79_81 n_11_79 (by omega) (by show 0 + 81 ≤ w; omega) h
        · intro hc
          rw [if_neg hc] at h
          refine zw_push hm_142 dX11_isSlot_10 (v := .inl (1 : Int32)) rfl ?_
          refine zw_goto hm_142 dX11_isSlot_11 (t := 15) rfl ?_
          refine zw_bret hm_142 dX11_isSlot_15 (by decide) ?_
          show ma_wp X d w 147 14 [(0, .inr (.inr (some 64))), (1, .inl b), (2, .inl n), (3, .inl rt)] [.inl (1 : Int32)] S _
          refine zw_if0 hm_147 dX11_row_14 (t := 25) rfl zc0_ne (fun _ => ?_) (fun hc => absurd (by decide) hc)
          refine zw_push hm_147 dX11_row_25 (v := .inl b) rfl ?_
          refine zw_if0 hm_147 dX11_row_26 (t := 43) rfl zc0_eq ?_ ?_
          · intro hc
            rw [if_pos hc] at h
            refine zw_push hm_147 dX11_row_43 (v := .inr (.inr (some 64))) rfl ?_
            refine zw_push hm_147 dX11_row_44 (v := .inl (17 : Int32)) rfl ?_
            refine zw_push hm_147 dX11_row_46 (v := .inl n) rfl ?_
            refine zw_push hm_147 dX11_row_47 (v := .inr (.inl (0 : Int64))) rfl ?_
            refine zw_push hm_147 dX11_row_48 (v := .inl rt) rfl ?_
            refine zw_cv hm_147 dX11_row_49 v_11_113_11 hm_143 [.inl rt, .inr (.inl (0 : Int64)), .inl n, .inl (17 : Int32)] [] rfl (zT_rt hS s_64 rfl) ⟨by omega, by omega⟩ rfl (zw_mono h (zi_go ?_ ?_))
            · intro v2 S1 hv
              obtain ⟨hS1, h⟩ := hv
              exact zw_iret hm_147 dX11_row_52 h
            · intro x S9 hx
              exact ⟨by decide, hx⟩
          · intro hc
            rw [if_neg hc] at h
            refine zw_push hm_147 dX11_row_29 (v := .inr (.inr (some 64))) rfl ?_
            refine zw_push hm_147 dX11_row_30 (v := .inl (16 : Int32)) rfl ?_
            refine zw_push hm_147 dX11_row_32 (v := .inl n) rfl ?_
            refine zw_l2 hm_147 dX11_row_33 l2_11_117 ?_
            refine zw_push hm_147 dX11_row_36 (v := .inl rt) rfl ?_
            refine zw_cv hm_147 dX11_row_37 v_11_113_11 hm_143 [.inl rt, .inr (.inl (-1 : Int64)), .inl n, .inl (16 : Int32)] [] rfl (zT_rt hS s_64 rfl) ⟨by omega, by omega⟩ rfl (zw_mono h (zi_go ?_ ?_))
            · intro v4 S3 hv
              obtain ⟨hS3, h⟩ := hv
              refine zw_goto hm_147 dX11_row_40 (t := 52) rfl ?_
              exact zw_iret hm_147 dX11_row_52 h
            · intro x S9 hx
              exact ⟨by decide, hx⟩
theorem sp_147_64_sv_p81 {X : Nat × (Nat → Int32)} {d w : Nat} {f : Nat → Nat → Int32} {r : Nat → Nat → Option Nat} {C Z N : Nat} {Q : Option ma_V ⊕ Nat → ma_S → Prop} {ab : Nat→Nat→Int32} {S : ma_S} (b : Int32) (n : Int32) (rt : Int32) (hd : 8 ≤ d) (hw : 232 ≤ w) (hI : zB f r C Z N S) (hr : r 64 11 = some 81) (hpre0 : 0 ≤ b.toInt) (hpre1 : b.toInt ≤ 1) (hpre2 : xB S (mR S 70)) (hpre3 : aH S = ab) (hpre4 : qHv ab) (K : ∀ v S₉ r₉ C₉ Z₉ N₉, (∀ c k, c < 126 → r₉ c k = r c k) → C₉ ≤ C + 1 → Z₉ ≤ Z + 9 → (N ≤ N₉) → zB f r₉ C₉ Z₉ N₉ S₉ → (True) → (xB S₉ (mR S₉ 70)) → ((0 ≤ n.toInt ∧ n.toInt ≤ 60 ∧ 0 ≤ rt.toInt ∧ rt.toInt ≤ 15) ∧ aH S₉ = (if b = 0 then hMk ab 17 n 0 rt else hMk ab 16 n (-1) rt) ∧ v = hMn ab n) → Q (.inl (some (.inl v))) S₉) (KX : ∀ x S₉, (x = 2) → zB f r C Z N S₉ → (xB S₉ (mR S₉ 70)) → (aH S₉ = ab) → (x = 2 ∧ ¬ (0 ≤ n.toInt ∧ n.toInt ≤ 60 ∧ 0 ≤ rt.toInt ∧ rt.toInt ≤ 15)) → Q (.inr x) (ma_bump S₉)) : ma_wp X d w 147 0 [(0, .inr (.inr (some 64))), (1, .inl b), (2, .inl n), (3, .inl rt)] [] S Q := by
  refine g_147_64_sv_p81_0 b n rt (by omega) (by omega) (zG_T hI) ?_
  have b1 := i_bd n
  have li2 : (0 : Int32).toInt = 0 := rfl
  refine zd (fun h3 => ?_) (fun h3 => ?_)
  · skip
    have g4 := i_lt h3
    exact KX 2 _ (by decide) hI (show xB S (mR S 70) from by first | (exact xB_x (xC_o (W := 75) hpre2).2)) (show aH S = ab from by first | (exact hpre3)) (show 2 = 2 ∧ ¬ (0 ≤ n.toInt ∧ n.toInt ≤ 60 ∧ 0 ≤ rt.toInt ∧ rt.toInt ≤ 15) from by first | (exact ⟨rfl, by omega⟩))
  · skip
    have g5 := i_nlt h3
    have li6 : (60 : Int32).toInt = 60 := rfl
    refine zd (fun h7 => ?_) (fun h7 => ?_)
    · skip
      have g8 := i_lt h7
      exact KX 2 _ (by decide) hI (show xB S (mR S 70) from by first | (exact xB_x (xC_o (W := 75) hpre2).2)) (show aH S = ab from by first | (exact hpre3)) (show 2 = 2 ∧ ¬ (0 ≤ n.toInt ∧ n.toInt ≤ 60 ∧ 0 ≤ rt.toInt ∧ rt.toInt ≤ 15) from by first | (exact ⟨rfl, by omega⟩))
    · skip
      have g9 := i_nlt h7
      have b10 := i_bd rt
      refine zd (fun h11 => ?_) (fun h11 => ?_)
      · skip
        have g12 := i_lt h11
        exact KX 2 _ (by decide) hI (show xB S (mR S 70) from by first | (exact xB_x (xC_o (W := 75) hpre2).2)) (show aH S = ab from by first | (exact hpre3)) (show 2 = 2 ∧ ¬ (0 ≤ n.toInt ∧ n.toInt ≤ 60 ∧ 0 ≤ rt.toInt ∧ rt.toInt ≤ 15) from by first | (exact ⟨rfl, by omega⟩))
      · skip
        have g13 := i_nlt h11
        have li14 : (16 : Int32).toInt = 16 := rfl
        refine zd (fun h15 => ?_) (fun h15 => ?_)
        · skip
          have g16 := i_le h15
          exact KX 2 _ (by decide) hI (show xB S (mR S 70) from by first | (exact xB_x (xC_o (W := 75) hpre2).2)) (show aH S = ab from by first | (exact hpre3)) (show 2 = 2 ∧ ¬ (0 ≤ n.toInt ∧ n.toInt ≤ 60 ∧ 0 ≤ rt.toInt ∧ rt.toInt ≤ 15) from by first | (exact ⟨rfl, by omega⟩))
        · skip
          have g17 := i_nle h15
          have b18 := i_bd b
          refine zd (fun h19 => ?_) (fun h19 => ?_)
          · skip
            have g20 := i_eq h19
            have li21 : (17 : Int32).toInt = 17 := rfl
            refine sp_143_64_sv_p81 (ab := (aH S)) ((17 : Int32)) (n) ((0 : Int64)) (rt) (by omega) (by omega) hI hr (by omega) (by omega) (by omega) (by omega) (show xB S (mR S 70) from by first | (exact xB_x (xC_o (W := 75) hpre2).2)) (show aH S = (aH S) from by first | (exact rfl)) (show qHv (aH S) from by first | (rw [hpre3]; exact hpre4) | (exact hpre4)) (fun v2 S1 r₉ C₉ Z₉ N₉ sl1 sl2 sl3 sl4 hI_S1 hp_v2 rp0_S1 rp1_S1 => zi_n ⟨zG_T hI_S1, ?_⟩)
            have rp0_S1 : xB S1 (mR S1 70) := rp0_S1
            have rp1_S1 : aH S1 = hMk (aH S) (17 : Int32) n (0 : Int64) rt ∧ v2 = hMn (aH S) n := rp1_S1
            have b22 := i_bd v2
            exact K (v2) _ _ _ _ _ sl1 sl2 sl3 sl4 hI_S1 trivial (show xB S1 (mR S1 70) from by first | (exact xB_x (xC_o (W := 75) rp0_S1).2)) (show (0 ≤ n.toInt ∧ n.toInt ≤ 60 ∧ 0 ≤ rt.toInt ∧ rt.toInt ≤ 15) ∧ aH S1 = (if b = 0 then hMk ab 17 n 0 rt else hMk ab 16 n (-1) rt) ∧ v2 = hMn ab n from by first | (exfalso; omega) | (have q := rp1_S1; rw [hpre3] at q; refine ⟨⟨by omega, by omega, by omega, by omega⟩, ?_⟩; rw [if_pos (by assumption)]; exact q) | (have q := rp1_S1; rw [hpre3] at q; refine ⟨⟨by omega, by omega, by omega, by omega⟩, ?_⟩; rw [if_neg (by assumption)]; exact q))
          · skip
            have g23 := i_ne h19
            refine sp_143_64_sv_p81 (ab := (aH S)) ((16 : Int32)) (n) ((-1 : Int64)) (rt) (by omega) (by omega) hI hr (by omega) (by omega) (by omega) (by omega) (show xB S (mR S 70) from by first | (exact xB_x (xC_o (W := 75) hpre2).2)) (show aH S = (aH S) from by first | (exact rfl)) (show qHv (aH S) from by first | (rw [hpre3]; exact hpre4) | (exact hpre4)) (fun v4 S3 r₉ C₉ Z₉ N₉ sl1 sl2 sl3 sl4 hI_S3 hp_v4 rp0_S3 rp1_S3 => zi_n ⟨zG_T hI_S3, ?_⟩)
            have rp0_S3 : xB S3 (mR S3 70) := rp0_S3
            have rp1_S3 : aH S3 = hMk (aH S) (16 : Int32) n (-1 : Int64) rt ∧ v4 = hMn (aH S) n := rp1_S3
            have b24 := i_bd v4
            exact K (v4) _ _ _ _ _ sl1 sl2 sl3 sl4 hI_S3 trivial (show xB S3 (mR S3 70) from by first | (exact xB_x (xC_o (W := 75) rp0_S3).2)) (show (0 ≤ n.toInt ∧ n.toInt ≤ 60 ∧ 0 ≤ rt.toInt ∧ rt.toInt ≤ 15) ∧ aH S3 = (if b = 0 then hMk ab 17 n 0 rt else hMk ab 16 n (-1) rt) ∧ v4 = hMn ab n from by first | (exfalso; omega) | (have q := rp1_S3; rw [hpre3] at q; refine ⟨⟨by omega, by omega, by omega, by omega⟩, ?_⟩; rw [if_pos (by assumption)]; exact q) | (have q := rp1_S3; rw [hpre3] at q; refine ⟨⟨by omega, by omega, by omega, by omega⟩, ?_⟩; rw [if_neg (by assumption)]; exact q))
theorem g_42_91_s_0 {X : Nat × (Nat → Int32)} {d w : Nat} {S : ma_S} {Q : Option ma_V ⊕ Nat → ma_S → Prop}  (hd : 0 ≤ d) (hw : 0 ≤ w) (hS : zT S) (h : ma_wp X d w 42 4 [(0, .inr (.inr (some 91))), (1, .inl (0 : Int32)), (2, .inl (0 : Int32))] [] S Q) : ma_wp X d w 42 0 [(0, .inr (.inr (some 91)))] [] S Q := by
  refine zw_push hm_42 dX4_specials_0 (v := .inl (0 : Int32)) rfl ?_
  refine zw_sto hm_42 dX4_specials_1 [(1, .inl (0 : Int32)), (0, .inr (.inr (some 91)))] rfl rfl rfl ?_
  refine zw_push hm_42 dX4_specials_2 (v := .inl (0 : Int32)) rfl ?_
  refine zw_sto hm_42 dX4_specials_3 [(2, .inl (0 : Int32)), (1, .inl (0 : Int32)), (0, .inr (.inr (some 91)))] rfl rfl rfl ?_
  exact zw_sub (ma_nd_of (ks := [0, 1, 2]) rfl (by decide)) (ma_nd_of (ks := [2, 1, 0]) rfl (by decide)) (ma_le_cons rfl (ma_le_cons rfl (ma_le_cons rfl (ma_le_nil _)))) h
theorem g_42_91_s_4 {X : Nat × (Nat → Int32)} {d w : Nat} {S : ma_S} {Q : Option ma_V ⊕ Nat → ma_S → Prop} (l1 : Int32) (l2 : Int32) (hd : 0 ≤ d) (hw : 0 ≤ w) (hS : zT S) (h : if (mI S 91 3) ≤ l2 then (Q (.inl (some (.inl l1))) S) else (if (93 : Int32) ≤ l2 then (Q (.inl (some (.inl l1))) S) else ((0 ≤ l2 ∧ l2.toNatClampNeg < 93) ∧ (if (mI S 92 l2.toNatClampNeg) = 0 then (ma_wp X d w 42 4 [(0, .inr (.inr (some 91))), (1, .inl (l1 + (1 : Int32))), (2, .inl (l2 + (1 : Int32)))] [] S Q) else (ma_wp X d w 42 4 [(0, .inr (.inr (some 91))), (1, .inl l1), (2, .inl (l2 + (1 : Int32)))] [] S Q))))) : ma_wp X d w 42 4 [(0, .inr (.inr (some 91))), (1, .inl l1), (2, .inl l2)] [] S Q := by
  refine zw_push hm_42 dX4_specials_4 (v := .inl l2) rfl ?_
  refine zw_push hm_42 dX4_specials_5 (v := .inr (.inr (some 91))) rfl ?_
  refine zw_gf hm_42 dX4_specials_6 (v := .inl (mI S 91 3)) (zT_is hS s_91) (zT_t hS s_91) rfl f_4_28_4 rfl ?_
  refine zw_if2 hm_42 dX4_specials_9 (t := 36) rfl zc2_ge ?_ ?_
  · intro hc
    rw [if_pos hc] at h
    refine zw_push hm_42 dX4_specials_36 (v := .inl l1) rfl ?_
    exact zw_iret hm_42 dX4_specials_37 h
  · intro hc
    rw [if_neg hc] at h
    refine zw_push hm_42 dX4_specials_12 (v := .inl l2) rfl ?_
    refine zw_push hm_42 dX4_specials_13 (v := .inl (93 : Int32)) rfl ?_
    refine zw_if2 hm_42 dX4_specials_15 (t := 36) rfl zc2_ge ?_ ?_
    · intro hc
      rw [if_pos hc] at h
      refine zw_push hm_42 dX4_specials_36 (v := .inl l1) rfl ?_
      exact zw_iret hm_42 dX4_specials_37 h
    · intro hc
      rw [if_neg hc] at h
      refine zw_push hm_42 dX4_specials_18 (v := .inr (.inr (some 91))) rfl ?_
      refine zw_gf hm_42 dX4_specials_19 (v := .inr (.inr (some 92))) (zT_is hS s_91) (zT_t hS s_91) rfl f_4_9_4 (zT_f hS r_91_7) ?_
      refine zw_push hm_42 dX4_specials_22 (v := .inl l2) rfl ?_
      obtain ⟨hg, h⟩ := h
      refine zw_ia hm_42 dX4_specials_23 (zT_is hS s_92) (zT_h hS s_92) rfl hg ?_
      show ma_wp X d w 42 24 [(0, .inr (.inr (some 91))), (1, .inl l1), (2, .inl l2)] [.inl (mI S 92 l2.toNatClampNeg)] S _
      refine zw_if0 hm_42 dX4_specials_24 (t := 30) rfl zc0_ne ?_ ?_
      · intro hc
        rw [if_neg hc] at h
        refine zw_sto hm_42 dX4_specials_30 [(2, .inl (l2 + (1 : Int32))), (0, .inr (.inr (some 91))), (1, .inl l1)] rfl rfl rfl ?_
        refine zw_goto hm_42 dX4_specials_33 (t := 4) rfl ?_
        exact zw_sub (ma_nd_of (ks := [0, 1, 2]) rfl (by decide)) (ma_nd_of (ks := [2, 0, 1]) rfl (by decide)) (ma_le_cons rfl (ma_le_cons rfl (ma_le_cons rfl (ma_le_nil _)))) h
      · intro hc
        rw [if_pos (Classical.not_not.mp hc)] at h
        refine zw_sto hm_42 dX4_specials_27 [(1, .inl (l1 + (1 : Int32))), (0, .inr (.inr (some 91))), (2, .inl l2)] rfl rfl rfl ?_
        refine zw_sto hm_42 dX4_specials_30 [(2, .inl (l2 + (1 : Int32))), (1, .inl (l1 + (1 : Int32))), (0, .inr (.inr (some 91)))] rfl rfl rfl ?_
        refine zw_goto hm_42 dX4_specials_33 (t := 4) rfl ?_
        exact zw_sub (ma_nd_of (ks := [0, 1, 2]) rfl (by decide)) (ma_nd_of (ks := [2, 1, 0]) rfl (by decide)) (ma_le_cons rfl (ma_le_cons rfl (ma_le_cons rfl (ma_le_nil _)))) h
theorem lp_42_91_s_4 {X : Nat × (Nat → Int32)} {d w : Nat} {f : Nat → Nat → Int32} {r : Nat → Nat → Option Nat} {C Z N : Nat} {Q : Option ma_V ⊕ Nat → ma_S → Prop} {S : ma_S} (hd : 0 ≤ d) (hw : 0 ≤ w) (K : ∀ v S₉, S₉ = S → (True) → Q (.inl (some (.inl v))) S₉) : ∀ (n : Nat) (l1 : Int32) (l2 : Int32), (93 - l2.toInt).toNat = n → zL91 f r C Z N S → (0 ≤ l2.toInt) → ma_wp X d w 42 4 [(0, .inr (.inr (some 91))), (1, .inl l1), (2, .inl l2)] [] S Q := by
  intro n
  induction n using Nat.strongRecOn with
  | _ n IH =>
    intro l1 l2 hmu hI  hi0
    refine g_42_91_s_4 l1 l2 (by omega) (by omega) (zG_T hI) ?_
    have f1 := zG_s hI (0) (93) (c := 91) (k := 3) (by decide)
    have b2 := i_bd l2
    refine zd (fun h3 => ?_) (fun h3 => ?_)
    · skip
      have g4 := i_le h3
      have b5 := i_bd l1
      exact K (l1) _ rfl trivial
    · skip
      have g6 := i_nle h3
      have li7 : (93 : Int32).toInt = 93 := rfl
      refine zd (fun h8 => ?_) (fun h8 => ?_)
      · skip
        have g9 := i_le h8
        have b10 := i_bd l1
        exact K (l1) _ rfl trivial
      · skip
        have g11 := i_nle h8
        refine ⟨i_ix (by omega) (by omega), ?_⟩
        first | have f12 := zG_a hI 93 (0) (3000) (c := 92) (k := l2.toNatClampNeg) (by decide) (i_ix (n := 93) (by omega) (by omega)).2 | have b13 := i_bd (mI S 92 l2.toNatClampNeg)
        have li14 : (0 : Int32).toInt = 0 := rfl
        refine zd (fun h15 => ?_) (fun h15 => ?_)
        · skip
          have g16 := i_eq h15
          have b17 := i_bd l1
          first | have e18 : (l1 + (1 : Int32)).toInt = l1.toInt + (1) := i_addk rfl (by omega) (by omega) | have b19 := i_bd (l1 + (1 : Int32))
          first | have e20 : (l2 + (1 : Int32)).toInt = l2.toInt + (1) := i_addk rfl (by omega) (by omega) | have b21 := i_bd (l2 + (1 : Int32))
          exact IH _ (by omega) ((l1 + (1 : Int32))) ((l2 + (1 : Int32))) rfl hI (by omega)
        · skip
          have g22 := i_ne h15
          have b23 := i_bd l1
          first | have e24 : (l2 + (1 : Int32)).toInt = l2.toInt + (1) := i_addk rfl (by omega) (by omega) | have b25 := i_bd (l2 + (1 : Int32))
          exact IH _ (by omega) (l1) ((l2 + (1 : Int32))) rfl hI (by omega)
theorem sp_42_91_s {X : Nat × (Nat → Int32)} {d w : Nat} {f : Nat → Nat → Int32} {r : Nat → Nat → Option Nat} {C Z N : Nat} {Q : Option ma_V ⊕ Nat → ma_S → Prop} {S : ma_S}  (hd : 0 ≤ d) (hw : 0 ≤ w) (hI : zL91 f r C Z N S)  (K : ∀ v S₉, S₉ = S → (True) → Q (.inl (some (.inl v))) S₉) : ma_wp X d w 42 0 [(0, .inr (.inr (some 91)))] [] S Q := by
  refine g_42_91_s_0  (by omega) (by omega) (zG_T hI) ?_
  have li1 : (0 : Int32).toInt = 0 := rfl
  exact lp_42_91_s_4 (by omega) (by omega) K _ ((0 : Int32)) ((0 : Int32)) rfl hI (by omega)
theorem g_57_91_s_0 {X : Nat × (Nat → Int32)} {d w : Nat} {S : ma_S} {Q : Option ma_V ⊕ Nat → ma_S → Prop}  (hd : 0 ≤ d) (hw : 0 ≤ w) (hS : zT S) (h : Q (.inl (some (.inl (mI S 91 5)))) S) : ma_wp X d w 57 0 [(0, .inr (.inr (some 91)))] [] S Q := by
  refine zw_push hm_57 dX4_oldTopOrRegion_0 (v := .inr (.inr (some 91))) rfl ?_
  refine zw_gf hm_57 dX4_oldTopOrRegion_1 (v := .inl (mI S 91 5)) (zT_is hS s_91) (zT_t hS s_91) rfl f_4_34_4 rfl ?_
  exact zw_iret hm_57 dX4_oldTopOrRegion_4 h
theorem sp_57_91_s {X : Nat × (Nat → Int32)} {d w : Nat} {f : Nat → Nat → Int32} {r : Nat → Nat → Option Nat} {C Z N : Nat} {Q : Option ma_V ⊕ Nat → ma_S → Prop} {S : ma_S}  (hd : 0 ≤ d) (hw : 0 ≤ w) (hI : zL91 f r C Z N S)  (K : ∀ v S₉, S₉ = S → (True) → Q (.inl (some (.inl v))) S₉) : ma_wp X d w 57 0 [(0, .inr (.inr (some 91)))] [] S Q := by
  refine g_57_91_s_0  (by omega) (by omega) (zG_T hI) ?_
  have f1 := zG_s hI (0) (92) (c := 91) (k := 5) (by decide)
  exact K ((mI S 91 5)) _ rfl trivial
theorem g_145_64_80_sm_0 {X : Nat × (Nat → Int32)} {d w : Nat} {S : ma_S} {Q : Option ma_V ⊕ Nat → ma_S → Prop} (i : Int32) (x : Option Nat) (hd : 5 ≤ d) (hw : 110 ≤ w) (hS : zT S) (h : ma_wp X (d - 1) (w - 23) 92 0 [(0, .inr (.inr (some 69))), (1, .inl i), (2, .inr (.inr x))] [] S (zo (fun v2 S1 => zT S1 ∧ (Q (.inl (some (.inr (.inr v2)))) S1)) (fun x S9 => Q (.inr x) S9))) : ma_wp X d w 145 0 [(0, .inr (.inr (some 64))), (1, .inr (.inr (some 80))), (2, .inl i), (3, .inr (.inr x))] [] S Q := by
  refine zw_push hm_145 dX11_changeRoot_0 (v := .inr (.inr (some 64))) rfl ?_
  refine zw_gf hm_145 dX11_changeRoot_1 (v := .inr (.inr (some 69))) (zT_is hS s_64) (zT_t hS s_64) rfl f_11_26_11 (zT_f hS r_64_8) ?_
  refine zw_push hm_145 dX11_changeRoot_4 (v := .inl i) rfl ?_
  refine zw_push hm_145 dX11_changeRoot_5 (v := .inr (.inr x)) rfl ?_
  refine zw_cv hm_145 dX11_changeRoot_6 v_11_379_7 hm_92 [.inr (.inr x), .inl i] [] rfl (zT_rt hS s_69 rfl) ⟨by omega, by omega⟩ rfl (zw_mono h (zo_go ?_ ?_))
  · intro v2 S1 hv
    obtain ⟨hS1, h⟩ := hv
    refine zw_sto hm_145 dX11_changeRoot_9 [(4, .inr (.inr v2)), (0, .inr (.inr (some 64))), (1, .inr (.inr (some 80))), (2, .inl i), (3, .inr (.inr x))] rfl rfl rfl ?_
    refine zw_push hm_145 dX11_changeRoot_11 (v := .inr (.inr (some 80))) rfl ?_
    refine zw_push hm_145 dX11_changeRoot_12 (v := .inr (.inr v2)) rfl ?_
    refine zw_push hm_145 dX11_changeRoot_14 (v := .inr (.inr x)) rfl ?_
    refine zw_cv hm_145 dX11_changeRoot_15 v_11_153_5 hm_265 [.inr (.inr x), .inr (.inr v2)] [] rfl (zT_rt hS1 s_80 rfl) ⟨by omega, by omega⟩ rfl ?_
    show ma_wp X (d - 1) (w - 22) 265 0 [(0, .inr (.inr (some 80))), (1, .inr (.inr v2)), (2, .inr (.inr x))] [] S1 _
    refine zw_vret hm_265 dX1_noteChange_0 ?_
    show ma_wp X d w 145 18 [(4, .inr (.inr v2)), (0, .inr (.inr (some 64))), (1, .inr (.inr (some 80))), (2, .inl i), (3, .inr (.inr x))] [] S1 _
    refine zw_push hm_145 dX11_changeRoot_18 (v := .inr (.inr (some 80))) rfl ?_
    refine zw_push hm_145 dX11_changeRoot_19 (v := .inr (.inr v2)) rfl ?_
    refine zw_cv hm_145 dX11_changeRoot_21 v_11_157_5 hm_266 [.inr (.inr v2)] [] rfl (zT_rt hS1 s_80 rfl) ⟨by omega, by omega⟩ rfl ?_
    show ma_wp X (d - 1) (w - 21) 266 0 [(0, .inr (.inr (some 80))), (1, .inr (.inr v2))] [] S1 _
    refine zw_vret hm_266 dX1_noteFewer_0 ?_
    show ma_wp X d w 145 24 [(4, .inr (.inr v2)), (0, .inr (.inr (some 64))), (1, .inr (.inr (some 80))), (2, .inl i), (3, .inr (.inr x))] [] S1 _
    refine zw_push hm_145 dX11_changeRoot_24 (v := .inr (.inr v2)) rfl ?_
    exact zw_aret hm_145 dX11_changeRoot_26 h
  · intro x S9 hx
    exact ⟨by decide, hx⟩
theorem sp_145_64_80_sm {X : Nat × (Nat → Int32)} {d w : Nat} {f : Nat → Nat → Int32} {r : Nat → Nat → Option Nat} {C Z N : Nat} {Q : Option ma_V ⊕ Nat → ma_S → Prop} {ab : Nat→Nat→Int32} {R : zRT} {y : Int32} {fp80 : Nat→Int32} {S : ma_S} (i : Int32) (x : Option Nat) (hd : 5 ≤ d) (hw : 110 ≤ w) (hI : zJ80 f r C Z N S) (hq_x : ∀ c, x = some c → 126 ≤ c ∧ c < N) (hpre0 : xB S R) (hpre1 : aS 88 S = ab) (hpre2 : x = zTa R y) (hpre3 : 0 ≤ i.toInt) (hpre4 : i.toInt ≤ 15) (hpre5 : (mI S 80) = fp80) (K : ∀ v S₉, zJ80 f r C Z N S₉ → (∀ c, v = some c → 126 ≤ c ∧ c < N) → (xB S₉ R) → (aS 88 S₉ = aR0 ab i y) → (v = zTa R (ab 72 i.toNatClampNeg)) → ((mI S₉ 80) = fp80) → Q (.inl (some (.inr (.inr v)))) S₉) : ma_wp X d w 145 0 [(0, .inr (.inr (some 64))), (1, .inr (.inr (some 80))), (2, .inl i), (3, .inr (.inr x))] [] S Q := by
  refine g_145_64_80_sm_0 i x (by omega) (by omega) (zG_T hI) ?_
  have b1 := i_bd i
  refine sp_92_69_s (ab := (aS 88 S)) (R := R) (W := 88) (y := (y)) (i) (x) (by omega) (by omega) (zJ80_dn hI) hq_x (show xB S R from by first | (exact (xC_o (W := 75) hpre0).2)) (show aS 88 S = (aS 88 S) from by first | (exact rfl)) (show xW 88 from by first | (exact xW88) | (exact xW75)) (show x = zTa R (y) from by first | (exact hpre2)) (by omega) (by omega) (fun v2 S1 hL_S1 hq_v2 rp0_S1 rp1_S1 rp2_S1 => zo_n ⟨zG_T hL_S1, ?_⟩)
  have hI_S1 := zJ80_up hI hL_S1
  have rp0_S1 : xB S1 R := by
    have z := rp0_S1
    (try rw [show mI S 65 = f 65 from funext (fun k => zG_z hI rfl)] at z)
    (try rw [show mI S 64 1 = f 64 1 from zG_z hI rfl] at z)
    exact z
  have rp1_S1 : aS 88 S1 = ma_u (aS 88 S) 72 i.toNatClampNeg (aNm (aS 88 S) (y)) := by
    have z := rp1_S1
    (try rw [show mI S 65 = f 65 from funext (fun k => zG_z hI rfl)] at z)
    (try rw [show mI S 64 1 = f 64 1 from zG_z hI rfl] at z)
    exact z
  have rp2_S1 : v2 = zTa R ((aS 88 S) 72 i.toNatClampNeg) := by
    have z := rp2_S1
    (try rw [show mI S 65 = f 65 from funext (fun k => zG_z hI rfl)] at z)
    (try rw [show mI S 64 1 = f 64 1 from zG_z hI rfl] at z)
    exact z
  exact K (v2) _ hI_S1 hq_v2 (show xB S1 R from by first | (exact (xC_o (W := 75) rp0_S1).2)) (show aS 88 S1 = aR0 ab i y from by first | (rw [rp1_S1, hpre1]; rfl)) (show v2 = zTa R (ab 72 i.toNatClampNeg) from by first | (rw [← hpre1]; exact rp2_S1)) (show (mI S1 80) = fp80 from by first | (exact ((show mI S1 80 = mI S 80 from funext (fun _ => zG_z hL_S1 rfl)).trans hpre5)))

