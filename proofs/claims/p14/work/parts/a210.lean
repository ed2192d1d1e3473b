/-! from 95.q18 -/
/-! the moving collectors, the class (written by wip/tools/gen15.py) -/
theorem g_90_69_s_0 {X : Nat × (Nat → Int32)} {d w : Nat} {S : ma_S} {Q : Option ma_V ⊕ Nat → ma_S → Prop} (t : Nat) (to : Int32) (hd : 1 ≤ d) (hw : 90 ≤ w) (hS : zT S) (h : (126 ≤ t ∧ t < mN S) ∧ (if to = (mI S t 4) then (Q (.inl none) S) else (if to < 0 then (Q (.inl none) S) else ((126 ≤ t ∧ t < mN S) ∧ (if ((if (mI S t 4) < to then to else (mI S t 4)) + (mI S t 2)) ≤ (4500 : Int32) then ((126 ≤ t ∧ t < mN S) ∧ ((0 ≤ (mI S t 4) ∧ 0 ≤ to ∧ 0 ≤ (mI S t 2) ∧ (mI S t 4).toNatClampNeg + (mI S t 2).toNatClampNeg ≤ 4500 ∧ to.toNatClampNeg + (mI S t 2).toNatClampNeg ≤ 4500) ∧ ((126 ≤ t ∧ t < mN (ma_cp S 71 (va_cpy (mI S 71) (mI S 71) (mI S t 4).toNatClampNeg to.toNatClampNeg (mI S t 2).toNatClampNeg))) ∧ (if (mI S t 4) ≤ to then (ma_wp X (d - 1) (w - 23) 88 0 [(0, .inr (.inr (some 69))), (1, .inl (mI S t 4)), (2, .inl ((mI S t 4) + (mI (ma_cp S 71 (va_cpy (mI S 71) (mI S 71) (mI S t 4).toNatClampNeg to.toNatClampNeg (mI S t 2).toNatClampNeg)) t 2)))] [] (ma_cp S 71 (va_cpy (mI S 71) (mI S 71) (mI S t 4).toNatClampNeg to.toNatClampNeg (mI S t 2).toNatClampNeg)) (zv (fun S1 => zT S1 ∧ ((126 ≤ t ∧ t < mN S1) ∧ ((126 ≤ t ∧ t < mN (ma_put S1 t 4 (.inl to))) ∧ (Q (.inl none) (ma_put (ma_put S1 t 4 (.inl to)) 69 10 (.inl ((mI (ma_put S1 t 4 (.inl to)) 69 10) + (mI (ma_put S1 t 4 (.inl to)) t 2)))))))) (fun x S9 => Q (.inr x) S9))) else ((126 ≤ t ∧ t < mN (ma_cp S 71 (va_cpy (mI S 71) (mI S 71) (mI S t 4).toNatClampNeg to.toNatClampNeg (mI S t 2).toNatClampNeg))) ∧ (ma_wp X (d - 1) (w - 23) 88 0 [(0, .inr (.inr (some 69))), (1, .inl (if (mI S t 4) < (to + (mI (ma_cp S 71 (va_cpy (mI S 71) (mI S 71) (mI S t 4).toNatClampNeg to.toNatClampNeg (mI S t 2).toNatClampNeg)) t 2)) then (to + (mI (ma_cp S 71 (va_cpy (mI S 71) (mI S 71) (mI S t 4).toNatClampNeg to.toNatClampNeg (mI S t 2).toNatClampNeg)) t 2)) else (mI S t 4))), (2, .inl ((mI S t 4) + (mI (ma_cp S 71 (va_cpy (mI S 71) (mI S 71) (mI S t 4).toNatClampNeg to.toNatClampNeg (mI S t 2).toNatClampNeg)) t 2)))] [] (ma_cp S 71 (va_cpy (mI S 71) (mI S 71) (mI S t 4).toNatClampNeg to.toNatClampNeg (mI S t 2).toNatClampNeg)) (zv (fun S3 => zT S3 ∧ ((126 ≤ t ∧ t < mN S3) ∧ ((126 ≤ t ∧ t < mN (ma_put S3 t 4 (.inl to))) ∧ (Q (.inl none) (ma_put (ma_put S3 t 4 (.inl to)) 69 10 (.inl ((mI (ma_put S3 t 4 (.inl to)) 69 10) + (mI (ma_put S3 t 4 (.inl to)) t 2)))))))) (fun x S9 => Q (.inr x) S9)))))))) else (Q (.inl none) S)))))) : ma_wp X d w 90 0 [(0, .inr (.inr (some 69))), (1, .inr (.inr (some t))), (2, .inl to)] [] S Q := by
  refine zw_push hm_90 dX7_move_0 (v := .inr (.inr (some t))) rfl ?_
  obtain ⟨hg, h⟩ := h
  refine zw_gf hm_90 dX7_move_1 (v := .inl (mI S t 4)) (zT_tis hS hg) (zT_tt hS hg) rfl f_7_61_9 rfl ?_
  refine zw_sto hm_90 dX7_move_4 [(3, .inl (mI S t 4)), (0, .inr (.inr (some 69))), (1, .inr (.inr (some t))), (2, .inl to)] rfl rfl rfl ?_
  refine zw_push hm_90 dX7_move_5 (v := .inl to) rfl ?_
  refine zw_push hm_90 dX7_move_6 (v := .inl (mI S t 4)) rfl ?_
  refine zw_if2 hm_90 dX7_move_7 (t := 30) rfl zc2_eq ?_ ?_
  · intro hc
    rw [if_pos hc] at h
    exact zw_vret hm_90 dX7_move_30 h
  · intro hc
    rw [if_neg hc] at h
    refine zw_push hm_90 dX7_move_10 (v := .inl to) rfl ?_
    refine zw_if0 hm_90 dX7_move_11 (t := 30) rfl zc0_lt ?_ ?_
    · intro hc
      rw [if_pos hc] at h
      exact zw_vret hm_90 dX7_move_30 h
    · intro hc
      rw [if_neg hc] at h
      refine zw_push hm_90 dX7_move_14 (v := .inl (mI S t 4)) rfl ?_
      refine zw_push hm_90 dX7_move_15 (v := .inl to) rfl ?_
      refine zw_max hm_90 dX7_move_16 pr_7_116 (by omega) (by show 0 + 13 ≤ w; omega) (fun _ _ _ _ z => by cases z) ?_
      refine zw_push hm_90 dX7_move_19 (v := .inr (.inr (some t))) rfl ?_
      obtain ⟨hg, h⟩ := h
      refine zw_gf hm_90 dX7_move_20 (v := .inl (mI S t 2)) (zT_tis hS hg) (zT_tt hS hg) rfl f_7_64_9 rfl ?_
      refine zw_stk hm_90 dX7_move_23 (st₉ := [.inl ((if (mI S t 4) < to then to else (mI S t 4)) + (mI S t 2))]) rfl rfl ?_
      refine zw_push hm_90 dX7_move_24 (v := .inl (4500 : Int32)) rfl ?_
      refine zw_if2 hm_90 dX7_move_27 (t := 31) rfl zc2_le ?_ ?_
      · intro hc
        rw [if_pos hc] at h
        refine zw_push hm_90 dX7_move_31 (v := .inr (.inr (some 69))) rfl ?_
        refine zw_gf hm_90 dX7_move_32 (v := .inr (.inr (some 71))) (zT_is hS s_69) (zT_t hS s_69) rfl f_7_17_7 (zT_f hS r_69_1) ?_
        refine zw_push hm_90 dX7_move_35 (v := .inl (mI S t 4)) rfl ?_
        refine zw_push hm_90 dX7_move_36 (v := .inr (.inr (some 69))) rfl ?_
        refine zw_gf hm_90 dX7_move_37 (v := .inr (.inr (some 71))) (zT_is hS s_69) (zT_t hS s_69) rfl f_7_17_7 (zT_f hS r_69_1) ?_
        refine zw_push hm_90 dX7_move_40 (v := .inl to) rfl ?_
        refine zw_push hm_90 dX7_move_41 (v := .inr (.inr (some t))) rfl ?_
        obtain ⟨hg, h⟩ := h
        refine zw_gf hm_90 dX7_move_42 (v := .inl (mI S t 2)) (zT_tis hS hg) (zT_tt hS hg) rfl f_7_64_9 rfl ?_
        obtain ⟨hg, h⟩ := h
        refine zw_acp hm_90 dX7_move_45 pr_7_122 (by omega) (by show 0 + _ ≤ w; exact Nat.le_trans (by decide : _ ≤ 90) (by omega)) (zT_is hS s_71) (zT_h hS s_71) hg.1 hg.2.1 hg.2.2.1 hg.2.2.2.1 hg.2.2.2.2 ?_
        refine zw_push hm_90 dX7_move_48 (v := .inl (mI S t 4)) rfl ?_
        refine zw_push hm_90 dX7_move_49 (v := .inr (.inr (some t))) rfl ?_
        obtain ⟨hg, h⟩ := h
        refine zw_gf hm_90 dX7_move_50 (v := .inl (mI (ma_cp S 71 (va_cpy (mI S 71) (mI S 71) (mI S t 4).toNatClampNeg to.toNatClampNeg (mI S t 2).toNatClampNeg)) t 2)) (zT_tis (zT_cp hS) hg) (zT_tt (zT_cp hS) hg) rfl f_7_64_9 rfl ?_
        refine zw_stk hm_90 dX7_move_53 (st₉ := [.inl ((mI S t 4) + (mI (ma_cp S 71 (va_cpy (mI S 71) (mI S 71) (mI S t 4).toNatClampNeg to.toNatClampNeg (mI S t 2).toNatClampNeg)) t 2))]) rfl rfl ?_
        refine zw_sto hm_90 dX7_move_54 [(4, .inl ((mI S t 4) + (mI (ma_cp S 71 (va_cpy (mI S 71) (mI S 71) (mI S t 4).toNatClampNeg to.toNatClampNeg (mI S t 2).toNatClampNeg)) t 2))), (3, .inl (mI S t 4)), (0, .inr (.inr (some 69))), (1, .inr (.inr (some t))), (2, .inl to)] rfl rfl rfl ?_
        refine zw_push hm_90 dX7_move_56 (v := .inr (.inr (some 69))) rfl ?_
        refine zw_push hm_90 dX7_move_57 (v := .inl to) rfl ?_
        refine zw_push hm_90 dX7_move_58 (v := .inl (mI S t 4)) rfl ?_
        refine zw_if2 hm_90 dX7_move_59 (t := 75) rfl zc2_ge ?_ ?_
        · intro hc
          rw [if_pos hc] at h
          refine zw_push hm_90 dX7_move_75 (v := .inl (mI S t 4)) rfl ?_
          refine zw_push hm_90 dX7_move_76 (v := .inl ((mI S t 4) + (mI (ma_cp S 71 (va_cpy (mI S 71) (mI S 71) (mI S t 4).toNatClampNeg to.toNatClampNeg (mI S t 2).toNatClampNeg)) t 2))) rfl ?_
          refine zw_cv hm_90 dX7_move_78 v_7_112_7 hm_88 [.inl ((mI S t 4) + (mI (ma_cp S 71 (va_cpy (mI S 71) (mI S 71) (mI S t 4).toNatClampNeg to.toNatClampNeg (mI S t 2).toNatClampNeg)) t 2)), .inl (mI S t 4)] [] rfl (zT_rt (zT_cp hS) s_69 rfl) ⟨by omega, by omega⟩ rfl (zw_mono h (zv_go ?_ ?_))
          · intro S1 hv
            obtain ⟨hS1, h⟩ := hv
            refine zw_push hm_90 dX7_move_81 (v := .inr (.inr (some t))) rfl ?_
            refine zw_push hm_90 dX7_move_82 (v := .inl to) rfl ?_
            obtain ⟨hg, h⟩ := h
            refine zw_pf hm_90 dX7_move_83 (zT_tis hS1 hg) (zT_tt hS1 hg) p_7_61_9 zk_int ?_
            refine zw_push hm_90 dX7_move_86 (v := .inr (.inr (some 69))) rfl ?_
            refine zw_stk hm_90 dX7_move_87 (st₉ := [.inr (.inr (some 69)), .inr (.inr (some 69))]) rfl rfl ?_
            refine zw_gf hm_90 dX7_move_88 (v := .inl (mI (ma_put S1 t 4 (.inl to)) 69 10)) (zT_is (zT_pi hS1) s_69) (zT_t (zT_pi hS1) s_69) rfl f_7_52_7 rfl ?_
            refine zw_push hm_90 dX7_move_91 (v := .inr (.inr (some t))) rfl ?_
            obtain ⟨hg, h⟩ := h
            refine zw_gf hm_90 dX7_move_92 (v := .inl (mI (ma_put S1 t 4 (.inl to)) t 2)) (zT_tis (zT_pi hS1) hg) (zT_tt (zT_pi hS1) hg) rfl f_7_64_9 rfl ?_
            refine zw_stk hm_90 dX7_move_95 (st₉ := [.inl ((mI (ma_put S1 t 4 (.inl to)) 69 10) + (mI (ma_put S1 t 4 (.inl to)) t 2)), .inr (.inr (some 69))]) rfl rfl ?_
            refine zw_pf hm_90 dX7_move_96 (zT_is (zT_pi hS1) s_69) (zT_t (zT_pi hS1) s_69) p_7_52_7 zk_int ?_
            exact zw_vret hm_90 dX7_move_99 h
          · intro x S9 hx
            exact ⟨by decide, hx⟩
        · intro hc
          rw [if_neg hc] at h
          refine zw_push hm_90 dX7_move_62 (v := .inl (mI S t 4)) rfl ?_
          refine zw_push hm_90 dX7_move_63 (v := .inl to) rfl ?_
          refine zw_push hm_90 dX7_move_64 (v := .inr (.inr (some t))) rfl ?_
          obtain ⟨hg, h⟩ := h
          refine zw_gf hm_90 dX7_move_65 (v := .inl (mI (ma_cp S 71 (va_cpy (mI S 71) (mI S 71) (mI S t 4).toNatClampNeg to.toNatClampNeg (mI S t 2).toNatClampNeg)) t 2)) (zT_tis (zT_cp hS) hg) (zT_tt (zT_cp hS) hg) rfl f_7_64_9 rfl ?_
          refine zw_stk hm_90 dX7_move_68 (st₉ := [.inl (to + (mI (ma_cp S 71 (va_cpy (mI S 71) (mI S 71) (mI S t 4).toNatClampNeg to.toNatClampNeg (mI S t 2).toNatClampNeg)) t 2)), .inl (mI S t 4), .inr (.inr (some 69))]) rfl rfl ?_
          refine zw_max hm_90 dX7_move_69 pr_7_116 (by omega) (by show 1 + 13 ≤ w; omega) (fun _ _ _ _ z => by cases z) ?_
          refine zw_goto hm_90 dX7_move_72 (t := 76) rfl ?_
          refine zw_push hm_90 dX7_move_76 (v := .inl ((mI S t 4) + (mI (ma_cp S 71 (va_cpy (mI S 71) (mI S 71) (mI S t 4).toNatClampNeg to.toNatClampNeg (mI S t 2).toNatClampNeg)) t 2))) rfl ?_
          refine zw_cv hm_90 dX7_move_78 v_7_112_7 hm_88 [.inl ((mI S t 4) + (mI (ma_cp S 71 (va_cpy (mI S 71) (mI S 71) (mI S t 4).toNatClampNeg to.toNatClampNeg (mI S t 2).toNatClampNeg)) t 2)), .inl (if (mI S t 4) < (to + (mI (ma_cp S 71 (va_cpy (mI S 71) (mI S 71) (mI S t 4).toNatClampNeg to.toNatClampNeg (mI S t 2).toNatClampNeg)) t 2)) then (to + (mI (ma_cp S 71 (va_cpy (mI S 71) (mI S 71) (mI S t 4).toNatClampNeg to.toNatClampNeg (mI S t 2).toNatClampNeg)) t 2)) else (mI S t 4))] [] rfl (zT_rt (zT_cp hS) s_69 rfl) ⟨by omega, by omega⟩ rfl (zw_mono h (zv_go ?_ ?_))
          · intro S3 hv
            obtain ⟨hS3, h⟩ := hv
            refine zw_push hm_90 dX7_move_81 (v := .inr (.inr (some t))) rfl ?_
            refine zw_push hm_90 dX7_move_82 (v := .inl to) rfl ?_
            obtain ⟨hg, h⟩ := h
            refine zw_pf hm_90 dX7_move_83 (zT_tis hS3 hg) (zT_tt hS3 hg) p_7_61_9 zk_int ?_
            refine zw_push hm_90 dX7_move_86 (v := .inr (.inr (some 69))) rfl ?_
            refine zw_stk hm_90 dX7_move_87 (st₉ := [.inr (.inr (some 69)), .inr (.inr (some 69))]) rfl rfl ?_
            refine zw_gf hm_90 dX7_move_88 (v := .inl (mI (ma_put S3 t 4 (.inl to)) 69 10)) (zT_is (zT_pi hS3) s_69) (zT_t (zT_pi hS3) s_69) rfl f_7_52_7 rfl ?_
            refine zw_push hm_90 dX7_move_91 (v := .inr (.inr (some t))) rfl ?_
            obtain ⟨hg, h⟩ := h
            refine zw_gf hm_90 dX7_move_92 (v := .inl (mI (ma_put S3 t 4 (.inl to)) t 2)) (zT_tis (zT_pi hS3) hg) (zT_tt (zT_pi hS3) hg) rfl f_7_64_9 rfl ?_
            refine zw_stk hm_90 dX7_move_95 (st₉ := [.inl ((mI (ma_put S3 t 4 (.inl to)) 69 10) + (mI (ma_put S3 t 4 (.inl to)) t 2)), .inr (.inr (some 69))]) rfl rfl ?_
            refine zw_pf hm_90 dX7_move_96 (zT_is (zT_pi hS3) s_69) (zT_t (zT_pi hS3) s_69) p_7_52_7 zk_int ?_
            exact zw_vret hm_90 dX7_move_99 h
          · intro x S9 hx
            exact ⟨by decide, hx⟩
      · intro hc
        rw [if_neg hc] at h
        exact zw_vret hm_90 dX7_move_30 h
theorem sp_90_69_s {X : Nat × (Nat → Int32)} {d w : Nat} {f : Nat → Nat → Int32} {r : Nat → Nat → Option Nat} {C Z N : Nat} {Q : Option ma_V ⊕ Nat → ma_S → Prop} {ab : Nat→Nat→Int32} {R : zRT} {y : Int32} {S : ma_S} (t : Nat) (to : Int32) (hd : 1 ≤ d) (hw : 90 ≤ w) (hI : zI f r C Z N S) (th_t : 126 ≤ t ∧ t < N) (hpre0 : xB S R) (hpre1 : aS 75 S = ab) (hpre2 : zTa R y = some t) (hpre3 : qMv ab y.toNatClampNeg to) (hpre4 : to.toInt ≤ 1000000) (K : ∀ S₉, zI f r C Z N S₉ → (xB S₉ R) → (aS 75 S₉ = aMo ab y.toNatClampNeg to) → Q (.inl none) S₉) : ma_wp X d w 90 0 [(0, .inr (.inr (some 69))), (1, .inr (.inr (some t))), (2, .inl to)] [] S Q := by
  refine g_90_69_s_0 t to (by omega) (by omega) (zG_T hI) ?_
  refine ⟨zG_n hI th_t, ?_⟩
  have b1 := i_bd to
  have f2 := zG_th hI th_t
  refine zd (fun h3 => ?_) (fun h3 => ?_)
  · skip
    have g4 := i_eq h3
    exact K _ hI (show xB S R from by first | (exact (xC_o (W := 75) hpre0).2)) (show aS 75 S = aMo ab y.toNatClampNeg to from by first | (have ty := xB_th (W := 75) hpre0 hpre2; have f2 : mI S t 2 = ab 128 y.toNatClampNeg := (by rw [← hpre1]; exact ty.2.2.2.2.1); have f4 : mI S t 4 = ab 130 y.toNatClampNeg := (by rw [← hpre1]; exact ty.2.2.2.2.2.1); have i2 := congrArg Int32.toInt f2; have i4 := congrArg Int32.toInt f4; have qm := hpre3; have qm1 := qm.1; have qm2 := qm.2.1; have qm3 := qm.2.2.1; have qm4 := qm.2.2.2.1; have qm5 := qm.2.2.2.2.1; have qm6 := qm.2.2.2.2.2; have te : to = ab 130 y.toNatClampNeg := Int32.toInt_inj.mp (by omega); rw [hpre1, te]; exact Mo_id.symm) | (have ty := xB_th (W := 75) hpre0 hpre2; have f2 : mI S t 2 = ab 128 y.toNatClampNeg := (by rw [← hpre1]; exact ty.2.2.2.2.1); have f4 : mI S t 4 = ab 130 y.toNatClampNeg := (by rw [← hpre1]; exact ty.2.2.2.2.2.1); have i2 := congrArg Int32.toInt f2; have i4 := congrArg Int32.toInt f4; have qm := hpre3; have qm1 := qm.1; have qm2 := qm.2.1; have qm3 := qm.2.2.1; have qm4 := qm.2.2.2.1; have qm5 := qm.2.2.2.2.1; have qm6 := qm.2.2.2.2.2; exfalso; omega))
  · skip
    have g5 := i_ne h3
    have li6 : (0 : Int32).toInt = 0 := rfl
    refine zd (fun h7 => ?_) (fun h7 => ?_)
    · skip
      have g8 := i_lt h7
      exact K _ hI (show xB S R from by first | (exact (xC_o (W := 75) hpre0).2)) (show aS 75 S = aMo ab y.toNatClampNeg to from by first | (have ty := xB_th (W := 75) hpre0 hpre2; have f2 : mI S t 2 = ab 128 y.toNatClampNeg := (by rw [← hpre1]; exact ty.2.2.2.2.1); have f4 : mI S t 4 = ab 130 y.toNatClampNeg := (by rw [← hpre1]; exact ty.2.2.2.2.2.1); have i2 := congrArg Int32.toInt f2; have i4 := congrArg Int32.toInt f4; have qm := hpre3; have qm1 := qm.1; have qm2 := qm.2.1; have qm3 := qm.2.2.1; have qm4 := qm.2.2.2.1; have qm5 := qm.2.2.2.2.1; have qm6 := qm.2.2.2.2.2; have te : to = ab 130 y.toNatClampNeg := Int32.toInt_inj.mp (by omega); rw [hpre1, te]; exact Mo_id.symm) | (have ty := xB_th (W := 75) hpre0 hpre2; have f2 : mI S t 2 = ab 128 y.toNatClampNeg := (by rw [← hpre1]; exact ty.2.2.2.2.1); have f4 : mI S t 4 = ab 130 y.toNatClampNeg := (by rw [← hpre1]; exact ty.2.2.2.2.2.1); have i2 := congrArg Int32.toInt f2; have i4 := congrArg Int32.toInt f4; have qm := hpre3; have qm1 := qm.1; have qm2 := qm.2.1; have qm3 := qm.2.2.1; have qm4 := qm.2.2.2.1; have qm5 := qm.2.2.2.2.1; have qm6 := qm.2.2.2.2.2; exfalso; omega))
    · skip
      have g9 := i_nlt h7
      refine ⟨zG_n hI th_t, ?_⟩
      have f10 := i_max (mI S t 4) to
      have f11 := zG_th hI th_t
      first | have e12 : ((if (mI S t 4) < to then to else (mI S t 4)) + (mI S t 2)).toInt = (if (mI S t 4) < to then to else (mI S t 4)).toInt + (mI S t 2).toInt := i_add (by omega) (by omega) | have b13 := i_bd ((if (mI S t 4) < to then to else (mI S t 4)) + (mI S t 2))
      have li14 : (4500 : Int32).toInt = 4500 := rfl
      refine zd (fun h15 => ?_) (fun h15 => ?_)
      · skip
        have g16 := i_le h15
        refine ⟨zG_n hI th_t, ?_⟩
        refine ⟨i_copy (by omega) (by omega) (by omega) (by omega) (by omega), ?_⟩
        have hI17 : zI f r C Z N (ma_cp S 71 (va_cpy (mI S 71) (mI S 71) (mI S t 4).toNatClampNeg to.toNatClampNeg (mI S t 2).toNatClampNeg)) := zG_cp hI (fun _ => rfl) (by decide) (by decide) (by decide) trivial
        refine ⟨zG_n hI17 th_t, ?_⟩
        refine zd (fun h18 => ?_) (fun h18 => ?_)
        · skip
          have g19 := i_le h18
          have q20 : (mI (ma_cp S 71 (va_cpy (mI S 71) (mI S 71) (mI S t 4).toNatClampNeg to.toNatClampNeg (mI S t 2).toNatClampNeg)) t 2).toInt = (mI S t 2).toInt := cp_fx th_t.1
          have f21 := zG_th hI17 th_t
          first | have e22 : ((mI S t 4) + (mI (ma_cp S 71 (va_cpy (mI S 71) (mI S 71) (mI S t 4).toNatClampNeg to.toNatClampNeg (mI S t 2).toNatClampNeg)) t 2)).toInt = (mI S t 4).toInt + (mI (ma_cp S 71 (va_cpy (mI S 71) (mI S 71) (mI S t 4).toNatClampNeg to.toNatClampNeg (mI S t 2).toNatClampNeg)) t 2).toInt := i_add (by omega) (by omega) | have b23 := i_bd ((mI S t 4) + (mI (ma_cp S 71 (va_cpy (mI S 71) (mI S 71) (mI S t 4).toNatClampNeg to.toNatClampNeg (mI S t 2).toNatClampNeg)) t 2))
          refine sp_88_69_s (ab := (aS 75 (ma_cp S 71 (va_cpy (mI S 71) (mI S 71) (mI S t 4).toNatClampNeg to.toNatClampNeg (mI S t 2).toNatClampNeg)))) (R := R) (W := 75) ((mI S t 4)) (((mI S t 4) + (mI (ma_cp S 71 (va_cpy (mI S 71) (mI S 71) (mI S t 4).toNatClampNeg to.toNatClampNeg (mI S t 2).toNatClampNeg)) t 2))) (by omega) (by omega) hI17 (show xB (ma_cp S 71 (va_cpy (mI S 71) (mI S 71) (mI S t 4).toNatClampNeg to.toNatClampNeg (mI S t 2).toNatClampNeg)) R from by first | (exact (xC_cp (f := (va_cpy (mI S 71) (mI S 71) (mI S t 4).toNatClampNeg to.toNatClampNeg (mI S t 2).toNatClampNeg)) (xC_o (W := 75) hpre0) xW75).2)) (show aS 75 (ma_cp S 71 (va_cpy (mI S 71) (mI S 71) (mI S t 4).toNatClampNeg to.toNatClampNeg (mI S t 2).toNatClampNeg)) = (aS 75 (ma_cp S 71 (va_cpy (mI S 71) (mI S 71) (mI S t 4).toNatClampNeg to.toNatClampNeg (mI S t 2).toNatClampNeg))) from by first | (exact rfl)) (show xW 75 from by first | (exact xW88) | (exact xW75)) (by omega) (fun S1 hI_S1 rp0_S1 rp1_S1 => zv_n ⟨zG_T hI_S1, ?_⟩)
          have rp0_S1 : xB S1 R := rp0_S1
          have rp1_S1 : aS 75 S1 = zFr (aS 75 (ma_cp S 71 (va_cpy (mI S 71) (mI S 71) (mI S t 4).toNatClampNeg to.toNatClampNeg (mI S t 2).toNatClampNeg))) (mI S t 4).toInt (zMin ((mI S t 4) + (mI (ma_cp S 71 (va_cpy (mI S 71) (mI S 71) (mI S t 4).toNatClampNeg to.toNatClampNeg (mI S t 2).toNatClampNeg)) t 2)).toInt) := rp1_S1
          refine ⟨zG_n hI_S1 th_t, ?_⟩
          have hI24 : zI f r C Z N (ma_put S1 t 4 (.inl to)) := zG_t4 hI_S1 th_t.1 zI_t (by decide) (by decide) trivial (by omega) (by omega)
          refine ⟨zG_n hI24 th_t, ?_⟩
          have hI25 : zI f r C Z N (ma_put (ma_put S1 t 4 (.inl to)) 69 10 (.inl ((mI (ma_put S1 t 4 (.inl to)) 69 10) + (mI (ma_put S1 t 4 (.inl to)) t 2)))) := zG_fr hI24 rfl (by decide) (by decide) (by decide) trivial
          exact K _ hI25 (show xB (ma_put (ma_put S1 t 4 (.inl to)) 69 10 (.inl ((mI (ma_put S1 t 4 (.inl to)) 69 10) + (mI (ma_put S1 t 4 (.inl to)) t 2)))) R from by first | (exact (xC_n (c := 69) (k := 10) (x := ((mI (ma_put S1 t 4 (.inl to)) 69 10) + (mI (ma_put S1 t 4 (.inl to)) t 2))) (xC_t (k := 4) (x := to) (xC_o (W := 75) rp0_S1) xW75 hpre2 rfl) ⟨by decide, Or.inl ⟨rfl, rfl⟩⟩).2)) (show aS 75 (ma_put (ma_put S1 t 4 (.inl to)) 69 10 (.inl ((mI (ma_put S1 t 4 (.inl to)) 69 10) + (mI (ma_put S1 t 4 (.inl to)) t 2)))) = aMo ab y.toNatClampNeg to from by first | (have ty := xB_th (W := 75) hpre0 hpre2; have f2 : mI S t 2 = ab 128 y.toNatClampNeg := (by rw [← hpre1]; exact ty.2.2.2.2.1); have f4 : mI S t 4 = ab 130 y.toNatClampNeg := (by rw [← hpre1]; exact ty.2.2.2.2.2.1); have i2 := congrArg Int32.toInt f2; have i4 := congrArg Int32.toInt f4; have qm := hpre3; have qm1 := qm.1; have qm2 := qm.2.1; have qm3 := qm.2.2.1; have qm4 := qm.2.2.2.1; have qm5 := qm.2.2.2.2.1; have qm6 := qm.2.2.2.2.2; refine (xC_n (c := 69) (k := 10) (x := ((mI (ma_put S1 t 4 (.inl to)) 69 10) + (mI (ma_put S1 t 4 (.inl to)) t 2))) (xC_t (k := 4) (x := to) (xC_o (W := 75) rp0_S1) xW75 hpre2 rfl) ⟨by decide, Or.inl ⟨rfl, rfl⟩⟩).1.trans ?_; (try simp only [zp_e (c₉ := 69) th_t.1 (by decide), zp_i (c := 69) (c₉ := t) (k₉ := 4) th_t.1 (by decide), zp_i (c := 71) (c₉ := t) (k₉ := 4) th_t.1 (by decide), zp_i (c := 72) (c₉ := t) (k₉ := 4) th_t.1 (by decide), zp_i (c := 73) (c₉ := t) (k₉ := 4) th_t.1 (by decide), zp_i (c := 74) (c₉ := t) (k₉ := 4) th_t.1 (by decide), zp_i (c := 75) (c₉ := t) (k₉ := 4) th_t.1 (by decide), zp_i (c := 76) (c₉ := t) (k₉ := 4) th_t.1 (by decide), zp_i (c := 77) (c₉ := t) (k₉ := 4) th_t.1 (by decide), zp_i (c := 87) (c₉ := t) (k₉ := 4) th_t.1 (by decide), zp_i (c := 88) (c₉ := t) (k₉ := 4) th_t.1 (by decide), zp_i (c := 89) (c₉ := t) (k₉ := 4) th_t.1 (by decide), zp_i (c := 90) (c₉ := t) (k₉ := 4) th_t.1 (by decide), zp_f (k := 0) (c₉ := t) (k₉ := 4) (by decide), zp_f (k := 1) (c₉ := t) (k₉ := 4) (by decide), zp_f (k := 2) (c₉ := t) (k₉ := 4) (by decide), zp_f (k := 7) (c₉ := t) (k₉ := 4) (by decide), zp_f (k := 8) (c₉ := t) (k₉ := 4) (by decide)]); rw [rp1_S1, (xC_cp (f := (va_cpy (mI S 71) (mI S 71) (mI S t 4).toNatClampNeg to.toNatClampNeg (mI S t 2).toNatClampNeg)) (xC_o (W := 75) hpre0) xW75).1, hpre1, cp_th th_t.1, f2, f4, show mI S 71 = ab 71 from (by rw [← hpre1]; exact funext (fun k => (aS_I (W := 75) (S := S) (c := 71) (c₉ := 71) (k := k) rfl rfl).symm))]; exact Mo_e1 hpre3 (by omega) (by omega)))
        · skip
          have g26 := i_nle h18
          refine ⟨zG_n hI17 th_t, ?_⟩
          have q27 : (mI (ma_cp S 71 (va_cpy (mI S 71) (mI S 71) (mI S t 4).toNatClampNeg to.toNatClampNeg (mI S t 2).toNatClampNeg)) t 2).toInt = (mI S t 2).toInt := cp_fx th_t.1
          have f28 := zG_th hI17 th_t
          first | have e29 : (to + (mI (ma_cp S 71 (va_cpy (mI S 71) (mI S 71) (mI S t 4).toNatClampNeg to.toNatClampNeg (mI S t 2).toNatClampNeg)) t 2)).toInt = to.toInt + (mI (ma_cp S 71 (va_cpy (mI S 71) (mI S 71) (mI S t 4).toNatClampNeg to.toNatClampNeg (mI S t 2).toNatClampNeg)) t 2).toInt := i_add (by omega) (by omega) | have b30 := i_bd (to + (mI (ma_cp S 71 (va_cpy (mI S 71) (mI S 71) (mI S t 4).toNatClampNeg to.toNatClampNeg (mI S t 2).toNatClampNeg)) t 2))
          have f31 := i_max (mI S t 4) (to + (mI (ma_cp S 71 (va_cpy (mI S 71) (mI S 71) (mI S t 4).toNatClampNeg to.toNatClampNeg (mI S t 2).toNatClampNeg)) t 2))
          first | have e32 : ((mI S t 4) + (mI (ma_cp S 71 (va_cpy (mI S 71) (mI S 71) (mI S t 4).toNatClampNeg to.toNatClampNeg (mI S t 2).toNatClampNeg)) t 2)).toInt = (mI S t 4).toInt + (mI (ma_cp S 71 (va_cpy (mI S 71) (mI S 71) (mI S t 4).toNatClampNeg to.toNatClampNeg (mI S t 2).toNatClampNeg)) t 2).toInt := i_add (by omega) (by omega) | have b33 := i_bd ((mI S t 4) + (mI (ma_cp S 71 (va_cpy (mI S 71) (mI S 71) (mI S t 4).toNatClampNeg to.toNatClampNeg (mI S t 2).toNatClampNeg)) t 2))
          refine sp_88_69_s (ab := (aS 75 (ma_cp S 71 (va_cpy (mI S 71) (mI S 71) (mI S t 4).toNatClampNeg to.toNatClampNeg (mI S t 2).toNatClampNeg)))) (R := R) (W := 75) ((if (mI S t 4) < (to + (mI (ma_cp S 71 (va_cpy (mI S 71) (mI S 71) (mI S t 4).toNatClampNeg to.toNatClampNeg (mI S t 2).toNatClampNeg)) t 2)) then (to + (mI (ma_cp S 71 (va_cpy (mI S 71) (mI S 71) (mI S t 4).toNatClampNeg to.toNatClampNeg (mI S t 2).toNatClampNeg)) t 2)) else (mI S t 4))) (((mI S t 4) + (mI (ma_cp S 71 (va_cpy (mI S 71) (mI S 71) (mI S t 4).toNatClampNeg to.toNatClampNeg (mI S t 2).toNatClampNeg)) t 2))) (by omega) (by omega) hI17 (show xB (ma_cp S 71 (va_cpy (mI S 71) (mI S 71) (mI S t 4).toNatClampNeg to.toNatClampNeg (mI S t 2).toNatClampNeg)) R from by first | (exact (xC_cp (f := (va_cpy (mI S 71) (mI S 71) (mI S t 4).toNatClampNeg to.toNatClampNeg (mI S t 2).toNatClampNeg)) (xC_o (W := 75) hpre0) xW75).2)) (show aS 75 (ma_cp S 71 (va_cpy (mI S 71) (mI S 71) (mI S t 4).toNatClampNeg to.toNatClampNeg (mI S t 2).toNatClampNeg)) = (aS 75 (ma_cp S 71 (va_cpy (mI S 71) (mI S 71) (mI S t 4).toNatClampNeg to.toNatClampNeg (mI S t 2).toNatClampNeg))) from by first | (exact rfl)) (show xW 75 from by first | (exact xW88) | (exact xW75)) (by omega) (fun S3 hI_S3 rp0_S3 rp1_S3 => zv_n ⟨zG_T hI_S3, ?_⟩)
          have rp0_S3 : xB S3 R := rp0_S3
          have rp1_S3 : aS 75 S3 = zFr (aS 75 (ma_cp S 71 (va_cpy (mI S 71) (mI S 71) (mI S t 4).toNatClampNeg to.toNatClampNeg (mI S t 2).toNatClampNeg))) (if (mI S t 4) < (to + (mI (ma_cp S 71 (va_cpy (mI S 71) (mI S 71) (mI S t 4).toNatClampNeg to.toNatClampNeg (mI S t 2).toNatClampNeg)) t 2)) then (to + (mI (ma_cp S 71 (va_cpy (mI S 71) (mI S 71) (mI S t 4).toNatClampNeg to.toNatClampNeg (mI S t 2).toNatClampNeg)) t 2)) else (mI S t 4)).toInt (zMin ((mI S t 4) + (mI (ma_cp S 71 (va_cpy (mI S 71) (mI S 71) (mI S t 4).toNatClampNeg to.toNatClampNeg (mI S t 2).toNatClampNeg)) t 2)).toInt) := rp1_S3
          refine ⟨zG_n hI_S3 th_t, ?_⟩
          have hI34 : zI f r C Z N (ma_put S3 t 4 (.inl to)) := zG_t4 hI_S3 th_t.1 zI_t (by decide) (by decide) trivial (by omega) (by omega)
          refine ⟨zG_n hI34 th_t, ?_⟩
          have hI35 : zI f r C Z N (ma_put (ma_put S3 t 4 (.inl to)) 69 10 (.inl ((mI (ma_put S3 t 4 (.inl to)) 69 10) + (mI (ma_put S3 t 4 (.inl to)) t 2)))) := zG_fr hI34 rfl (by decide) (by decide) (by decide) trivial
          exact K _ hI35 (show xB (ma_put (ma_put S3 t 4 (.inl to)) 69 10 (.inl ((mI (ma_put S3 t 4 (.inl to)) 69 10) + (mI (ma_put S3 t 4 (.inl to)) t 2)))) R from by first | (exact (xC_n (c := 69) (k := 10) (x := ((mI (ma_put S3 t 4 (.inl to)) 69 10) + (mI (ma_put S3 t 4 (.inl to)) t 2))) (xC_t (k := 4) (x := to) (xC_o (W := 75) rp0_S3) xW75 hpre2 rfl) ⟨by decide, Or.inl ⟨rfl, rfl⟩⟩).2)) (show aS 75 (ma_put (ma_put S3 t 4 (.inl to)) 69 10 (.inl ((mI (ma_put S3 t 4 (.inl to)) 69 10) + (mI (ma_put S3 t 4 (.inl to)) t 2)))) = aMo ab y.toNatClampNeg to from by first | (have ty := xB_th (W := 75) hpre0 hpre2; have f2 : mI S t 2 = ab 128 y.toNatClampNeg := (by rw [← hpre1]; exact ty.2.2.2.2.1); have f4 : mI S t 4 = ab 130 y.toNatClampNeg := (by rw [← hpre1]; exact ty.2.2.2.2.2.1); have i2 := congrArg Int32.toInt f2; have i4 := congrArg Int32.toInt f4; have qm := hpre3; have qm1 := qm.1; have qm2 := qm.2.1; have qm3 := qm.2.2.1; have qm4 := qm.2.2.2.1; have qm5 := qm.2.2.2.2.1; have qm6 := qm.2.2.2.2.2; refine (xC_n (c := 69) (k := 10) (x := ((mI (ma_put S3 t 4 (.inl to)) 69 10) + (mI (ma_put S3 t 4 (.inl to)) t 2))) (xC_t (k := 4) (x := to) (xC_o (W := 75) rp0_S3) xW75 hpre2 rfl) ⟨by decide, Or.inl ⟨rfl, rfl⟩⟩).1.trans ?_; (try simp only [zp_e (c₉ := 69) th_t.1 (by decide), zp_i (c := 69) (c₉ := t) (k₉ := 4) th_t.1 (by decide), zp_i (c := 71) (c₉ := t) (k₉ := 4) th_t.1 (by decide), zp_i (c := 72) (c₉ := t) (k₉ := 4) th_t.1 (by decide), zp_i (c := 73) (c₉ := t) (k₉ := 4) th_t.1 (by decide), zp_i (c := 74) (c₉ := t) (k₉ := 4) th_t.1 (by decide), zp_i (c := 75) (c₉ := t) (k₉ := 4) th_t.1 (by decide), zp_i (c := 76) (c₉ := t) (k₉ := 4) th_t.1 (by decide), zp_i (c := 77) (c₉ := t) (k₉ := 4) th_t.1 (by decide), zp_i (c := 87) (c₉ := t) (k₉ := 4) th_t.1 (by decide), zp_i (c := 88) (c₉ := t) (k₉ := 4) th_t.1 (by decide), zp_i (c := 89) (c₉ := t) (k₉ := 4) th_t.1 (by decide), zp_i (c := 90) (c₉ := t) (k₉ := 4) th_t.1 (by decide), zp_f (k := 0) (c₉ := t) (k₉ := 4) (by decide), zp_f (k := 1) (c₉ := t) (k₉ := 4) (by decide), zp_f (k := 2) (c₉ := t) (k₉ := 4) (by decide), zp_f (k := 7) (c₉ := t) (k₉ := 4) (by decide), zp_f (k := 8) (c₉ := t) (k₉ := 4) (by decide)]); rw [rp1_S3, (xC_cp (f := (va_cpy (mI S 71) (mI S 71) (mI S t 4).toNatClampNeg to.toNatClampNeg (mI S t 2).toNatClampNeg)) (xC_o (W := 75) hpre0) xW75).1, hpre1, cp_th th_t.1, f2, f4, show mI S 71 = ab 71 from (by rw [← hpre1]; exact funext (fun k => (aS_I (W := 75) (S := S) (c := 71) (c₉ := 71) (k := k) rfl rfl).symm))]; exact Mo_e2 hpre3 (by omega)))
      · skip
        have g36 := i_nle h15
        exact K _ hI (show xB S R from by first | (exact (xC_o (W := 75) hpre0).2)) (show aS 75 S = aMo ab y.toNatClampNeg to from by first | (have ty := xB_th (W := 75) hpre0 hpre2; have f2 : mI S t 2 = ab 128 y.toNatClampNeg := (by rw [← hpre1]; exact ty.2.2.2.2.1); have f4 : mI S t 4 = ab 130 y.toNatClampNeg := (by rw [← hpre1]; exact ty.2.2.2.2.2.1); have i2 := congrArg Int32.toInt f2; have i4 := congrArg Int32.toInt f4; have qm := hpre3; have qm1 := qm.1; have qm2 := qm.2.1; have qm3 := qm.2.2.1; have qm4 := qm.2.2.2.1; have qm5 := qm.2.2.2.2.1; have qm6 := qm.2.2.2.2.2; have te : to = ab 130 y.toNatClampNeg := Int32.toInt_inj.mp (by omega); rw [hpre1, te]; exact Mo_id.symm) | (have ty := xB_th (W := 75) hpre0 hpre2; have f2 : mI S t 2 = ab 128 y.toNatClampNeg := (by rw [← hpre1]; exact ty.2.2.2.2.1); have f4 : mI S t 4 = ab 130 y.toNatClampNeg := (by rw [← hpre1]; exact ty.2.2.2.2.2.1); have i2 := congrArg Int32.toInt f2; have i4 := congrArg Int32.toInt f4; have qm := hpre3; have qm1 := qm.1; have qm2 := qm.2.1; have qm3 := qm.2.2.1; have qm4 := qm.2.2.2.1; have qm5 := qm.2.2.2.2.1; have qm6 := qm.2.2.2.2.2; exfalso; omega))

