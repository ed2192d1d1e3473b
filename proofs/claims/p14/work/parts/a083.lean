/-! from 95.g08 -/
/-! the heap by numbers, the class (written by wip/tools/gen18.py) -/
theorem g_84_69_s_0 {X : Nat × (Nat → Int32)} {d w : Nat} {S : ma_S} {Q : Option ma_V ⊕ Nat → ma_S → Prop} (t : Nat) (hd : 1 ≤ d) (hw : 22 ≤ w) (hS : zT S) (h : ma_wp X (d - 1) (w - 22) 85 0 [(0, .inr (.inr (some 69))), (1, .inr (.inr (some t)))] [] S (zv (fun S1 => zT S1 ∧ ((126 ≤ t ∧ t < mN S1) ∧ (if (512 : Int32) ≤ (mI (ma_put S1 t 8 (.inl (0 : Int32))) 69 5) then (Q (.inl none) (ma_put S1 t 8 (.inl (0 : Int32)))) else ((126 ≤ t ∧ t < mN (ma_put S1 t 8 (.inl (0 : Int32)))) ∧ ((0 ≤ (mI (ma_put S1 t 8 (.inl (0 : Int32))) 69 5) ∧ (mI (ma_put S1 t 8 (.inl (0 : Int32))) 69 5).toNatClampNeg < 512) ∧ ((126 ≤ t ∧ t < mN (ma_put (ma_put (ma_put S1 t 8 (.inl (0 : Int32))) 74 (mI (ma_put S1 t 8 (.inl (0 : Int32))) 69 5).toNatClampNeg (.inl (mI (ma_put S1 t 8 (.inl (0 : Int32))) t 0))) 69 5 (.inl ((mI (ma_put S1 t 8 (.inl (0 : Int32))) 69 5) + (1 : Int32))))) ∧ ((126 ≤ t ∧ t < mN (ma_put (ma_put (ma_put S1 t 8 (.inl (0 : Int32))) 74 (mI (ma_put S1 t 8 (.inl (0 : Int32))) 69 5).toNatClampNeg (.inl (mI (ma_put S1 t 8 (.inl (0 : Int32))) t 0))) 69 5 (.inl ((mI (ma_put S1 t 8 (.inl (0 : Int32))) 69 5) + (1 : Int32))))) ∧ (Q (.inl none) (ma_put (ma_put (ma_put (ma_put S1 t 8 (.inl (0 : Int32))) 74 (mI (ma_put S1 t 8 (.inl (0 : Int32))) 69 5).toNatClampNeg (.inl (mI (ma_put S1 t 8 (.inl (0 : Int32))) t 0))) 69 5 (.inl ((mI (ma_put S1 t 8 (.inl (0 : Int32))) 69 5) + (1 : Int32)))) t 6 (.inl ((mI (ma_put (ma_put (ma_put S1 t 8 (.inl (0 : Int32))) 74 (mI (ma_put S1 t 8 (.inl (0 : Int32))) 69 5).toNatClampNeg (.inl (mI (ma_put S1 t 8 (.inl (0 : Int32))) t 0))) 69 5 (.inl ((mI (ma_put S1 t 8 (.inl (0 : Int32))) 69 5) + (1 : Int32)))) t 6) + (1 : Int32)))))))))))) (fun x S9 => Q (.inr x) S9))) : ma_wp X d w 84 0 [(0, .inr (.inr (some 69))), (1, .inr (.inr (some t)))] [] S Q := by
  refine zw_push hm_84 dX7_grant_0 (v := .inr (.inr (some 69))) rfl ?_
  refine zw_push hm_84 dX7_grant_1 (v := .inr (.inr (some t))) rfl ?_
  refine zw_cv hm_84 dX7_grant_2 v_7_104_7 hm_85 [.inr (.inr (some t))] [] rfl (zT_rt hS s_69 rfl) ⟨by omega, by omega⟩ rfl (zw_mono h (zv_go ?_ ?_))
  · intro S1 hv
    obtain ⟨hS1, h⟩ := hv
    refine zw_push hm_84 dX7_grant_5 (v := .inr (.inr (some t))) rfl ?_
    refine zw_push hm_84 dX7_grant_6 (v := .inl (0 : Int32)) rfl ?_
    obtain ⟨hg, h⟩ := h
    refine zw_pf hm_84 dX7_grant_7 (zT_tis hS1 hg) (zT_tt hS1 hg) p_7_108_9 (zk_bool (by decide)) ?_
    refine zw_push hm_84 dX7_grant_10 (v := .inr (.inr (some 69))) rfl ?_
    refine zw_gf hm_84 dX7_grant_11 (v := .inl (mI (ma_put S1 t 8 (.inl (0 : Int32))) 69 5)) (zT_is (zT_pi hS1) s_69) (zT_t (zT_pi hS1) s_69) rfl f_7_36_7 rfl ?_
    refine zw_push hm_84 dX7_grant_14 (v := .inl (512 : Int32)) rfl ?_
    refine zw_if2 hm_84 dX7_grant_17 (t := 53) rfl zc2_ge ?_ ?_
    · intro hc
      rw [if_pos hc] at h
      exact zw_vret hm_84 dX7_grant_53 h
    · intro hc
      rw [if_neg hc] at h
      refine zw_push hm_84 dX7_grant_20 (v := .inr (.inr (some 69))) rfl ?_
      refine zw_gf hm_84 dX7_grant_21 (v := .inr (.inr (some 74))) (zT_is (zT_pi hS1) s_69) (zT_t (zT_pi hS1) s_69) rfl f_7_27_7 (zT_f (zT_pi hS1) r_69_4) ?_
      refine zw_push hm_84 dX7_grant_24 (v := .inr (.inr (some 69))) rfl ?_
      refine zw_gf hm_84 dX7_grant_25 (v := .inl (mI (ma_put S1 t 8 (.inl (0 : Int32))) 69 5)) (zT_is (zT_pi hS1) s_69) (zT_t (zT_pi hS1) s_69) rfl f_7_36_7 rfl ?_
      refine zw_push hm_84 dX7_grant_28 (v := .inr (.inr (some t))) rfl ?_
      obtain ⟨hg, h⟩ := h
      refine zw_gf hm_84 dX7_grant_29 (v := .inl (mI (ma_put S1 t 8 (.inl (0 : Int32))) t 0)) (zT_tis (zT_pi hS1) hg) (zT_tt (zT_pi hS1) hg) rfl f_7_67_9 rfl ?_
      obtain ⟨hg, h⟩ := h
      refine zw_ias hm_84 dX7_grant_32 (zT_is (zT_pi hS1) s_74) (zT_h (zT_pi hS1) s_74) rfl hg ?_
      refine zw_push hm_84 dX7_grant_33 (v := .inr (.inr (some 69))) rfl ?_
      refine zw_stk hm_84 dX7_grant_34 (st₉ := [.inr (.inr (some 69)), .inr (.inr (some 69))]) rfl rfl ?_
      refine zw_gf hm_84 dX7_grant_35 (v := .inl (mI (ma_put S1 t 8 (.inl (0 : Int32))) 69 5)) (zT_is (zT_pi (zT_pi hS1)) s_69) (zT_t (zT_pi (zT_pi hS1)) s_69) rfl f_7_36_7 rfl ?_
      refine zw_push hm_84 dX7_grant_38 (v := .inl (1 : Int32)) rfl ?_
      refine zw_stk hm_84 dX7_grant_39 (st₉ := [.inl ((mI (ma_put S1 t 8 (.inl (0 : Int32))) 69 5) + (1 : Int32)), .inr (.inr (some 69))]) rfl rfl ?_
      refine zw_pf hm_84 dX7_grant_40 (zT_is (zT_pi (zT_pi hS1)) s_69) (zT_t (zT_pi (zT_pi hS1)) s_69) p_7_36_7 zk_int ?_
      refine zw_push hm_84 dX7_grant_43 (v := .inr (.inr (some t))) rfl ?_
      refine zw_stk hm_84 dX7_grant_44 (st₉ := [.inr (.inr (some t)), .inr (.inr (some t))]) rfl rfl ?_
      obtain ⟨hg, h⟩ := h
      refine zw_gf hm_84 dX7_grant_45 (v := .inl (mI (ma_put (ma_put (ma_put S1 t 8 (.inl (0 : Int32))) 74 (mI (ma_put S1 t 8 (.inl (0 : Int32))) 69 5).toNatClampNeg (.inl (mI (ma_put S1 t 8 (.inl (0 : Int32))) t 0))) 69 5 (.inl ((mI (ma_put S1 t 8 (.inl (0 : Int32))) 69 5) + (1 : Int32)))) t 6)) (zT_tis (zT_pi (zT_pi (zT_pi hS1))) hg) (zT_tt (zT_pi (zT_pi (zT_pi hS1))) hg) rfl f_7_98_9 rfl ?_
      refine zw_push hm_84 dX7_grant_48 (v := .inl (1 : Int32)) rfl ?_
      refine zw_stk hm_84 dX7_grant_49 (st₉ := [.inl ((mI (ma_put (ma_put (ma_put S1 t 8 (.inl (0 : Int32))) 74 (mI (ma_put S1 t 8 (.inl (0 : Int32))) 69 5).toNatClampNeg (.inl (mI (ma_put S1 t 8 (.inl (0 : Int32))) t 0))) 69 5 (.inl ((mI (ma_put S1 t 8 (.inl (0 : Int32))) 69 5) + (1 : Int32)))) t 6) + (1 : Int32)), .inr (.inr (some t))]) rfl rfl ?_
      obtain ⟨hg, h⟩ := h
      refine zw_pf hm_84 dX7_grant_50 (zT_tis (zT_pi (zT_pi (zT_pi hS1))) hg) (zT_tt (zT_pi (zT_pi (zT_pi hS1))) hg) p_7_98_9 zk_int ?_
      exact zw_vret hm_84 dX7_grant_53 h
  · intro x S9 hx
    exact ⟨by decide, hx⟩
theorem sp_84_69_s {X : Nat × (Nat → Int32)} {d w : Nat} {f : Nat → Nat → Int32} {r : Nat → Nat → Option Nat} {C Z N : Nat} {Q : Option ma_V ⊕ Nat → ma_S → Prop} {ab : Nat→Nat→Int32} {R : zRT} {W : Nat} {y : Int32} {S : ma_S} (t : Nat) (hd : 1 ≤ d) (hw : 22 ≤ w) (hI : zI f r C Z N S) (th_t : 126 ≤ t ∧ t < N) (hpre0 : xB S R) (hpre1 : aS W S = ab) (hpre2 : xW W) (hpre3 : zTa R y = some t) (K : ∀ S₉, zI f r C Z N S₉ → (xB S₉ R) → (aS W S₉ = aGr ab y) → Q (.inl none) S₉) : ma_wp X d w 84 0 [(0, .inr (.inr (some 69))), (1, .inr (.inr (some t)))] [] S Q := by
  refine g_84_69_s_0 t (by omega) (by omega) (zG_T hI) ?_
  refine sp_85_69_s (ab := (aS W S)) (R := R) (W := W) (y := y) t (by omega) (by omega) hI th_t (show xB S R from by first | (exact (xC_o (W := 75) hpre0).2)) (show aS W S = (aS W S) from by first | (exact rfl)) (show xW W from by first | (exact hpre2) | (exact xW88)) (show zTa R y = some t from by first | (exact hpre3)) (fun S1 hI_S1 rp0_S1 rp1_S1 => zv_n ⟨zG_T hI_S1, ?_⟩)
  have rp0_S1 : xB S1 R := rp0_S1
  have rp1_S1 : aS W S1 = zUw (aS W S) y 16 := rp1_S1
  refine ⟨zG_n hI_S1 th_t, ?_⟩
  have li1 : (512 : Int32).toInt = 512 := rfl
  have f2 := zG_s hI_S1 (0) (512) (c := 69) (k := 5) (by decide)
  have q3 : (mI (ma_put S1 t 8 (.inl (0 : Int32))) 69 5).toInt = (mI S1 69 5).toInt := zp_th th_t.1 (by decide)
  have hI5 : zI f r C Z N (ma_put S1 t 8 (.inl (0 : Int32))) := zG_tf hI_S1 th_t.1 zI_t (by decide) (by decide) trivial (by decide) (by decide) (by decide)
  have f4 := zG_s hI5 (0) (512) (c := 69) (k := 5) (by decide)
  refine zd (fun h6 => ?_) (fun h6 => ?_)
  · skip
    have g7 := i_le h6
    exact K _ hI5 (show xB (ma_put S1 t 8 (.inl (0 : Int32))) R from by first | (exact (xC_t (k := 8) (x := (0 : Int32)) (xC_o (W := 75) rp0_S1) xW75 hpre3 rfl).2)) (show aS W (ma_put S1 t 8 (.inl (0 : Int32))) = aGr ab y from by first | (have ty := xB_th (W := W) rp0_S1 hpre3; refine (xC_t (k := 8) (x := (0 : Int32)) (xC_o (W := W) rp0_S1) hpre2 hpre3 rfl).1.trans ?_; (try simp only [zp_i (c := 69) (c₉ := t) (k₉ := 8) th_t.1 (by decide), zp_i (c := 71) (c₉ := t) (k₉ := 8) th_t.1 (by decide), zp_i (c := 72) (c₉ := t) (k₉ := 8) th_t.1 (by decide), zp_i (c := 73) (c₉ := t) (k₉ := 8) th_t.1 (by decide), zp_i (c := 74) (c₉ := t) (k₉ := 8) th_t.1 (by decide), zp_i (c := 75) (c₉ := t) (k₉ := 8) th_t.1 (by decide), zp_i (c := 76) (c₉ := t) (k₉ := 8) th_t.1 (by decide), zp_i (c := 77) (c₉ := t) (k₉ := 8) th_t.1 (by decide), zp_i (c := 87) (c₉ := t) (k₉ := 8) th_t.1 (by decide), zp_i (c := 88) (c₉ := t) (k₉ := 8) th_t.1 (by decide), zp_i (c := 89) (c₉ := t) (k₉ := 8) th_t.1 (by decide), zp_i (c := 90) (c₉ := t) (k₉ := 8) th_t.1 (by decide), zp_f (k := 0) (c₉ := t) (k₉ := 8) (by decide), zp_f (k := 1) (c₉ := t) (k₉ := 8) (by decide), zp_f (k := 2) (c₉ := t) (k₉ := 8) (by decide), zp_f (k := 4) (c₉ := t) (k₉ := 8) (by decide), zp_f (k := 7) (c₉ := t) (k₉ := 8) (by decide)]); rw [rp1_S1, hpre1]; have e5 : aS W S1 69 5 = ab 69 5 := (by rw [rp1_S1, hpre1]; exact zUw_o (by decide)); have e5b : mI S1 69 5 = ab 69 5 := e5; have e5i := congrArg Int32.toInt e5b; rw [ty.2.2.1, e5b]; exact (if_pos (by omega)).symm) | (have ty := xB_th (W := W) rp0_S1 hpre3; refine (xC_t (k := 8) (x := (0 : Int32)) (xC_o (W := W) rp0_S1) hpre2 hpre3 rfl).1.trans ?_; (try simp only [zp_i (c := 69) (c₉ := t) (k₉ := 8) th_t.1 (by decide), zp_i (c := 71) (c₉ := t) (k₉ := 8) th_t.1 (by decide), zp_i (c := 72) (c₉ := t) (k₉ := 8) th_t.1 (by decide), zp_i (c := 73) (c₉ := t) (k₉ := 8) th_t.1 (by decide), zp_i (c := 74) (c₉ := t) (k₉ := 8) th_t.1 (by decide), zp_i (c := 75) (c₉ := t) (k₉ := 8) th_t.1 (by decide), zp_i (c := 76) (c₉ := t) (k₉ := 8) th_t.1 (by decide), zp_i (c := 77) (c₉ := t) (k₉ := 8) th_t.1 (by decide), zp_i (c := 87) (c₉ := t) (k₉ := 8) th_t.1 (by decide), zp_i (c := 88) (c₉ := t) (k₉ := 8) th_t.1 (by decide), zp_i (c := 89) (c₉ := t) (k₉ := 8) th_t.1 (by decide), zp_i (c := 90) (c₉ := t) (k₉ := 8) th_t.1 (by decide), zp_f (k := 0) (c₉ := t) (k₉ := 8) (by decide), zp_f (k := 1) (c₉ := t) (k₉ := 8) (by decide), zp_f (k := 2) (c₉ := t) (k₉ := 8) (by decide), zp_f (k := 4) (c₉ := t) (k₉ := 8) (by decide), zp_f (k := 7) (c₉ := t) (k₉ := 8) (by decide)]); rw [rp1_S1, hpre1]; have e5 : aS W S1 69 5 = ab 69 5 := (by rw [rp1_S1, hpre1]; exact zUw_o (by decide)); have e5b : mI S1 69 5 = ab 69 5 := e5; have e5i := congrArg Int32.toInt e5b; exact (if_neg (by omega)).symm))
  · skip
    have g8 := i_nle h6
    refine ⟨zG_n hI5 th_t, ?_⟩
    refine ⟨i_ix (by omega) (by omega), ?_⟩
    have hI9 : zI f r C Z N (ma_put (ma_put S1 t 8 (.inl (0 : Int32))) 74 (mI (ma_put S1 t 8 (.inl (0 : Int32))) 69 5).toNatClampNeg (.inl (mI (ma_put S1 t 8 (.inl (0 : Int32))) t 0))) := zG_fa hI5 rfl (by decide) (by decide) (by decide) trivial
    first | have e11 : ((mI (ma_put S1 t 8 (.inl (0 : Int32))) 69 5) + (1 : Int32)).toInt = (mI (ma_put S1 t 8 (.inl (0 : Int32))) 69 5).toInt + (1) := i_addk rfl (by omega) (by omega) | have b12 := i_bd ((mI (ma_put S1 t 8 (.inl (0 : Int32))) 69 5) + (1 : Int32))
    have hI10 : zI f r C Z N (ma_put (ma_put (ma_put S1 t 8 (.inl (0 : Int32))) 74 (mI (ma_put S1 t 8 (.inl (0 : Int32))) 69 5).toNatClampNeg (.inl (mI (ma_put S1 t 8 (.inl (0 : Int32))) t 0))) 69 5 (.inl ((mI (ma_put S1 t 8 (.inl (0 : Int32))) 69 5) + (1 : Int32)))) := zG_sp hI9 (0) (512) rfl (by decide) (by decide) (by decide) trivial (by omega) (by omega)
    refine ⟨zG_n hI10 th_t, ?_⟩
    refine ⟨zG_n hI10 th_t, ?_⟩
    have hI13 : zI f r C Z N (ma_put (ma_put (ma_put (ma_put S1 t 8 (.inl (0 : Int32))) 74 (mI (ma_put S1 t 8 (.inl (0 : Int32))) 69 5).toNatClampNeg (.inl (mI (ma_put S1 t 8 (.inl (0 : Int32))) t 0))) 69 5 (.inl ((mI (ma_put S1 t 8 (.inl (0 : Int32))) 69 5) + (1 : Int32)))) t 6 (.inl ((mI (ma_put (ma_put (ma_put S1 t 8 (.inl (0 : Int32))) 74 (mI (ma_put S1 t 8 (.inl (0 : Int32))) 69 5).toNatClampNeg (.inl (mI (ma_put S1 t 8 (.inl (0 : Int32))) t 0))) 69 5 (.inl ((mI (ma_put S1 t 8 (.inl (0 : Int32))) 69 5) + (1 : Int32)))) t 6) + (1 : Int32)))) := zG_tf hI10 th_t.1 zI_t (by decide) (by decide) trivial (by decide) (by decide) (by decide)
    exact K _ hI13 (show xB (ma_put (ma_put (ma_put (ma_put S1 t 8 (.inl (0 : Int32))) 74 (mI (ma_put S1 t 8 (.inl (0 : Int32))) 69 5).toNatClampNeg (.inl (mI (ma_put S1 t 8 (.inl (0 : Int32))) t 0))) 69 5 (.inl ((mI (ma_put S1 t 8 (.inl (0 : Int32))) 69 5) + (1 : Int32)))) t 6 (.inl ((mI (ma_put (ma_put (ma_put S1 t 8 (.inl (0 : Int32))) 74 (mI (ma_put S1 t 8 (.inl (0 : Int32))) 69 5).toNatClampNeg (.inl (mI (ma_put S1 t 8 (.inl (0 : Int32))) t 0))) 69 5 (.inl ((mI (ma_put S1 t 8 (.inl (0 : Int32))) 69 5) + (1 : Int32)))) t 6) + (1 : Int32)))) R from by first | (exact (xC_6 (k := 6) (x := ((mI (ma_put (ma_put (ma_put S1 t 8 (.inl (0 : Int32))) 74 (mI (ma_put S1 t 8 (.inl (0 : Int32))) 69 5).toNatClampNeg (.inl (mI (ma_put S1 t 8 (.inl (0 : Int32))) t 0))) 69 5 (.inl ((mI (ma_put S1 t 8 (.inl (0 : Int32))) 69 5) + (1 : Int32)))) t 6) + (1 : Int32))) (xC_p (c := 69) (k := 5) (x := ((mI (ma_put S1 t 8 (.inl (0 : Int32))) 69 5) + (1 : Int32))) (xC_p (c := 74) (k := (mI (ma_put S1 t 8 (.inl (0 : Int32))) 69 5).toNatClampNeg) (x := (mI (ma_put S1 t 8 (.inl (0 : Int32))) t 0)) (xC_t (k := 8) (x := (0 : Int32)) (xC_o (W := 75) rp0_S1) xW75 hpre3 rfl) 74 xW75 rfl rfl) 69 xW75 rfl rfl) xW75 th_t.1 rfl (by decide)).2)) (show aS W (ma_put (ma_put (ma_put (ma_put S1 t 8 (.inl (0 : Int32))) 74 (mI (ma_put S1 t 8 (.inl (0 : Int32))) 69 5).toNatClampNeg (.inl (mI (ma_put S1 t 8 (.inl (0 : Int32))) t 0))) 69 5 (.inl ((mI (ma_put S1 t 8 (.inl (0 : Int32))) 69 5) + (1 : Int32)))) t 6 (.inl ((mI (ma_put (ma_put (ma_put S1 t 8 (.inl (0 : Int32))) 74 (mI (ma_put S1 t 8 (.inl (0 : Int32))) 69 5).toNatClampNeg (.inl (mI (ma_put S1 t 8 (.inl (0 : Int32))) t 0))) 69 5 (.inl ((mI (ma_put S1 t 8 (.inl (0 : Int32))) 69 5) + (1 : Int32)))) t 6) + (1 : Int32)))) = aGr ab y from by first | (have ty := xB_th (W := W) rp0_S1 hpre3; refine (xC_6 (k := 6) (x := ((mI (ma_put (ma_put (ma_put S1 t 8 (.inl (0 : Int32))) 74 (mI (ma_put S1 t 8 (.inl (0 : Int32))) 69 5).toNatClampNeg (.inl (mI (ma_put S1 t 8 (.inl (0 : Int32))) t 0))) 69 5 (.inl ((mI (ma_put S1 t 8 (.inl (0 : Int32))) 69 5) + (1 : Int32)))) t 6) + (1 : Int32))) (xC_p (c := 69) (k := 5) (x := ((mI (ma_put S1 t 8 (.inl (0 : Int32))) 69 5) + (1 : Int32))) (xC_p (c := 74) (k := (mI (ma_put S1 t 8 (.inl (0 : Int32))) 69 5).toNatClampNeg) (x := (mI (ma_put S1 t 8 (.inl (0 : Int32))) t 0)) (xC_t (k := 8) (x := (0 : Int32)) (xC_o (W := W) rp0_S1) hpre2 hpre3 rfl) 74 hpre2 rfl (zcw_s (by decide))) 69 hpre2 rfl (zcw_s (by decide))) hpre2 th_t.1 rfl (by decide)).1.trans ?_; (try simp only [zp_e (c₉ := 69) th_t.1 (by decide), zp_e (c₉ := 74) th_t.1 (by decide), zp_i (c := 69) (c₉ := t) (k₉ := 6) th_t.1 (by decide), zp_i (c := 71) (c₉ := t) (k₉ := 6) th_t.1 (by decide), zp_i (c := 72) (c₉ := t) (k₉ := 6) th_t.1 (by decide), zp_i (c := 73) (c₉ := t) (k₉ := 6) th_t.1 (by decide), zp_i (c := 74) (c₉ := t) (k₉ := 6) th_t.1 (by decide), zp_i (c := 75) (c₉ := t) (k₉ := 6) th_t.1 (by decide), zp_i (c := 76) (c₉ := t) (k₉ := 6) th_t.1 (by decide), zp_i (c := 77) (c₉ := t) (k₉ := 6) th_t.1 (by decide), zp_i (c := 87) (c₉ := t) (k₉ := 6) th_t.1 (by decide), zp_i (c := 88) (c₉ := t) (k₉ := 6) th_t.1 (by decide), zp_i (c := 89) (c₉ := t) (k₉ := 6) th_t.1 (by decide), zp_i (c := 90) (c₉ := t) (k₉ := 6) th_t.1 (by decide), zp_f (k := 0) (c₉ := t) (k₉ := 6) (by decide), zp_f (k := 1) (c₉ := t) (k₉ := 6) (by decide), zp_f (k := 2) (c₉ := t) (k₉ := 6) (by decide), zp_f (k := 4) (c₉ := t) (k₉ := 6) (by decide), zp_f (k := 7) (c₉ := t) (k₉ := 6) (by decide), zp_f (k := 8) (c₉ := t) (k₉ := 6) (by decide), zp_i (c := 69) (c₉ := t) (k₉ := 8) th_t.1 (by decide), zp_i (c := 71) (c₉ := t) (k₉ := 8) th_t.1 (by decide), zp_i (c := 72) (c₉ := t) (k₉ := 8) th_t.1 (by decide), zp_i (c := 73) (c₉ := t) (k₉ := 8) th_t.1 (by decide), zp_i (c := 74) (c₉ := t) (k₉ := 8) th_t.1 (by decide), zp_i (c := 75) (c₉ := t) (k₉ := 8) th_t.1 (by decide), zp_i (c := 76) (c₉ := t) (k₉ := 8) th_t.1 (by decide), zp_i (c := 77) (c₉ := t) (k₉ := 8) th_t.1 (by decide), zp_i (c := 87) (c₉ := t) (k₉ := 8) th_t.1 (by decide), zp_i (c := 88) (c₉ := t) (k₉ := 8) th_t.1 (by decide), zp_i (c := 89) (c₉ := t) (k₉ := 8) th_t.1 (by decide), zp_i (c := 90) (c₉ := t) (k₉ := 8) th_t.1 (by decide), zp_f (k := 0) (c₉ := t) (k₉ := 8) (by decide), zp_f (k := 1) (c₉ := t) (k₉ := 8) (by decide), zp_f (k := 2) (c₉ := t) (k₉ := 8) (by decide), zp_f (k := 4) (c₉ := t) (k₉ := 8) (by decide), zp_f (k := 7) (c₉ := t) (k₉ := 8) (by decide)]); rw [rp1_S1, hpre1]; have e5 : aS W S1 69 5 = ab 69 5 := (by rw [rp1_S1, hpre1]; exact zUw_o (by decide)); have e5b : mI S1 69 5 = ab 69 5 := e5; have e5i := congrArg Int32.toInt e5b; rw [ty.2.2.1, e5b]; exact (if_pos (by omega)).symm) | (have ty := xB_th (W := W) rp0_S1 hpre3; refine (xC_6 (k := 6) (x := ((mI (ma_put (ma_put (ma_put S1 t 8 (.inl (0 : Int32))) 74 (mI (ma_put S1 t 8 (.inl (0 : Int32))) 69 5).toNatClampNeg (.inl (mI (ma_put S1 t 8 (.inl (0 : Int32))) t 0))) 69 5 (.inl ((mI (ma_put S1 t 8 (.inl (0 : Int32))) 69 5) + (1 : Int32)))) t 6) + (1 : Int32))) (xC_p (c := 69) (k := 5) (x := ((mI (ma_put S1 t 8 (.inl (0 : Int32))) 69 5) + (1 : Int32))) (xC_p (c := 74) (k := (mI (ma_put S1 t 8 (.inl (0 : Int32))) 69 5).toNatClampNeg) (x := (mI (ma_put S1 t 8 (.inl (0 : Int32))) t 0)) (xC_t (k := 8) (x := (0 : Int32)) (xC_o (W := W) rp0_S1) hpre2 hpre3 rfl) 74 hpre2 rfl (zcw_s (by decide))) 69 hpre2 rfl (zcw_s (by decide))) hpre2 th_t.1 rfl (by decide)).1.trans ?_; (try simp only [zp_e (c₉ := 69) th_t.1 (by decide), zp_e (c₉ := 74) th_t.1 (by decide), zp_i (c := 69) (c₉ := t) (k₉ := 6) th_t.1 (by decide), zp_i (c := 71) (c₉ := t) (k₉ := 6) th_t.1 (by decide), zp_i (c := 72) (c₉ := t) (k₉ := 6) th_t.1 (by decide), zp_i (c := 73) (c₉ := t) (k₉ := 6) th_t.1 (by decide), zp_i (c := 74) (c₉ := t) (k₉ := 6) th_t.1 (by decide), zp_i (c := 75) (c₉ := t) (k₉ := 6) th_t.1 (by decide), zp_i (c := 76) (c₉ := t) (k₉ := 6) th_t.1 (by decide), zp_i (c := 77) (c₉ := t) (k₉ := 6) th_t.1 (by decide), zp_i (c := 87) (c₉ := t) (k₉ := 6) th_t.1 (by decide), zp_i (c := 88) (c₉ := t) (k₉ := 6) th_t.1 (by decide), zp_i (c := 89) (c₉ := t) (k₉ := 6) th_t.1 (by decide), zp_i (c := 90) (c₉ := t) (k₉ := 6) th_t.1 (by decide), zp_f (k := 0) (c₉ := t) (k₉ := 6) (by decide), zp_f (k := 1) (c₉ := t) (k₉ := 6) (by decide), zp_f (k := 2) (c₉ := t) (k₉ := 6) (by decide), zp_f (k := 4) (c₉ := t) (k₉ := 6) (by decide), zp_f (k := 7) (c₉ := t) (k₉ := 6) (by decide), zp_f (k := 8) (c₉ := t) (k₉ := 6) (by decide), zp_i (c := 69) (c₉ := t) (k₉ := 8) th_t.1 (by decide), zp_i (c := 71) (c₉ := t) (k₉ := 8) th_t.1 (by decide), zp_i (c := 72) (c₉ := t) (k₉ := 8) th_t.1 (by decide), zp_i (c := 73) (c₉ := t) (k₉ := 8) th_t.1 (by decide), zp_i (c := 74) (c₉ := t) (k₉ := 8) th_t.1 (by decide), zp_i (c := 75) (c₉ := t) (k₉ := 8) th_t.1 (by decide), zp_i (c := 76) (c₉ := t) (k₉ := 8) th_t.1 (by decide), zp_i (c := 77) (c₉ := t) (k₉ := 8) th_t.1 (by decide), zp_i (c := 87) (c₉ := t) (k₉ := 8) th_t.1 (by decide), zp_i (c := 88) (c₉ := t) (k₉ := 8) th_t.1 (by decide), zp_i (c := 89) (c₉ := t) (k₉ := 8) th_t.1 (by decide), zp_i (c := 90) (c₉ := t) (k₉ := 8) th_t.1 (by decide), zp_f (k := 0) (c₉ := t) (k₉ := 8) (by decide), zp_f (k := 1) (c₉ := t) (k₉ := 8) (by decide), zp_f (k := 2) (c₉ := t) (k₉ := 8) (by decide), zp_f (k := 4) (c₉ := t) (k₉ := 8) (by decide), zp_f (k := 7) (c₉ := t) (k₉ := 8) (by decide)]); rw [rp1_S1, hpre1]; have e5 : aS W S1 69 5 = ab 69 5 := (by rw [rp1_S1, hpre1]; exact zUw_o (by decide)); have e5b : mI S1 69 5 = ab 69 5 := e5; have e5i := congrArg Int32.toInt e5b; exact (if_neg (by omega)).symm))

/-! from 95.g09 -/
/-! the heap by numbers, the class (written by wip/tools/gen18.py) -/
theorem g_83_69_88_s_0 {X : Nat × (Nat → Int32)} {d w : Nat} {S : ma_S} {Q : Option ma_V ⊕ Nat → ma_S → Prop}  (hd : 2 ≤ d) (hw : 49 ≤ w) (hS : zT S) (h : ma_wp X d w 83 2 [(0, .inr (.inr (some 69))), (1, .inr (.inr (some 88))), (2, .inl (0 : Int32))] [] S Q) : ma_wp X d w 83 0 [(0, .inr (.inr (some 69))), (1, .inr (.inr (some 88)))] [] S Q := by
  refine zw_push hm_83 dX7_grantWishes_0 (v := .inl (0 : Int32)) rfl ?_
  refine zw_sto hm_83 dX7_grantWishes_1 [(2, .inl (0 : Int32)), (0, .inr (.inr (some 69))), (1, .inr (.inr (some 88)))] rfl rfl rfl ?_
  exact zw_sub (ma_nd_of (ks := [0, 1, 2]) rfl (by decide)) (ma_nd_of (ks := [2, 0, 1]) rfl (by decide)) (ma_le_cons rfl (ma_le_cons rfl (ma_le_cons rfl (ma_le_nil _)))) h
theorem g_83_69_88_s_2 {X : Nat × (Nat → Int32)} {d w : Nat} {S : ma_S} {Q : Option ma_V ⊕ Nat → ma_S → Prop} (l2 : Int32) (hd : 2 ≤ d) (hw : 49 ≤ w) (hS : zT S) (h : if (mI S 69 6) ≤ l2 then (Q (.inl none) S) else (if l2 < 0 then (ma_wp X d w 83 2 [(0, .inr (.inr (some 69))), (1, .inr (.inr (some 88))), (2, .inl (l2 + (1 : Int32)))] [] S Q) else (if (512 : Int32) ≤ l2 then (ma_wp X d w 83 2 [(0, .inr (.inr (some 69))), (1, .inr (.inr (some 88))), (2, .inl (l2 + (1 : Int32)))] [] S Q) else ((0 ≤ l2 ∧ l2.toNatClampNeg < 512) ∧ (((mR S 70 l2.toNatClampNeg) = none → ma_wp X d w 83 2 [(0, .inr (.inr (some 69))), (1, .inr (.inr (some 88))), (2, .inl (l2 + (1 : Int32)))] [] S Q) ∧ (∀ c1, (mR S 70 l2.toNatClampNeg) = some c1 → (126 ≤ c1 ∧ c1 < mN S) ∧ (if (mI S c1 8) = 0 then (ma_wp X d w 83 2 [(0, .inr (.inr (some 69))), (1, .inr (.inr (some 88))), (2, .inl (l2 + (1 : Int32)))] [] S Q) else ((126 ≤ c1 ∧ c1 < mN S) ∧ (if (mI S c1 4) < (mI S 88 5) then (ma_wp X d w 83 2 [(0, .inr (.inr (some 69))), (1, .inr (.inr (some 88))), (2, .inl (l2 + (1 : Int32)))] [] S Q) else ((126 ≤ c1 ∧ c1 < mN S) ∧ (if (512 : Int32) ≤ (mI S c1 0) then (ma_wp X (d - 1) (w - 21) 84 0 [(0, .inr (.inr (some 69))), (1, .inr (.inr (some c1)))] [] S (zv (fun S2 => zT S2 ∧ (ma_wp X (d - 1) (w - 21) 119 0 [(0, .inr (.inr (some 88))), (1, .inr (.inr (some c1)))] [] S2 (zv (fun S4 => zT S4 ∧ (ma_wp X (d - 1) (w - 24) 120 0 [(0, .inr (.inr (some 88))), (1, .inl (512 : Int32))] [] S4 (zi (fun v7 S6 => zT S6 ∧ (ma_wp X d w 83 2 [(0, .inr (.inr (some 69))), (1, .inr (.inr (some 88))), (2, .inl (l2 + (1 : Int32)))] [] S6 Q)) (fun x S9 => Q (.inr x) S9)))) (fun x S9 => Q (.inr x) S9)))) (fun x S9 => Q (.inr x) S9))) else ((126 ≤ c1 ∧ c1 < mN S) ∧ ((0 ≤ (mI S c1 0) ∧ (mI S c1 0).toNatClampNeg < 512) ∧ (if (mI S 90 (mI S c1 0).toNatClampNeg) = 0 then (ma_wp X (d - 1) (w - 21) 84 0 [(0, .inr (.inr (some 69))), (1, .inr (.inr (some c1)))] [] S (zv (fun S8 => zT S8 ∧ (ma_wp X (d - 1) (w - 21) 119 0 [(0, .inr (.inr (some 88))), (1, .inr (.inr (some c1)))] [] S8 (zv (fun S10 => zT S10 ∧ (ma_wp X (d - 1) (w - 24) 120 0 [(0, .inr (.inr (some 88))), (1, .inl (512 : Int32))] [] S10 (zi (fun v13 S12 => zT S12 ∧ (ma_wp X d w 83 2 [(0, .inr (.inr (some 69))), (1, .inr (.inr (some 88))), (2, .inl (l2 + (1 : Int32)))] [] S12 Q)) (fun x S9 => Q (.inr x) S9)))) (fun x S9 => Q (.inr x) S9)))) (fun x S9 => Q (.inr x) S9))) else (ma_wp X d w 83 2 [(0, .inr (.inr (some 69))), (1, .inr (.inr (some 88))), (2, .inl (l2 + (1 : Int32)))] [] S Q))))))))))))))) : ma_wp X d w 83 2 [(0, .inr (.inr (some 69))), (1, .inr (.inr (some 88))), (2, .inl l2)] [] S Q := by
  refine zw_push hm_83 dX7_grantWishes_2 (v := .inl l2) rfl ?_
  refine zw_push hm_83 dX7_grantWishes_3 (v := .inr (.inr (some 69))) rfl ?_
  refine zw_gf hm_83 dX7_grantWishes_4 (v := .inl (mI S 69 6)) (zT_is hS s_69) (zT_t hS s_69) rfl f_7_40_7 rfl ?_
  refine zw_if2 hm_83 dX7_grantWishes_7 (t := 59) rfl zc2_ge ?_ ?_
  · intro hc
    rw [if_pos hc] at h
    exact zw_vret hm_83 dX7_grantWishes_59 h
  · intro hc
    rw [if_neg hc] at h
    refine zw_push hm_83 dX7_grantWishes_10 (v := .inr (.inr (some 69))) rfl ?_
    refine zw_push hm_83 dX7_grantWishes_11 (v := .inl l2) rfl ?_
    refine zw_cv hm_83 dX7_grantWishes_12 v_7_94_7 hm_81 [.inl l2] [] rfl (zT_rt hS s_69 rfl) ⟨by omega, by omega⟩ rfl ?_
    show ma_wp X (d - 1) (w - 21) 81 0 [(0, .inr (.inr (some 69))), (1, .inl l2)] [] S _
    refine zw_push hm_81 dX7_thingAt_0 (v := .inl l2) rfl ?_
    refine zw_if0 hm_81 dX7_thingAt_1 (t := 20) rfl zc0_lt ?_ ?_
    · intro hc
      rw [if_pos hc] at h
      refine zw_push hm_81 dX7_thingAt_20 (v := .inr (.inr none)) rfl ?_
      refine zw_aret hm_81 dX7_thingAt_21 ?_
      show ma_wp X d w 83 15 [(0, .inr (.inr (some 69))), (1, .inr (.inr (some 88))), (2, .inl l2)] [.inr (.inr none)] S _
      refine zw_sto hm_83 dX7_grantWishes_15 [(3, .inr (.inr none)), (0, .inr (.inr (some 69))), (1, .inr (.inr (some 88))), (2, .inl l2)] rfl rfl rfl ?_
      refine zw_push hm_83 dX7_grantWishes_16 (v := .inr (.inr none)) rfl ?_
      refine zw_ifnull hm_83 dX7_grantWishes_17 (t := 53) rfl (fun _ => ?_) (fun _ z => by cases z)
      refine zw_sto hm_83 dX7_grantWishes_53 [(2, .inl (l2 + (1 : Int32))), (3, .inr (.inr none)), (0, .inr (.inr (some 69))), (1, .inr (.inr (some 88)))] rfl rfl rfl ?_
      refine zw_goto hm_83 dX7_grantWishes_56 (t := 2) rfl ?_
      exact zw_sub (ma_nd_of (ks := [0, 1, 2]) rfl (by decide)) (ma_nd_of (ks := [2, 3, 0, 1]) rfl (by decide)) (ma_le_cons rfl (ma_le_cons rfl (ma_le_cons rfl (ma_le_nil _)))) h
    · intro hc
      rw [if_neg hc] at h
      refine zw_push hm_81 dX7_thingAt_4 (v := .inl l2) rfl ?_
      refine zw_push hm_81 dX7_thingAt_5 (v := .inl (512 : Int32)) rfl ?_
      refine zw_if2 hm_81 dX7_thingAt_8 (t := 20) rfl zc2_ge ?_ ?_
      · intro hc
        rw [if_pos hc] at h
        refine zw_push hm_81 dX7_thingAt_20 (v := .inr (.inr none)) rfl ?_
        refine zw_aret hm_81 dX7_thingAt_21 ?_
        show ma_wp X d w 83 15 [(0, .inr (.inr (some 69))), (1, .inr (.inr (some 88))), (2, .inl l2)] [.inr (.inr none)] S _
        refine zw_sto hm_83 dX7_grantWishes_15 [(3, .inr (.inr none)), (0, .inr (.inr (some 69))), (1, .inr (.inr (some 88))), (2, .inl l2)] rfl rfl rfl ?_
        refine zw_push hm_83 dX7_grantWishes_16 (v := .inr (.inr none)) rfl ?_
        refine zw_ifnull hm_83 dX7_grantWishes_17 (t := 53) rfl (fun _ => ?_) (fun _ z => by cases z)
        refine zw_sto hm_83 dX7_grantWishes_53 [(2, .inl (l2 + (1 : Int32))), (3, .inr (.inr none)), (0, .inr (.inr (some 69))), (1, .inr (.inr (some 88)))] rfl rfl rfl ?_
        refine zw_goto hm_83 dX7_grantWishes_56 (t := 2) rfl ?_
        exact zw_sub (ma_nd_of (ks := [0, 1, 2]) rfl (by decide)) (ma_nd_of (ks := [2, 3, 0, 1]) rfl (by decide)) (ma_le_cons rfl (ma_le_cons rfl (ma_le_cons rfl (ma_le_nil _)))) h
      · intro hc
        rw [if_neg hc] at h
        refine zw_push hm_81 dX7_thingAt_11 (v := .inr (.inr (some 69))) rfl ?_
        refine zw_gf hm_81 dX7_thingAt_12 (v := .inr (.inr (some 70))) (zT_is hS s_69) (zT_t hS s_69) rfl f_7_11_7 (zT_f hS r_69_0) ?_
        refine zw_push hm_81 dX7_thingAt_15 (v := .inl l2) rfl ?_
        obtain ⟨hg, h⟩ := h
        refine zw_aa hm_81 dX7_thingAt_16 (zT_is hS s_70) (zT_h hS s_70) rfl rfl hg rfl ?_
        show ma_wp X (d - 1) (w - 21) 81 17 [(0, .inr (.inr (some 69))), (1, .inl l2)] [.inr (.inr (mR S 70 l2.toNatClampNeg))] S _
        refine zw_goto hm_81 dX7_thingAt_17 (t := 21) rfl ?_
        refine zw_aret hm_81 dX7_thingAt_21 ?_
        show ma_wp X d w 83 15 [(0, .inr (.inr (some 69))), (1, .inr (.inr (some 88))), (2, .inl l2)] [.inr (.inr (mR S 70 l2.toNatClampNeg))] S _
        refine zw_sto hm_83 dX7_grantWishes_15 [(3, .inr (.inr (mR S 70 l2.toNatClampNeg))), (0, .inr (.inr (some 69))), (1, .inr (.inr (some 88))), (2, .inl l2)] rfl rfl rfl ?_
        refine zw_push hm_83 dX7_grantWishes_16 (v := .inr (.inr (mR S 70 l2.toNatClampNeg))) rfl ?_
        refine zw_ifnull hm_83 dX7_grantWishes_17 (t := 53) rfl ?_ ?_
        · intro hc
          have h := h.1 hc
          (try rw [hc])
          show ma_wp X d w 83 53 [(3, .inr (.inr none)), (0, .inr (.inr (some 69))), (1, .inr (.inr (some 88))), (2, .inl l2)] [] S _
          refine zw_sto hm_83 dX7_grantWishes_53 [(2, .inl (l2 + (1 : Int32))), (3, .inr (.inr none)), (0, .inr (.inr (some 69))), (1, .inr (.inr (some 88)))] rfl rfl rfl ?_
          refine zw_goto hm_83 dX7_grantWishes_56 (t := 2) rfl ?_
          exact zw_sub (ma_nd_of (ks := [0, 1, 2]) rfl (by decide)) (ma_nd_of (ks := [2, 3, 0, 1]) rfl (by decide)) (ma_le_cons rfl (ma_le_cons rfl (ma_le_cons rfl (ma_le_nil _)))) h
        · intro c1 hc
          have h := h.2 c1 hc
          (try rw [hc])
          show ma_wp X d w 83 20 [(3, .inr (.inr (some c1))), (0, .inr (.inr (some 69))), (1, .inr (.inr (some 88))), (2, .inl l2)] [] S _
          refine zw_push hm_83 dX7_grantWishes_20 (v := .inr (.inr (some c1))) rfl ?_
          obtain ⟨hg, h⟩ := h
          refine zw_gf hm_83 dX7_grantWishes_21 (v := .inl (mI S c1 8)) (zT_tis hS hg) (zT_tt hS hg) rfl f_7_108_9 rfl ?_
          refine zw_if0 hm_83 dX7_grantWishes_24 (t := 53) rfl zc0_eq ?_ ?_
          · intro hc
            rw [if_pos hc] at h
            refine zw_sto hm_83 dX7_grantWishes_53 [(2, .inl (l2 + (1 : Int32))), (3, .inr (.inr (some c1))), (0, .inr (.inr (some 69))), (1, .inr (.inr (some 88)))] rfl rfl rfl ?_
            refine zw_goto hm_83 dX7_grantWishes_56 (t := 2) rfl ?_
            exact zw_sub (ma_nd_of (ks := [0, 1, 2]) rfl (by decide)) (ma_nd_of (ks := [2, 3, 0, 1]) rfl (by decide)) (ma_le_cons rfl (ma_le_cons rfl (ma_le_cons rfl (ma_le_nil _)))) h
          · intro hc
            rw [if_neg hc] at h
            refine zw_push hm_83 dX7_grantWishes_27 (v := .inr (.inr (some 88))) rfl ?_
            refine zw_push hm_83 dX7_grantWishes_28 (v := .inr (.inr (some c1))) rfl ?_
            refine zw_cv hm_83 dX7_grantWishes_29 v_7_128_10 hm_122 [.inr (.inr (some c1))] [] rfl (zT_rt hS s_88 rfl) ⟨by omega, by omega⟩ rfl ?_
            show ma_wp X (d - 1) (w - 21) 122 0 [(0, .inr (.inr (some 88))), (1, .inr (.inr (some c1)))] [] S _
            refine zw_push hm_122 dX10_keeps_0 (v := .inr (.inr (some c1))) rfl ?_
            obtain ⟨hg, h⟩ := h
            refine zw_gf hm_122 dX10_keeps_1 (v := .inl (mI S c1 4)) (zT_tis hS hg) (zT_tt hS hg) rfl f_10_49_9 rfl ?_
            refine zw_push hm_122 dX10_keeps_4 (v := .inr (.inr (some 88))) rfl ?_
            refine zw_gf hm_122 dX10_keeps_5 (v := .inl (mI S 88 5)) (zT_is hS s_88) (zT_t hS s_88) rfl f_10_35_10 rfl ?_
            refine zw_if2 hm_122 dX10_keeps_8 (t := 19) rfl zc2_lt ?_ ?_
            · intro hc
              rw [if_pos hc] at h
              refine zw_push hm_122 dX10_keeps_19 (v := .inl (1 : Int32)) rfl ?_
              refine zw_goto hm_122 dX10_keeps_20 (t := 24) rfl ?_
              refine zw_bret hm_122 dX10_keeps_24 (by decide) ?_
              show ma_wp X d w 83 32 [(3, .inr (.inr (some c1))), (0, .inr (.inr (some 69))), (1, .inr (.inr (some 88))), (2, .inl l2)] [.inl (1 : Int32)] S _
              refine zw_if0 hm_83 dX7_grantWishes_32 (t := 53) rfl zc0_ne (fun _ => ?_) (fun hc => absurd (by decide) hc)
              refine zw_sto hm_83 dX7_grantWishes_53 [(2, .inl (l2 + (1 : Int32))), (3, .inr (.inr (some c1))), (0, .inr (.inr (some 69))), (1, .inr (.inr (some 88)))] rfl rfl rfl ?_
              refine zw_goto hm_83 dX7_grantWishes_56 (t := 2) rfl ?_
              exact zw_sub (ma_nd_of (ks := [0, 1, 2]) rfl (by decide)) (ma_nd_of (ks := [2, 3, 0, 1]) rfl (by decide)) (ma_le_cons rfl (ma_le_cons rfl (ma_le_cons rfl (ma_le_nil _)))) h
            · intro hc
              rw [if_neg hc] at h
              refine zw_push hm_122 dX10_keeps_11 (v := .inr (.inr (some 88))) rfl ?_
              refine zw_push hm_122 dX10_keeps_12 (v := .inr (.inr (some c1))) rfl ?_
              refine zw_cv hm_122 dX10_keeps_13 v_10_54_10 hm_123 [.inr (.inr (some c1))] [] rfl (zT_rt hS s_88 rfl) ⟨by omega, by omega⟩ rfl ?_
              show ma_wp X ((d - 1) - 1) ((w - 21) - 21) 123 0 [(0, .inr (.inr (some 88))), (1, .inr (.inr (some c1)))] [] S _
              refine zw_push hm_123 dX10_colourOf_0 (v := .inr (.inr (some c1))) rfl ?_
              obtain ⟨hg, h⟩ := h
              refine zw_gf hm_123 dX10_colourOf_1 (v := .inl (mI S c1 0)) (zT_tis hS hg) (zT_tt hS hg) rfl f_10_58_9 rfl ?_
              refine zw_push hm_123 dX10_colourOf_4 (v := .inl (512 : Int32)) rfl ?_
              refine zw_if2 hm_123 dX10_colourOf_7 (t := 22) rfl zc2_ge ?_ ?_
              · intro hc
                rw [if_pos hc] at h
                refine zw_push hm_123 dX10_colourOf_22 (v := .inl (0 : Int32)) rfl ?_
                refine zw_iret hm_123 dX10_colourOf_23 ?_
                show ma_wp X (d - 1) (w - 21) 122 16 [(0, .inr (.inr (some 88))), (1, .inr (.inr (some c1)))] [.inl (0 : Int32)] S _
                refine zw_if0 hm_122 dX10_keeps_16 (t := 23) rfl zc0_eq (fun _ => ?_) (fun hc => absurd (by decide) hc)
                refine zw_push hm_122 dX10_keeps_23 (v := .inl (0 : Int32)) rfl ?_
                refine zw_bret hm_122 dX10_keeps_24 (by decide) ?_
                show ma_wp X d w 83 32 [(3, .inr (.inr (some c1))), (0, .inr (.inr (some 69))), (1, .inr (.inr (some 88))), (2, .inl l2)] [.inl (0 : Int32)] S _
                refine zw_if0 hm_83 dX7_grantWishes_32 (t := 53) rfl zc0_ne (fun hc => absurd hc (by decide)) (fun _ => ?_)
                refine zw_push hm_83 dX7_grantWishes_35 (v := .inr (.inr (some 69))) rfl ?_
                refine zw_push hm_83 dX7_grantWishes_36 (v := .inr (.inr (some c1))) rfl ?_
                refine zw_cv hm_83 dX7_grantWishes_37 v_7_134_7 hm_84 [.inr (.inr (some c1))] [] rfl (zT_rt hS s_69 rfl) ⟨by omega, by omega⟩ rfl (zw_mono h (zv_go ?_ ?_))
                · intro S2 hv
                  obtain ⟨hS2, h⟩ := hv
                  refine zw_push hm_83 dX7_grantWishes_40 (v := .inr (.inr (some 88))) rfl ?_
                  refine zw_push hm_83 dX7_grantWishes_41 (v := .inr (.inr (some c1))) rfl ?_
                  refine zw_cv hm_83 dX7_grantWishes_42 v_7_137_10 hm_119 [.inr (.inr (some c1))] [] rfl (zT_rt hS2 s_88 rfl) ⟨by omega, by omega⟩ rfl (zw_mono h (zv_go ?_ ?_))
                  · intro S4 hv
                    obtain ⟨hS4, h⟩ := hv
                    refine zw_push hm_83 dX7_grantWishes_45 (v := .inr (.inr (some 88))) rfl ?_
                    refine zw_push hm_83 dX7_grantWishes_46 (v := .inl (512 : Int32)) rfl ?_
                    refine zw_cv hm_83 dX7_grantWishes_49 v_7_140_10 hm_120 [.inl (512 : Int32)] [] rfl (zT_rt hS4 s_88 rfl) ⟨by omega, by omega⟩ rfl (zw_mono h (zi_go ?_ ?_))
                    · intro v7 S6 hv
                      obtain ⟨hS6, h⟩ := hv
                      refine zw_stk hm_83 dX7_grantWishes_52 (st₉ := []) rfl rfl ?_
                      refine zw_sto hm_83 dX7_grantWishes_53 [(2, .inl (l2 + (1 : Int32))), (3, .inr (.inr (some c1))), (0, .inr (.inr (some 69))), (1, .inr (.inr (some 88)))] rfl rfl rfl ?_
                      refine zw_goto hm_83 dX7_grantWishes_56 (t := 2) rfl ?_
                      exact zw_sub (ma_nd_of (ks := [0, 1, 2]) rfl (by decide)) (ma_nd_of (ks := [2, 3, 0, 1]) rfl (by decide)) (ma_le_cons rfl (ma_le_cons rfl (ma_le_cons rfl (ma_le_nil _)))) h
                    · intro x S9 hx
                      exact ⟨by decide, hx⟩
                  · intro x S9 hx
                    exact ⟨by decide, hx⟩
                · intro x S9 hx
                  exact ⟨by decide, hx⟩
              · intro hc
                rw [if_neg hc] at h
                refine zw_push hm_123 dX10_colourOf_10 (v := .inr (.inr (some 88))) rfl ?_
                refine zw_gf hm_123 dX10_colourOf_11 (v := .inr (.inr (some 90))) (zT_is hS s_88) (zT_t hS s_88) rfl f_10_15_10 (zT_f hS r_88_2) ?_
                refine zw_push hm_123 dX10_colourOf_14 (v := .inr (.inr (some c1))) rfl ?_
                obtain ⟨hg, h⟩ := h
                refine zw_gf hm_123 dX10_colourOf_15 (v := .inl (mI S c1 0)) (zT_tis hS hg) (zT_tt hS hg) rfl f_10_58_9 rfl ?_
                obtain ⟨hg, h⟩ := h
                refine zw_ia hm_123 dX10_colourOf_18 (zT_is hS s_90) (zT_h hS s_90) rfl hg ?_
                show ma_wp X ((d - 1) - 1) ((w - 21) - 21) 123 19 [(0, .inr (.inr (some 88))), (1, .inr (.inr (some c1)))] [.inl (mI S 90 (mI S c1 0).toNatClampNeg)] S _
                refine zw_goto hm_123 dX10_colourOf_19 (t := 23) rfl ?_
                refine zw_iret hm_123 dX10_colourOf_23 ?_
                show ma_wp X (d - 1) (w - 21) 122 16 [(0, .inr (.inr (some 88))), (1, .inr (.inr (some c1)))] [.inl (mI S 90 (mI S c1 0).toNatClampNeg)] S _
                refine zw_if0 hm_122 dX10_keeps_16 (t := 23) rfl zc0_eq ?_ ?_
                · intro hc
                  rw [if_pos hc] at h
                  refine zw_push hm_122 dX10_keeps_23 (v := .inl (0 : Int32)) rfl ?_
                  refine zw_bret hm_122 dX10_keeps_24 (by decide) ?_
                  show ma_wp X d w 83 32 [(3, .inr (.inr (some c1))), (0, .inr (.inr (some 69))), (1, .inr (.inr (some 88))), (2, .inl l2)] [.inl (0 : Int32)] S _
                  refine zw_if0 hm_83 dX7_grantWishes_32 (t := 53) rfl zc0_ne (fun hc => absurd hc (by decide)) (fun _ => ?_)
                  refine zw_push hm_83 dX7_grantWishes_35 (v := .inr (.inr (some 69))) rfl ?_
                  refine zw_push hm_83 dX7_grantWishes_36 (v := .inr (.inr (some c1))) rfl ?_
                  refine zw_cv hm_83 dX7_grantWishes_37 v_7_134_7 hm_84 [.inr (.inr (some c1))] [] rfl (zT_rt hS s_69 rfl) ⟨by omega, by omega⟩ rfl (zw_mono h (zv_go ?_ ?_))
                  · intro S8 hv
                    obtain ⟨hS8, h⟩ := hv
                    refine zw_push hm_83 dX7_grantWishes_40 (v := .inr (.inr (some 88))) rfl ?_
                    refine zw_push hm_83 dX7_grantWishes_41 (v := .inr (.inr (some c1))) rfl ?_
                    refine zw_cv hm_83 dX7_grantWishes_42 v_7_137_10 hm_119 [.inr (.inr (some c1))] [] rfl (zT_rt hS8 s_88 rfl) ⟨by omega, by omega⟩ rfl (zw_mono h (zv_go ?_ ?_))
                    · intro S10 hv
                      obtain ⟨hS10, h⟩ := hv
                      refine zw_push hm_83 dX7_grantWishes_45 (v := .inr (.inr (some 88))) rfl ?_
                      refine zw_push hm_83 dX7_grantWishes_46 (v := .inl (512 : Int32)) rfl ?_
                      refine zw_cv hm_83 dX7_grantWishes_49 v_7_140_10 hm_120 [.inl (512 : Int32)] [] rfl (zT_rt hS10 s_88 rfl) ⟨by omega, by omega⟩ rfl (zw_mono h (zi_go ?_ ?_))
                      · intro v13 S12 hv
                        obtain ⟨hS12, h⟩ := hv
                        refine zw_stk hm_83 dX7_grantWishes_52 (st₉ := []) rfl rfl ?_
                        refine zw_sto hm_83 dX7_grantWishes_53 [(2, .inl (l2 + (1 : Int32))), (3, .inr (.inr (some c1))), (0, .inr (.inr (some 69))), (1, .inr (.inr (some 88)))] rfl rfl rfl ?_
                        refine zw_goto hm_83 dX7_grantWishes_56 (t := 2) rfl ?_
                        exact zw_sub (ma_nd_of (ks := [0, 1, 2]) rfl (by decide)) (ma_nd_of (ks := [2, 3, 0, 1]) rfl (by decide)) (ma_le_cons rfl (ma_le_cons rfl (ma_le_cons rfl (ma_le_nil _)))) h
                      · intro x S9 hx
                        exact ⟨by decide, hx⟩
                    · intro x S9 hx
                      exact ⟨by decide, hx⟩
                  · intro x S9 hx
                    exact ⟨by decide, hx⟩
                · intro hc
                  rw [if_neg hc] at h
                  refine zw_push hm_122 dX10_keeps_19 (v := .inl (1 : Int32)) rfl ?_
                  refine zw_goto hm_122 dX10_keeps_20 (t := 24) rfl ?_
                  refine zw_bret hm_122 dX10_keeps_24 (by decide) ?_
                  show ma_wp X d w 83 32 [(3, .inr (.inr (some c1))), (0, .inr (.inr (some 69))), (1, .inr (.inr (some 88))), (2, .inl l2)] [.inl (1 : Int32)] S _
                  refine zw_if0 hm_83 dX7_grantWishes_32 (t := 53) rfl zc0_ne (fun _ => ?_) (fun hc => absurd (by decide) hc)
                  refine zw_sto hm_83 dX7_grantWishes_53 [(2, .inl (l2 + (1 : Int32))), (3, .inr (.inr (some c1))), (0, .inr (.inr (some 69))), (1, .inr (.inr (some 88)))] rfl rfl rfl ?_
                  refine zw_goto hm_83 dX7_grantWishes_56 (t := 2) rfl ?_
                  exact zw_sub (ma_nd_of (ks := [0, 1, 2]) rfl (by decide)) (ma_nd_of (ks := [2, 3, 0, 1]) rfl (by decide)) (ma_le_cons rfl (ma_le_cons rfl (ma_le_cons rfl (ma_le_nil _)))) h
theorem lp_83_69_88_s_2 {X : Nat × (Nat → Int32)} {d w : Nat} {f : Nat → Nat → Int32} {r : Nat → Nat → Option Nat} {C Z N : Nat} {Q : Option ma_V ⊕ Nat → ma_S → Prop} {ab : Nat→Nat→Int32} {R : zRT} (hd : 2 ≤ d) (hw : 49 ≤ w) (K : ∀ S₉, zI f r C Z N S₉ → (xB S₉ R) → (aS 88 S₉ = aGw ab 0) → Q (.inl none) S₉) : ∀ (n : Nat) (S : ma_S) (l2 : Int32), (512 - l2.toInt).toNat = n → zI f r C Z N S → (0 ≤ l2.toInt) → (xB S R) → (aGw (aS 88 S) l2 = aGw ab 0) → ma_wp X d w 83 2 [(0, .inr (.inr (some 69))), (1, .inr (.inr (some 88))), (2, .inl l2)] [] S Q := by
  intro n
  induction n using Nat.strongRecOn with
  | _ n IH =>
    intro S l2 hmu hI  hi0 hi1 hi2
    refine g_83_69_88_s_2 l2 (by omega) (by omega) (zG_T hI) ?_
    have r6 := congrArg Int32.toInt (aS_I (W := 88) (S := S) (c := 69) (c₉ := 69) (k := 6) rfl rfl)
    have f1 := zG_s hI (0) (512) (c := 69) (k := 6) (by decide)
    have b2 := i_bd l2
    refine zd (fun h3 => ?_) (fun h3 => ?_)
    · skip
      have g4 := i_le h3
      exact K _ hI (show xB S R from by first | (exact (xC_o (W := 75) hi1).2)) (show aS 88 S = aGw ab 0 from by first | (exact (aGw_st (by omega)).symm.trans hi2))
    · skip
      have g5 := i_nle h3
      have li6 : (0 : Int32).toInt = 0 := rfl
      refine zd (fun h7 => ?_) (fun h7 => ?_)
      · skip
        have g8 := i_lt h7
        first | have e9 : (l2 + (1 : Int32)).toInt = l2.toInt + (1) := i_addk rfl (by omega) (by omega) | have b10 := i_bd (l2 + (1 : Int32))
        exact IH _ (by omega) _ ((l2 + (1 : Int32))) rfl hI (by omega) (show xB S R from by first | (exact (xC_o (W := 75) hi1).2)) (show aGw (aS 88 S) ((l2 + (1 : Int32))) = aGw ab 0 from by first | (exfalso; omega) | (exact (aGw_n (by omega) (fun z => by omega)).symm.trans hi2))
      · skip
        have g11 := i_nlt h7
        have li12 : (512 : Int32).toInt = 512 := rfl
        refine zd (fun h13 => ?_) (fun h13 => ?_)
        · skip
          have g14 := i_le h13
          first | have e15 : (l2 + (1 : Int32)).toInt = l2.toInt + (1) := i_addk rfl (by omega) (by omega) | have b16 := i_bd (l2 + (1 : Int32))
          exact IH _ (by omega) _ ((l2 + (1 : Int32))) rfl hI (by omega) (show xB S R from by first | (exact (xC_o (W := 75) hi1).2)) (show aGw (aS 88 S) ((l2 + (1 : Int32))) = aGw ab 0 from by first | (exfalso; omega) | (exact (aGw_n (by omega) (fun z => by omega)).symm.trans hi2))
        · skip
          have g17 := i_nle h13
          refine ⟨i_ix (by omega) (by omega), ?_⟩
          refine ⟨fun hc => ?_, fun c1 hc => ?_⟩
          · skip
            have rn_c1 : zTa R l2 = none := (ta_rd (y := l2) hi1 (by omega) (by omega)).symm.trans hc
            first | have e18 : (l2 + (1 : Int32)).toInt = l2.toInt + (1) := i_addk rfl (by omega) (by omega) | have b19 := i_bd (l2 + (1 : Int32))
            exact IH _ (by omega) _ ((l2 + (1 : Int32))) rfl hI (by omega) (show xB S R from by first | (exact (xC_o (W := 75) hi1).2)) (show aGw (aS 88 S) ((l2 + (1 : Int32))) = aGw ab 0 from by first | (exfalso; omega) | (exact (aGw_n (by omega) (fun z => xB_nt (W := 88) hi1 rn_c1 ⟨z.1, z.2.1, z.2.2.1⟩)).symm.trans hi2))
          · skip
            have th_c1 := (fun _ z => zG_70 hI (c := 70) (by decide) z) c1 hc
            have rg_c1 : zTa R l2 = some c1 := (ta_rd (y := l2) hi1 (by omega) (by omega)).symm.trans hc
            refine ⟨zG_n hI th_c1, ?_⟩
            have b20 := i_bd (mI S c1 8)
            refine zd (fun h21 => ?_) (fun h21 => ?_)
            · skip
              have g22 := i_eq h21
              first | have e23 : (l2 + (1 : Int32)).toInt = l2.toInt + (1) := i_addk rfl (by omega) (by omega) | have b24 := i_bd (l2 + (1 : Int32))
              exact IH _ (by omega) _ ((l2 + (1 : Int32))) rfl hI (by omega) (show xB S R from by first | (exact (xC_o (W := 75) hi1).2)) (show aGw (aS 88 S) ((l2 + (1 : Int32))) = aGw ab 0 from by first | (exfalso; omega) | (have ty := xB_th (W := 88) hi1 rg_c1; have e4 := congrArg Int32.toInt ty.2.2.2.2.2.1; refine (aGw_n (by omega) (fun z => ?_)).symm.trans hi2; have z1 : mI S c1 8 ≠ 0 := (by rw [ty.2.2.2.2.2.2.2.1]; exact z.2.2.2.1); have z4 : (mI S 88 5).toInt ≤ (mI S c1 4).toInt := (by rw [e4]; exact z.2.2.2.2.1); have z6 : (mI S 90 (mI S c1 0).toNatClampNeg).toInt = 0 := (by rw [ty.2.2.1]; exact congrArg Int32.toInt z.2.2.2.2.2); first | omega | exact z1 (by assumption)))
            · skip
              have g25 := i_ne h21
              refine ⟨zG_n hI th_c1, ?_⟩
              have f26 := zG_th hI th_c1
              have b27 := i_bd (mI S 88 5)
              refine zd (fun h28 => ?_) (fun h28 => ?_)
              · skip
                have g29 := i_lt h28
                first | have e30 : (l2 + (1 : Int32)).toInt = l2.toInt + (1) := i_addk rfl (by omega) (by omega) | have b31 := i_bd (l2 + (1 : Int32))
                exact IH _ (by omega) _ ((l2 + (1 : Int32))) rfl hI (by omega) (show xB S R from by first | (exact (xC_o (W := 75) hi1).2)) (show aGw (aS 88 S) ((l2 + (1 : Int32))) = aGw ab 0 from by first | (exfalso; omega) | (have ty := xB_th (W := 88) hi1 rg_c1; have e4 := congrArg Int32.toInt ty.2.2.2.2.2.1; refine (aGw_n (by omega) (fun z => ?_)).symm.trans hi2; have z1 : mI S c1 8 ≠ 0 := (by rw [ty.2.2.2.2.2.2.2.1]; exact z.2.2.2.1); have z4 : (mI S 88 5).toInt ≤ (mI S c1 4).toInt := (by rw [e4]; exact z.2.2.2.2.1); have z6 : (mI S 90 (mI S c1 0).toNatClampNeg).toInt = 0 := (by rw [ty.2.2.1]; exact congrArg Int32.toInt z.2.2.2.2.2); first | omega | exact z1 (by assumption)))
              · skip
                have g32 := i_nlt h28
                refine ⟨zG_n hI th_c1, ?_⟩
                have f33 := zG_th hI th_c1
                refine zd (fun h34 => ?_) (fun h34 => ?_)
                · skip
                  have g35 := i_le h34
                  refine sp_84_69_s (ab := (aS 88 S)) (R := R) (W := 88) (y := l2) c1 (by omega) (by omega) hI th_c1 (show xB S R from by first | (exact (xC_o (W := 75) hi1).2)) (show aS 88 S = (aS 88 S) from by first | (exact rfl)) (show xW 88 from by first | (exact xW88)) (show zTa R l2 = some c1 from by first | (exact rg_c1)) (fun S2 hI_S2 rp0_S2 rp1_S2 => zv_n ⟨zG_T hI_S2, ?_⟩)
                  have rp0_S2 : xB S2 R := rp0_S2
                  have rp1_S2 : aS 88 S2 = aGr (aS 88 S) l2 := rp1_S2
                  refine sp_119_88_s (ab := (aS 88 S2)) (R := R) (y := (l2)) ((some c1)) (by omega) (by omega) hI_S2 (fun _ z => by cases z; exact th_c1) (show xB S2 R from by first | (exact (xC_o (W := 75) rp0_S2).2)) (show aS 88 S2 = (aS 88 S2) from by first | (exact rfl)) (show (some c1) = zTa R (l2) from by first | (exact rg_c1.symm)) (fun S4 hI_S4 rp0_S4 rp1_S4 => zv_n ⟨zG_T hI_S4, ?_⟩)
                  have rp0_S4 : xB S4 R := rp0_S4
                  have rp1_S4 : aS 88 S4 = aCm (aS 88 S2) (l2) := rp1_S4
                  refine sp_120_88_s (ab := (aS 88 S4)) (R := R) ((512 : Int32)) (by omega) (by omega) hI_S4 (show xB S4 R from by first | (exact (xC_o (W := 75) rp0_S4).2)) (show aS 88 S4 = (aS 88 S4) from by first | (exact rfl)) (by omega) (fun v7 S6 hI_S6 hp_v7 rp0_S6 rp1_S6 => zi_n ⟨zG_T hI_S6, ?_⟩)
                  have rp0_S6 : xB S6 R := rp0_S6
                  have rp1_S6 : aS 88 S6 = aSp (512 : Int32).toInt.toNat (aS 88 S4) ∧ v7.toInt = (aSn (512 : Int32).toInt.toNat (aS 88 S4) : Int) := rp1_S6
                  first | have e36 : (l2 + (1 : Int32)).toInt = l2.toInt + (1) := i_addk rfl (by omega) (by omega) | have b37 := i_bd (l2 + (1 : Int32))
                  exact IH _ (by omega) _ ((l2 + (1 : Int32))) rfl hI_S6 (by omega) (show xB S6 R from by first | (exact (xC_o (W := 75) rp0_S6).2)) (show aGw (aS 88 S6) ((l2 + (1 : Int32))) = aGw ab 0 from by first | (exfalso; omega) | (have ty := xB_th (W := 88) hi1 rg_c1; have e4 := congrArg Int32.toInt ty.2.2.2.2.2.1; have e8 := congrArg Int32.toInt ty.2.2.2.2.2.2.2.1; rw [rp1_S6.1, show (512 : Int32).toInt.toNat = 512 from rfl, rp1_S4, rp1_S2]; refine (aGw_y (by omega) ⟨ty.1, ty.2.1, (by rw [ty.2.2.2.2.2.2.2.2]; decide), (fun z => ?_), ?_, ?_⟩).symm.trans hi2; (rw [← ty.2.2.2.2.2.2.2.1] at z; have z2 := congrArg Int32.toInt z; omega); (show (mI S 88 5).toInt ≤ _; rw [← e4]; omega); (show mI S 90 _ = 0; rw [← ty.2.2.1]; assumption)))
                · skip
                  have g38 := i_nle h34
                  refine ⟨zG_n hI th_c1, ?_⟩
                  refine ⟨i_ix (by omega) (by omega), ?_⟩
                  have b39 := i_bd (mI S 90 (mI S c1 0).toNatClampNeg)
                  refine zd (fun h40 => ?_) (fun h40 => ?_)
                  · skip
                    have g41 := i_eq h40
                    refine sp_84_69_s (ab := (aS 88 S)) (R := R) (W := 88) (y := l2) c1 (by omega) (by omega) hI th_c1 (show xB S R from by first | (exact (xC_o (W := 75) hi1).2)) (show aS 88 S = (aS 88 S) from by first | (exact rfl)) (show xW 88 from by first | (exact xW88)) (show zTa R l2 = some c1 from by first | (exact rg_c1)) (fun S8 hI_S8 rp0_S8 rp1_S8 => zv_n ⟨zG_T hI_S8, ?_⟩)
                    have rp0_S8 : xB S8 R := rp0_S8
                    have rp1_S8 : aS 88 S8 = aGr (aS 88 S) l2 := rp1_S8
                    refine sp_119_88_s (ab := (aS 88 S8)) (R := R) (y := (l2)) ((some c1)) (by omega) (by omega) hI_S8 (fun _ z => by cases z; exact th_c1) (show xB S8 R from by first | (exact (xC_o (W := 75) rp0_S8).2)) (show aS 88 S8 = (aS 88 S8) from by first | (exact rfl)) (show (some c1) = zTa R (l2) from by first | (exact rg_c1.symm)) (fun S10 hI_S10 rp0_S10 rp1_S10 => zv_n ⟨zG_T hI_S10, ?_⟩)
                    have rp0_S10 : xB S10 R := rp0_S10
                    have rp1_S10 : aS 88 S10 = aCm (aS 88 S8) (l2) := rp1_S10
                    refine sp_120_88_s (ab := (aS 88 S10)) (R := R) ((512 : Int32)) (by omega) (by omega) hI_S10 (show xB S10 R from by first | (exact (xC_o (W := 75) rp0_S10).2)) (show aS 88 S10 = (aS 88 S10) from by first | (exact rfl)) (by omega) (fun v13 S12 hI_S12 hp_v13 rp0_S12 rp1_S12 => zi_n ⟨zG_T hI_S12, ?_⟩)
                    have rp0_S12 : xB S12 R := rp0_S12
                    have rp1_S12 : aS 88 S12 = aSp (512 : Int32).toInt.toNat (aS 88 S10) ∧ v13.toInt = (aSn (512 : Int32).toInt.toNat (aS 88 S10) : Int) := rp1_S12
                    first | have e42 : (l2 + (1 : Int32)).toInt = l2.toInt + (1) := i_addk rfl (by omega) (by omega) | have b43 := i_bd (l2 + (1 : Int32))
                    exact IH _ (by omega) _ ((l2 + (1 : Int32))) rfl hI_S12 (by omega) (show xB S12 R from by first | (exact (xC_o (W := 75) rp0_S12).2)) (show aGw (aS 88 S12) ((l2 + (1 : Int32))) = aGw ab 0 from by first | (exfalso; omega) | (have ty := xB_th (W := 88) hi1 rg_c1; have e4 := congrArg Int32.toInt ty.2.2.2.2.2.1; have e8 := congrArg Int32.toInt ty.2.2.2.2.2.2.2.1; rw [rp1_S12.1, show (512 : Int32).toInt.toNat = 512 from rfl, rp1_S10, rp1_S8]; refine (aGw_y (by omega) ⟨ty.1, ty.2.1, (by rw [ty.2.2.2.2.2.2.2.2]; decide), (fun z => ?_), ?_, ?_⟩).symm.trans hi2; (rw [← ty.2.2.2.2.2.2.2.1] at z; have z2 := congrArg Int32.toInt z; omega); (show (mI S 88 5).toInt ≤ _; rw [← e4]; omega); (show mI S 90 _ = 0; rw [← ty.2.2.1]; assumption)))
                  · skip
                    have g44 := i_ne h40
                    first | have e45 : (l2 + (1 : Int32)).toInt = l2.toInt + (1) := i_addk rfl (by omega) (by omega) | have b46 := i_bd (l2 + (1 : Int32))
                    exact IH _ (by omega) _ ((l2 + (1 : Int32))) rfl hI (by omega) (show xB S R from by first | (exact (xC_o (W := 75) hi1).2)) (show aGw (aS 88 S) ((l2 + (1 : Int32))) = aGw ab 0 from by first | (exfalso; omega) | (have ty := xB_th (W := 88) hi1 rg_c1; have e4 := congrArg Int32.toInt ty.2.2.2.2.2.1; refine (aGw_n (by omega) (fun z => ?_)).symm.trans hi2; have z1 : mI S c1 8 ≠ 0 := (by rw [ty.2.2.2.2.2.2.2.1]; exact z.2.2.2.1); have z4 : (mI S 88 5).toInt ≤ (mI S c1 4).toInt := (by rw [e4]; exact z.2.2.2.2.1); have z6 : (mI S 90 (mI S c1 0).toNatClampNeg).toInt = 0 := (by rw [ty.2.2.1]; exact congrArg Int32.toInt z.2.2.2.2.2); first | omega | exact z1 (by assumption)))
theorem sp_83_69_88_s {X : Nat × (Nat → Int32)} {d w : Nat} {f : Nat → Nat → Int32} {r : Nat → Nat → Option Nat} {C Z N : Nat} {Q : Option ma_V ⊕ Nat → ma_S → Prop} {ab : Nat→Nat→Int32} {R : zRT} {S : ma_S}  (hd : 2 ≤ d) (hw : 49 ≤ w) (hI : zI f r C Z N S) (hpre0 : xB S R) (hpre1 : aS 88 S = ab) (K : ∀ S₉, zI f r C Z N S₉ → (xB S₉ R) → (aS 88 S₉ = aGw ab 0) → Q (.inl none) S₉) : ma_wp X d w 83 0 [(0, .inr (.inr (some 69))), (1, .inr (.inr (some 88)))] [] S Q := by
  refine g_83_69_88_s_0  (by omega) (by omega) (zG_T hI) ?_
  have li1 : (0 : Int32).toInt = 0 := rfl
  exact lp_83_69_88_s_2 (by omega) (by omega) K _ _ ((0 : Int32)) rfl hI (by omega) (show xB S R from by first | (exact (xC_o (W := 75) hpre0).2)) (show aGw (aS 88 S) ((0 : Int32)) = aGw ab 0 from by first | (rw [hpre1]) | (exfalso; omega))

/-! from 95.g10 -/
/-! the heap by numbers, the class (written by wip/tools/gen18.py) -/
theorem g_88_69_s_0 {X : Nat × (Nat → Int32)} {d w : Nat} {S : ma_S} {Q : Option ma_V ⊕ Nat → ma_S → Prop} (x : Int32) (z : Int32) (hd : 0 ≤ d) (hw : 0 ≤ w) (hS : zT S) (h : ma_wp X d w 88 2 [(0, .inr (.inr (some 69))), (2, .inl z), (3, .inl x)] [] S Q) : ma_wp X d w 88 0 [(0, .inr (.inr (some 69))), (1, .inl x), (2, .inl z)] [] S Q := by
  refine zw_push hm_88 dX7_freeWords_0 (v := .inl x) rfl ?_
  refine zw_sto hm_88 dX7_freeWords_1 [(3, .inl x), (0, .inr (.inr (some 69))), (1, .inl x), (2, .inl z)] rfl rfl rfl ?_
  exact zw_sub (ma_nd_of (ks := [0, 2, 3]) rfl (by decide)) (ma_nd_of (ks := [3, 0, 1, 2]) rfl (by decide)) (ma_le_cons rfl (ma_le_cons rfl (ma_le_cons rfl (ma_le_nil _)))) h
theorem g_88_69_s_2 {X : Nat × (Nat → Int32)} {d w : Nat} {S : ma_S} {Q : Option ma_V ⊕ Nat → ma_S → Prop} (l2 : Int32) (l3 : Int32) (hd : 0 ≤ d) (hw : 0 ≤ w) (hS : zT S) (h : if l3 < 0 then (Q (.inl none) S) else (if l2 ≤ l3 then (Q (.inl none) S) else (if (4500 : Int32) ≤ l3 then (Q (.inl none) S) else ((0 ≤ l3 ∧ l3.toNatClampNeg < 4500) ∧ (ma_wp X d w 88 2 [(0, .inr (.inr (some 69))), (2, .inl l2), (3, .inl (l3 + (1 : Int32)))] [] (ma_put S 71 l3.toNatClampNeg (.inl (-1 : Int32))) Q))))) : ma_wp X d w 88 2 [(0, .inr (.inr (some 69))), (2, .inl l2), (3, .inl l3)] [] S Q := by
  refine zw_push hm_88 dX7_freeWords_2 (v := .inl l3) rfl ?_
  refine zw_if0 hm_88 dX7_freeWords_3 (t := 31) rfl zc0_lt ?_ ?_
  · intro hc
    rw [if_pos hc] at h
    exact zw_vret hm_88 dX7_freeWords_31 h
  · intro hc
    rw [if_neg hc] at h
    refine zw_push hm_88 dX7_freeWords_6 (v := .inl l3) rfl ?_
    refine zw_push hm_88 dX7_freeWords_7 (v := .inl l2) rfl ?_
    refine zw_if2 hm_88 dX7_freeWords_8 (t := 31) rfl zc2_ge ?_ ?_
    · intro hc
      rw [if_pos hc] at h
      exact zw_vret hm_88 dX7_freeWords_31 h
    · intro hc
      rw [if_neg hc] at h
      refine zw_push hm_88 dX7_freeWords_11 (v := .inl l3) rfl ?_
      refine zw_push hm_88 dX7_freeWords_12 (v := .inl (4500 : Int32)) rfl ?_
      refine zw_if2 hm_88 dX7_freeWords_15 (t := 31) rfl zc2_ge ?_ ?_
      · intro hc
        rw [if_pos hc] at h
        exact zw_vret hm_88 dX7_freeWords_31 h
      · intro hc
        rw [if_neg hc] at h
        refine zw_push hm_88 dX7_freeWords_18 (v := .inr (.inr (some 69))) rfl ?_
        refine zw_gf hm_88 dX7_freeWords_19 (v := .inr (.inr (some 71))) (zT_is hS s_69) (zT_t hS s_69) rfl f_7_17_7 (zT_f hS r_69_1) ?_
        refine zw_push hm_88 dX7_freeWords_22 (v := .inl l3) rfl ?_
        refine zw_push hm_88 dX7_freeWords_23 (v := .inl (-1 : Int32)) rfl ?_
        obtain ⟨hg, h⟩ := h
        refine zw_ias hm_88 dX7_freeWords_24 (zT_is hS s_71) (zT_h hS s_71) rfl hg ?_
        refine zw_sto hm_88 dX7_freeWords_25 [(3, .inl (l3 + (1 : Int32))), (0, .inr (.inr (some 69))), (2, .inl l2)] rfl rfl rfl ?_
        refine zw_goto hm_88 dX7_freeWords_28 (t := 2) rfl ?_
        exact zw_sub (ma_nd_of (ks := [0, 2, 3]) rfl (by decide)) (ma_nd_of (ks := [3, 0, 2]) rfl (by decide)) (ma_le_cons rfl (ma_le_cons rfl (ma_le_cons rfl (ma_le_nil _)))) h
theorem lp_88_69_s_2 {X : Nat × (Nat → Int32)} {d w : Nat} {f : Nat → Nat → Int32} {r : Nat → Nat → Option Nat} {C Z N : Nat} {Q : Option ma_V ⊕ Nat → ma_S → Prop} {ab : Nat→Nat→Int32} {R : zRT} {W : Nat} {x : Int32} {z : Int32} (hd : 0 ≤ d) (hw : 0 ≤ w) (K : ∀ S₉, zI f r C Z N S₉ → (xB S₉ R) → (aS W S₉ = zFr ab x.toInt (zMin z.toInt)) → Q (.inl none) S₉) : ∀ (n : Nat) (S : ma_S) (l2 : Int32) (l3 : Int32), (4500 - l3.toInt).toNat = n → zI f r C Z N S → (x.toInt ≤ l3.toInt) → (l2.toInt = z.toInt) → (0 ≤ x.toInt) → (l3.toInt = x.toInt ∨ (l3.toInt ≤ z.toInt ∧ l3.toInt ≤ 4500)) → (xB S R) → (xW W) → (aS W S = zFr ab x.toInt l3.toInt) → ma_wp X d w 88 2 [(0, .inr (.inr (some 69))), (2, .inl l2), (3, .inl l3)] [] S Q := by
  intro n
  induction n using Nat.strongRecOn with
  | _ n IH =>
    intro S l2 l3 hmu hI  hi0 hi1 hi2 hi3 hi4 hi5 hi6
    refine g_88_69_s_2 l2 l3 (by omega) (by omega) (zG_T hI) ?_
    have b1 := i_bd l3
    have li2 : (0 : Int32).toInt = 0 := rfl
    refine zd (fun h3 => ?_) (fun h3 => ?_)
    · skip
      have g4 := i_lt h3
      exact K _ hI (show xB S R from by first | (exact (xC_o (W := 75) hi4).2)) (show aS W S = zFr ab x.toInt (zMin z.toInt) from by first | (rw [hi6]; exact zFr_e (by unfold zMin; split <;> omega)))
    · skip
      have g5 := i_nlt h3
      have b6 := i_bd l2
      refine zd (fun h7 => ?_) (fun h7 => ?_)
      · skip
        have g8 := i_le h7
        exact K _ hI (show xB S R from by first | (exact (xC_o (W := 75) hi4).2)) (show aS W S = zFr ab x.toInt (zMin z.toInt) from by first | (rw [hi6]; exact zFr_e (by unfold zMin; split <;> omega)))
      · skip
        have g9 := i_nle h7
        have li10 : (4500 : Int32).toInt = 4500 := rfl
        refine zd (fun h11 => ?_) (fun h11 => ?_)
        · skip
          have g12 := i_le h11
          exact K _ hI (show xB S R from by first | (exact (xC_o (W := 75) hi4).2)) (show aS W S = zFr ab x.toInt (zMin z.toInt) from by first | (rw [hi6]; exact zFr_e (by unfold zMin; split <;> omega)))
        · skip
          have g13 := i_nle h11
          refine ⟨i_ix (by omega) (by omega), ?_⟩
          have hI14 : zI f r C Z N (ma_put S 71 l3.toNatClampNeg (.inl (-1 : Int32))) := zG_fa hI rfl (by decide) (by decide) (by decide) trivial
          first | have e15 : (l3 + (1 : Int32)).toInt = l3.toInt + (1) := i_addk rfl (by omega) (by omega) | have b16 := i_bd (l3 + (1 : Int32))
          exact IH _ (by omega) _ (l2) ((l3 + (1 : Int32))) rfl hI14 (by omega) (by omega) (by omega) (by omega) (show xB (ma_put S 71 l3.toNatClampNeg (.inl (-1 : Int32))) R from by first | (exact (xC_p (c := 71) (k := l3.toNatClampNeg) (x := (-1 : Int32)) (xC_o (W := 75) hi4) 71 xW75 rfl rfl).2)) (show xW W from by first | (exact hi5) | (exact xW88)) (show aS W (ma_put S 71 l3.toNatClampNeg (.inl (-1 : Int32))) = zFr ab x.toInt ((l3 + (1 : Int32))).toInt from by first | (refine (xC_p (c := 71) (k := l3.toNatClampNeg) (x := (-1 : Int32)) (xC_o (W := W) hi4) 71 hi5 rfl (zcw_s (by decide))).1.trans ?_; skip; rw [hi6]; exact zFr_s (by omega) (by omega) (by omega)))
theorem sp_88_69_s {X : Nat × (Nat → Int32)} {d w : Nat} {f : Nat → Nat → Int32} {r : Nat → Nat → Option Nat} {C Z N : Nat} {Q : Option ma_V ⊕ Nat → ma_S → Prop} {ab : Nat→Nat→Int32} {R : zRT} {W : Nat} {S : ma_S} (x : Int32) (z : Int32) (hd : 0 ≤ d) (hw : 0 ≤ w) (hI : zI f r C Z N S) (hpre0 : xB S R) (hpre1 : aS W S = ab) (hpre2 : xW W) (hpre3 : 0 ≤ x.toInt) (K : ∀ S₉, zI f r C Z N S₉ → (xB S₉ R) → (aS W S₉ = zFr ab x.toInt (zMin z.toInt)) → Q (.inl none) S₉) : ma_wp X d w 88 0 [(0, .inr (.inr (some 69))), (1, .inl x), (2, .inl z)] [] S Q := by
  refine g_88_69_s_0 x z (by omega) (by omega) (zG_T hI) ?_
  have b1 := i_bd z
  have b2 := i_bd x
  exact lp_88_69_s_2 (by omega) (by omega) K _ _ (z) (x) rfl hI (by omega) (by omega) (by omega) (by omega) (show xB S R from by first | (exact (xC_o (W := 75) hpre0).2)) (show xW W from by first | (exact hpre2) | (exact xW88)) (show aS W S = zFr ab x.toInt (x).toInt from by first | (rw [hpre1]; exact (zFr_0 (Int.le_refl _)).symm))

