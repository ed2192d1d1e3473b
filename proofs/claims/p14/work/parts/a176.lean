/-! from 95.m24 -/
/-! COUNTS, the class (written by wip/tools/gen20k.py) -/
theorem g_97_69_sk_0 {X : Nat × (Nat → Int32)} {d w : Nat} {S : ma_S} {Q : Option ma_V ⊕ Nat → ma_S → Prop} (t : Nat) (x : Int32) (hd : 0 ≤ d) (hw : 0 ≤ w) (hS : zT S) (h : (126 ≤ t ∧ t < mN S) ∧ ((126 ≤ t ∧ t < mN S) ∧ ((126 ≤ t ∧ t < mN (ma_put S t 7 (.inl ((mI S t 7) + x)))) ∧ ((126 ≤ t ∧ t < mN (ma_put S t 7 (.inl ((mI S t 7) + x)))) ∧ (Q (.inl none) (ma_put (ma_put S t 7 (.inl ((mI S t 7) + x))) t 6 (.inl ((mI (ma_put S t 7 (.inl ((mI S t 7) + x))) t 6) + x)))))))) : ma_wp X d w 97 0 [(0, .inr (.inr (some 69))), (1, .inr (.inr (some t))), (2, .inl x)] [] S Q := by
  refine zw_push hm_97 dX7_changeHolds_0 (v := .inr (.inr (some t))) rfl ?_
  refine zw_stk hm_97 dX7_changeHolds_1 (st₉ := [.inr (.inr (some t)), .inr (.inr (some t))]) rfl rfl ?_
  obtain ⟨hg, h⟩ := h
  refine zw_gf hm_97 dX7_changeHolds_2 (v := .inl (mI S t 7)) (zT_tis hS hg) (zT_tt hS hg) rfl f_7_101_9 rfl ?_
  refine zw_push hm_97 dX7_changeHolds_5 (v := .inl x) rfl ?_
  refine zw_stk hm_97 dX7_changeHolds_6 (st₉ := [.inl ((mI S t 7) + x), .inr (.inr (some t))]) rfl rfl ?_
  obtain ⟨hg, h⟩ := h
  refine zw_pf hm_97 dX7_changeHolds_7 (zT_tis hS hg) (zT_tt hS hg) p_7_101_9 zk_int ?_
  refine zw_push hm_97 dX7_changeHolds_10 (v := .inr (.inr (some t))) rfl ?_
  refine zw_stk hm_97 dX7_changeHolds_11 (st₉ := [.inr (.inr (some t)), .inr (.inr (some t))]) rfl rfl ?_
  obtain ⟨hg, h⟩ := h
  refine zw_gf hm_97 dX7_changeHolds_12 (v := .inl (mI (ma_put S t 7 (.inl ((mI S t 7) + x))) t 6)) (zT_tis (zT_pi hS) hg) (zT_tt (zT_pi hS) hg) rfl f_7_98_9 rfl ?_
  refine zw_push hm_97 dX7_changeHolds_15 (v := .inl x) rfl ?_
  refine zw_stk hm_97 dX7_changeHolds_16 (st₉ := [.inl ((mI (ma_put S t 7 (.inl ((mI S t 7) + x))) t 6) + x), .inr (.inr (some t))]) rfl rfl ?_
  obtain ⟨hg, h⟩ := h
  refine zw_pf hm_97 dX7_changeHolds_17 (zT_tis (zT_pi hS) hg) (zT_tt (zT_pi hS) hg) p_7_98_9 zk_int ?_
  exact zw_vret hm_97 dX7_changeHolds_20 h
theorem sp_97_69_sk {X : Nat × (Nat → Int32)} {d w : Nat} {f : Nat → Nat → Int32} {r : Nat → Nat → Option Nat} {C Z N : Nat} {Q : Option ma_V ⊕ Nat → ma_S → Prop} {ab : Nat→Nat→Int32} {R : zRT} {W : Nat} {kk : Nat→Int32} {y : Int32} {S : ma_S} (t : Nat) (x : Int32) (hd : 0 ≤ d) (hw : 0 ≤ w) (hI : zI f r C Z N S) (th_t : 126 ≤ t ∧ t < N) (hpre0 : xB S R) (hpre1 : aS W S = ab) (hpre2 : xW W) (hpre3 : zTa R y = some t) (hpre4 : kC S = kk) (K : ∀ S₉, zI f r C Z N S₉ → (xB S₉ R) → (aS W S₉ = ma_u ab 133 y.toNatClampNeg (ab 133 y.toNatClampNeg + x)) → (∀ n, kC S₉ n = kk n + (if n = y.toNatClampNeg then x else 0)) → Q (.inl none) S₉) : ma_wp X d w 97 0 [(0, .inr (.inr (some 69))), (1, .inr (.inr (some t))), (2, .inl x)] [] S Q := by
  refine g_97_69_sk_0 t x (by omega) (by omega) (zG_T hI) ?_
  refine ⟨zG_n hI th_t, ?_⟩
  refine ⟨zG_n hI th_t, ?_⟩
  have hI1 : zI f r C Z N (ma_put S t 7 (.inl ((mI S t 7) + x))) := zG_tf hI th_t.1 zI_t (by decide) (by decide) trivial (by decide) (by decide) (by decide)
  refine ⟨zG_n hI1 th_t, ?_⟩
  refine ⟨zG_n hI1 th_t, ?_⟩
  have hI2 : zI f r C Z N (ma_put (ma_put S t 7 (.inl ((mI S t 7) + x))) t 6 (.inl ((mI (ma_put S t 7 (.inl ((mI S t 7) + x))) t 6) + x))) := zG_tf hI1 th_t.1 zI_t (by decide) (by decide) trivial (by decide) (by decide) (by decide)
  exact K _ hI2 (show xB (ma_put (ma_put S t 7 (.inl ((mI S t 7) + x))) t 6 (.inl ((mI (ma_put S t 7 (.inl ((mI S t 7) + x))) t 6) + x))) R from by first | (exact (xC_6 (k := 6) (x := ((mI (ma_put S t 7 (.inl ((mI S t 7) + x))) t 6) + x)) (xC_t (k := 7) (x := ((mI S t 7) + x)) (xC_o (W := 75) hpre0) xW75 hpre3 rfl) xW75 th_t.1 rfl (by decide)).2)) (show aS W (ma_put (ma_put S t 7 (.inl ((mI S t 7) + x))) t 6 (.inl ((mI (ma_put S t 7 (.inl ((mI S t 7) + x))) t 6) + x))) = ma_u ab 133 y.toNatClampNeg (ab 133 y.toNatClampNeg + x) from by first | (have ty := xB_th (W := W) hpre0 hpre3; have e7 := ty.2.2.2.2.2.2.1; rw [hpre1] at e7; refine (xC_6 (k := 6) (x := ((mI (ma_put S t 7 (.inl ((mI S t 7) + x))) t 6) + x)) (xC_t (k := 7) (x := ((mI S t 7) + x)) (xC_o (W := W) hpre0) hpre2 hpre3 rfl) hpre2 th_t.1 rfl (by decide)).1.trans ?_; (try simp only [zp_i (c := 69) (c₉ := t) (k₉ := 6) th_t.1 (by decide), zp_i (c := 71) (c₉ := t) (k₉ := 6) th_t.1 (by decide), zp_i (c := 72) (c₉ := t) (k₉ := 6) th_t.1 (by decide), zp_i (c := 73) (c₉ := t) (k₉ := 6) th_t.1 (by decide), zp_i (c := 74) (c₉ := t) (k₉ := 6) th_t.1 (by decide), zp_i (c := 75) (c₉ := t) (k₉ := 6) th_t.1 (by decide), zp_i (c := 76) (c₉ := t) (k₉ := 6) th_t.1 (by decide), zp_i (c := 77) (c₉ := t) (k₉ := 6) th_t.1 (by decide), zp_i (c := 87) (c₉ := t) (k₉ := 6) th_t.1 (by decide), zp_i (c := 88) (c₉ := t) (k₉ := 6) th_t.1 (by decide), zp_i (c := 89) (c₉ := t) (k₉ := 6) th_t.1 (by decide), zp_i (c := 90) (c₉ := t) (k₉ := 6) th_t.1 (by decide), zp_f (k := 0) (c₉ := t) (k₉ := 6) (by decide), zp_f (k := 1) (c₉ := t) (k₉ := 6) (by decide), zp_f (k := 2) (c₉ := t) (k₉ := 6) (by decide), zp_f (k := 4) (c₉ := t) (k₉ := 6) (by decide), zp_f (k := 7) (c₉ := t) (k₉ := 6) (by decide), zp_f (k := 8) (c₉ := t) (k₉ := 6) (by decide), zp_i (c := 69) (c₉ := t) (k₉ := 7) th_t.1 (by decide), zp_i (c := 71) (c₉ := t) (k₉ := 7) th_t.1 (by decide), zp_i (c := 72) (c₉ := t) (k₉ := 7) th_t.1 (by decide), zp_i (c := 73) (c₉ := t) (k₉ := 7) th_t.1 (by decide), zp_i (c := 74) (c₉ := t) (k₉ := 7) th_t.1 (by decide), zp_i (c := 75) (c₉ := t) (k₉ := 7) th_t.1 (by decide), zp_i (c := 76) (c₉ := t) (k₉ := 7) th_t.1 (by decide), zp_i (c := 77) (c₉ := t) (k₉ := 7) th_t.1 (by decide), zp_i (c := 87) (c₉ := t) (k₉ := 7) th_t.1 (by decide), zp_i (c := 88) (c₉ := t) (k₉ := 7) th_t.1 (by decide), zp_i (c := 89) (c₉ := t) (k₉ := 7) th_t.1 (by decide), zp_i (c := 90) (c₉ := t) (k₉ := 7) th_t.1 (by decide), zp_f (k := 0) (c₉ := t) (k₉ := 7) (by decide), zp_f (k := 1) (c₉ := t) (k₉ := 7) (by decide), zp_f (k := 2) (c₉ := t) (k₉ := 7) (by decide), zp_f (k := 4) (c₉ := t) (k₉ := 7) (by decide), zp_f (k := 8) (c₉ := t) (k₉ := 7) (by decide)]); rw [hpre1, e7])) (show ∀ n, kC (ma_put (ma_put S t 7 (.inl ((mI S t 7) + x))) t 6 (.inl ((mI (ma_put S t 7 (.inl ((mI S t 7) + x))) t 6) + x))) n = kk n + (if n = y.toNatClampNeg then x else 0) from by first | (intro n; refine (congrFun (xK_6 (x := ((mI (ma_put S t 7 (.inl ((mI S t 7) + x))) t 6) + x)) (xK_t (k := 7) (x := ((mI S t 7) + x)) (xK_o (W := W) hpre0 hpre4) hpre2 hpre3 rfl (by decide)) hpre2 hpre3 th_t.1).2 n).trans ?_; have k61 := xK_y (xK_t (k := 7) (x := ((mI S t 7) + x)) (xK_o (W := W) hpre0 hpre4) hpre2 hpre3 rfl (by decide)) hpre3; rw [k61]; exact KU_x))

/-! from 95.m25 -/
/-! COUNTS, the class (written by wip/tools/gen20k.py) -/
theorem g_92_69_sk_0 {X : Nat × (Nat → Int32)} {d w : Nat} {S : ma_S} {Q : Option ma_V ⊕ Nat → ma_S → Prop} (i : Int32) (x : Option Nat) (hd : 1 ≤ d) (hw : 21 ≤ w) (hS : zT S) (h : if i < 0 then (Q (.inl (some (.inr (.inr none)))) S) else (if i < (16 : Int32) then ((0 ≤ i ∧ i.toNatClampNeg < 16) ∧ (if (mI S 72 i.toNatClampNeg) < 0 then ((x = none → (0 ≤ i ∧ i.toNatClampNeg < 16) ∧ (ma_wp X (d - 1) (w - 21) 93 0 [(0, .inr (.inr none)), (1, .inr (.inr none))] [] (ma_put S 72 i.toNatClampNeg (.inl (-1 : Int32))) (zv (fun S2 => zT S2 ∧ (Q (.inl (some (.inr (.inr none)))) S2)) (fun _ _ => False)))) ∧ (∀ c1, x = some c1 → (126 ≤ c1 ∧ c1 < mN S) ∧ ((0 ≤ i ∧ i.toNatClampNeg < 16) ∧ (ma_wp X (d - 1) (w - 21) 93 0 [(0, .inr (.inr none)), (1, .inr (.inr (some c1)))] [] (ma_put S 72 i.toNatClampNeg (.inl (mI S c1 0))) (zv (fun S4 => zT S4 ∧ (Q (.inl (some (.inr (.inr none)))) S4)) (fun _ _ => False)))))) else (if (512 : Int32) ≤ (mI S 72 i.toNatClampNeg) then ((x = none → (0 ≤ i ∧ i.toNatClampNeg < 16) ∧ (ma_wp X (d - 1) (w - 21) 93 0 [(0, .inr (.inr none)), (1, .inr (.inr none))] [] (ma_put S 72 i.toNatClampNeg (.inl (-1 : Int32))) (zv (fun S7 => zT S7 ∧ (Q (.inl (some (.inr (.inr none)))) S7)) (fun _ _ => False)))) ∧ (∀ c6, x = some c6 → (126 ≤ c6 ∧ c6 < mN S) ∧ ((0 ≤ i ∧ i.toNatClampNeg < 16) ∧ (ma_wp X (d - 1) (w - 21) 93 0 [(0, .inr (.inr none)), (1, .inr (.inr (some c6)))] [] (ma_put S 72 i.toNatClampNeg (.inl (mI S c6 0))) (zv (fun S9 => zT S9 ∧ (Q (.inl (some (.inr (.inr none)))) S9)) (fun _ _ => False)))))) else ((0 ≤ (mI S 72 i.toNatClampNeg) ∧ (mI S 72 i.toNatClampNeg).toNatClampNeg < 512) ∧ ((x = none → (0 ≤ i ∧ i.toNatClampNeg < 16) ∧ (ma_wp X (d - 1) (w - 21) 93 0 [(0, .inr (.inr (mR S 70 (mI S 72 i.toNatClampNeg).toNatClampNeg))), (1, .inr (.inr none))] [] (ma_put S 72 i.toNatClampNeg (.inl (-1 : Int32))) (zv (fun S12 => zT S12 ∧ (Q (.inl (some (.inr (.inr (mR S 70 (mI S 72 i.toNatClampNeg).toNatClampNeg))))) S12)) (fun _ _ => False)))) ∧ (∀ c11, x = some c11 → (126 ≤ c11 ∧ c11 < mN S) ∧ ((0 ≤ i ∧ i.toNatClampNeg < 16) ∧ (ma_wp X (d - 1) (w - 21) 93 0 [(0, .inr (.inr (mR S 70 (mI S 72 i.toNatClampNeg).toNatClampNeg))), (1, .inr (.inr (some c11)))] [] (ma_put S 72 i.toNatClampNeg (.inl (mI S c11 0))) (zv (fun S14 => zT S14 ∧ (Q (.inl (some (.inr (.inr (mR S 70 (mI S 72 i.toNatClampNeg).toNatClampNeg))))) S14)) (fun _ _ => False)))))))))) else (Q (.inl (some (.inr (.inr none)))) S))) : ma_wp X d w 92 0 [(0, .inr (.inr (some 69))), (1, .inl i), (2, .inr (.inr x))] [] S Q := by
  refine zw_push hm_92 dX7_changeRoot_0 (v := .inl i) rfl ?_
  refine zw_if0 hm_92 dX7_changeRoot_1 (t := 10) rfl zc0_lt ?_ ?_
  · intro hc
    rw [if_pos hc] at h
    refine zw_push hm_92 dX7_changeRoot_10 (v := .inr (.inr none)) rfl ?_
    exact zw_aret hm_92 dX7_changeRoot_11 h
  · intro hc
    rw [if_neg hc] at h
    refine zw_push hm_92 dX7_changeRoot_4 (v := .inl i) rfl ?_
    refine zw_push hm_92 dX7_changeRoot_5 (v := .inl (16 : Int32)) rfl ?_
    refine zw_if2 hm_92 dX7_changeRoot_7 (t := 12) rfl zc2_lt ?_ ?_
    · intro hc
      rw [if_pos hc] at h
      refine zw_push hm_92 dX7_changeRoot_12 (v := .inr (.inr (some 69))) rfl ?_
      refine zw_push hm_92 dX7_changeRoot_13 (v := .inr (.inr (some 69))) rfl ?_
      refine zw_gf hm_92 dX7_changeRoot_14 (v := .inr (.inr (some 72))) (zT_is hS s_69) (zT_t hS s_69) rfl f_7_21_7 (zT_f hS r_69_2) ?_
      refine zw_push hm_92 dX7_changeRoot_17 (v := .inl i) rfl ?_
      obtain ⟨hg, h⟩ := h
      refine zw_ia hm_92 dX7_changeRoot_18 (zT_is hS s_72) (zT_h hS s_72) rfl hg ?_
      show ma_wp X d w 92 19 [(0, .inr (.inr (some 69))), (1, .inl i), (2, .inr (.inr x))] [.inl (mI S 72 i.toNatClampNeg), .inr (.inr (some 69))] S _
      refine zw_cv hm_92 dX7_changeRoot_19 v_7_94_7 hm_81 [.inl (mI S 72 i.toNatClampNeg)] [] rfl (zT_rt hS s_69 rfl) ⟨by omega, by omega⟩ rfl ?_
      show ma_wp X (d - 1) (w - 21) 81 0 [(0, .inr (.inr (some 69))), (1, .inl (mI S 72 i.toNatClampNeg))] [] S _
      refine zw_push hm_81 dX7_thingAt_0 (v := .inl (mI S 72 i.toNatClampNeg)) rfl ?_
      refine zw_if0 hm_81 dX7_thingAt_1 (t := 20) rfl zc0_lt ?_ ?_
      · intro hc
        rw [if_pos hc] at h
        refine zw_push hm_81 dX7_thingAt_20 (v := .inr (.inr none)) rfl ?_
        refine zw_aret hm_81 dX7_thingAt_21 ?_
        show ma_wp X d w 92 22 [(0, .inr (.inr (some 69))), (1, .inl i), (2, .inr (.inr x))] [.inr (.inr none)] S _
        refine zw_sto hm_92 dX7_changeRoot_22 [(3, .inr (.inr none)), (0, .inr (.inr (some 69))), (1, .inl i), (2, .inr (.inr x))] rfl rfl rfl ?_
        refine zw_push hm_92 dX7_changeRoot_23 (v := .inr (.inr (some 69))) rfl ?_
        refine zw_gf hm_92 dX7_changeRoot_24 (v := .inr (.inr (some 72))) (zT_is hS s_69) (zT_t hS s_69) rfl f_7_21_7 (zT_f hS r_69_2) ?_
        refine zw_push hm_92 dX7_changeRoot_27 (v := .inl i) rfl ?_
        refine zw_push hm_92 dX7_changeRoot_28 (v := .inr (.inr x)) rfl ?_
        refine zw_cs hm_92 dX7_changeRoot_29 pn_7_82 sl_7_82 hm_146 [.inr (.inr x)] [.inl i, .inr (.inr (some 72))] rfl ⟨by omega, by omega⟩ rfl ?_
        show ma_wp X (d - 1) (w - 20) 146 0 [(0, .inr (.inr x))] [] S _
        refine zw_push hm_146 dX11_numberOf_0 (v := .inr (.inr x)) rfl ?_
        refine zw_ifnonnull hm_146 dX11_numberOf_1 (t := 8) rfl ?_ ?_
        · intro hc
          have h := h.1 hc
          (try rw [hc])
          show ma_wp X (d - 1) (w - 20) 146 4 [(0, .inr (.inr none))] [] S _
          refine zw_push hm_146 dX11_numberOf_4 (v := .inl (-1 : Int32)) rfl ?_
          refine zw_goto hm_146 dX11_numberOf_5 (t := 12) rfl ?_
          refine zw_iret hm_146 dX11_numberOf_12 ?_
          show ma_wp X d w 92 32 [(3, .inr (.inr none)), (0, .inr (.inr (some 69))), (1, .inl i), (2, .inr (.inr none))] [.inl (-1 : Int32), .inl i, .inr (.inr (some 72))] S _
          obtain ⟨hg, h⟩ := h
          refine zw_ias hm_92 dX7_changeRoot_32 (zT_is hS s_72) (zT_h hS s_72) rfl hg ?_
          refine zw_push hm_92 dX7_changeRoot_33 (v := .inr (.inr none)) rfl ?_
          refine zw_push hm_92 dX7_changeRoot_34 (v := .inr (.inr none)) rfl ?_
          refine zw_cs hm_92 dX7_changeRoot_35 pn_7_90 sl_7_90 hm_93 [.inr (.inr none), .inr (.inr none)] [] rfl ⟨by omega, by omega⟩ rfl (zw_mono h (zv_go ?_ ?_))
          · intro S2 hv
            obtain ⟨hS2, h⟩ := hv
            refine zw_push hm_92 dX7_changeRoot_38 (v := .inr (.inr none)) rfl ?_
            exact zw_aret hm_92 dX7_changeRoot_39 h
          · intro x S9 hx
            exact hx.elim
        · intro c1 hc
          have h := h.2 c1 hc
          (try rw [hc])
          show ma_wp X (d - 1) (w - 20) 146 8 [(0, .inr (.inr (some c1)))] [] S _
          refine zw_push hm_146 dX11_numberOf_8 (v := .inr (.inr (some c1))) rfl ?_
          obtain ⟨hg, h⟩ := h
          refine zw_gf hm_146 dX11_numberOf_9 (v := .inl (mI S c1 0)) (zT_tis hS hg) (zT_tt hS hg) rfl f_11_182_9 rfl ?_
          refine zw_iret hm_146 dX11_numberOf_12 ?_
          show ma_wp X d w 92 32 [(3, .inr (.inr none)), (0, .inr (.inr (some 69))), (1, .inl i), (2, .inr (.inr (some c1)))] [.inl (mI S c1 0), .inl i, .inr (.inr (some 72))] S _
          obtain ⟨hg, h⟩ := h
          refine zw_ias hm_92 dX7_changeRoot_32 (zT_is hS s_72) (zT_h hS s_72) rfl hg ?_
          refine zw_push hm_92 dX7_changeRoot_33 (v := .inr (.inr none)) rfl ?_
          refine zw_push hm_92 dX7_changeRoot_34 (v := .inr (.inr (some c1))) rfl ?_
          refine zw_cs hm_92 dX7_changeRoot_35 pn_7_90 sl_7_90 hm_93 [.inr (.inr (some c1)), .inr (.inr none)] [] rfl ⟨by omega, by omega⟩ rfl (zw_mono h (zv_go ?_ ?_))
          · intro S4 hv
            obtain ⟨hS4, h⟩ := hv
            refine zw_push hm_92 dX7_changeRoot_38 (v := .inr (.inr none)) rfl ?_
            exact zw_aret hm_92 dX7_changeRoot_39 h
          · intro x S9 hx
            exact hx.elim
      · intro hc
        rw [if_neg hc] at h
        refine zw_push hm_81 dX7_thingAt_4 (v := .inl (mI S 72 i.toNatClampNeg)) rfl ?_
        refine zw_push hm_81 dX7_thingAt_5 (v := .inl (512 : Int32)) rfl ?_
        refine zw_if2 hm_81 dX7_thingAt_8 (t := 20) rfl zc2_ge ?_ ?_
        · intro hc
          rw [if_pos hc] at h
          refine zw_push hm_81 dX7_thingAt_20 (v := .inr (.inr none)) rfl ?_
          refine zw_aret hm_81 dX7_thingAt_21 ?_
          show ma_wp X d w 92 22 [(0, .inr (.inr (some 69))), (1, .inl i), (2, .inr (.inr x))] [.inr (.inr none)] S _
          refine zw_sto hm_92 dX7_changeRoot_22 [(3, .inr (.inr none)), (0, .inr (.inr (some 69))), (1, .inl i), (2, .inr (.inr x))] rfl rfl rfl ?_
          refine zw_push hm_92 dX7_changeRoot_23 (v := .inr (.inr (some 69))) rfl ?_
          refine zw_gf hm_92 dX7_changeRoot_24 (v := .inr (.inr (some 72))) (zT_is hS s_69) (zT_t hS s_69) rfl f_7_21_7 (zT_f hS r_69_2) ?_
          refine zw_push hm_92 dX7_changeRoot_27 (v := .inl i) rfl ?_
          refine zw_push hm_92 dX7_changeRoot_28 (v := .inr (.inr x)) rfl ?_
          refine zw_cs hm_92 dX7_changeRoot_29 pn_7_82 sl_7_82 hm_146 [.inr (.inr x)] [.inl i, .inr (.inr (some 72))] rfl ⟨by omega, by omega⟩ rfl ?_
          show ma_wp X (d - 1) (w - 20) 146 0 [(0, .inr (.inr x))] [] S _
          refine zw_push hm_146 dX11_numberOf_0 (v := .inr (.inr x)) rfl ?_
          refine zw_ifnonnull hm_146 dX11_numberOf_1 (t := 8) rfl ?_ ?_
          · intro hc
            have h := h.1 hc
            (try rw [hc])
            show ma_wp X (d - 1) (w - 20) 146 4 [(0, .inr (.inr none))] [] S _
            refine zw_push hm_146 dX11_numberOf_4 (v := .inl (-1 : Int32)) rfl ?_
            refine zw_goto hm_146 dX11_numberOf_5 (t := 12) rfl ?_
            refine zw_iret hm_146 dX11_numberOf_12 ?_
            show ma_wp X d w 92 32 [(3, .inr (.inr none)), (0, .inr (.inr (some 69))), (1, .inl i), (2, .inr (.inr none))] [.inl (-1 : Int32), .inl i, .inr (.inr (some 72))] S _
            obtain ⟨hg, h⟩ := h
            refine zw_ias hm_92 dX7_changeRoot_32 (zT_is hS s_72) (zT_h hS s_72) rfl hg ?_
            refine zw_push hm_92 dX7_changeRoot_33 (v := .inr (.inr none)) rfl ?_
            refine zw_push hm_92 dX7_changeRoot_34 (v := .inr (.inr none)) rfl ?_
            refine zw_cs hm_92 dX7_changeRoot_35 pn_7_90 sl_7_90 hm_93 [.inr (.inr none), .inr (.inr none)] [] rfl ⟨by omega, by omega⟩ rfl (zw_mono h (zv_go ?_ ?_))
            · intro S7 hv
              obtain ⟨hS7, h⟩ := hv
              refine zw_push hm_92 dX7_changeRoot_38 (v := .inr (.inr none)) rfl ?_
              exact zw_aret hm_92 dX7_changeRoot_39 h
            · intro x S9 hx
              exact hx.elim
          · intro c6 hc
            have h := h.2 c6 hc
            (try rw [hc])
            show ma_wp X (d - 1) (w - 20) 146 8 [(0, .inr (.inr (some c6)))] [] S _
            refine zw_push hm_146 dX11_numberOf_8 (v := .inr (.inr (some c6))) rfl ?_
            obtain ⟨hg, h⟩ := h
            refine zw_gf hm_146 dX11_numberOf_9 (v := .inl (mI S c6 0)) (zT_tis hS hg) (zT_tt hS hg) rfl f_11_182_9 rfl ?_
            refine zw_iret hm_146 dX11_numberOf_12 ?_
            show ma_wp X d w 92 32 [(3, .inr (.inr none)), (0, .inr (.inr (some 69))), (1, .inl i), (2, .inr (.inr (some c6)))] [.inl (mI S c6 0), .inl i, .inr (.inr (some 72))] S _
            obtain ⟨hg, h⟩ := h
            refine zw_ias hm_92 dX7_changeRoot_32 (zT_is hS s_72) (zT_h hS s_72) rfl hg ?_
            refine zw_push hm_92 dX7_changeRoot_33 (v := .inr (.inr none)) rfl ?_
            refine zw_push hm_92 dX7_changeRoot_34 (v := .inr (.inr (some c6))) rfl ?_
            refine zw_cs hm_92 dX7_changeRoot_35 pn_7_90 sl_7_90 hm_93 [.inr (.inr (some c6)), .inr (.inr none)] [] rfl ⟨by omega, by omega⟩ rfl (zw_mono h (zv_go ?_ ?_))
            · intro S9 hv
              obtain ⟨hS9, h⟩ := hv
              refine zw_push hm_92 dX7_changeRoot_38 (v := .inr (.inr none)) rfl ?_
              exact zw_aret hm_92 dX7_changeRoot_39 h
            · intro x S9 hx
              exact hx.elim
        · intro hc
          rw [if_neg hc] at h
          refine zw_push hm_81 dX7_thingAt_11 (v := .inr (.inr (some 69))) rfl ?_
          refine zw_gf hm_81 dX7_thingAt_12 (v := .inr (.inr (some 70))) (zT_is hS s_69) (zT_t hS s_69) rfl f_7_11_7 (zT_f hS r_69_0) ?_
          refine zw_push hm_81 dX7_thingAt_15 (v := .inl (mI S 72 i.toNatClampNeg)) rfl ?_
          obtain ⟨hg, h⟩ := h
          refine zw_aa hm_81 dX7_thingAt_16 (zT_is hS s_70) (zT_h hS s_70) rfl rfl hg rfl ?_
          show ma_wp X (d - 1) (w - 21) 81 17 [(0, .inr (.inr (some 69))), (1, .inl (mI S 72 i.toNatClampNeg))] [.inr (.inr (mR S 70 (mI S 72 i.toNatClampNeg).toNatClampNeg))] S _
          refine zw_goto hm_81 dX7_thingAt_17 (t := 21) rfl ?_
          refine zw_aret hm_81 dX7_thingAt_21 ?_
          show ma_wp X d w 92 22 [(0, .inr (.inr (some 69))), (1, .inl i), (2, .inr (.inr x))] [.inr (.inr (mR S 70 (mI S 72 i.toNatClampNeg).toNatClampNeg))] S _
          refine zw_sto hm_92 dX7_changeRoot_22 [(3, .inr (.inr (mR S 70 (mI S 72 i.toNatClampNeg).toNatClampNeg))), (0, .inr (.inr (some 69))), (1, .inl i), (2, .inr (.inr x))] rfl rfl rfl ?_
          refine zw_push hm_92 dX7_changeRoot_23 (v := .inr (.inr (some 69))) rfl ?_
          refine zw_gf hm_92 dX7_changeRoot_24 (v := .inr (.inr (some 72))) (zT_is hS s_69) (zT_t hS s_69) rfl f_7_21_7 (zT_f hS r_69_2) ?_
          refine zw_push hm_92 dX7_changeRoot_27 (v := .inl i) rfl ?_
          refine zw_push hm_92 dX7_changeRoot_28 (v := .inr (.inr x)) rfl ?_
          refine zw_cs hm_92 dX7_changeRoot_29 pn_7_82 sl_7_82 hm_146 [.inr (.inr x)] [.inl i, .inr (.inr (some 72))] rfl ⟨by omega, by omega⟩ rfl ?_
          show ma_wp X (d - 1) (w - 20) 146 0 [(0, .inr (.inr x))] [] S _
          refine zw_push hm_146 dX11_numberOf_0 (v := .inr (.inr x)) rfl ?_
          refine zw_ifnonnull hm_146 dX11_numberOf_1 (t := 8) rfl ?_ ?_
          · intro hc
            have h := h.1 hc
            (try rw [hc])
            show ma_wp X (d - 1) (w - 20) 146 4 [(0, .inr (.inr none))] [] S _
            refine zw_push hm_146 dX11_numberOf_4 (v := .inl (-1 : Int32)) rfl ?_
            refine zw_goto hm_146 dX11_numberOf_5 (t := 12) rfl ?_
            refine zw_iret hm_146 dX11_numberOf_12 ?_
            show ma_wp X d w 92 32 [(3, .inr (.inr (mR S 70 (mI S 72 i.toNatClampNeg).toNatClampNeg))), (0, .inr (.inr (some 69))), (1, .inl i), (2, .inr (.inr none))] [.inl (-1 : Int32), .inl i, .inr (.inr (some 72))] S _
            obtain ⟨hg, h⟩ := h
            refine zw_ias hm_92 dX7_changeRoot_32 (zT_is hS s_72) (zT_h hS s_72) rfl hg ?_
            refine zw_push hm_92 dX7_changeRoot_33 (v := .inr (.inr (mR S 70 (mI S 72 i.toNatClampNeg).toNatClampNeg))) rfl ?_
            refine zw_push hm_92 dX7_changeRoot_34 (v := .inr (.inr none)) rfl ?_
            refine zw_cs hm_92 dX7_changeRoot_35 pn_7_90 sl_7_90 hm_93 [.inr (.inr none), .inr (.inr (mR S 70 (mI S 72 i.toNatClampNeg).toNatClampNeg))] [] rfl ⟨by omega, by omega⟩ rfl (zw_mono h (zv_go ?_ ?_))
            · intro S12 hv
              obtain ⟨hS12, h⟩ := hv
              refine zw_push hm_92 dX7_changeRoot_38 (v := .inr (.inr (mR S 70 (mI S 72 i.toNatClampNeg).toNatClampNeg))) rfl ?_
              exact zw_aret hm_92 dX7_changeRoot_39 h
            · intro x S9 hx
              exact hx.elim
          · intro c11 hc
            have h := h.2 c11 hc
            (try rw [hc])
            show ma_wp X (d - 1) (w - 20) 146 8 [(0, .inr (.inr (some c11)))] [] S _
            refine zw_push hm_146 dX11_numberOf_8 (v := .inr (.inr (some c11))) rfl ?_
            obtain ⟨hg, h⟩ := h
            refine zw_gf hm_146 dX11_numberOf_9 (v := .inl (mI S c11 0)) (zT_tis hS hg) (zT_tt hS hg) rfl f_11_182_9 rfl ?_
            refine zw_iret hm_146 dX11_numberOf_12 ?_
            show ma_wp X d w 92 32 [(3, .inr (.inr (mR S 70 (mI S 72 i.toNatClampNeg).toNatClampNeg))), (0, .inr (.inr (some 69))), (1, .inl i), (2, .inr (.inr (some c11)))] [.inl (mI S c11 0), .inl i, .inr (.inr (some 72))] S _
            obtain ⟨hg, h⟩ := h
            refine zw_ias hm_92 dX7_changeRoot_32 (zT_is hS s_72) (zT_h hS s_72) rfl hg ?_
            refine zw_push hm_92 dX7_changeRoot_33 (v := .inr (.inr (mR S 70 (mI S 72 i.toNatClampNeg).toNatClampNeg))) rfl ?_
            refine zw_push hm_92 dX7_changeRoot_34 (v := .inr (.inr (some c11))) rfl ?_
            refine zw_cs hm_92 dX7_changeRoot_35 pn_7_90 sl_7_90 hm_93 [.inr (.inr (some c11)), .inr (.inr (mR S 70 (mI S 72 i.toNatClampNeg).toNatClampNeg))] [] rfl ⟨by omega, by omega⟩ rfl (zw_mono h (zv_go ?_ ?_))
            · intro S14 hv
              obtain ⟨hS14, h⟩ := hv
              refine zw_push hm_92 dX7_changeRoot_38 (v := .inr (.inr (mR S 70 (mI S 72 i.toNatClampNeg).toNatClampNeg))) rfl ?_
              exact zw_aret hm_92 dX7_changeRoot_39 h
            · intro x S9 hx
              exact hx.elim
    · intro hc
      rw [if_neg hc] at h
      refine zw_push hm_92 dX7_changeRoot_10 (v := .inr (.inr none)) rfl ?_
      exact zw_aret hm_92 dX7_changeRoot_11 h
theorem sp_92_69_sk {X : Nat × (Nat → Int32)} {d w : Nat} {f : Nat → Nat → Int32} {r : Nat → Nat → Option Nat} {C Z N : Nat} {Q : Option ma_V ⊕ Nat → ma_S → Prop} {ab : Nat→Nat→Int32} {R : zRT} {W : Nat} {kk : Nat→Int32} {y : Int32} {n0 : Nat→Nat→Int32} {S : ma_S} (i : Int32) (x : Option Nat) (hd : 1 ≤ d) (hw : 21 ≤ w) (hI : zI f r C Z N S) (hq_x : ∀ c, x = some c → 126 ≤ c ∧ c < N) (hpre0 : xB S R) (hpre1 : aS W S = ab) (hpre2 : xW W) (hpre3 : x = zTa R y) (hpre4 : 0 ≤ i.toInt) (hpre5 : i.toInt ≤ 15) (hpre6 : kC S = kk) (hpre7 : zN0 S = n0) (K : ∀ v S₉, zI f r C Z N S₉ → (∀ c, v = some c → 126 ≤ c ∧ c < N) → (xB S₉ R) → (aS W S₉ = ma_u ab 72 i.toNatClampNeg (aNm ab y)) → (v = zTa R (ab 72 i.toNatClampNeg)) → (∀ n, xAl ab n → kC S₉ n = kk n + Int32.ofNat (cIs y n) - Int32.ofNat (cIs (ab 72 i.toNatClampNeg) n)) → (zN0 S₉ = n0) → Q (.inl (some (.inr (.inr v)))) S₉) : ma_wp X d w 92 0 [(0, .inr (.inr (some 69))), (1, .inl i), (2, .inr (.inr x))] [] S Q := by
  refine g_92_69_sk_0 i x (by omega) (by omega) (zG_T hI) ?_
  have b1 := i_bd i
  have li2 : (0 : Int32).toInt = 0 := rfl
  refine zd (fun h3 => ?_) (fun h3 => ?_)
  · skip
    have g4 := i_lt h3
    exact K (none) _ hI (fun _ z => by cases z) (show xB S R from by first | (exact (xC_o (W := 75) hpre0).2)) (show aS W S = ma_u ab 72 i.toNatClampNeg (aNm ab y) from by first | (exfalso; omega)) (show none = zTa R (ab 72 i.toNatClampNeg) from by first | (exfalso; omega)) (show ∀ n, xAl ab n → kC S n = kk n + Int32.ofNat (cIs y n) - Int32.ofNat (cIs (ab 72 i.toNatClampNeg) n) from by first | (exfalso; omega)) (show zN0 S = n0 from by first | (exact hpre7))
  · skip
    have g5 := i_nlt h3
    have li6 : (16 : Int32).toInt = 16 := rfl
    refine zd (fun h7 => ?_) (fun h7 => ?_)
    · skip
      have g8 := i_lt h7
      refine ⟨i_ix (by omega) (by omega), ?_⟩
      have b9 := i_bd (mI S 72 i.toNatClampNeg)
      refine zd (fun h10 => ?_) (fun h10 => ?_)
      · skip
        have g11 := i_lt h10
        refine ⟨fun hc => ?_, fun c1 hc => ?_⟩
        · skip
          have rn_c1 : zTa R y = none := hpre3.symm.trans hc
          refine ⟨i_ix (by omega) (by omega), ?_⟩
          have hI12 : zI f r C Z N (ma_put S 72 i.toNatClampNeg (.inl (-1 : Int32))) := zG_fa hI rfl (by decide) (by decide) (by decide) trivial
          refine sp_93_sk (ab := (aS W (ma_put S 72 i.toNatClampNeg (.inl (-1 : Int32))))) (R := R) (W := W) (y1 := ((-1 : Int32))) (y2 := ((-1 : Int32))) (kk := (kC (ma_put S 72 i.toNatClampNeg (.inl (-1 : Int32))))) (n0 := n0) (none) (none) (by omega) (by omega) hI12 (fun _ z => by cases z) (fun _ z => by cases z) (show xB (ma_put S 72 i.toNatClampNeg (.inl (-1 : Int32))) R from by first | (exact (xC_p (c := 72) (k := i.toNatClampNeg) (x := (-1 : Int32)) (xC_o (W := 75) hpre0) 72 xW75 rfl rfl).2)) (show aS W (ma_put S 72 i.toNatClampNeg (.inl (-1 : Int32))) = (aS W (ma_put S 72 i.toNatClampNeg (.inl (-1 : Int32)))) from by first | (exact rfl)) (show xW W from by first | (exact hpre2) | (exact xW88) | (exact xW75)) (show none = zTa R ((-1 : Int32)) from by first | (exact ta_m1) | (exact ta_no (by omega))) (show none = zTa R ((-1 : Int32)) from by first | (exact ta_m1) | (exact ta_no (by omega))) (show kC (ma_put S 72 i.toNatClampNeg (.inl (-1 : Int32))) = (kC (ma_put S 72 i.toNatClampNeg (.inl (-1 : Int32)))) from by first | (exact rfl)) (show zN0 (ma_put S 72 i.toNatClampNeg (.inl (-1 : Int32))) = n0 from by first | (exact ((n0_p (c := 72) (by decide)).trans hpre7))) (fun S2 hI_S2 rp0_S2 rp1_S2 rp2_S2 rp3_S2 => zv_n ⟨zG_T hI_S2, ?_⟩)
          have rp0_S2 : xB S2 R := rp0_S2
          have rp1_S2 : aS W S2 = (aS W (ma_put S 72 i.toNatClampNeg (.inl (-1 : Int32)))) := rp1_S2
          have rp2_S2 : ∀ n, xAl (aS W (ma_put S 72 i.toNatClampNeg (.inl (-1 : Int32)))) n → kC S2 n = (kC (ma_put S 72 i.toNatClampNeg (.inl (-1 : Int32)))) n + Int32.ofNat (cIs ((-1 : Int32)) n) - Int32.ofNat (cIs ((-1 : Int32)) n) := rp2_S2
          have rp3_S2 : zN0 S2 = n0 := rp3_S2
          exact K (none) _ hI_S2 (fun _ z => by cases z) (show xB S2 R from by first | (exact (xC_o (W := 75) rp0_S2).2)) (show aS W S2 = ma_u ab 72 i.toNatClampNeg (aNm ab y) from by first | (have nn := (nm_n (W := W) hpre0 rn_c1); rw [hpre1] at nn; refine (rp1_S2.trans (xC_p (c := 72) (k := i.toNatClampNeg) (x := (-1 : Int32)) (xC_o (W := W) hpre0) 72 hpre2 rfl (zcw_s (by decide))).1).trans ?_; rw [hpre1]; rw [nn])) (show none = zTa R (ab 72 i.toNatClampNeg) from by first | (rw [← hpre1, (aS_I (W := W) (S := S) (c := 72) (c₉ := 72) (k := i.toNatClampNeg) rfl (zcw_s (by decide)))]; exact ta_no (by omega))) (show ∀ n, xAl ab n → kC S2 n = kk n + Int32.ofNat (cIs y n) - Int32.ofNat (cIs (ab 72 i.toNatClampNeg) n) from by first | (intro n hn; have q := rp2_S2 n (by rw [(xC_p (c := 72) (k := i.toNatClampNeg) (x := (-1 : Int32)) (xC_o (W := W) hpre0) 72 hpre2 rfl (zcw_s (by decide))).1]; unfold xAl; rw [xu_o (by omega)]; rw [hpre1]; exact hn); rw [congrFun (xK_p (c := 72) (k := i.toNatClampNeg) (x := (-1 : Int32)) (xK_o (W := W) hpre0 hpre6) 72 hpre2 rfl (zcw_s (by decide))).2 n] at q; have h1 : cIs (ab 72 i.toNatClampNeg) n = 0 := (by rw [← (show mI S 72 i.toNatClampNeg = ab 72 i.toNatClampNeg from (aS_I (W := W) (S := S) (c := 72) (c₉ := 72) (k := i.toNatClampNeg) rfl (zcw_s (by decide))).symm.trans (congrFun (congrFun hpre1 72) i.toNatClampNeg))]; exact cIs_r (by omega) hn.1); rw [h1]; rw [cIs_n (x := -1) (by decide) hn.1] at q; have h2 : cIs y n = 0 := is_no (W := W) hpre0 rn_c1 (by rw [hpre1]; exact hn); rw [h2]; exact q)) (show zN0 S2 = n0 from by first | (exact rp3_S2))
        · skip
          have th_c1 := hq_x c1 hc
          have rg_c1 : zTa R y = some c1 := hpre3.symm.trans hc
          subst hc
          refine ⟨zG_n hI th_c1, ?_⟩
          refine ⟨i_ix (by omega) (by omega), ?_⟩
          have hI13 : zI f r C Z N (ma_put S 72 i.toNatClampNeg (.inl (mI S c1 0))) := zG_fa hI rfl (by decide) (by decide) (by decide) trivial
          refine sp_93_sk (ab := (aS W (ma_put S 72 i.toNatClampNeg (.inl (mI S c1 0))))) (R := R) (W := W) (y1 := ((-1 : Int32))) (y2 := (y)) (kk := (kC (ma_put S 72 i.toNatClampNeg (.inl (mI S c1 0))))) (n0 := n0) (none) ((some c1)) (by omega) (by omega) hI13 (fun _ z => by cases z) (fun _ z => by cases z; exact th_c1) (show xB (ma_put S 72 i.toNatClampNeg (.inl (mI S c1 0))) R from by first | (exact (xC_p (c := 72) (k := i.toNatClampNeg) (x := (mI S c1 0)) (xC_o (W := 75) hpre0) 72 xW75 rfl rfl).2)) (show aS W (ma_put S 72 i.toNatClampNeg (.inl (mI S c1 0))) = (aS W (ma_put S 72 i.toNatClampNeg (.inl (mI S c1 0)))) from by first | (exact rfl)) (show xW W from by first | (exact hpre2) | (exact xW88) | (exact xW75)) (show none = zTa R ((-1 : Int32)) from by first | (exact ta_m1) | (exact ta_no (by omega))) (show (some c1) = zTa R (y) from by first | (exact rg_c1.symm)) (show kC (ma_put S 72 i.toNatClampNeg (.inl (mI S c1 0))) = (kC (ma_put S 72 i.toNatClampNeg (.inl (mI S c1 0)))) from by first | (exact rfl)) (show zN0 (ma_put S 72 i.toNatClampNeg (.inl (mI S c1 0))) = n0 from by first | (exact ((n0_p (c := 72) (by decide)).trans hpre7))) (fun S4 hI_S4 rp0_S4 rp1_S4 rp2_S4 rp3_S4 => zv_n ⟨zG_T hI_S4, ?_⟩)
          have rp0_S4 : xB S4 R := rp0_S4
          have rp1_S4 : aS W S4 = (aS W (ma_put S 72 i.toNatClampNeg (.inl (mI S c1 0)))) := rp1_S4
          have rp2_S4 : ∀ n, xAl (aS W (ma_put S 72 i.toNatClampNeg (.inl (mI S c1 0)))) n → kC S4 n = (kC (ma_put S 72 i.toNatClampNeg (.inl (mI S c1 0)))) n + Int32.ofNat (cIs (y) n) - Int32.ofNat (cIs ((-1 : Int32)) n) := rp2_S4
          have rp3_S4 : zN0 S4 = n0 := rp3_S4
          exact K (none) _ hI_S4 (fun _ z => by cases z) (show xB S4 R from by first | (exact (xC_o (W := 75) rp0_S4).2)) (show aS W S4 = ma_u ab 72 i.toNatClampNeg (aNm ab y) from by first | (have nn := (nm_y (W := W) hpre0 rg_c1); rw [hpre1] at nn; refine (rp1_S4.trans (xC_p (c := 72) (k := i.toNatClampNeg) (x := (mI S c1 0)) (xC_o (W := W) hpre0) 72 hpre2 rfl (zcw_s (by decide))).1).trans ?_; rw [hpre1]; have tn := (xB_th (W := W) hpre0 rg_c1).2.2.1; rw [tn]; rw [nn])) (show none = zTa R (ab 72 i.toNatClampNeg) from by first | (rw [← hpre1, (aS_I (W := W) (S := S) (c := 72) (c₉ := 72) (k := i.toNatClampNeg) rfl (zcw_s (by decide)))]; exact ta_no (by omega))) (show ∀ n, xAl ab n → kC S4 n = kk n + Int32.ofNat (cIs y n) - Int32.ofNat (cIs (ab 72 i.toNatClampNeg) n) from by first | (intro n hn; have q := rp2_S4 n (by rw [(xC_p (c := 72) (k := i.toNatClampNeg) (x := (mI S c1 0)) (xC_o (W := W) hpre0) 72 hpre2 rfl (zcw_s (by decide))).1]; unfold xAl; rw [xu_o (by omega)]; rw [hpre1]; exact hn); rw [congrFun (xK_p (c := 72) (k := i.toNatClampNeg) (x := (mI S c1 0)) (xK_o (W := W) hpre0 hpre6) 72 hpre2 rfl (zcw_s (by decide))).2 n] at q; have h1 : cIs (ab 72 i.toNatClampNeg) n = 0 := (by rw [← (show mI S 72 i.toNatClampNeg = ab 72 i.toNatClampNeg from (aS_I (W := W) (S := S) (c := 72) (c₉ := 72) (k := i.toNatClampNeg) rfl (zcw_s (by decide))).symm.trans (congrFun (congrFun hpre1 72) i.toNatClampNeg))]; exact cIs_r (by omega) hn.1); rw [h1]; rw [cIs_n (x := -1) (by decide) hn.1] at q; exact q)) (show zN0 S4 = n0 from by first | (exact rp3_S4))
      · skip
        have g14 := i_nlt h10
        have li15 : (512 : Int32).toInt = 512 := rfl
        refine zd (fun h16 => ?_) (fun h16 => ?_)
        · skip
          have g17 := i_le h16
          refine ⟨fun hc => ?_, fun c6 hc => ?_⟩
          · skip
            have rn_c6 : zTa R y = none := hpre3.symm.trans hc
            refine ⟨i_ix (by omega) (by omega), ?_⟩
            have hI18 : zI f r C Z N (ma_put S 72 i.toNatClampNeg (.inl (-1 : Int32))) := zG_fa hI rfl (by decide) (by decide) (by decide) trivial
            refine sp_93_sk (ab := (aS W (ma_put S 72 i.toNatClampNeg (.inl (-1 : Int32))))) (R := R) (W := W) (y1 := ((-1 : Int32))) (y2 := ((-1 : Int32))) (kk := (kC (ma_put S 72 i.toNatClampNeg (.inl (-1 : Int32))))) (n0 := n0) (none) (none) (by omega) (by omega) hI18 (fun _ z => by cases z) (fun _ z => by cases z) (show xB (ma_put S 72 i.toNatClampNeg (.inl (-1 : Int32))) R from by first | (exact (xC_p (c := 72) (k := i.toNatClampNeg) (x := (-1 : Int32)) (xC_o (W := 75) hpre0) 72 xW75 rfl rfl).2)) (show aS W (ma_put S 72 i.toNatClampNeg (.inl (-1 : Int32))) = (aS W (ma_put S 72 i.toNatClampNeg (.inl (-1 : Int32)))) from by first | (exact rfl)) (show xW W from by first | (exact hpre2) | (exact xW88) | (exact xW75)) (show none = zTa R ((-1 : Int32)) from by first | (exact ta_m1) | (exact ta_no (by omega))) (show none = zTa R ((-1 : Int32)) from by first | (exact ta_m1) | (exact ta_no (by omega))) (show kC (ma_put S 72 i.toNatClampNeg (.inl (-1 : Int32))) = (kC (ma_put S 72 i.toNatClampNeg (.inl (-1 : Int32)))) from by first | (exact rfl)) (show zN0 (ma_put S 72 i.toNatClampNeg (.inl (-1 : Int32))) = n0 from by first | (exact ((n0_p (c := 72) (by decide)).trans hpre7))) (fun S7 hI_S7 rp0_S7 rp1_S7 rp2_S7 rp3_S7 => zv_n ⟨zG_T hI_S7, ?_⟩)
            have rp0_S7 : xB S7 R := rp0_S7
            have rp1_S7 : aS W S7 = (aS W (ma_put S 72 i.toNatClampNeg (.inl (-1 : Int32)))) := rp1_S7
            have rp2_S7 : ∀ n, xAl (aS W (ma_put S 72 i.toNatClampNeg (.inl (-1 : Int32)))) n → kC S7 n = (kC (ma_put S 72 i.toNatClampNeg (.inl (-1 : Int32)))) n + Int32.ofNat (cIs ((-1 : Int32)) n) - Int32.ofNat (cIs ((-1 : Int32)) n) := rp2_S7
            have rp3_S7 : zN0 S7 = n0 := rp3_S7
            exact K (none) _ hI_S7 (fun _ z => by cases z) (show xB S7 R from by first | (exact (xC_o (W := 75) rp0_S7).2)) (show aS W S7 = ma_u ab 72 i.toNatClampNeg (aNm ab y) from by first | (have nn := (nm_n (W := W) hpre0 rn_c6); rw [hpre1] at nn; refine (rp1_S7.trans (xC_p (c := 72) (k := i.toNatClampNeg) (x := (-1 : Int32)) (xC_o (W := W) hpre0) 72 hpre2 rfl (zcw_s (by decide))).1).trans ?_; rw [hpre1]; rw [nn])) (show none = zTa R (ab 72 i.toNatClampNeg) from by first | (rw [← hpre1, (aS_I (W := W) (S := S) (c := 72) (c₉ := 72) (k := i.toNatClampNeg) rfl (zcw_s (by decide)))]; exact ta_no (by omega))) (show ∀ n, xAl ab n → kC S7 n = kk n + Int32.ofNat (cIs y n) - Int32.ofNat (cIs (ab 72 i.toNatClampNeg) n) from by first | (intro n hn; have q := rp2_S7 n (by rw [(xC_p (c := 72) (k := i.toNatClampNeg) (x := (-1 : Int32)) (xC_o (W := W) hpre0) 72 hpre2 rfl (zcw_s (by decide))).1]; unfold xAl; rw [xu_o (by omega)]; rw [hpre1]; exact hn); rw [congrFun (xK_p (c := 72) (k := i.toNatClampNeg) (x := (-1 : Int32)) (xK_o (W := W) hpre0 hpre6) 72 hpre2 rfl (zcw_s (by decide))).2 n] at q; have h1 : cIs (ab 72 i.toNatClampNeg) n = 0 := (by rw [← (show mI S 72 i.toNatClampNeg = ab 72 i.toNatClampNeg from (aS_I (W := W) (S := S) (c := 72) (c₉ := 72) (k := i.toNatClampNeg) rfl (zcw_s (by decide))).symm.trans (congrFun (congrFun hpre1 72) i.toNatClampNeg))]; exact cIs_r (by omega) hn.1); rw [h1]; rw [cIs_n (x := -1) (by decide) hn.1] at q; have h2 : cIs y n = 0 := is_no (W := W) hpre0 rn_c6 (by rw [hpre1]; exact hn); rw [h2]; exact q)) (show zN0 S7 = n0 from by first | (exact rp3_S7))
          · skip
            have th_c6 := hq_x c6 hc
            have rg_c6 : zTa R y = some c6 := hpre3.symm.trans hc
            subst hc
            refine ⟨zG_n hI th_c6, ?_⟩
            refine ⟨i_ix (by omega) (by omega), ?_⟩
            have hI19 : zI f r C Z N (ma_put S 72 i.toNatClampNeg (.inl (mI S c6 0))) := zG_fa hI rfl (by decide) (by decide) (by decide) trivial
            refine sp_93_sk (ab := (aS W (ma_put S 72 i.toNatClampNeg (.inl (mI S c6 0))))) (R := R) (W := W) (y1 := ((-1 : Int32))) (y2 := (y)) (kk := (kC (ma_put S 72 i.toNatClampNeg (.inl (mI S c6 0))))) (n0 := n0) (none) ((some c6)) (by omega) (by omega) hI19 (fun _ z => by cases z) (fun _ z => by cases z; exact th_c6) (show xB (ma_put S 72 i.toNatClampNeg (.inl (mI S c6 0))) R from by first | (exact (xC_p (c := 72) (k := i.toNatClampNeg) (x := (mI S c6 0)) (xC_o (W := 75) hpre0) 72 xW75 rfl rfl).2)) (show aS W (ma_put S 72 i.toNatClampNeg (.inl (mI S c6 0))) = (aS W (ma_put S 72 i.toNatClampNeg (.inl (mI S c6 0)))) from by first | (exact rfl)) (show xW W from by first | (exact hpre2) | (exact xW88) | (exact xW75)) (show none = zTa R ((-1 : Int32)) from by first | (exact ta_m1) | (exact ta_no (by omega))) (show (some c6) = zTa R (y) from by first | (exact rg_c6.symm)) (show kC (ma_put S 72 i.toNatClampNeg (.inl (mI S c6 0))) = (kC (ma_put S 72 i.toNatClampNeg (.inl (mI S c6 0)))) from by first | (exact rfl)) (show zN0 (ma_put S 72 i.toNatClampNeg (.inl (mI S c6 0))) = n0 from by first | (exact ((n0_p (c := 72) (by decide)).trans hpre7))) (fun S9 hI_S9 rp0_S9 rp1_S9 rp2_S9 rp3_S9 => zv_n ⟨zG_T hI_S9, ?_⟩)
            have rp0_S9 : xB S9 R := rp0_S9
            have rp1_S9 : aS W S9 = (aS W (ma_put S 72 i.toNatClampNeg (.inl (mI S c6 0)))) := rp1_S9
            have rp2_S9 : ∀ n, xAl (aS W (ma_put S 72 i.toNatClampNeg (.inl (mI S c6 0)))) n → kC S9 n = (kC (ma_put S 72 i.toNatClampNeg (.inl (mI S c6 0)))) n + Int32.ofNat (cIs (y) n) - Int32.ofNat (cIs ((-1 : Int32)) n) := rp2_S9
            have rp3_S9 : zN0 S9 = n0 := rp3_S9
            exact K (none) _ hI_S9 (fun _ z => by cases z) (show xB S9 R from by first | (exact (xC_o (W := 75) rp0_S9).2)) (show aS W S9 = ma_u ab 72 i.toNatClampNeg (aNm ab y) from by first | (have nn := (nm_y (W := W) hpre0 rg_c6); rw [hpre1] at nn; refine (rp1_S9.trans (xC_p (c := 72) (k := i.toNatClampNeg) (x := (mI S c6 0)) (xC_o (W := W) hpre0) 72 hpre2 rfl (zcw_s (by decide))).1).trans ?_; rw [hpre1]; have tn := (xB_th (W := W) hpre0 rg_c6).2.2.1; rw [tn]; rw [nn])) (show none = zTa R (ab 72 i.toNatClampNeg) from by first | (rw [← hpre1, (aS_I (W := W) (S := S) (c := 72) (c₉ := 72) (k := i.toNatClampNeg) rfl (zcw_s (by decide)))]; exact ta_no (by omega))) (show ∀ n, xAl ab n → kC S9 n = kk n + Int32.ofNat (cIs y n) - Int32.ofNat (cIs (ab 72 i.toNatClampNeg) n) from by first | (intro n hn; have q := rp2_S9 n (by rw [(xC_p (c := 72) (k := i.toNatClampNeg) (x := (mI S c6 0)) (xC_o (W := W) hpre0) 72 hpre2 rfl (zcw_s (by decide))).1]; unfold xAl; rw [xu_o (by omega)]; rw [hpre1]; exact hn); rw [congrFun (xK_p (c := 72) (k := i.toNatClampNeg) (x := (mI S c6 0)) (xK_o (W := W) hpre0 hpre6) 72 hpre2 rfl (zcw_s (by decide))).2 n] at q; have h1 : cIs (ab 72 i.toNatClampNeg) n = 0 := (by rw [← (show mI S 72 i.toNatClampNeg = ab 72 i.toNatClampNeg from (aS_I (W := W) (S := S) (c := 72) (c₉ := 72) (k := i.toNatClampNeg) rfl (zcw_s (by decide))).symm.trans (congrFun (congrFun hpre1 72) i.toNatClampNeg))]; exact cIs_r (by omega) hn.1); rw [h1]; rw [cIs_n (x := -1) (by decide) hn.1] at q; exact q)) (show zN0 S9 = n0 from by first | (exact rp3_S9))
        · skip
          have g20 := i_nle h16
          refine ⟨i_ix (by omega) (by omega), ?_⟩
          refine ⟨fun hc => ?_, fun c11 hc => ?_⟩
          · skip
            have rn_c11 : zTa R y = none := hpre3.symm.trans hc
            refine ⟨i_ix (by omega) (by omega), ?_⟩
            have hI21 : zI f r C Z N (ma_put S 72 i.toNatClampNeg (.inl (-1 : Int32))) := zG_fa hI rfl (by decide) (by decide) (by decide) trivial
            refine sp_93_sk (ab := (aS W (ma_put S 72 i.toNatClampNeg (.inl (-1 : Int32))))) (R := R) (W := W) (y1 := ((mI S 72 i.toNatClampNeg))) (y2 := ((-1 : Int32))) (kk := (kC (ma_put S 72 i.toNatClampNeg (.inl (-1 : Int32))))) (n0 := n0) ((mR S 70 (mI S 72 i.toNatClampNeg).toNatClampNeg)) (none) (by omega) (by omega) hI21 (fun _ z => zG_70 hI (c := 70) (by decide) z) (fun _ z => by cases z) (show xB (ma_put S 72 i.toNatClampNeg (.inl (-1 : Int32))) R from by first | (exact (xC_p (c := 72) (k := i.toNatClampNeg) (x := (-1 : Int32)) (xC_o (W := 75) hpre0) 72 xW75 rfl rfl).2)) (show aS W (ma_put S 72 i.toNatClampNeg (.inl (-1 : Int32))) = (aS W (ma_put S 72 i.toNatClampNeg (.inl (-1 : Int32)))) from by first | (exact rfl)) (show xW W from by first | (exact hpre2) | (exact xW88) | (exact xW75)) (show (mR S 70 (mI S 72 i.toNatClampNeg).toNatClampNeg) = zTa R ((mI S 72 i.toNatClampNeg)) from by first | (exact ta_rd hpre0 (by omega) (by omega))) (show none = zTa R ((-1 : Int32)) from by first | (exact ta_m1) | (exact ta_no (by omega))) (show kC (ma_put S 72 i.toNatClampNeg (.inl (-1 : Int32))) = (kC (ma_put S 72 i.toNatClampNeg (.inl (-1 : Int32)))) from by first | (exact rfl)) (show zN0 (ma_put S 72 i.toNatClampNeg (.inl (-1 : Int32))) = n0 from by first | (exact ((n0_p (c := 72) (by decide)).trans hpre7))) (fun S12 hI_S12 rp0_S12 rp1_S12 rp2_S12 rp3_S12 => zv_n ⟨zG_T hI_S12, ?_⟩)
            have rp0_S12 : xB S12 R := rp0_S12
            have rp1_S12 : aS W S12 = (aS W (ma_put S 72 i.toNatClampNeg (.inl (-1 : Int32)))) := rp1_S12
            have rp2_S12 : ∀ n, xAl (aS W (ma_put S 72 i.toNatClampNeg (.inl (-1 : Int32)))) n → kC S12 n = (kC (ma_put S 72 i.toNatClampNeg (.inl (-1 : Int32)))) n + Int32.ofNat (cIs ((-1 : Int32)) n) - Int32.ofNat (cIs ((mI S 72 i.toNatClampNeg)) n) := rp2_S12
            have rp3_S12 : zN0 S12 = n0 := rp3_S12
            exact K ((mR S 70 (mI S 72 i.toNatClampNeg).toNatClampNeg)) _ hI_S12 (fun _ z => zG_70 hI (c := 70) (by decide) z) (show xB S12 R from by first | (exact (xC_o (W := 75) rp0_S12).2)) (show aS W S12 = ma_u ab 72 i.toNatClampNeg (aNm ab y) from by first | (have nn := (nm_n (W := W) hpre0 rn_c11); rw [hpre1] at nn; refine (rp1_S12.trans (xC_p (c := 72) (k := i.toNatClampNeg) (x := (-1 : Int32)) (xC_o (W := W) hpre0) 72 hpre2 rfl (zcw_s (by decide))).1).trans ?_; rw [hpre1]; rw [nn])) (show (mR S 70 (mI S 72 i.toNatClampNeg).toNatClampNeg) = zTa R (ab 72 i.toNatClampNeg) from by first | (rw [← hpre1, (aS_I (W := W) (S := S) (c := 72) (c₉ := 72) (k := i.toNatClampNeg) rfl (zcw_s (by decide)))]; exact ta_rd hpre0 (by omega) (by omega))) (show ∀ n, xAl ab n → kC S12 n = kk n + Int32.ofNat (cIs y n) - Int32.ofNat (cIs (ab 72 i.toNatClampNeg) n) from by first | (intro n hn; have q := rp2_S12 n (by rw [(xC_p (c := 72) (k := i.toNatClampNeg) (x := (-1 : Int32)) (xC_o (W := W) hpre0) 72 hpre2 rfl (zcw_s (by decide))).1]; unfold xAl; rw [xu_o (by omega)]; rw [hpre1]; exact hn); rw [congrFun (xK_p (c := 72) (k := i.toNatClampNeg) (x := (-1 : Int32)) (xK_o (W := W) hpre0 hpre6) 72 hpre2 rfl (zcw_s (by decide))).2 n] at q; rw [(show mI S 72 i.toNatClampNeg = ab 72 i.toNatClampNeg from (aS_I (W := W) (S := S) (c := 72) (c₉ := 72) (k := i.toNatClampNeg) rfl (zcw_s (by decide))).symm.trans (congrFun (congrFun hpre1 72) i.toNatClampNeg))] at q; rw [cIs_n (x := -1) (by decide) hn.1] at q; have h2 : cIs y n = 0 := is_no (W := W) hpre0 rn_c11 (by rw [hpre1]; exact hn); rw [h2]; exact q)) (show zN0 S12 = n0 from by first | (exact rp3_S12))
          · skip
            have th_c11 := hq_x c11 hc
            have rg_c11 : zTa R y = some c11 := hpre3.symm.trans hc
            subst hc
            refine ⟨zG_n hI th_c11, ?_⟩
            refine ⟨i_ix (by omega) (by omega), ?_⟩
            have hI22 : zI f r C Z N (ma_put S 72 i.toNatClampNeg (.inl (mI S c11 0))) := zG_fa hI rfl (by decide) (by decide) (by decide) trivial
            refine sp_93_sk (ab := (aS W (ma_put S 72 i.toNatClampNeg (.inl (mI S c11 0))))) (R := R) (W := W) (y1 := ((mI S 72 i.toNatClampNeg))) (y2 := (y)) (kk := (kC (ma_put S 72 i.toNatClampNeg (.inl (mI S c11 0))))) (n0 := n0) ((mR S 70 (mI S 72 i.toNatClampNeg).toNatClampNeg)) ((some c11)) (by omega) (by omega) hI22 (fun _ z => zG_70 hI (c := 70) (by decide) z) (fun _ z => by cases z; exact th_c11) (show xB (ma_put S 72 i.toNatClampNeg (.inl (mI S c11 0))) R from by first | (exact (xC_p (c := 72) (k := i.toNatClampNeg) (x := (mI S c11 0)) (xC_o (W := 75) hpre0) 72 xW75 rfl rfl).2)) (show aS W (ma_put S 72 i.toNatClampNeg (.inl (mI S c11 0))) = (aS W (ma_put S 72 i.toNatClampNeg (.inl (mI S c11 0)))) from by first | (exact rfl)) (show xW W from by first | (exact hpre2) | (exact xW88) | (exact xW75)) (show (mR S 70 (mI S 72 i.toNatClampNeg).toNatClampNeg) = zTa R ((mI S 72 i.toNatClampNeg)) from by first | (exact ta_rd hpre0 (by omega) (by omega))) (show (some c11) = zTa R (y) from by first | (exact rg_c11.symm)) (show kC (ma_put S 72 i.toNatClampNeg (.inl (mI S c11 0))) = (kC (ma_put S 72 i.toNatClampNeg (.inl (mI S c11 0)))) from by first | (exact rfl)) (show zN0 (ma_put S 72 i.toNatClampNeg (.inl (mI S c11 0))) = n0 from by first | (exact ((n0_p (c := 72) (by decide)).trans hpre7))) (fun S14 hI_S14 rp0_S14 rp1_S14 rp2_S14 rp3_S14 => zv_n ⟨zG_T hI_S14, ?_⟩)
            have rp0_S14 : xB S14 R := rp0_S14
            have rp1_S14 : aS W S14 = (aS W (ma_put S 72 i.toNatClampNeg (.inl (mI S c11 0)))) := rp1_S14
            have rp2_S14 : ∀ n, xAl (aS W (ma_put S 72 i.toNatClampNeg (.inl (mI S c11 0)))) n → kC S14 n = (kC (ma_put S 72 i.toNatClampNeg (.inl (mI S c11 0)))) n + Int32.ofNat (cIs (y) n) - Int32.ofNat (cIs ((mI S 72 i.toNatClampNeg)) n) := rp2_S14
            have rp3_S14 : zN0 S14 = n0 := rp3_S14
            exact K ((mR S 70 (mI S 72 i.toNatClampNeg).toNatClampNeg)) _ hI_S14 (fun _ z => zG_70 hI (c := 70) (by decide) z) (show xB S14 R from by first | (exact (xC_o (W := 75) rp0_S14).2)) (show aS W S14 = ma_u ab 72 i.toNatClampNeg (aNm ab y) from by first | (have nn := (nm_y (W := W) hpre0 rg_c11); rw [hpre1] at nn; refine (rp1_S14.trans (xC_p (c := 72) (k := i.toNatClampNeg) (x := (mI S c11 0)) (xC_o (W := W) hpre0) 72 hpre2 rfl (zcw_s (by decide))).1).trans ?_; rw [hpre1]; have tn := (xB_th (W := W) hpre0 rg_c11).2.2.1; rw [tn]; rw [nn])) (show (mR S 70 (mI S 72 i.toNatClampNeg).toNatClampNeg) = zTa R (ab 72 i.toNatClampNeg) from by first | (rw [← hpre1, (aS_I (W := W) (S := S) (c := 72) (c₉ := 72) (k := i.toNatClampNeg) rfl (zcw_s (by decide)))]; exact ta_rd hpre0 (by omega) (by omega))) (show ∀ n, xAl ab n → kC S14 n = kk n + Int32.ofNat (cIs y n) - Int32.ofNat (cIs (ab 72 i.toNatClampNeg) n) from by first | (intro n hn; have q := rp2_S14 n (by rw [(xC_p (c := 72) (k := i.toNatClampNeg) (x := (mI S c11 0)) (xC_o (W := W) hpre0) 72 hpre2 rfl (zcw_s (by decide))).1]; unfold xAl; rw [xu_o (by omega)]; rw [hpre1]; exact hn); rw [congrFun (xK_p (c := 72) (k := i.toNatClampNeg) (x := (mI S c11 0)) (xK_o (W := W) hpre0 hpre6) 72 hpre2 rfl (zcw_s (by decide))).2 n] at q; rw [(show mI S 72 i.toNatClampNeg = ab 72 i.toNatClampNeg from (aS_I (W := W) (S := S) (c := 72) (c₉ := 72) (k := i.toNatClampNeg) rfl (zcw_s (by decide))).symm.trans (congrFun (congrFun hpre1 72) i.toNatClampNeg))] at q; exact q)) (show zN0 S14 = n0 from by first | (exact rp3_S14))
    · skip
      have g23 := i_nlt h7
      exact K (none) _ hI (fun _ z => by cases z) (show xB S R from by first | (exact (xC_o (W := 75) hpre0).2)) (show aS W S = ma_u ab 72 i.toNatClampNeg (aNm ab y) from by first | (exfalso; omega)) (show none = zTa R (ab 72 i.toNatClampNeg) from by first | (exfalso; omega)) (show ∀ n, xAl ab n → kC S n = kk n + Int32.ofNat (cIs y n) - Int32.ofNat (cIs (ab 72 i.toNatClampNeg) n) from by first | (exfalso; omega)) (show zN0 S = n0 from by first | (exact hpre7))

