/-! from 95.g00 -/
/-! the heap by numbers, the class (written by wip/tools/gen18.py) -/
theorem g_119_88_s_0 {X : Nat × (Nat → Int32)} {d w : Nat} {S : ma_S} {Q : Option ma_V ⊕ Nat → ma_S → Prop} (t : Option Nat) (hd : 0 ≤ d) (hw : 0 ≤ w) (hS : zT S) (h : (t = none → Q (.inl none) S) ∧ (∀ c1, t = some c1 → (126 ≤ c1 ∧ c1 < mN S) ∧ (if (mI S c1 4) < (mI S 88 5) then (Q (.inl none) S) else ((126 ≤ c1 ∧ c1 < mN S) ∧ (if (512 : Int32) ≤ (mI S c1 0) then (Q (.inl none) S) else (if (mI S 88 4) < (512 : Int32) then ((126 ≤ c1 ∧ c1 < mN S) ∧ ((0 ≤ (mI S c1 0) ∧ (mI S c1 0).toNatClampNeg < 512) ∧ (if (mI S 90 (mI S c1 0).toNatClampNeg) = 0 then ((126 ≤ c1 ∧ c1 < mN S) ∧ ((0 ≤ (mI S c1 0) ∧ (mI S c1 0).toNatClampNeg < 512) ∧ ((126 ≤ c1 ∧ c1 < mN (ma_put S 90 (mI S c1 0).toNatClampNeg (.inl (1 : Int32)))) ∧ ((0 ≤ (mI S 88 4) ∧ (mI S 88 4).toNatClampNeg < 512) ∧ (Q (.inl none) (ma_put (ma_put (ma_put S 90 (mI S c1 0).toNatClampNeg (.inl (1 : Int32))) 89 (mI S 88 4).toNatClampNeg (.inl (mI (ma_put S 90 (mI S c1 0).toNatClampNeg (.inl (1 : Int32))) c1 0))) 88 4 (.inl ((mI S 88 4) + (1 : Int32))))))))) else (Q (.inl none) S)))) else (Q (.inl none) S))))))) : ma_wp X d w 119 0 [(0, .inr (.inr (some 88))), (1, .inr (.inr t))] [] S Q := by
  refine zw_push hm_119 dX10_comes_0 (v := .inr (.inr t)) rfl ?_
  refine zw_ifnull hm_119 dX10_comes_1 (t := 35) rfl ?_ ?_
  · intro hc
    have h := h.1 hc
    (try rw [hc])
    show ma_wp X d w 119 35 [(0, .inr (.inr (some 88))), (1, .inr (.inr none))] [] S _
    exact zw_vret hm_119 dX10_comes_35 h
  · intro c1 hc
    have h := h.2 c1 hc
    (try rw [hc])
    show ma_wp X d w 119 4 [(0, .inr (.inr (some 88))), (1, .inr (.inr (some c1)))] [] S _
    refine zw_push hm_119 dX10_comes_4 (v := .inr (.inr (some c1))) rfl ?_
    obtain ⟨hg, h⟩ := h
    refine zw_gf hm_119 dX10_comes_5 (v := .inl (mI S c1 4)) (zT_tis hS hg) (zT_tt hS hg) rfl f_10_49_9 rfl ?_
    refine zw_push hm_119 dX10_comes_8 (v := .inr (.inr (some 88))) rfl ?_
    refine zw_gf hm_119 dX10_comes_9 (v := .inl (mI S 88 5)) (zT_is hS s_88) (zT_t hS s_88) rfl f_10_35_10 rfl ?_
    refine zw_if2 hm_119 dX10_comes_12 (t := 35) rfl zc2_lt ?_ ?_
    · intro hc
      rw [if_pos hc] at h
      exact zw_vret hm_119 dX10_comes_35 h
    · intro hc
      rw [if_neg hc] at h
      refine zw_push hm_119 dX10_comes_15 (v := .inr (.inr (some c1))) rfl ?_
      obtain ⟨hg, h⟩ := h
      refine zw_gf hm_119 dX10_comes_16 (v := .inl (mI S c1 0)) (zT_tis hS hg) (zT_tt hS hg) rfl f_10_58_9 rfl ?_
      refine zw_push hm_119 dX10_comes_19 (v := .inl (512 : Int32)) rfl ?_
      refine zw_if2 hm_119 dX10_comes_22 (t := 35) rfl zc2_ge ?_ ?_
      · intro hc
        rw [if_pos hc] at h
        exact zw_vret hm_119 dX10_comes_35 h
      · intro hc
        rw [if_neg hc] at h
        refine zw_push hm_119 dX10_comes_25 (v := .inr (.inr (some 88))) rfl ?_
        refine zw_gf hm_119 dX10_comes_26 (v := .inl (mI S 88 4)) (zT_is hS s_88) (zT_t hS s_88) rfl f_10_32_10 rfl ?_
        refine zw_push hm_119 dX10_comes_29 (v := .inl (512 : Int32)) rfl ?_
        refine zw_if2 hm_119 dX10_comes_32 (t := 36) rfl zc2_lt ?_ ?_
        · intro hc
          rw [if_pos hc] at h
          refine zw_push hm_119 dX10_comes_36 (v := .inr (.inr (some 88))) rfl ?_
          refine zw_gf hm_119 dX10_comes_37 (v := .inr (.inr (some 90))) (zT_is hS s_88) (zT_t hS s_88) rfl f_10_15_10 (zT_f hS r_88_2) ?_
          refine zw_push hm_119 dX10_comes_40 (v := .inr (.inr (some c1))) rfl ?_
          obtain ⟨hg, h⟩ := h
          refine zw_gf hm_119 dX10_comes_41 (v := .inl (mI S c1 0)) (zT_tis hS hg) (zT_tt hS hg) rfl f_10_58_9 rfl ?_
          obtain ⟨hg, h⟩ := h
          refine zw_ia hm_119 dX10_comes_44 (zT_is hS s_90) (zT_h hS s_90) rfl hg ?_
          show ma_wp X d w 119 45 [(0, .inr (.inr (some 88))), (1, .inr (.inr (some c1)))] [.inl (mI S 90 (mI S c1 0).toNatClampNeg)] S _
          refine zw_if0 hm_119 dX10_comes_45 (t := 81) rfl zc0_ne ?_ ?_
          · intro hc
            rw [if_neg hc] at h
            exact zw_vret hm_119 dX10_comes_81 h
          · intro hc
            rw [if_pos (Classical.not_not.mp hc)] at h
            refine zw_push hm_119 dX10_comes_48 (v := .inr (.inr (some 88))) rfl ?_
            refine zw_gf hm_119 dX10_comes_49 (v := .inr (.inr (some 90))) (zT_is hS s_88) (zT_t hS s_88) rfl f_10_15_10 (zT_f hS r_88_2) ?_
            refine zw_push hm_119 dX10_comes_52 (v := .inr (.inr (some c1))) rfl ?_
            obtain ⟨hg, h⟩ := h
            refine zw_gf hm_119 dX10_comes_53 (v := .inl (mI S c1 0)) (zT_tis hS hg) (zT_tt hS hg) rfl f_10_58_9 rfl ?_
            refine zw_push hm_119 dX10_comes_56 (v := .inl (1 : Int32)) rfl ?_
            obtain ⟨hg, h⟩ := h
            refine zw_ias hm_119 dX10_comes_57 (zT_is hS s_90) (zT_h hS s_90) rfl hg ?_
            refine zw_push hm_119 dX10_comes_58 (v := .inr (.inr (some 88))) rfl ?_
            refine zw_gf hm_119 dX10_comes_59 (v := .inr (.inr (some 89))) (zT_is (zT_pi hS) s_88) (zT_t (zT_pi hS) s_88) rfl f_10_9_10 (zT_f (zT_pi hS) r_88_1) ?_
            refine zw_push hm_119 dX10_comes_62 (v := .inr (.inr (some 88))) rfl ?_
            refine zw_gf hm_119 dX10_comes_63 (v := .inl (mI S 88 4)) (zT_is (zT_pi hS) s_88) (zT_t (zT_pi hS) s_88) rfl f_10_32_10 rfl ?_
            refine zw_push hm_119 dX10_comes_66 (v := .inr (.inr (some c1))) rfl ?_
            obtain ⟨hg, h⟩ := h
            refine zw_gf hm_119 dX10_comes_67 (v := .inl (mI (ma_put S 90 (mI S c1 0).toNatClampNeg (.inl (1 : Int32))) c1 0)) (zT_tis (zT_pi hS) hg) (zT_tt (zT_pi hS) hg) rfl f_10_58_9 rfl ?_
            obtain ⟨hg, h⟩ := h
            refine zw_ias hm_119 dX10_comes_70 (zT_is (zT_pi hS) s_89) (zT_h (zT_pi hS) s_89) rfl hg ?_
            refine zw_push hm_119 dX10_comes_71 (v := .inr (.inr (some 88))) rfl ?_
            refine zw_stk hm_119 dX10_comes_72 (st₉ := [.inr (.inr (some 88)), .inr (.inr (some 88))]) rfl rfl ?_
            refine zw_gf hm_119 dX10_comes_73 (v := .inl (mI S 88 4)) (zT_is (zT_pi (zT_pi hS)) s_88) (zT_t (zT_pi (zT_pi hS)) s_88) rfl f_10_32_10 rfl ?_
            refine zw_push hm_119 dX10_comes_76 (v := .inl (1 : Int32)) rfl ?_
            refine zw_stk hm_119 dX10_comes_77 (st₉ := [.inl ((mI S 88 4) + (1 : Int32)), .inr (.inr (some 88))]) rfl rfl ?_
            refine zw_pf hm_119 dX10_comes_78 (zT_is (zT_pi (zT_pi hS)) s_88) (zT_t (zT_pi (zT_pi hS)) s_88) p_10_32_10 zk_int ?_
            exact zw_vret hm_119 dX10_comes_81 h
        · intro hc
          rw [if_neg hc] at h
          exact zw_vret hm_119 dX10_comes_35 h
theorem sp_119_88_s {X : Nat × (Nat → Int32)} {d w : Nat} {f : Nat → Nat → Int32} {r : Nat → Nat → Option Nat} {C Z N : Nat} {Q : Option ma_V ⊕ Nat → ma_S → Prop} {ab : Nat→Nat→Int32} {R : zRT} {y : Int32} {S : ma_S} (t : Option Nat) (hd : 0 ≤ d) (hw : 0 ≤ w) (hI : zI f r C Z N S) (hq_t : ∀ c, t = some c → 126 ≤ c ∧ c < N) (hpre0 : xB S R) (hpre1 : aS 88 S = ab) (hpre2 : t = zTa R y) (K : ∀ S₉, zI f r C Z N S₉ → (xB S₉ R) → (aS 88 S₉ = aCm ab y) → Q (.inl none) S₉) : ma_wp X d w 119 0 [(0, .inr (.inr (some 88))), (1, .inr (.inr t))] [] S Q := by
  refine g_119_88_s_0 t (by omega) (by omega) (zG_T hI) ?_
  refine ⟨fun hc => ?_, fun c1 hc => ?_⟩
  · skip
    have rn_c1 : zTa R y = none := hpre2.symm.trans hc
    exact K _ hI (show xB S R from by first | (exact (xC_o (W := 75) hpre0).2)) (show aS 88 S = aCm ab y from by first | (exact hpre1.trans (aCm_n (fun z => xB_nt (W := 88) hpre0 rn_c1 (by rw [hpre1]; exact ⟨z.1, z.2.1, z.2.2.1⟩))).symm))
  · skip
    have th_c1 := hq_t c1 hc
    have rg_c1 : zTa R y = some c1 := hpre2.symm.trans hc
    subst hc
    refine ⟨zG_n hI th_c1, ?_⟩
    have f1 := zG_th hI th_c1
    have b2 := i_bd (mI S 88 5)
    refine zd (fun h3 => ?_) (fun h3 => ?_)
    · skip
      have g4 := i_lt h3
      exact K _ hI (show xB S R from by first | (exact (xC_o (W := 75) hpre0).2)) (show aS 88 S = aCm ab y from by first | (have ty := xB_th (W := 88) hpre0 rg_c1; have e4 := congrArg Int32.toInt ty.2.2.2.2.2.1; refine hpre1.trans (aCm_n (fun z => ?_)).symm; rw [← hpre1] at z; have z4 : (mI S 88 5).toInt ≤ (mI S c1 4).toInt := (by rw [e4]; exact z.2.2.2.1); have z5 : (mI S 88 4).toInt < 512 := z.2.2.2.2.1; have z6 : (mI S 90 (mI S c1 0).toNatClampNeg).toInt = 0 := (by rw [ty.2.2.1]; exact congrArg Int32.toInt z.2.2.2.2.2); omega))
    · skip
      have g5 := i_nlt h3
      refine ⟨zG_n hI th_c1, ?_⟩
      have li6 : (512 : Int32).toInt = 512 := rfl
      have f7 := zG_th hI th_c1
      refine zd (fun h8 => ?_) (fun h8 => ?_)
      · skip
        have g9 := i_le h8
        exact K _ hI (show xB S R from by first | (exact (xC_o (W := 75) hpre0).2)) (show aS 88 S = aCm ab y from by first | (have ty := xB_th (W := 88) hpre0 rg_c1; have e4 := congrArg Int32.toInt ty.2.2.2.2.2.1; refine hpre1.trans (aCm_n (fun z => ?_)).symm; rw [← hpre1] at z; have z4 : (mI S 88 5).toInt ≤ (mI S c1 4).toInt := (by rw [e4]; exact z.2.2.2.1); have z5 : (mI S 88 4).toInt < 512 := z.2.2.2.2.1; have z6 : (mI S 90 (mI S c1 0).toNatClampNeg).toInt = 0 := (by rw [ty.2.2.1]; exact congrArg Int32.toInt z.2.2.2.2.2); omega))
      · skip
        have g10 := i_nle h8
        have f11 := zG_s hI (0) (512) (c := 88) (k := 4) (by decide)
        refine zd (fun h12 => ?_) (fun h12 => ?_)
        · skip
          have g13 := i_lt h12
          refine ⟨zG_n hI th_c1, ?_⟩
          refine ⟨i_ix (by omega) (by omega), ?_⟩
          have b14 := i_bd (mI S 90 (mI S c1 0).toNatClampNeg)
          have li15 : (0 : Int32).toInt = 0 := rfl
          refine zd (fun h16 => ?_) (fun h16 => ?_)
          · skip
            have g17 := i_eq h16
            refine ⟨zG_n hI th_c1, ?_⟩
            refine ⟨i_ix (by omega) (by omega), ?_⟩
            have hI18 : zI f r C Z N (ma_put S 90 (mI S c1 0).toNatClampNeg (.inl (1 : Int32))) := zG_fa hI rfl (by decide) (by decide) (by decide) trivial
            refine ⟨zG_n hI18 th_c1, ?_⟩
            refine ⟨i_ix (by omega) (by omega), ?_⟩
            have hI19 : zI f r C Z N (ma_put (ma_put S 90 (mI S c1 0).toNatClampNeg (.inl (1 : Int32))) 89 (mI S 88 4).toNatClampNeg (.inl (mI (ma_put S 90 (mI S c1 0).toNatClampNeg (.inl (1 : Int32))) c1 0))) := zG_fa hI18 rfl (by decide) (by decide) (by decide) trivial
            first | have e21 : ((mI S 88 4) + (1 : Int32)).toInt = (mI S 88 4).toInt + (1) := i_addk rfl (by omega) (by omega) | have b22 := i_bd ((mI S 88 4) + (1 : Int32))
            have hI20 : zI f r C Z N (ma_put (ma_put (ma_put S 90 (mI S c1 0).toNatClampNeg (.inl (1 : Int32))) 89 (mI S 88 4).toNatClampNeg (.inl (mI (ma_put S 90 (mI S c1 0).toNatClampNeg (.inl (1 : Int32))) c1 0))) 88 4 (.inl ((mI S 88 4) + (1 : Int32)))) := zG_sp hI19 (0) (512) rfl (by decide) (by decide) (by decide) trivial (by omega) (by omega)
            exact K _ hI20 (show xB (ma_put (ma_put (ma_put S 90 (mI S c1 0).toNatClampNeg (.inl (1 : Int32))) 89 (mI S 88 4).toNatClampNeg (.inl (mI (ma_put S 90 (mI S c1 0).toNatClampNeg (.inl (1 : Int32))) c1 0))) 88 4 (.inl ((mI S 88 4) + (1 : Int32)))) R from by first | (exact (xC_n (c := 88) (k := 4) (x := ((mI S 88 4) + (1 : Int32))) (xC_n (c := 89) (k := (mI S 88 4).toNatClampNeg) (x := (mI (ma_put S 90 (mI S c1 0).toNatClampNeg (.inl (1 : Int32))) c1 0)) (xC_n (c := 90) (k := (mI S c1 0).toNatClampNeg) (x := (1 : Int32)) (xC_o (W := 75) hpre0) ⟨by decide, Or.inl ⟨rfl, rfl⟩⟩) ⟨by decide, Or.inl ⟨rfl, rfl⟩⟩) ⟨by decide, Or.inl ⟨rfl, rfl⟩⟩).2)) (show aS 88 (ma_put (ma_put (ma_put S 90 (mI S c1 0).toNatClampNeg (.inl (1 : Int32))) 89 (mI S 88 4).toNatClampNeg (.inl (mI (ma_put S 90 (mI S c1 0).toNatClampNeg (.inl (1 : Int32))) c1 0))) 88 4 (.inl ((mI S 88 4) + (1 : Int32)))) = aCm ab y from by first | (have ty := xB_th (W := 88) hpre0 rg_c1; have e4 := congrArg Int32.toInt ty.2.2.2.2.2.1; refine (xC_p (c := 88) (k := 4) (x := ((mI S 88 4) + (1 : Int32))) (xC_p (c := 89) (k := (mI S 88 4).toNatClampNeg) (x := (mI (ma_put S 90 (mI S c1 0).toNatClampNeg (.inl (1 : Int32))) c1 0)) (xC_p (c := 90) (k := (mI S c1 0).toNatClampNeg) (x := (1 : Int32)) (xC_o (W := 88) hpre0) 77 xW88 rfl rfl) 76 xW88 rfl rfl) 75 xW88 rfl rfl).1.trans ?_; (try simp only [zp_e (c₉ := 88) th_c1.1 (by decide), zp_e (c₉ := 89) th_c1.1 (by decide), zp_e (c₉ := 90) th_c1.1 (by decide)]); rw [ty.2.2.1, ← hpre1]; refine (aCm_y ⟨ty.1, ty.2.1, ?_, ?_, ?_, ?_⟩).symm; (rw [ty.2.2.2.2.2.2.2.2]; decide); (show (mI S 88 5).toInt ≤ _; rw [← e4]; omega); (show (mI S 88 4).toInt < 512; omega); (show mI S 90 y.toNatClampNeg = 0; rw [← ty.2.2.1]; assumption)))
          · skip
            have g23 := i_ne h16
            exact K _ hI (show xB S R from by first | (exact (xC_o (W := 75) hpre0).2)) (show aS 88 S = aCm ab y from by first | (have ty := xB_th (W := 88) hpre0 rg_c1; have e4 := congrArg Int32.toInt ty.2.2.2.2.2.1; refine hpre1.trans (aCm_n (fun z => ?_)).symm; rw [← hpre1] at z; have z4 : (mI S 88 5).toInt ≤ (mI S c1 4).toInt := (by rw [e4]; exact z.2.2.2.1); have z5 : (mI S 88 4).toInt < 512 := z.2.2.2.2.1; have z6 : (mI S 90 (mI S c1 0).toNatClampNeg).toInt = 0 := (by rw [ty.2.2.1]; exact congrArg Int32.toInt z.2.2.2.2.2); omega))
        · skip
          have g24 := i_nlt h12
          exact K _ hI (show xB S R from by first | (exact (xC_o (W := 75) hpre0).2)) (show aS 88 S = aCm ab y from by first | (have ty := xB_th (W := 88) hpre0 rg_c1; have e4 := congrArg Int32.toInt ty.2.2.2.2.2.1; refine hpre1.trans (aCm_n (fun z => ?_)).symm; rw [← hpre1] at z; have z4 : (mI S 88 5).toInt ≤ (mI S c1 4).toInt := (by rw [e4]; exact z.2.2.2.1); have z5 : (mI S 88 4).toInt < 512 := z.2.2.2.2.1; have z6 : (mI S 90 (mI S c1 0).toNatClampNeg).toInt = 0 := (by rw [ty.2.2.1]; exact congrArg Int32.toInt z.2.2.2.2.2); omega))
theorem g_276_90_s_0 {X : Nat × (Nat → Int32)} {d w : Nat} {S : ma_S} {Q : Option ma_V ⊕ Nat → ma_S → Prop} (x : Int32) (hd : 0 ≤ d) (hw : 0 ≤ w) (hS : zT S) (h : ma_wp X d w 276 5 [(0, .inr (.inr (some 90))), (1, .inl x), (2, .inl (0 : Int32)), (3, .inl (512 : Int32))] [] S Q) : ma_wp X d w 276 0 [(0, .inr (.inr (some 90))), (1, .inl x)] [] S Q := by
  refine zw_push hm_276 dJ7_fill_53178_0 (v := .inl (0 : Int32)) rfl ?_
  refine zw_sto hm_276 dJ7_fill_53178_1 [(2, .inl (0 : Int32)), (0, .inr (.inr (some 90))), (1, .inl x)] rfl rfl rfl ?_
  refine zw_push hm_276 dJ7_fill_53178_2 (v := .inr (.inr (some 90))) rfl ?_
  refine zw_len hm_276 dJ7_fill_53178_3 (zT_is hS s_90) (zT_h hS s_90) rfl rfl ?_
  refine zw_sto hm_276 dJ7_fill_53178_4 [(3, .inl (512 : Int32)), (2, .inl (0 : Int32)), (0, .inr (.inr (some 90))), (1, .inl x)] rfl rfl rfl ?_
  exact zw_sub (ma_nd_of (ks := [0, 1, 2, 3]) rfl (by decide)) (ma_nd_of (ks := [3, 2, 0, 1]) rfl (by decide)) (ma_le_cons rfl (ma_le_cons rfl (ma_le_cons rfl (ma_le_cons rfl (ma_le_nil _))))) h
theorem g_276_90_s_5 {X : Nat × (Nat → Int32)} {d w : Nat} {S : ma_S} {Q : Option ma_V ⊕ Nat → ma_S → Prop} (l1 : Int32) (l2 : Int32) (l3 : Int32) (hd : 0 ≤ d) (hw : 0 ≤ w) (hS : zT S) (h : if l3 ≤ l2 then (Q (.inl none) S) else ((0 ≤ l2 ∧ l2.toNatClampNeg < 512) ∧ (ma_wp X d w 276 5 [(0, .inr (.inr (some 90))), (1, .inl l1), (2, .inl (l2 + (1 : Int32))), (3, .inl l3)] [] (ma_put S 90 l2.toNatClampNeg (.inl l1)) Q))) : ma_wp X d w 276 5 [(0, .inr (.inr (some 90))), (1, .inl l1), (2, .inl l2), (3, .inl l3)] [] S Q := by
  refine zw_push hm_276 dJ7_fill_53178_5 (v := .inl l2) rfl ?_
  refine zw_push hm_276 dJ7_fill_53178_6 (v := .inl l3) rfl ?_
  refine zw_if2 hm_276 dJ7_fill_53178_7 (t := 20) rfl zc2_ge ?_ ?_
  · intro hc
    rw [if_pos hc] at h
    exact zw_vret hm_276 dJ7_fill_53178_20 h
  · intro hc
    rw [if_neg hc] at h
    refine zw_push hm_276 dJ7_fill_53178_10 (v := .inr (.inr (some 90))) rfl ?_
    refine zw_push hm_276 dJ7_fill_53178_11 (v := .inl l2) rfl ?_
    refine zw_push hm_276 dJ7_fill_53178_12 (v := .inl l1) rfl ?_
    obtain ⟨hg, h⟩ := h
    refine zw_ias hm_276 dJ7_fill_53178_13 (zT_is hS s_90) (zT_h hS s_90) rfl hg ?_
    refine zw_sto hm_276 dJ7_fill_53178_14 [(2, .inl (l2 + (1 : Int32))), (0, .inr (.inr (some 90))), (1, .inl l1), (3, .inl l3)] rfl rfl rfl ?_
    refine zw_goto hm_276 dJ7_fill_53178_17 (t := 5) rfl ?_
    exact zw_sub (ma_nd_of (ks := [0, 1, 2, 3]) rfl (by decide)) (ma_nd_of (ks := [2, 0, 1, 3]) rfl (by decide)) (ma_le_cons rfl (ma_le_cons rfl (ma_le_cons rfl (ma_le_cons rfl (ma_le_nil _))))) h
theorem lp_276_90_s_5 {X : Nat × (Nat → Int32)} {d w : Nat} {f : Nat → Nat → Int32} {r : Nat → Nat → Option Nat} {C Z N : Nat} {Q : Option ma_V ⊕ Nat → ma_S → Prop} {ab : Nat→Nat→Int32} {R : zRT} {x : Int32} (hd : 0 ≤ d) (hw : 0 ≤ w) (K : ∀ S₉, zI f r C Z N S₉ → (xB S₉ R) → (aS 88 S₉ = zFl ab 77 x 512) → Q (.inl none) S₉) : ∀ (n : Nat) (S : ma_S) (l1 : Int32) (l2 : Int32) (l3 : Int32), (l3.toInt - l2.toInt).toNat = n → zI f r C Z N S → (0 ≤ l2.toInt) → (l3.toInt = 512) → (l2.toInt ≤ 512) → (xB S R) → (aS 88 S = zFl ab 77 l1 l2.toInt) → (l1 = x) → ma_wp X d w 276 5 [(0, .inr (.inr (some 90))), (1, .inl l1), (2, .inl l2), (3, .inl l3)] [] S Q := by
  intro n
  induction n using Nat.strongRecOn with
  | _ n IH =>
    intro S l1 l2 l3 hmu hI  hi0 hi1 hi2 hi3 hi4 hi5
    refine g_276_90_s_5 l1 l2 l3 (by omega) (by omega) (zG_T hI) ?_
    have b1 := i_bd l3
    have b2 := i_bd l2
    refine zd (fun h3 => ?_) (fun h3 => ?_)
    · skip
      have g4 := i_le h3
      exact K _ hI (show xB S R from by first | (exact (xC_o (W := 75) hi3).2)) (show aS 88 S = zFl ab 77 x 512 from by first | (rw [hi4, show l2.toInt = 512 from by omega, hi5]))
    · skip
      have g5 := i_nle h3
      refine ⟨i_ix (by omega) (by omega), ?_⟩
      have hI6 : zI f r C Z N (ma_put S 90 l2.toNatClampNeg (.inl l1)) := zG_fa hI rfl (by decide) (by decide) (by decide) trivial
      have b7 := i_bd l1
      first | have e8 : (l2 + (1 : Int32)).toInt = l2.toInt + (1) := i_addk rfl (by omega) (by omega) | have b9 := i_bd (l2 + (1 : Int32))
      exact IH _ (by omega) _ (l1) ((l2 + (1 : Int32))) (l3) rfl hI6 (by omega) (by omega) (by omega) (show xB (ma_put S 90 l2.toNatClampNeg (.inl l1)) R from by first | (exact (xC_n (c := 90) (k := l2.toNatClampNeg) (x := l1) (xC_o (W := 75) hi3) ⟨by decide, Or.inl ⟨rfl, rfl⟩⟩).2)) (show aS 88 (ma_put S 90 l2.toNatClampNeg (.inl l1)) = zFl ab 77 (l1) ((l2 + (1 : Int32))).toInt from by first | (refine (xC_p (c := 90) (k := l2.toNatClampNeg) (x := l1) (xC_o (W := 88) hi3) 77 xW88 rfl rfl).1.trans ?_; skip; rw [hi4]; exact zFl_s (by omega) (by omega))) (show (l1) = x from by first | (exact rfl) | (exact hi5))
theorem sp_276_90_s {X : Nat × (Nat → Int32)} {d w : Nat} {f : Nat → Nat → Int32} {r : Nat → Nat → Option Nat} {C Z N : Nat} {Q : Option ma_V ⊕ Nat → ma_S → Prop} {ab : Nat→Nat→Int32} {R : zRT} {S : ma_S} (x : Int32) (hd : 0 ≤ d) (hw : 0 ≤ w) (hI : zI f r C Z N S) (hpre0 : xB S R) (hpre1 : aS 88 S = ab) (K : ∀ S₉, zI f r C Z N S₉ → (xB S₉ R) → (aS 88 S₉ = zFl ab 77 x 512) → Q (.inl none) S₉) : ma_wp X d w 276 0 [(0, .inr (.inr (some 90))), (1, .inl x)] [] S Q := by
  refine g_276_90_s_0 x (by omega) (by omega) (zG_T hI) ?_
  have b1 := i_bd x
  have li2 : (0 : Int32).toInt = 0 := rfl
  have li3 : (512 : Int32).toInt = 512 := rfl
  exact lp_276_90_s_5 (by omega) (by omega) K _ _ (x) ((0 : Int32)) ((512 : Int32)) rfl hI (by omega) (by omega) (by omega) (show xB S R from by first | (exact (xC_o (W := 75) hpre0).2)) (show aS 88 S = zFl ab 77 (x) ((0 : Int32)).toInt from by first | (rw [hpre1]; exact zFl_0.symm)) (show (x) = x from by first | (exact rfl))
theorem g_117_88_s_0 {X : Nat × (Nat → Int32)} {d w : Nat} {S : ma_S} {Q : Option ma_V ⊕ Nat → ma_S → Prop} (p : Int32) (hd : 1 ≤ d) (hw : 23 ≤ w) (hS : zT S) (h : ma_wp X (d - 1) (w - 23) 276 0 [(0, .inr (.inr (some 90))), (1, .inl (0 : Int32))] [] S (zv (fun S1 => zT S1 ∧ (Q (.inl none) (ma_put (ma_put (ma_put S1 88 3 (.inl (0 : Int32))) 88 4 (.inl (0 : Int32))) 88 5 (.inl p)))) (fun _ _ => False))) : ma_wp X d w 117 0 [(0, .inr (.inr (some 88))), (1, .inl p)] [] S Q := by
  refine zw_push hm_117 dX10_restart_0 (v := .inr (.inr (some 88))) rfl ?_
  refine zw_gf hm_117 dX10_restart_1 (v := .inr (.inr (some 90))) (zT_is hS s_88) (zT_t hS s_88) rfl f_10_15_10 (zT_f hS r_88_2) ?_
  refine zw_push hm_117 dX10_restart_4 (v := .inl (0 : Int32)) rfl ?_
  refine zw_cs hm_117 dX10_restart_5 pn_10_22 sl_10_22 hm_276 [.inl (0 : Int32), .inr (.inr (some 90))] [] rfl ⟨by omega, by omega⟩ rfl (zw_mono h (zv_go ?_ ?_))
  · intro S1 hv
    obtain ⟨hS1, h⟩ := hv
    refine zw_push hm_117 dX10_restart_8 (v := .inr (.inr (some 88))) rfl ?_
    refine zw_push hm_117 dX10_restart_9 (v := .inl (0 : Int32)) rfl ?_
    refine zw_pf hm_117 dX10_restart_10 (zT_is hS1 s_88) (zT_t hS1 s_88) p_10_28_10 zk_int ?_
    refine zw_push hm_117 dX10_restart_13 (v := .inr (.inr (some 88))) rfl ?_
    refine zw_push hm_117 dX10_restart_14 (v := .inl (0 : Int32)) rfl ?_
    refine zw_pf hm_117 dX10_restart_15 (zT_is (zT_pi hS1) s_88) (zT_t (zT_pi hS1) s_88) p_10_32_10 zk_int ?_
    refine zw_push hm_117 dX10_restart_18 (v := .inr (.inr (some 88))) rfl ?_
    refine zw_push hm_117 dX10_restart_19 (v := .inl p) rfl ?_
    refine zw_pf hm_117 dX10_restart_20 (zT_is (zT_pi (zT_pi hS1)) s_88) (zT_t (zT_pi (zT_pi hS1)) s_88) p_10_35_10 zk_int ?_
    exact zw_vret hm_117 dX10_restart_23 h
  · intro x S9 hx
    exact hx.elim
theorem sp_117_88_s {X : Nat × (Nat → Int32)} {d w : Nat} {f : Nat → Nat → Int32} {r : Nat → Nat → Option Nat} {C Z N : Nat} {Q : Option ma_V ⊕ Nat → ma_S → Prop} {ab : Nat→Nat→Int32} {R : zRT} {S : ma_S} (p : Int32) (hd : 1 ≤ d) (hw : 23 ≤ w) (hI : zI f r C Z N S) (hpre0 : xB S R) (hpre1 : aS 88 S = ab) (K : ∀ S₉, zI f r C Z N S₉ → (xB S₉ R) → (aS 88 S₉ = aWh ab p) → Q (.inl none) S₉) : ma_wp X d w 117 0 [(0, .inr (.inr (some 88))), (1, .inl p)] [] S Q := by
  refine g_117_88_s_0 p (by omega) (by omega) (zG_T hI) ?_
  have li1 : (0 : Int32).toInt = 0 := rfl
  refine sp_276_90_s (ab := (aS 88 S)) (R := R) ((0 : Int32)) (by omega) (by omega) hI (show xB S R from by first | (exact (xC_o (W := 75) hpre0).2)) (show aS 88 S = (aS 88 S) from by first | (exact rfl)) (fun S1 hI_S1 rp0_S1 rp1_S1 => zv_n ⟨zG_T hI_S1, ?_⟩)
  have rp0_S1 : xB S1 R := rp0_S1
  have rp1_S1 : aS 88 S1 = zFl (aS 88 S) 77 (0 : Int32) 512 := rp1_S1
  have hI2 : zI f r C Z N (ma_put S1 88 3 (.inl (0 : Int32))) := zG_sp hI_S1 (0) (512) rfl (by decide) (by decide) (by decide) trivial (by omega) (by omega)
  have hI3 : zI f r C Z N (ma_put (ma_put S1 88 3 (.inl (0 : Int32))) 88 4 (.inl (0 : Int32))) := zG_sp hI2 (0) (512) rfl (by decide) (by decide) (by decide) trivial (by omega) (by omega)
  have hI4 : zI f r C Z N (ma_put (ma_put (ma_put S1 88 3 (.inl (0 : Int32))) 88 4 (.inl (0 : Int32))) 88 5 (.inl p)) := zG_fr hI3 rfl (by decide) (by decide) (by decide) trivial
  exact K _ hI4 (show xB (ma_put (ma_put (ma_put S1 88 3 (.inl (0 : Int32))) 88 4 (.inl (0 : Int32))) 88 5 (.inl p)) R from by first | (exact (xC_n (c := 88) (k := 5) (x := p) (xC_n (c := 88) (k := 4) (x := (0 : Int32)) (xC_n (c := 88) (k := 3) (x := (0 : Int32)) (xC_o (W := 75) rp0_S1) ⟨by decide, Or.inl ⟨rfl, rfl⟩⟩) ⟨by decide, Or.inl ⟨rfl, rfl⟩⟩) ⟨by decide, Or.inl ⟨rfl, rfl⟩⟩).2)) (show aS 88 (ma_put (ma_put (ma_put S1 88 3 (.inl (0 : Int32))) 88 4 (.inl (0 : Int32))) 88 5 (.inl p)) = aWh ab p from by first | (refine (xC_p (c := 88) (k := 5) (x := p) (xC_p (c := 88) (k := 4) (x := (0 : Int32)) (xC_p (c := 88) (k := 3) (x := (0 : Int32)) (xC_o (W := 88) rp0_S1) 75 xW88 rfl rfl) 75 xW88 rfl rfl) 75 xW88 rfl rfl).1.trans ?_; skip; rw [rp1_S1, hpre1]; rfl))

