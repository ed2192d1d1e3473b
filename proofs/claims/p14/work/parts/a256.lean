/-! from 95.s23 -/
/-! REGIONS, the class (written by wip/tools/gen15z.py) -/
theorem g_145_64_91_sz_0 {X : Nat × (Nat → Int32)} {d w : Nat} {S : ma_S} {Q : Option ma_V ⊕ Nat → ma_S → Prop} (i : Int32) (x : Option Nat) (hd : 5 ≤ d) (hw : 110 ≤ w) (hS : zT S) (h : ma_wp X (d - 1) (w - 23) 92 0 [(0, .inr (.inr (some 69))), (1, .inl i), (2, .inr (.inr x))] [] S (zo (fun v2 S1 => zT S1 ∧ (Q (.inl (some (.inr (.inr v2)))) S1)) (fun x S9 => Q (.inr x) S9))) : ma_wp X d w 145 0 [(0, .inr (.inr (some 64))), (1, .inr (.inr (some 91))), (2, .inl i), (3, .inr (.inr x))] [] S Q := by
  refine zw_push hm_145 dX11_changeRoot_0 (v := .inr (.inr (some 64))) rfl ?_
  refine zw_gf hm_145 dX11_changeRoot_1 (v := .inr (.inr (some 69))) (zT_is hS s_64) (zT_t hS s_64) rfl f_11_26_11 (zT_f hS r_64_8) ?_
  refine zw_push hm_145 dX11_changeRoot_4 (v := .inl i) rfl ?_
  refine zw_push hm_145 dX11_changeRoot_5 (v := .inr (.inr x)) rfl ?_
  refine zw_cv hm_145 dX11_changeRoot_6 v_11_379_7 hm_92 [.inr (.inr x), .inl i] [] rfl (zT_rt hS s_69 rfl) ⟨by omega, by omega⟩ rfl (zw_mono h (zo_go ?_ ?_))
  · intro v2 S1 hv
    obtain ⟨hS1, h⟩ := hv
    refine zw_sto hm_145 dX11_changeRoot_9 [(4, .inr (.inr v2)), (0, .inr (.inr (some 64))), (1, .inr (.inr (some 91))), (2, .inl i), (3, .inr (.inr x))] rfl rfl rfl ?_
    refine zw_push hm_145 dX11_changeRoot_11 (v := .inr (.inr (some 91))) rfl ?_
    refine zw_push hm_145 dX11_changeRoot_12 (v := .inr (.inr v2)) rfl ?_
    refine zw_push hm_145 dX11_changeRoot_14 (v := .inr (.inr x)) rfl ?_
    refine zw_cv hm_145 dX11_changeRoot_15 v_11_153_4 hm_265 [.inr (.inr x), .inr (.inr v2)] [] rfl (zT_rt hS1 s_91 rfl) ⟨by omega, by omega⟩ rfl ?_
    show ma_wp X (d - 1) (w - 22) 265 0 [(0, .inr (.inr (some 91))), (1, .inr (.inr v2)), (2, .inr (.inr x))] [] S1 _
    refine zw_vret hm_265 dX1_noteChange_0 ?_
    show ma_wp X d w 145 18 [(4, .inr (.inr v2)), (0, .inr (.inr (some 64))), (1, .inr (.inr (some 91))), (2, .inl i), (3, .inr (.inr x))] [] S1 _
    refine zw_push hm_145 dX11_changeRoot_18 (v := .inr (.inr (some 91))) rfl ?_
    refine zw_push hm_145 dX11_changeRoot_19 (v := .inr (.inr v2)) rfl ?_
    refine zw_cv hm_145 dX11_changeRoot_21 v_11_157_4 hm_266 [.inr (.inr v2)] [] rfl (zT_rt hS1 s_91 rfl) ⟨by omega, by omega⟩ rfl ?_
    show ma_wp X (d - 1) (w - 21) 266 0 [(0, .inr (.inr (some 91))), (1, .inr (.inr v2))] [] S1 _
    refine zw_vret hm_266 dX1_noteFewer_0 ?_
    show ma_wp X d w 145 24 [(4, .inr (.inr v2)), (0, .inr (.inr (some 64))), (1, .inr (.inr (some 91))), (2, .inl i), (3, .inr (.inr x))] [] S1 _
    refine zw_push hm_145 dX11_changeRoot_24 (v := .inr (.inr v2)) rfl ?_
    exact zw_aret hm_145 dX11_changeRoot_26 h
  · intro x S9 hx
    exact ⟨by decide, hx⟩
theorem sp_145_64_91_sz {X : Nat × (Nat → Int32)} {d w : Nat} {f : Nat → Nat → Int32} {r : Nat → Nat → Option Nat} {C Z N : Nat} {Q : Option ma_V ⊕ Nat → ma_S → Prop} {ab : Nat→Nat→Int32} {R : zRT} {y : Int32} {fp91 : Nat→Int32} {fp92 : Nat→Int32} {fp93 : Nat→Int32} {S : ma_S} (i : Int32) (x : Option Nat) (hd : 5 ≤ d) (hw : 110 ≤ w) (hI : zL91 f r C Z N S) (hq_x : ∀ c, x = some c → 126 ≤ c ∧ c < N) (hpre0 : xB S R) (hpre1 : aS 75 S = ab) (hpre2 : x = zTa R y) (hpre3 : 0 ≤ i.toInt) (hpre4 : i.toInt ≤ 15) (hpre5 : (mI S 91) = fp91) (hpre6 : (mI S 92) = fp92) (hpre7 : (mI S 93) = fp93) (K : ∀ v S₉, zL91 f r C Z N S₉ → (∀ c, v = some c → 126 ≤ c ∧ c < N) → (xB S₉ R) → (aS 75 S₉ = aR0 ab i y) → ((mI S₉ 91) = fp91) → ((mI S₉ 92) = fp92) → ((mI S₉ 93) = fp93) → Q (.inl (some (.inr (.inr v)))) S₉) : ma_wp X d w 145 0 [(0, .inr (.inr (some 64))), (1, .inr (.inr (some 91))), (2, .inl i), (3, .inr (.inr x))] [] S Q := by
  refine g_145_64_91_sz_0 i x (by omega) (by omega) (zG_T hI) ?_
  have b1 := i_bd i
  refine sp_92_69_s (ab := (aS 75 S)) (R := R) (W := 75) (y := (y)) (i) (x) (by omega) (by omega) (zL91_dn hI) hq_x (show xB S R from by first | (exact (xC_o (W := 75) hpre0).2)) (show aS 75 S = (aS 75 S) from by first | (exact rfl)) (show xW 75 from by first | (exact xW88) | (exact xW75)) (show x = zTa R (y) from by first | (exact hpre2)) (by omega) (by omega) (fun v2 S1 hL_S1 hq_v2 rp0_S1 rp1_S1 rp2_S1 => zo_n ⟨zG_T hL_S1, ?_⟩)
  have hI_S1 := zL91_up hI hL_S1
  have rp0_S1 : xB S1 R := by
    have z := rp0_S1
    (try rw [show mI S 65 = f 65 from funext (fun k => zG_z hI rfl)] at z)
    (try rw [show mI S 64 1 = f 64 1 from zG_z hI rfl] at z)
    exact z
  have rp1_S1 : aS 75 S1 = ma_u (aS 75 S) 72 i.toNatClampNeg (aNm (aS 75 S) (y)) := by
    have z := rp1_S1
    (try rw [show mI S 65 = f 65 from funext (fun k => zG_z hI rfl)] at z)
    (try rw [show mI S 64 1 = f 64 1 from zG_z hI rfl] at z)
    exact z
  have rp2_S1 : v2 = zTa R ((aS 75 S) 72 i.toNatClampNeg) := by
    have z := rp2_S1
    (try rw [show mI S 65 = f 65 from funext (fun k => zG_z hI rfl)] at z)
    (try rw [show mI S 64 1 = f 64 1 from zG_z hI rfl] at z)
    exact z
  exact K (v2) _ hI_S1 hq_v2 (show xB S1 R from by first | (exact (xC_o (W := 75) rp0_S1).2)) (show aS 75 S1 = aR0 ab i y from by first | (rw [rp1_S1, hpre1]; rfl)) (show (mI S1 91) = fp91 from by first | (exact ((show mI S1 91 = mI S 91 from funext (fun _ => zG_z hL_S1 rfl)).trans hpre5))) (show (mI S1 92) = fp92 from by first | (exact ((show mI S1 92 = mI S 92 from funext (fun _ => zG_z hL_S1 rfl)).trans hpre6))) (show (mI S1 93) = fp93 from by first | (exact ((show mI S1 93 = mI S 93 from funext (fun _ => zG_z hL_S1 rfl)).trans hpre7)))
theorem g_56_91_sz_0 {X : Nat × (Nat → Int32)} {d w : Nat} {S : ma_S} {Q : Option ma_V ⊕ Nat → ma_S → Prop} (t : Nat) (hd : 1 ≤ d) (hw : 22 ≤ w) (hS : zT S) (h : (126 ≤ t ∧ t < mN S) ∧ (if (mI S 91 5) < 0 then (Q (.inl none) S) else (if (93 : Int32) ≤ (mI S 91 5) then (Q (.inl none) S) else ((0 ≤ (mI S 91 5) ∧ (mI S 91 5).toNatClampNeg < 93) ∧ ((0 ≤ (mI S 91 5) ∧ (mI S 91 5).toNatClampNeg < 93) ∧ (Q (.inl none) (ma_put S 92 (mI S 91 5).toNatClampNeg (.inl ((mI S 92 (mI S 91 5).toNatClampNeg) + (mI S t 2)))))))))) : ma_wp X d w 56 0 [(0, .inr (.inr (some 91))), (1, .inr (.inr (some t)))] [] S Q := by
  refine zw_push hm_56 dX4_noteMade_0 (v := .inr (.inr (some 91))) rfl ?_
  refine zw_push hm_56 dX4_noteMade_1 (v := .inr (.inr (some 91))) rfl ?_
  refine zw_gf hm_56 dX4_noteMade_2 (v := .inl (mI S 91 5)) (zT_is hS s_91) (zT_t hS s_91) rfl f_4_34_4 rfl ?_
  refine zw_push hm_56 dX4_noteMade_5 (v := .inr (.inr (some t))) rfl ?_
  obtain ⟨hg, h⟩ := h
  refine zw_gf hm_56 dX4_noteMade_6 (v := .inl (mI S t 2)) (zT_tis hS hg) (zT_tt hS hg) rfl f_4_63_9 rfl ?_
  refine zw_cv hm_56 dX4_noteMade_9 v_4_66_4 hm_53 [.inl (mI S t 2), .inl (mI S 91 5)] [] rfl (zT_rt hS s_91 rfl) ⟨by omega, by omega⟩ rfl ?_
  show ma_wp X (d - 1) (w - 22) 53 0 [(0, .inr (.inr (some 91))), (1, .inl (mI S 91 5)), (2, .inl (mI S t 2))] [] S _
  refine zw_push hm_53 dX4_raiseTop_0 (v := .inl (mI S 91 5)) rfl ?_
  refine zw_if0 hm_53 dX4_raiseTop_1 (t := 20) rfl zc0_lt ?_ ?_
  · intro hc
    rw [if_pos hc] at h
    refine zw_vret hm_53 dX4_raiseTop_20 ?_
    show ma_wp X d w 56 12 [(0, .inr (.inr (some 91))), (1, .inr (.inr (some t)))] [] S _
    exact zw_vret hm_56 dX4_noteMade_12 h
  · intro hc
    rw [if_neg hc] at h
    refine zw_push hm_53 dX4_raiseTop_4 (v := .inl (mI S 91 5)) rfl ?_
    refine zw_push hm_53 dX4_raiseTop_5 (v := .inl (93 : Int32)) rfl ?_
    refine zw_if2 hm_53 dX4_raiseTop_7 (t := 20) rfl zc2_ge ?_ ?_
    · intro hc
      rw [if_pos hc] at h
      refine zw_vret hm_53 dX4_raiseTop_20 ?_
      show ma_wp X d w 56 12 [(0, .inr (.inr (some 91))), (1, .inr (.inr (some t)))] [] S _
      exact zw_vret hm_56 dX4_noteMade_12 h
    · intro hc
      rw [if_neg hc] at h
      refine zw_push hm_53 dX4_raiseTop_10 (v := .inr (.inr (some 91))) rfl ?_
      refine zw_gf hm_53 dX4_raiseTop_11 (v := .inr (.inr (some 92))) (zT_is hS s_91) (zT_t hS s_91) rfl f_4_9_4 (zT_f hS r_91_7) ?_
      refine zw_push hm_53 dX4_raiseTop_14 (v := .inl (mI S 91 5)) rfl ?_
      refine zw_stk hm_53 dX4_raiseTop_15 (st₉ := [.inl (mI S 91 5), .inr (.inr (some 92)), .inl (mI S 91 5), .inr (.inr (some 92))]) rfl rfl ?_
      obtain ⟨hg, h⟩ := h
      refine zw_ia hm_53 dX4_raiseTop_16 (zT_is hS s_92) (zT_h hS s_92) rfl hg ?_
      show ma_wp X (d - 1) (w - 22) 53 17 [(0, .inr (.inr (some 91))), (1, .inl (mI S 91 5)), (2, .inl (mI S t 2))] [.inl (mI S 92 (mI S 91 5).toNatClampNeg), .inl (mI S 91 5), .inr (.inr (some 92))] S _
      refine zw_push hm_53 dX4_raiseTop_17 (v := .inl (mI S t 2)) rfl ?_
      refine zw_stk hm_53 dX4_raiseTop_18 (st₉ := [.inl ((mI S 92 (mI S 91 5).toNatClampNeg) + (mI S t 2)), .inl (mI S 91 5), .inr (.inr (some 92))]) rfl rfl ?_
      obtain ⟨hg, h⟩ := h
      refine zw_ias hm_53 dX4_raiseTop_19 (zT_is hS s_92) (zT_h hS s_92) rfl hg ?_
      refine zw_vret hm_53 dX4_raiseTop_20 ?_
      show ma_wp X d w 56 12 [(0, .inr (.inr (some 91))), (1, .inr (.inr (some t)))] [] (ma_put S 92 (mI S 91 5).toNatClampNeg (.inl ((mI S 92 (mI S 91 5).toNatClampNeg) + (mI S t 2)))) _
      exact zw_vret hm_56 dX4_noteMade_12 h
theorem sp_56_91_sz {X : Nat × (Nat → Int32)} {d w : Nat} {f : Nat → Nat → Int32} {r : Nat → Nat → Option Nat} {C Z N : Nat} {Q : Option ma_V ⊕ Nat → ma_S → Prop} {ab : Nat→Nat→Int32} {R : zRT} {y : Int32} {S : ma_S} (t : Nat) (hd : 1 ≤ d) (hw : 22 ≤ w) (hI : zL91 f r C Z N S) (th_t : 126 ≤ t ∧ t < N) (hpre0 : xB S R) (hpre1 : aZ S = ab) (hpre2 : zTa R y = some t) (hpre3 : (mI S 92 (mI S 91 5).toNatClampNeg).toInt ≤ 1500) (K : ∀ S₉, zL91 f r C Z N S₉ → (xB S₉ R) → (aZ S₉ = rMd ab y) → Q (.inl none) S₉) : ma_wp X d w 56 0 [(0, .inr (.inr (some 91))), (1, .inr (.inr (some t)))] [] S Q := by
  refine g_56_91_sz_0 t (by omega) (by omega) (zG_T hI) ?_
  refine ⟨zG_n hI th_t, ?_⟩
  have f1 := zG_s hI (0) (92) (c := 91) (k := 5) (by decide)
  have li2 : (0 : Int32).toInt = 0 := rfl
  refine zd (fun h3 => ?_) (fun h3 => ?_)
  · skip
    have g4 := i_lt h3
    exact K _ hI (show xB S R from by first | (exact (xC_o (W := 75) hpre0).2)) (show aZ S = rMd ab y from by first | (exact Md_no hpre1 (by omega)))
  · skip
    have g5 := i_nlt h3
    have li6 : (93 : Int32).toInt = 93 := rfl
    refine zd (fun h7 => ?_) (fun h7 => ?_)
    · skip
      have g8 := i_le h7
      exact K _ hI (show xB S R from by first | (exact (xC_o (W := 75) hpre0).2)) (show aZ S = rMd ab y from by first | (exact Md_no hpre1 (by omega)))
    · skip
      have g9 := i_nle h7
      refine ⟨i_ix (by omega) (by omega), ?_⟩
      refine ⟨i_ix (by omega) (by omega), ?_⟩
      first | have f11 := zG_a hI 93 (0) (3000) (c := 92) (k := (mI S 91 5).toNatClampNeg) (by decide) (i_ix (n := 93) (by omega) (by omega)).2 | have b12 := i_bd (mI S 92 (mI S 91 5).toNatClampNeg)
      have f13 := zG_th hI th_t
      first | have e14 : ((mI S 92 (mI S 91 5).toNatClampNeg) + (mI S t 2)).toInt = (mI S 92 (mI S 91 5).toNatClampNeg).toInt + (mI S t 2).toInt := i_add (by omega) (by omega) | have b15 := i_bd ((mI S 92 (mI S 91 5).toNatClampNeg) + (mI S t 2))
      have hI10 : zL91 f r C Z N (ma_put S 92 (mI S 91 5).toNatClampNeg (.inl ((mI S 92 (mI S 91 5).toNatClampNeg) + (mI S t 2)))) := zG_sa hI (0) (3000) rfl (by decide) (by decide) (by decide) trivial (by omega) (by omega)
      exact K _ hI10 (show xB (ma_put S 92 (mI S 91 5).toNatClampNeg (.inl ((mI S 92 (mI S 91 5).toNatClampNeg) + (mI S t 2)))) R from by first | (exact (xC_n (c := 92) (k := (mI S 91 5).toNatClampNeg) (x := ((mI S 92 (mI S 91 5).toNatClampNeg) + (mI S t 2))) (xC_o (W := 75) hpre0) ⟨by decide, Or.inl ⟨rfl, rfl⟩⟩).2)) (show aZ (ma_put S 92 (mI S 91 5).toNatClampNeg (.inl ((mI S 92 (mI S 91 5).toNatClampNeg) + (mI S t 2)))) = rMd ab y from by first | (have ty := xB_th (W := 75) hpre0 hpre2; have f2 : mI S t 2 = ab 128 y.toNatClampNeg := (by rw [← hpre1, aZ_o (by decide) (by decide) (by decide)]; exact ty.2.2.2.2.1); rw [((Z_p9 (c := 92) (n := (mI S 91 5).toNatClampNeg) (x := ((mI S 92 (mI S 91 5).toNatClampNeg) + (mI S t 2))) (xC_o (W := 75) hpre0).2 (by decide)).trans (congrArg (fun q => ma_u q 92 (mI S 91 5).toNatClampNeg ((mI S 92 (mI S 91 5).toNatClampNeg) + (mI S t 2))) (show aZ S = aZ S from rfl)))]; exact Md_y9 hpre1 f2 (by omega) (by omega)))
theorem g_143_64_sz_64 {X : Nat × (Nat → Int32)} {d w : Nat} {S : ma_S} {Q : Option ma_V ⊕ Nat → ma_S → Prop} (l5 : Int32) (l8 : Nat) (hd : 7 ≤ d) (hw : 182 ≤ w) (hS : zT S) (h : ma_wp X (d - 1) (w - 23) 91 0 [(0, .inr (.inr (some 69))), (1, .inr (.inr (some l8)))] [] S (zv (fun S1 => zT S1 ∧ (ma_wp X (d - 1) (w - 21) 56 0 [(0, .inr (.inr (some 91))), (1, .inr (.inr (some l8)))] [] S1 (zv (fun S3 => zT S3 ∧ (ma_wp X (d - 1) (w - 24) 145 0 [(0, .inr (.inr (some 64))), (1, .inr (.inr (some 91))), (2, .inl l5), (3, .inr (.inr (some l8)))] [] S3 (zo (fun v6 S5 => zT S5 ∧ ((126 ≤ l8 ∧ l8 < mN S5) ∧ (Q (.inl (some (.inl (mI S5 l8 0)))) S5))) (fun x S9 => Q (.inr x) S9)))) (fun _ _ => False)))) (fun x S9 => Q (.inr x) S9))) : ma_wp X d w 143 64 [(0, .inr (.inr (some 64))), (5, .inl l5), (6, .inr (.inr (some 91))), (8, .inr (.inr (some l8)))] [] S Q := by
  refine zw_push hm_143 dX11_addObject_64 (v := .inr (.inr (some 64))) rfl ?_
  refine zw_gf hm_143 dX11_addObject_65 (v := .inr (.inr (some 69))) (zT_is hS s_64) (zT_t hS s_64) rfl f_11_26_11 (zT_f hS r_64_8) ?_
  refine zw_push hm_143 dX11_addObject_68 (v := .inr (.inr (some l8))) rfl ?_
  refine zw_cv hm_143 dX11_addObject_70 v_11_373_7 hm_91 [.inr (.inr (some l8))] [] rfl (zT_rt hS s_69 rfl) ⟨by omega, by omega⟩ rfl (zw_mono h (zv_go ?_ ?_))
  · intro S1 hv
    obtain ⟨hS1, h⟩ := hv
    refine zw_push hm_143 dX11_addObject_73 (v := .inr (.inr (some 91))) rfl ?_
    refine zw_push hm_143 dX11_addObject_75 (v := .inr (.inr (some l8))) rfl ?_
    refine zw_cv hm_143 dX11_addObject_77 v_11_376_4 hm_56 [.inr (.inr (some l8))] [] rfl (zT_rt hS1 s_91 rfl) ⟨by omega, by omega⟩ rfl (zw_mono h (zv_go ?_ ?_))
    · intro S3 hv
      obtain ⟨hS3, h⟩ := hv
      refine zw_push hm_143 dX11_addObject_80 (v := .inr (.inr (some 64))) rfl ?_
      refine zw_push hm_143 dX11_addObject_81 (v := .inr (.inr (some 91))) rfl ?_
      refine zw_push hm_143 dX11_addObject_83 (v := .inl l5) rfl ?_
      refine zw_push hm_143 dX11_addObject_85 (v := .inr (.inr (some l8))) rfl ?_
      refine zw_cv hm_143 dX11_addObject_87 v_11_169_11 hm_145 [.inr (.inr (some l8)), .inl l5, .inr (.inr (some 91))] [] rfl (zT_rt hS3 s_64 rfl) ⟨by omega, by omega⟩ rfl (zw_mono h (zo_go ?_ ?_))
      · intro v6 S5 hv
        obtain ⟨hS5, h⟩ := hv
        refine zw_stk hm_143 dX11_addObject_90 (st₉ := []) rfl rfl ?_
        refine zw_push hm_143 dX11_addObject_91 (v := .inr (.inr (some l8))) rfl ?_
        obtain ⟨hg, h⟩ := h
        refine zw_gf hm_143 dX11_addObject_93 (v := .inl (mI S5 l8 0)) (zT_tis hS5 hg) (zT_tt hS5 hg) rfl f_11_182_9 rfl ?_
        exact zw_iret hm_143 dX11_addObject_96 h
      · intro x S9 hx
        exact ⟨by decide, hx⟩
    · intro x S9 hx
      exact hx.elim
  · intro x S9 hx
    exact ⟨by decide, hx⟩
theorem sg_143_64_sz_64 {X : Nat × (Nat → Int32)} {d w : Nat} {f : Nat → Nat → Int32} {r : Nat → Nat → Option Nat} {C Z N : Nat} {Q : Option ma_V ⊕ Nat → ma_S → Prop} {ab : Nat→Nat→Int32} {R : zRT} {y : Int32} {I0 : Nat→Int32} {L0 : Int64} {S : ma_S} (l5 : Int32) (l8 : Nat) (hd : 7 ≤ d) (hw : 182 ≤ w) (hI : zB f r C Z N S) (th_l8 : 126 ≤ l8 ∧ l8 < N) (hpre0 : (mI S 69 6).toInt ≤ 511) (hpre1 : xB S R) (hpre2 : aZ S = ab) (hpre3 : mI S l8 = I0) (hpre4 : mL S l8 3 = L0) (hpre5 : I0 0 = y) (hpre6 : (0 ≤ (I0 0).toInt ∧ (I0 0).toInt ≤ 511) ∧ (1 ≤ (I0 2).toInt ∧ (I0 2).toInt ≤ 61) ∧ 0 ≤ (I0 4).toInt ∧ (I0 4).toInt + (I0 2).toInt ≤ 4500) (hpre7 : 0 ≤ y.toInt ∧ y.toInt < 512) (hpre8 : 0 ≤ l5.toInt) (hpre9 : l5.toInt ≤ 15) (hpre10 : (mI S 92 (mI S 91 5).toNatClampNeg).toInt ≤ 1500) (K : ∀ v S₉, zB f r C Z N S₉ → (True) → (xB S₉ (mR S₉ 70)) → (aZ S₉ = aR0 (rMd (aAd ab y I0 L0) y) l5 y ∧ v = y) → Q (.inl (some (.inl v))) S₉) : ma_wp X d w 143 64 [(0, .inr (.inr (some 64))), (5, .inl l5), (6, .inr (.inr (some 91))), (8, .inr (.inr (some l8)))] [] S Q := by
  refine g_143_64_sz_64 l5 l8 (by omega) (by omega) (zG_T hI) ?_
  have f1 := zG_s hI (0) (512) (c := 69) (k := 6) (by decide)
  have f2 := zG_s hI (0) (92) (c := 91) (k := 5) (by decide)
  first | have f3 := zG_a hI 93 (0) (3000) (c := 92) (k := (mI S 91 5).toNatClampNeg) (by decide) (i_ix (n := 93) (by omega) (by omega)).2 | have b4 := i_bd (mI S 92 (mI S 91 5).toNatClampNeg)
  refine sp_91_69_s (ab := (aS 75 S)) (R := R) (W := 75) (y := y) (I0 := I0) (L0 := L0) (u := l8) l8 (by omega) (by omega) (zB_dn_zS hI) th_l8 (show (mI S 69 6).toInt ≤ 511 from by omega) (show xB S R from by first | (exact (xC_o (W := 75) hpre1).2)) (show aS 75 S = (aS 75 S) from by first | (exact rfl)) (show xW 75 from by first | (exact xW88) | (exact xW75)) (show mI S l8 = I0 from by first | (exact rfl) | (exact hpre3)) (show mL S l8 3 = L0 from by first | (exact rfl) | (exact hpre4)) (show I0 0 = y from by first | (exact rfl) | (exact hpre5)) (show (0 ≤ (I0 0).toInt ∧ (I0 0).toInt ≤ 511) ∧ (1 ≤ (I0 2).toInt ∧ (I0 2).toInt ≤ 61) ∧ 0 ≤ (I0 4).toInt ∧ (I0 4).toInt + (I0 2).toInt ≤ 4500 from by first | (exact hpre6) | (omega)) (show l8 = l8 from by first | (exact rfl)) (fun S1 hL_S1 rp0_S1 rp1_S1 => zv_n ⟨zG_T hL_S1, ?_⟩)
  have hI_S1 := zB_up_zS hI hL_S1
  have rp0_S1 : xB S1 (zRu R y.toNatClampNeg (some l8)) := by
    have z := rp0_S1
    (try rw [show mI S 65 = f 65 from funext (fun k => zG_z hI rfl)] at z)
    (try rw [show mI S 64 1 = f 64 1 from zG_z hI rfl] at z)
    exact z
  have rp1_S1 : aS 75 S1 = aAd (aS 75 S) y I0 L0 := by
    have z := rp1_S1
    (try rw [show mI S 65 = f 65 from funext (fun k => zG_z hI rfl)] at z)
    (try rw [show mI S 64 1 = f 64 1 from zG_z hI rfl] at z)
    exact z
  have q5 : (mI S1 91 5).toInt = (mI S 91 5).toInt := zG_zi (f := mI S) hL_S1 rfl
  have f6 := zG_s hI_S1 (0) (92) (c := 91) (k := 5) (by decide)
  first | have f7 := zG_a hI 93 (0) (3000) (c := 92) (k := (mI S1 91 5).toNatClampNeg) (by decide) (i_ix (n := 93) (by omega) (by omega)).2 | have b8 := i_bd (mI S 92 (mI S1 91 5).toNatClampNeg)
  have q9 : (mI S1 92 (mI S1 91 5).toNatClampNeg).toInt = (mI S 92 (mI S1 91 5).toNatClampNeg).toInt := zG_zi (f := mI S) hL_S1 rfl
  first | have f10 := zG_a hI_S1 93 (0) (3000) (c := 92) (k := (mI S1 91 5).toNatClampNeg) (by decide) (i_ix (n := 93) (by omega) (by omega)).2 | have b11 := i_bd (mI S1 92 (mI S1 91 5).toNatClampNeg)
  refine sp_56_91_sz (ab := (aZ S1)) (R := (zRu R y.toNatClampNeg (some l8))) (y := (y)) l8 (by omega) (by omega) (zB_dn_zL91 hI_S1) th_l8 (show xB S1 (zRu R y.toNatClampNeg (some l8)) from by first | (exact (xC_o (W := 75) rp0_S1).2)) (show aZ S1 = (aZ S1) from by first | (exact rfl)) (show zTa (zRu R y.toNatClampNeg (some l8)) (y) = some l8 from by first | (exact (zTa_u (R := R) (c := l8) hpre7.1 hpre7.2))) (show (mI S1 92 (mI S1 91 5).toNatClampNeg).toInt ≤ 1500 from by first | omega | (rw [zG_z hL_S1 (c := 91) (k := 5) rfl, zG_z hL_S1 (c := 92) rfl]; omega)) (fun S3 hL_S3 rp0_S3 rp1_S3 => zv_n ⟨zG_T hL_S3, ?_⟩)
  have hI_S3 := zB_up_zL91 hI_S1 hL_S3
  have rp0_S3 : xB S3 (zRu R y.toNatClampNeg (some l8)) := by
    have z := rp0_S3
    (try rw [show mI S1 65 = f 65 from funext (fun k => zG_z hI_S1 rfl)] at z)
    (try rw [show mI S1 64 1 = f 64 1 from zG_z hI_S1 rfl] at z)
    exact z
  have rp1_S3 : aZ S3 = rMd (aZ S1) (y) := by
    have z := rp1_S3
    (try rw [show mI S1 65 = f 65 from funext (fun k => zG_z hI_S1 rfl)] at z)
    (try rw [show mI S1 64 1 = f 64 1 from zG_z hI_S1 rfl] at z)
    exact z
  have b12 := i_bd l5
  refine sp_145_64_91_sz (ab := (aS 75 S3)) (R := (zRu R y.toNatClampNeg (some l8))) (y := (y)) (fp91 := (mI S3 91)) (fp92 := (mI S3 92)) (fp93 := (mI S3 93)) (l5) ((some l8)) (by omega) (by omega) (zB_dn_zL91 hI_S3) (fun _ z => by cases z; exact th_l8) (show xB S3 (zRu R y.toNatClampNeg (some l8)) from by first | (exact (xC_o (W := 75) rp0_S3).2)) (show aS 75 S3 = (aS 75 S3) from by first | (exact rfl)) (show (some l8) = zTa (zRu R y.toNatClampNeg (some l8)) (y) from by first | (exact (zTa_u (R := R) (c := l8) hpre7.1 hpre7.2).symm)) (by omega) (by omega) (show (mI S3 91) = (mI S3 91) from by first | (exact rfl)) (show (mI S3 92) = (mI S3 92) from by first | (exact rfl)) (show (mI S3 93) = (mI S3 93) from by first | (exact rfl)) (fun v6 S5 hL_S5 hq_v6 rp0_S5 rp1_S5 rp2_S5 rp3_S5 rp4_S5 => zo_n ⟨zG_T hL_S5, ?_⟩)
  have hI_S5 := zB_up_zL91 hI_S3 hL_S5
  have rp0_S5 : xB S5 (zRu R y.toNatClampNeg (some l8)) := by
    have z := rp0_S5
    (try rw [show mI S3 65 = f 65 from funext (fun k => zG_z hI_S3 rfl)] at z)
    (try rw [show mI S3 64 1 = f 64 1 from zG_z hI_S3 rfl] at z)
    exact z
  have rp1_S5 : aS 75 S5 = aR0 (aS 75 S3) l5 (y) := by
    have z := rp1_S5
    (try rw [show mI S3 65 = f 65 from funext (fun k => zG_z hI_S3 rfl)] at z)
    (try rw [show mI S3 64 1 = f 64 1 from zG_z hI_S3 rfl] at z)
    exact z
  have rp2_S5 : (mI S5 91) = (mI S3 91) := by
    have z := rp2_S5
    (try rw [show mI S3 65 = f 65 from funext (fun k => zG_z hI_S3 rfl)] at z)
    (try rw [show mI S3 64 1 = f 64 1 from zG_z hI_S3 rfl] at z)
    exact z
  have rp3_S5 : (mI S5 92) = (mI S3 92) := by
    have z := rp3_S5
    (try rw [show mI S3 65 = f 65 from funext (fun k => zG_z hI_S3 rfl)] at z)
    (try rw [show mI S3 64 1 = f 64 1 from zG_z hI_S3 rfl] at z)
    exact z
  have rp4_S5 : (mI S5 93) = (mI S3 93) := by
    have z := rp4_S5
    (try rw [show mI S3 65 = f 65 from funext (fun k => zG_z hI_S3 rfl)] at z)
    (try rw [show mI S3 64 1 = f 64 1 from zG_z hI_S3 rfl] at z)
    exact z
  refine ⟨zG_n hI_S5 th_l8, ?_⟩
  have f13 := zG_th hI_S5 th_l8
  exact K ((mI S5 l8 0)) _ hI_S5 trivial (show xB S5 (mR S5 70) from by first | (exact xB_x (xC_o (W := 75) rp0_S5).2)) (show aZ S5 = aR0 (rMd (aAd ab y I0 L0) y) l5 y ∧ (mI S5 l8 0) = y from by first | (have ty := xB_th (W := 75) rp0_S5 (zTa_u (R := R) (c := l8) hpre7.1 hpre7.2); have s1 := Z_ad rp1_S1 (show mI S1 91 = mI S 91 from funext (fun _ => zG_z hL_S1 rfl)) (show mI S1 92 = mI S 92 from funext (fun _ => zG_z hL_S1 rfl)) (show mI S1 93 = mI S 93 from funext (fun _ => zG_z hL_S1 rfl)); rw [hpre2] at s1; have s2 := rp1_S3; have s3 := Z_r0 rp1_S5 rp2_S5 rp3_S5 rp4_S5; rw [s2, s1] at s3; exact ⟨s3, ty.2.2.1⟩))

/-! from 95.s24 -/
/-! REGIONS, the class (written by wip/tools/gen15z.py) -/
theorem g_143_64_sz_p91_0 {X : Nat × (Nat → Int32)} {d w : Nat} {S : ma_S} {Q : Option ma_V ⊕ Nat → ma_S → Prop} (kd : Int32) (wd : Int32) (rf : Int64) (rt : Int32) (hd : 7 ≤ d) (hw : 204 ≤ w) (hS : zT S) (h : mR S 64 11 = some 91 ∧ (mR S 64 11 = some 91 ∧ (if (512 : Int32) ≤ (mI S 69 6) then (Q (.inl (some (.inl (-1 : Int32)))) S) else (ma_wp X (d - 1) (w - 21) 40 0 [(0, .inr (.inr (some 91))), (1, .inl (wd + (1 : Int32)))] [] S (zi (fun v2 S1 => zT S1 ∧ (if v2 = (-1 : Int32) then (Q (.inl (some (.inl (-1 : Int32)))) S1) else (ma_wp X d w 143 41 [(0, .inr (.inr (some 64))), (1, .inl kd), (2, .inl wd), (3, .inr (.inl rf)), (5, .inl rt), (6, .inr (.inr (some 91))), (7, .inl v2)] [] S1 Q))) (fun _ _ => False)))))) : ma_wp X d w 143 0 [(0, .inr (.inr (some 64))), (1, .inl kd), (2, .inl wd), (3, .inr (.inl rf)), (5, .inl rt)] [] S Q := by
  refine zw_push hm_143 dX11_addObject_0 (v := .inr (.inr (some 64))) rfl ?_
  refine zw_cv hm_143 dX11_addObject_1 v_11_119_11 hm_144 [] [] rfl (zT_rt hS s_64 rfl) ⟨by omega, by omega⟩ rfl ?_
  show ma_wp X (d - 1) (w - 20) 144 0 [(0, .inr (.inr (some 64)))] [] S _
  refine zw_push hm_144 dX11_needCollector_0 (v := .inr (.inr (some 64))) rfl ?_
  obtain ⟨hg, h⟩ := h
  refine zw_gf hm_144 dX11_needCollector_1 (v := .inr (.inr (some 91))) (zT_is hS s_64) (zT_t hS s_64) rfl f_11_98_11 (congrArg (fun z => Sum.inr (Sum.inr z)) hg) ?_
  refine zw_ifnonnull hm_144 dX11_needCollector_4 (t := 15) rfl (fun z => by cases z) (fun _ _ => ?_)
  refine zw_push hm_144 dX11_needCollector_15 (v := .inr (.inr (some 64))) rfl ?_
  obtain ⟨hg, h⟩ := h
  refine zw_gf hm_144 dX11_needCollector_16 (v := .inr (.inr (some 91))) (zT_is hS s_64) (zT_t hS s_64) rfl f_11_98_11 (congrArg (fun z => Sum.inr (Sum.inr z)) hg) ?_
  refine zw_aret hm_144 dX11_needCollector_19 ?_
  show ma_wp X d w 143 4 [(0, .inr (.inr (some 64))), (1, .inl kd), (2, .inl wd), (3, .inr (.inl rf)), (5, .inl rt)] [.inr (.inr (some 91))] S _
  refine zw_sto hm_143 dX11_addObject_4 [(6, .inr (.inr (some 91))), (0, .inr (.inr (some 64))), (1, .inl kd), (2, .inl wd), (3, .inr (.inl rf)), (5, .inl rt)] rfl rfl rfl ?_
  refine zw_push hm_143 dX11_addObject_6 (v := .inr (.inr (some 64))) rfl ?_
  refine zw_gf hm_143 dX11_addObject_7 (v := .inr (.inr (some 69))) (zT_is hS s_64) (zT_t hS s_64) rfl f_11_26_11 (zT_f hS r_64_8) ?_
  refine zw_gf hm_143 dX11_addObject_10 (v := .inl (mI S 69 6)) (zT_is hS s_69) (zT_t hS s_69) rfl f_11_244_7 rfl ?_
  refine zw_push hm_143 dX11_addObject_13 (v := .inl (512 : Int32)) rfl ?_
  refine zw_if2 hm_143 dX11_addObject_16 (t := 30) rfl zc2_ge ?_ ?_
  · intro hc
    rw [if_pos hc] at h
    refine zw_push hm_143 dX11_addObject_30 (v := .inl (-1 : Int32)) rfl ?_
    refine zw_sto hm_143 dX11_addObject_31 [(7, .inl (-1 : Int32)), (6, .inr (.inr (some 91))), (0, .inr (.inr (some 64))), (1, .inl kd), (2, .inl wd), (3, .inr (.inl rf)), (5, .inl rt)] rfl rfl rfl ?_
    refine zw_push hm_143 dX11_addObject_33 (v := .inl (-1 : Int32)) rfl ?_
    refine zw_push hm_143 dX11_addObject_35 (v := .inl (-1 : Int32)) rfl ?_
    refine zw_if2 hm_143 dX11_addObject_36 (t := 41) rfl zc2_ne (fun hc => absurd hc (by decide)) (fun _ => ?_)
    refine zw_push hm_143 dX11_addObject_39 (v := .inl (-1 : Int32)) rfl ?_
    exact zw_iret hm_143 dX11_addObject_40 h
  · intro hc
    rw [if_neg hc] at h
    refine zw_push hm_143 dX11_addObject_19 (v := .inr (.inr (some 91))) rfl ?_
    refine zw_push hm_143 dX11_addObject_21 (v := .inl wd) rfl ?_
    refine zw_push hm_143 dX11_addObject_22 (v := .inl (1 : Int32)) rfl ?_
    refine zw_stk hm_143 dX11_addObject_23 (st₉ := [.inl (wd + (1 : Int32)), .inr (.inr (some 91))]) rfl rfl ?_
    refine zw_cv hm_143 dX11_addObject_24 v_11_367_4 hm_40 [.inl (wd + (1 : Int32))] [] rfl (zT_rt hS s_91 rfl) ⟨by omega, by omega⟩ rfl (zw_mono h (zi_go ?_ ?_))
    · intro v2 S1 hv
      obtain ⟨hS1, h⟩ := hv
      refine zw_goto hm_143 dX11_addObject_27 (t := 31) rfl ?_
      refine zw_sto hm_143 dX11_addObject_31 [(7, .inl v2), (6, .inr (.inr (some 91))), (0, .inr (.inr (some 64))), (1, .inl kd), (2, .inl wd), (3, .inr (.inl rf)), (5, .inl rt)] rfl rfl rfl ?_
      refine zw_push hm_143 dX11_addObject_33 (v := .inl v2) rfl ?_
      refine zw_push hm_143 dX11_addObject_35 (v := .inl (-1 : Int32)) rfl ?_
      refine zw_if2 hm_143 dX11_addObject_36 (t := 41) rfl zc2_ne ?_ ?_
      · intro hc
        rw [if_neg hc] at h
        exact zw_sub (ma_nd_of (ks := [0, 1, 2, 3, 5, 6, 7]) rfl (by decide)) (ma_nd_of (ks := [7, 6, 0, 1, 2, 3, 5]) rfl (by decide)) (ma_le_cons rfl (ma_le_cons rfl (ma_le_cons rfl (ma_le_cons rfl (ma_le_cons rfl (ma_le_cons rfl (ma_le_cons rfl (ma_le_nil _)))))))) h
      · intro hc
        rw [if_pos (Classical.not_not.mp hc)] at h
        refine zw_push hm_143 dX11_addObject_39 (v := .inl (-1 : Int32)) rfl ?_
        exact zw_iret hm_143 dX11_addObject_40 h
    · intro x S9 hx
      exact hx.elim
theorem sp_143_64_sz_p91 {X : Nat × (Nat → Int32)} {d w : Nat} {f : Nat → Nat → Int32} {r : Nat → Nat → Option Nat} {C Z N : Nat} {Q : Option ma_V ⊕ Nat → ma_S → Prop} {ab : Nat→Nat→Int32} {S : ma_S} (kd : Int32) (wd : Int32) (rf : Int64) (rt : Int32) (hd : 7 ≤ d) (hw : 204 ≤ w) (hI : zB f r C Z N S) (hr : r 64 11 = some 91) (hpre0 : 0 ≤ wd.toInt) (hpre1 : wd.toInt ≤ 60) (hpre2 : 0 ≤ rt.toInt) (hpre3 : rt.toInt ≤ 15) (hpre4 : xB S (mR S 70)) (hpre5 : aZ S = ab) (hpre6 : qRv ab) (K : ∀ v S₉ r₉ C₉ Z₉ N₉, (∀ c k, c < 126 → r₉ c k = r c k) → C₉ ≤ C + 1 → Z₉ ≤ Z + 9 → (N ≤ N₉) → zB f r₉ C₉ Z₉ N₉ S₉ → (True) → (xB S₉ (mR S₉ 70)) → (aZ S₉ = rMk ab kd wd rf rt ∧ v = rMn ab wd) → Q (.inl (some (.inl v))) S₉) : ma_wp X d w 143 0 [(0, .inr (.inr (some 64))), (1, .inl kd), (2, .inl wd), (3, .inr (.inl rf)), (5, .inl rt)] [] S Q := by
  refine g_143_64_sz_p91_0 kd wd rf rt (by omega) (by omega) (zG_T hI) ?_
  refine ⟨((zG_r hI (by decide)).trans hr), ?_⟩
  refine ⟨((zG_r hI (by decide)).trans hr), ?_⟩
  have li1 : (512 : Int32).toInt = 512 := rfl
  have f2 := zG_s hI (0) (512) (c := 69) (k := 6) (by decide)
  refine zd (fun h3 => ?_) (fun h3 => ?_)
  · skip
    have g4 := i_le h3
    have li5 : (-1 : Int32).toInt = -1 := rfl
    exact K ((-1 : Int32)) _ _ _ _ _ (fun _ _ _ => rfl) (by omega) (by omega) (Nat.le_refl _) hI trivial (show xB S (mR S 70) from by first | (exact xB_x (xC_o (W := 75) hpre4).2)) (show aZ S = rMk ab kd wd rf rt ∧ (-1 : Int32) = rMn ab wd from by first | (have z := rMk_0 (a := ab) (kd := kd) (wd := wd) (rt := rt) (L := rf) (by rw [← hpre5, (show aZ S 69 6 = mI S 69 6 from (aZ_o (by decide) (by decide) (by decide)).trans (aS_I (W := 75) (S := S) (c := 69) (c₉ := 69) (k := 6) rfl rfl))]; omega); exact ⟨hpre5.trans z.1.symm, z.2.symm⟩))
  · skip
    have g6 := i_nle h3
    have b7 := i_bd wd
    first | have e8 : (wd + (1 : Int32)).toInt = wd.toInt + (1) := i_addk rfl (by omega) (by omega) | have b9 := i_bd (wd + (1 : Int32))
    refine sp_40_91_sz (ab := (aZ S)) ((wd + (1 : Int32))) (by omega) (by omega) (zB_dn_zL91 hI) (show xB S (mR S 70) from by first | (exact xB_x (xC_o (W := 75) hpre4).2)) (show aZ S = (aZ S) from by first | (exact rfl)) (show qRv (aZ S) from by first | (rw [hpre5]; exact hpre6) | (rw [hpre5]; exact hpre6) | (exact hpre6)) (by omega) (by omega) (fun v2 S1 hL_S1 hp_v2 rp0_S1 rp1_S1 rp2_S1 rp3_S1 => zi_n ⟨zG_T hL_S1, ?_⟩)
    have hI_S1 := zB_up_zL91 hI hL_S1
    have rp0_S1 : xB S1 (mR S1 70) := by
      have z := rp0_S1
      (try rw [show mI S 65 = f 65 from funext (fun k => zG_z hI rfl)] at z)
      (try rw [show mI S 64 1 = f 64 1 from zG_z hI rfl] at z)
      exact z
    have rp1_S1 : aZ S1 = rRs (aZ S) (wd + (1 : Int32)).toInt ∧ v2.toInt = rRp (aZ S) (wd + (1 : Int32)).toInt := by
      have z := rp1_S1
      (try rw [show mI S 65 = f 65 from funext (fun k => zG_z hI rfl)] at z)
      (try rw [show mI S 64 1 = f 64 1 from zG_z hI rfl] at z)
      exact z
    have rp2_S1 : v2.toInt = -1 ∨ (0 ≤ v2.toInt ∧ v2.toInt + (wd + (1 : Int32)).toInt ≤ 1500) := by
      have z := rp2_S1
      (try rw [show mI S 65 = f 65 from funext (fun k => zG_z hI rfl)] at z)
      (try rw [show mI S 64 1 = f 64 1 from zG_z hI rfl] at z)
      exact z
    have rp3_S1 : qRv (aZ S1) := by
      have z := rp3_S1
      (try rw [show mI S 65 = f 65 from funext (fun k => zG_z hI rfl)] at z)
      (try rw [show mI S 64 1 = f 64 1 from zG_z hI rfl] at z)
      exact z
    have b10 := i_bd v2
    have li11 : (-1 : Int32).toInt = -1 := rfl
    refine zd (fun h12 => ?_) (fun h12 => ?_)
    · skip
      have g13 := i_eq h12
      exact K ((-1 : Int32)) _ _ _ _ _ (fun _ _ _ => rfl) (by omega) (by omega) (Nat.le_refl _) hI_S1 trivial (show xB S1 (mR S1 70) from by first | (exact xB_x (xC_o (W := 75) rp0_S1).2)) (show aZ S1 = rMk ab kd wd rf rt ∧ (-1 : Int32) = rMn ab wd from by first | (have wd1 : (wd + (1 : Int32)).toInt = wd.toInt + 1 := i_addk rfl (by omega) (by omega); have rs := rp1_S1; rw [hpre5] at rs; have z := rMk_1 (a := ab) (kd := kd) (wd := wd) (rt := rt) (L := rf) (by rw [← hpre5, (show aZ S 69 6 = mI S 69 6 from (aZ_o (by decide) (by decide) (by decide)).trans (aS_I (W := 75) (S := S) (c := 69) (c₉ := 69) (k := 6) rfl rfl))]; omega) (by omega); exact ⟨rs.1.trans z.1.symm, z.2.symm⟩))
    · skip
      have g14 := i_ne h12
      have b15 := i_bd rt
      have q16 : (mI S1 69 6).toInt = (mI S 69 6).toInt := zG_zi (f := mI S) hL_S1 rfl
      have f17 := zG_s hI_S1 (0) (512) (c := 69) (k := 6) (by decide)
      have hN2 : 126 ≤ mN S1 := (zG_T hI_S1).2.1
      have hr2 : ∀ n c, mR S1 70 n = some c → c < mN S1 := fun n c q => by have z := zG_70 hI_S1 (by decide) q; rw [zG_N hI_S1]; exact z.2
      have wd1 : (wd + (1 : Int32)).toInt = wd.toInt + 1 := i_addk rfl (by omega) (by omega)
      have hy : (mI S1 69 6) = aZ S1 69 6 := (show aZ S1 69 6 = mI S1 69 6 from (aZ_o (by decide) (by decide) (by decide)).trans (aS_I (W := 75) (S := S1) (c := 69) (c₉ := 69) (k := 6) rfl rfl)).symm
      have rs := rp1_S1
      have bd := rp2_S1
      have mk2 := rMk_2 (a := ab) (b := aZ S1) (kd := kd) (wd := wd) (rt := rt) (L := rf) (pl := v2) (y := (mI S1 69 6)) (by rw [← hpre5, (show aZ S 69 6 = mI S 69 6 from (aZ_o (by decide) (by decide) (by decide)).trans (aS_I (W := 75) (S := S) (c := 69) (c₉ := 69) (k := 6) rfl rfl))]; omega) (by rw [← hpre5]; exact rs.1) (by rw [← hpre5]; exact rs.2) (by omega) hy
      exact mk_143s (p := 91) (by omega) (by omega) hI_S1 (by show 0 ≤ (mI S1 69 6).toInt; omega) (by show (mI S1 69 6).toInt ≤ 511; omega) (by omega) (by omega) (by omega) (by omega) (fun Sn hn hj => sg_143_64_sz_64 (ab := aZ S1) (R := mR S1 70) (y := (mI S1 69 6)) (I0 := (zFn (mI S1 69 6) kd (wd + (1 : Int32)) v2)) (L0 := rf) (rt) N (by omega) (by omega) hn ⟨Nat.le_trans (zG_T hI_S1).2.1 (Nat.le_of_eq (zG_N hI_S1)), Nat.lt_succ_self _⟩ (by rw [hj, zTh_lo (by decide) hN2]; omega) (by rw [hj]; exact mk_B rp0_S1 hN2 hr2) (by rw [hj]; exact Z_th hN2 hr2) (by rw [hj]; have q := zTh_eq (S := S1) (nu := (mI S1 69 6)) (kd := kd) (sz := wd + (1 : Int32)) (rr := rf) (pl := v2); rw [zG_N hI_S1] at q; exact q) (by rw [hj]; have q := zTh_L3 (S := S1) (nu := (mI S1 69 6)) (kd := kd) (sz := wd + (1 : Int32)) (rr := rf) (pl := v2); rw [zG_N hI_S1] at q; exact q) rfl (show (0 ≤ (mI S1 69 6).toInt ∧ (mI S1 69 6).toInt ≤ 511) ∧ (1 ≤ (wd + (1 : Int32)).toInt ∧ (wd + (1 : Int32)).toInt ≤ 61) ∧ 0 ≤ v2.toInt ∧ v2.toInt + (wd + (1 : Int32)).toInt ≤ 4500 by omega) ⟨by omega, by omega⟩ (by omega) (by omega) (by rw [hj, zTh_lo (by decide) hN2, zTh_lo (by decide) hN2]; omega) (fun v9 S9 h9 h10 q0 q1 => K v9 S9 _ _ _ _ (zrN_lo (zG_T hI_S1) (zG_N hI_S1)) (by omega) (by omega) (by omega) h9 h10 q0 (by rw [mk2.1, mk2.2]; exact q1)))
theorem g_141_64_sz_p91_0 {X : Nat × (Nat → Int32)} {d w : Nat} {S : ma_S} {Q : Option ma_V ⊕ Nat → ma_S → Prop} (ki : Int32) (rt : Int32) (hd : 8 ≤ d) (hw : 232 ≤ w) (hS : zT S) (h : if ki < 0 then (Q (.inr 2) (ma_bump S)) else (if (mI S 64 7) ≤ ki then (Q (.inr 2) (ma_bump S)) else (if rt < 0 then (Q (.inr 2) (ma_bump S)) else (if (16 : Int32) ≤ rt then (Q (.inr 2) (ma_bump S)) else ((0 ≤ ki ∧ ki.toNatClampNeg < 16) ∧ ((0 ≤ ki ∧ ki.toNatClampNeg < 16) ∧ (ma_wp X (d - 1) (w - 28) 143 0 [(0, .inr (.inr (some 64))), (1, .inl ki), (2, .inl (mI S 67 ki.toNatClampNeg)), (3, .inr (.inl ((mI S 68 ki.toNatClampNeg).toInt64))), (5, .inl rt)] [] S (zi (fun v2 S1 => zT S1 ∧ (Q (.inl (some (.inl v2))) S1)) (fun x S9 => Q (.inr x) S9))))))))) : ma_wp X d w 141 0 [(0, .inr (.inr (some 64))), (1, .inl ki), (2, .inl rt)] [] S Q := by
  refine zw_push hm_141 dX11_make_0 (v := .inl ki) rfl ?_
  refine zw_if0 hm_141 dX11_make_1 (t := 19) rfl zc0_lt ?_ ?_
  · intro hc
    rw [if_pos hc] at h
    exact zw_thr hm_141 dX11_make_19 dX11_make_22 dX11_make_23 dX11_make_26 x_11_79_81 n_11_79 (by omega) (by show 0 + 81 ≤ w; omega) h
  · intro hc
    rw [if_neg hc] at h
    refine zw_push hm_141 dX11_make_4 (v := .inl ki) rfl ?_
    refine zw_push hm_141 dX11_make_5 (v := .inr (.inr (some 64))) rfl ?_
    refine zw_gf hm_141 dX11_make_6 (v := .inl (mI S 64 7)) (zT_is hS s_64) (zT_t hS s_64) rfl f_11_82_11 rfl ?_
    refine zw_if2 hm_141 dX11_make_9 (t := 19) rfl zc2_ge ?_ ?_
    · intro hc
      rw [if_pos hc] at h
      exact zw_thr hm_141 dX11_make_19 dX11_make_22 dX11_make_23 dX11_make_26 x_11_79_81 n_11_79 (by omega) (by show 0 + 81 ≤ w; omega) h
    · intro hc
      rw [if_neg hc] at h
      refine zw_push hm_141 dX11_make_12 (v := .inl rt) rfl ?_
      refine zw_cs hm_141 dX11_make_13 pn_11_109 sl_11_109 hm_142 [.inl rt] [] rfl ⟨by omega, by omega⟩ rfl ?_
      show ma_wp X (d - 1) (w - 20) 142 0 [(0, .inl rt)] [] S _
      refine zw_push hm_142 dX11_isSlot_0 (v := .inl rt) rfl ?_
      refine zw_if0 hm_142 dX11_isSlot_1 (t := 14) rfl zc0_lt ?_ ?_
      · intro hc
        rw [if_pos hc] at h
        refine zw_push hm_142 dX11_isSlot_14 (v := .inl (0 : Int32)) rfl ?_
        refine zw_bret hm_142 dX11_isSlot_15 (by decide) ?_
        show ma_wp X d w 141 16 [(0, .inr (.inr (some 64))), (1, .inl ki), (2, .inl rt)] [.inl (0 : Int32)] S _
        refine zw_if0 hm_141 dX11_make_16 (t := 27) rfl zc0_ne (fun hc => absurd hc (by decide)) (fun _ => ?_)
        exact zw_thr hm_141 dX11_make_19 dX11_make_22 dX11_make_23 dX11_make_26 x_11_79_81 n_11_79 (by omega) (by show 0 + 81 ≤ w; omega) h
      · intro hc
        rw [if_neg hc] at h
        refine zw_push hm_142 dX11_isSlot_4 (v := .inl rt) rfl ?_
        refine zw_push hm_142 dX11_isSlot_5 (v := .inl (16 : Int32)) rfl ?_
        refine zw_if2 hm_142 dX11_isSlot_7 (t := 14) rfl zc2_ge ?_ ?_
        · intro hc
          rw [if_pos hc] at h
          refine zw_push hm_142 dX11_isSlot_14 (v := .inl (0 : Int32)) rfl ?_
          refine zw_bret hm_142 dX11_isSlot_15 (by decide) ?_
          show ma_wp X d w 141 16 [(0, .inr (.inr (some 64))), (1, .inl ki), (2, .inl rt)] [.inl (0 : Int32)] S _
          refine zw_if0 hm_141 dX11_make_16 (t := 27) rfl zc0_ne (fun hc => absurd hc (by decide)) (fun _ => ?_)
          exact zw_thr hm_141 dX11_make_19 dX11_make_22 dX11_make_23 dX11_make_26 x_11_79_81 n_11_79 (by omega) (by show 0 + 81 ≤ w; omega) h
        · intro hc
          rw [if_neg hc] at h
          refine zw_push hm_142 dX11_isSlot_10 (v := .inl (1 : Int32)) rfl ?_
          refine zw_goto hm_142 dX11_isSlot_11 (t := 15) rfl ?_
          refine zw_bret hm_142 dX11_isSlot_15 (by decide) ?_
          show ma_wp X d w 141 16 [(0, .inr (.inr (some 64))), (1, .inl ki), (2, .inl rt)] [.inl (1 : Int32)] S _
          refine zw_if0 hm_141 dX11_make_16 (t := 27) rfl zc0_ne (fun _ => ?_) (fun hc => absurd (by decide) hc)
          refine zw_push hm_141 dX11_make_27 (v := .inr (.inr (some 64))) rfl ?_
          refine zw_push hm_141 dX11_make_28 (v := .inl ki) rfl ?_
          refine zw_push hm_141 dX11_make_29 (v := .inr (.inr (some 64))) rfl ?_
          refine zw_gf hm_141 dX11_make_30 (v := .inr (.inr (some 67))) (zT_is hS s_64) (zT_t hS s_64) rfl f_11_17_11 (zT_f hS r_64_5) ?_
          refine zw_push hm_141 dX11_make_33 (v := .inl ki) rfl ?_
          obtain ⟨hg, h⟩ := h
          refine zw_ia hm_141 dX11_make_34 (zT_is hS s_67) (zT_h hS s_67) rfl hg ?_
          show ma_wp X d w 141 35 [(0, .inr (.inr (some 64))), (1, .inl ki), (2, .inl rt)] [.inl (mI S 67 ki.toNatClampNeg), .inl ki, .inr (.inr (some 64))] S _
          refine zw_push hm_141 dX11_make_35 (v := .inr (.inr (some 64))) rfl ?_
          refine zw_gf hm_141 dX11_make_36 (v := .inr (.inr (some 68))) (zT_is hS s_64) (zT_t hS s_64) rfl f_11_20_11 (zT_f hS r_64_6) ?_
          refine zw_push hm_141 dX11_make_39 (v := .inl ki) rfl ?_
          obtain ⟨hg, h⟩ := h
          refine zw_ia hm_141 dX11_make_40 (zT_is hS s_68) (zT_h hS s_68) rfl hg ?_
          show ma_wp X d w 141 41 [(0, .inr (.inr (some 64))), (1, .inl ki), (2, .inl rt)] [.inl (mI S 68 ki.toNatClampNeg), .inl (mI S 67 ki.toNatClampNeg), .inl ki, .inr (.inr (some 64))] S _
          refine zw_stk hm_141 dX11_make_41 (st₉ := [.inr (.inl ((mI S 68 ki.toNatClampNeg).toInt64)), .inl (mI S 67 ki.toNatClampNeg), .inl ki, .inr (.inr (some 64))]) rfl rfl ?_
          refine zw_push hm_141 dX11_make_42 (v := .inl rt) rfl ?_
          refine zw_cv hm_141 dX11_make_43 v_11_113_11 hm_143 [.inl rt, .inr (.inl ((mI S 68 ki.toNatClampNeg).toInt64)), .inl (mI S 67 ki.toNatClampNeg), .inl ki] [] rfl (zT_rt hS s_64 rfl) ⟨by omega, by omega⟩ rfl (zw_mono h (zi_go ?_ ?_))
          · intro v2 S1 hv
            obtain ⟨hS1, h⟩ := hv
            exact zw_iret hm_141 dX11_make_46 h
          · intro x S9 hx
            exact ⟨by decide, hx⟩
theorem sp_141_64_sz_p91 {X : Nat × (Nat → Int32)} {d w : Nat} {f : Nat → Nat → Int32} {r : Nat → Nat → Option Nat} {C Z N : Nat} {Q : Option ma_V ⊕ Nat → ma_S → Prop} {ab : Nat→Nat→Int32} {S : ma_S} (ki : Int32) (rt : Int32) (hd : 8 ≤ d) (hw : 232 ≤ w) (hI : zB f r C Z N S) (hr : r 64 11 = some 91) (hpre0 : xB S (mR S 70)) (hpre1 : aZ S = ab) (hpre2 : qRv ab) (K : ∀ v S₉ r₉ C₉ Z₉ N₉, (∀ c k, c < 126 → r₉ c k = r c k) → C₉ ≤ C + 1 → Z₉ ≤ Z + 9 → (N ≤ N₉) → zB f r₉ C₉ Z₉ N₉ S₉ → (True) → (xB S₉ (mR S₉ 70)) → ((0 ≤ ki.toInt ∧ ki.toInt < (f 64 7).toInt ∧ 0 ≤ rt.toInt ∧ rt.toInt ≤ 15) ∧ aZ S₉ = rMk ab ki (f 67 ki.toNatClampNeg) (f 68 ki.toNatClampNeg).toInt64 rt ∧ v = rMn ab (f 67 ki.toNatClampNeg)) → Q (.inl (some (.inl v))) S₉) (KX : ∀ x S₉, (x = 2) → zB f r C Z N S₉ → (xB S₉ (mR S₉ 70)) → (aZ S₉ = ab) → (x = 2 ∧ ¬ (0 ≤ ki.toInt ∧ ki.toInt < (f 64 7).toInt ∧ 0 ≤ rt.toInt ∧ rt.toInt ≤ 15)) → Q (.inr x) (ma_bump S₉)) : ma_wp X d w 141 0 [(0, .inr (.inr (some 64))), (1, .inl ki), (2, .inl rt)] [] S Q := by
  refine g_141_64_sz_p91_0 ki rt (by omega) (by omega) (zG_T hI) ?_
  have b1 := i_bd ki
  have li2 : (0 : Int32).toInt = 0 := rfl
  refine zd (fun h3 => ?_) (fun h3 => ?_)
  · skip
    have g4 := i_lt h3
    exact KX 2 _ (by decide) hI (show xB S (mR S 70) from by first | (exact xB_x (xC_o (W := 75) hpre0).2)) (show aZ S = ab from by first | (exact hpre1)) (show 2 = 2 ∧ ¬ (0 ≤ ki.toInt ∧ ki.toInt < (f 64 7).toInt ∧ 0 ≤ rt.toInt ∧ rt.toInt ≤ 15) from by first | (have f7 : (mI S 64 7).toInt = (f 64 7).toInt := zG_zi hI rfl; exact ⟨rfl, by omega⟩))
  · skip
    have g5 := i_nlt h3
    have f6 := zG_s hI (0) (16) (c := 64) (k := 7) (by decide)
    refine zd (fun h7 => ?_) (fun h7 => ?_)
    · skip
      have g8 := i_le h7
      exact KX 2 _ (by decide) hI (show xB S (mR S 70) from by first | (exact xB_x (xC_o (W := 75) hpre0).2)) (show aZ S = ab from by first | (exact hpre1)) (show 2 = 2 ∧ ¬ (0 ≤ ki.toInt ∧ ki.toInt < (f 64 7).toInt ∧ 0 ≤ rt.toInt ∧ rt.toInt ≤ 15) from by first | (have f7 : (mI S 64 7).toInt = (f 64 7).toInt := zG_zi hI rfl; exact ⟨rfl, by omega⟩))
    · skip
      have g9 := i_nle h7
      have b10 := i_bd rt
      refine zd (fun h11 => ?_) (fun h11 => ?_)
      · skip
        have g12 := i_lt h11
        exact KX 2 _ (by decide) hI (show xB S (mR S 70) from by first | (exact xB_x (xC_o (W := 75) hpre0).2)) (show aZ S = ab from by first | (exact hpre1)) (show 2 = 2 ∧ ¬ (0 ≤ ki.toInt ∧ ki.toInt < (f 64 7).toInt ∧ 0 ≤ rt.toInt ∧ rt.toInt ≤ 15) from by first | (have f7 : (mI S 64 7).toInt = (f 64 7).toInt := zG_zi hI rfl; exact ⟨rfl, by omega⟩))
      · skip
        have g13 := i_nlt h11
        have li14 : (16 : Int32).toInt = 16 := rfl
        refine zd (fun h15 => ?_) (fun h15 => ?_)
        · skip
          have g16 := i_le h15
          exact KX 2 _ (by decide) hI (show xB S (mR S 70) from by first | (exact xB_x (xC_o (W := 75) hpre0).2)) (show aZ S = ab from by first | (exact hpre1)) (show 2 = 2 ∧ ¬ (0 ≤ ki.toInt ∧ ki.toInt < (f 64 7).toInt ∧ 0 ≤ rt.toInt ∧ rt.toInt ≤ 15) from by first | (have f7 : (mI S 64 7).toInt = (f 64 7).toInt := zG_zi hI rfl; exact ⟨rfl, by omega⟩))
        · skip
          have g17 := i_nle h15
          refine ⟨i_ix (by omega) (by omega), ?_⟩
          refine ⟨i_ix (by omega) (by omega), ?_⟩
          first | have f18 := zG_a hI 16 (0) (8) (c := 67) (k := ki.toNatClampNeg) (by decide) (i_ix (n := 16) (by omega) (by omega)).2 | have b19 := i_bd (mI S 67 ki.toNatClampNeg)
          refine sp_143_64_sz_p91 (ab := (aZ S)) (ki) ((mI S 67 ki.toNatClampNeg)) (((mI S 68 ki.toNatClampNeg).toInt64)) (rt) (by omega) (by omega) hI hr (by omega) (by omega) (by omega) (by omega) (show xB S (mR S 70) from by first | (exact xB_x (xC_o (W := 75) hpre0).2)) (show aZ S = (aZ S) from by first | (exact rfl)) (show qRv (aZ S) from by first | (rw [hpre1]; exact hpre2) | (rw [hpre1]; exact hpre2) | (exact hpre2)) (fun v2 S1 r₉ C₉ Z₉ N₉ sl1 sl2 sl3 sl4 hI_S1 hp_v2 rp0_S1 rp1_S1 => zi_n ⟨zG_T hI_S1, ?_⟩)
          have rp0_S1 : xB S1 (mR S1 70) := rp0_S1
          have rp1_S1 : aZ S1 = rMk (aZ S) ki (mI S 67 ki.toNatClampNeg) (((mI S 68 ki.toNatClampNeg).toInt64)) rt ∧ v2 = rMn (aZ S) (mI S 67 ki.toNatClampNeg) := rp1_S1
          have b20 := i_bd v2
          exact K (v2) _ _ _ _ _ sl1 sl2 sl3 sl4 hI_S1 trivial (show xB S1 (mR S1 70) from by first | (exact xB_x (xC_o (W := 75) rp0_S1).2)) (show (0 ≤ ki.toInt ∧ ki.toInt < (f 64 7).toInt ∧ 0 ≤ rt.toInt ∧ rt.toInt ≤ 15) ∧ aZ S1 = rMk ab ki (f 67 ki.toNatClampNeg) (f 68 ki.toNatClampNeg).toInt64 rt ∧ v2 = rMn ab (f 67 ki.toNatClampNeg) from by first | (exfalso; omega) | (have f7 : (mI S 64 7).toInt = (f 64 7).toInt := zG_zi hI rfl; have q := rp1_S1; rw [hpre1, show mI S 67 ki.toNatClampNeg = f 67 ki.toNatClampNeg from zG_z hI rfl, show mI S 68 ki.toNatClampNeg = f 68 ki.toNatClampNeg from zG_z hI rfl] at q; exact ⟨⟨by omega, by omega, by omega, by omega⟩, q⟩))

/-! from 95.s25 -/
/-! REGIONS, the class (written by wip/tools/gen15z.py) -/
theorem g_147_64_sz_p91_0 {X : Nat × (Nat → Int32)} {d w : Nat} {S : ma_S} {Q : Option ma_V ⊕ Nat → ma_S → Prop} (b : Int32) (n : Int32) (rt : Int32) (hd : 8 ≤ d) (hw : 232 ≤ w) (hS : zT S) (h : if n < 0 then (Q (.inr 2) (ma_bump S)) else (if (60 : Int32) < n then (Q (.inr 2) (ma_bump S)) else (if rt < 0 then (Q (.inr 2) (ma_bump S)) else (if (16 : Int32) ≤ rt then (Q (.inr 2) (ma_bump S)) else (if b = 0 then (ma_wp X (d - 1) (w - 28) 143 0 [(0, .inr (.inr (some 64))), (1, .inl (17 : Int32)), (2, .inl n), (3, .inr (.inl (0 : Int64))), (5, .inl rt)] [] S (zi (fun v2 S1 => zT S1 ∧ (Q (.inl (some (.inl v2))) S1)) (fun x S9 => Q (.inr x) S9))) else (ma_wp X (d - 1) (w - 28) 143 0 [(0, .inr (.inr (some 64))), (1, .inl (16 : Int32)), (2, .inl n), (3, .inr (.inl (-1 : Int64))), (5, .inl rt)] [] S (zi (fun v4 S3 => zT S3 ∧ (Q (.inl (some (.inl v4))) S3)) (fun x S9 => Q (.inr x) S9)))))))) : ma_wp X d w 147 0 [(0, .inr (.inr (some 64))), (1, .inl b), (2, .inl n), (3, .inl rt)] [] S Q := by
  refine zw_push hm_147 dX11_row_0 (v := .inl n) rfl ?_
  refine zw_if0 hm_147 dX11_row_1 (t := 17) rfl zc0_lt ?_ ?_
  · intro hc
    rw [if_pos hc] at h
    exact zw_thr hm_147 dX11_row_17 dX11_row_20 dX11_row_21 dX11_row_24 x_11_79_81 n_11_79 (by omega) (by show 0 + 81 ≤ w; omega) h
  · intro hc
    rw [if_neg hc] at h
    refine zw_push hm_147 dX11_row_4 (v := .inl n) rfl ?_
    refine zw_push hm_147 dX11_row_5 (v := .inl (60 : Int32)) rfl ?_
    refine zw_if2 hm_147 dX11_row_7 (t := 17) rfl zc2_gt ?_ ?_
    · intro hc
      rw [if_pos hc] at h
      exact zw_thr hm_147 dX11_row_17 dX11_row_20 dX11_row_21 dX11_row_24 x_11_79_81 n_11_79 (by omega) (by show 0 + 81 ≤ w; omega) h
    · intro hc
      rw [if_neg hc] at h
      refine zw_push hm_147 dX11_row_10 (v := .inl rt) rfl ?_
      refine zw_cs hm_147 dX11_row_11 pn_11_109 sl_11_109 hm_142 [.inl rt] [] rfl ⟨by omega, by omega⟩ rfl ?_
      show ma_wp X (d - 1) (w - 20) 142 0 [(0, .inl rt)] [] S _
      refine zw_push hm_142 dX11_isSlot_0 (v := .inl rt) rfl ?_
      refine zw_if0 hm_142 dX11_isSlot_1 (t := 14) rfl zc0_lt ?_ ?_
      · intro hc
        rw [if_pos hc] at h
        refine zw_push hm_142 dX11_isSlot_14 (v := .inl (0 : Int32)) rfl ?_
        refine zw_bret hm_142 dX11_isSlot_15 (by decide) ?_
        show ma_wp X d w 147 14 [(0, .inr (.inr (some 64))), (1, .inl b), (2, .inl n), (3, .inl rt)] [.inl (0 : Int32)] S _
        refine zw_if0 hm_147 dX11_row_14 (t := 25) rfl zc0_ne (fun hc => absurd hc (by decide)) (fun _ => ?_)
        exact zw_thr hm_147 dX11_row_17 dX11_row_20 dX11_row_21 dX11_row_24 x_11_79_81 n_11_79 (by omega) (by show 0 + 81 ≤ w; omega) h
      · intro hc
        rw [if_neg hc] at h
        refine zw_push hm_142 dX11_isSlot_4 (v := .inl rt) rfl ?_
        refine zw_push hm_142 dX11_isSlot_5 (v := .inl (16 : Int32)) rfl ?_
        refine zw_if2 hm_142 dX11_isSlot_7 (t := 14) rfl zc2_ge ?_ ?_
        · intro hc
          rw [if_pos hc] at h
          refine zw_push hm_142 dX11_isSlot_14 (v := .inl (0 : Int32)) rfl ?_
          refine zw_bret hm_142 dX11_isSlot_15 (by decide) ?_
          show ma_wp X d w 147 14 [(0, .inr (.inr (some 64))), (1, .inl b), (2, .inl n), (3, .inl rt)] [.inl (0 : Int32)] S _
          refine zw_if0 hm_147 dX11_row_14 (t := 25) rfl zc0_ne (fun hc => absurd hc (by decide)) (fun _ => ?_)
          exact zw_thr hm_147 dX11_row_17 dX11_row_20 dX11_row_21 dX11_row_24 x_11_79_81 n_11_79 (by omega) (by show 0 + 81 ≤ w; omega) h
        · intro hc
          rw [if_neg hc] at h
          refine zw_push hm_142 dX11_isSlot_10 (v := .inl (1 : Int32)) rfl ?_
          refine zw_goto hm_142 dX11_isSlot_11 (t := 15) rfl ?_
          refine zw_bret hm_142 dX11_isSlot_15 (by decide) ?_
          show ma_wp X d w 147 14 [(0, .inr (.inr (some 64))), (1, .inl b), (2, .inl n), (3, .inl rt)] [.inl (1 : Int32)] S _
          refine zw_if0 hm_147 dX11_row_14 (t := 25) rfl zc0_ne (fun _ => ?_) (fun hc => absurd (by decide) hc)
          refine zw_push hm_147 dX11_row_25 (v := .inl b) rfl ?_
          refine zw_if0 hm_147 dX11_row_26 (t := 43) rfl zc0_eq ?_ ?_
          · intro hc
            rw [if_pos hc] at h
            refine zw_push hm_147 dX11_row_43 (v := .inr (.inr (some 64))) rfl ?_
            refine zw_push hm_147 dX11_row_44 (v := .inl (17 : Int32)) rfl ?_
            refine zw_push hm_147 dX11_row_46 (v := .inl n) rfl ?_
            refine zw_push hm_147 dX11_row_47 (v := .inr (.inl (0 : Int64))) rfl ?_
            refine zw_push hm_147 dX11_row_48 (v := .inl rt) rfl ?_
            refine zw_cv hm_147 dX11_row_49 v_11_113_11 hm_143 [.inl rt, .inr (.inl (0 : Int64)), .inl n, .inl (17 : Int32)] [] rfl (zT_rt hS s_64 rfl) ⟨by omega, by omega⟩ rfl (zw_mono h (zi_go ?_ ?_))
            · intro v2 S1 hv
              obtain ⟨hS1, h⟩ := hv
              exact zw_iret hm_147 dX11_row_52 h
            · intro x S9 hx
              exact ⟨by decide, hx⟩
          · intro hc
            rw [if_neg hc] at h
            refine zw_push hm_147 dX11_row_29 (v := .inr (.inr (some 64))) rfl ?_
            refine zw_push hm_147 dX11_row_30 (v := .inl (16 : Int32)) rfl ?_
            refine zw_push hm_147 dX11_row_32 (v := .inl n) rfl ?_
            refine zw_l2 hm_147 dX11_row_33 l2_11_117 ?_
            refine zw_push hm_147 dX11_row_36 (v := .inl rt) rfl ?_
            refine zw_cv hm_147 dX11_row_37 v_11_113_11 hm_143 [.inl rt, .inr (.inl (-1 : Int64)), .inl n, .inl (16 : Int32)] [] rfl (zT_rt hS s_64 rfl) ⟨by omega, by omega⟩ rfl (zw_mono h (zi_go ?_ ?_))
            · intro v4 S3 hv
              obtain ⟨hS3, h⟩ := hv
              refine zw_goto hm_147 dX11_row_40 (t := 52) rfl ?_
              exact zw_iret hm_147 dX11_row_52 h
            · intro x S9 hx
              exact ⟨by decide, hx⟩
theorem sp_147_64_sz_p91 {X : Nat × (Nat → Int32)} {d w : Nat} {f : Nat → Nat → Int32} {r : Nat → Nat → Option Nat} {C Z N : Nat} {Q : Option ma_V ⊕ Nat → ma_S → Prop} {ab : Nat→Nat→Int32} {S : ma_S} (b : Int32) (n : Int32) (rt : Int32) (hd : 8 ≤ d) (hw : 232 ≤ w) (hI : zB f r C Z N S) (hr : r 64 11 = some 91) (hpre0 : 0 ≤ b.toInt) (hpre1 : b.toInt ≤ 1) (hpre2 : xB S (mR S 70)) (hpre3 : aZ S = ab) (hpre4 : qRv ab) (K : ∀ v S₉ r₉ C₉ Z₉ N₉, (∀ c k, c < 126 → r₉ c k = r c k) → C₉ ≤ C + 1 → Z₉ ≤ Z + 9 → (N ≤ N₉) → zB f r₉ C₉ Z₉ N₉ S₉ → (True) → (xB S₉ (mR S₉ 70)) → ((0 ≤ n.toInt ∧ n.toInt ≤ 60 ∧ 0 ≤ rt.toInt ∧ rt.toInt ≤ 15) ∧ aZ S₉ = (if b = 0 then rMk ab 17 n 0 rt else rMk ab 16 n (-1) rt) ∧ v = rMn ab n) → Q (.inl (some (.inl v))) S₉) (KX : ∀ x S₉, (x = 2) → zB f r C Z N S₉ → (xB S₉ (mR S₉ 70)) → (aZ S₉ = ab) → (x = 2 ∧ ¬ (0 ≤ n.toInt ∧ n.toInt ≤ 60 ∧ 0 ≤ rt.toInt ∧ rt.toInt ≤ 15)) → Q (.inr x) (ma_bump S₉)) : ma_wp X d w 147 0 [(0, .inr (.inr (some 64))), (1, .inl b), (2, .inl n), (3, .inl rt)] [] S Q := by
  refine g_147_64_sz_p91_0 b n rt (by omega) (by omega) (zG_T hI) ?_
  have b1 := i_bd n
  have li2 : (0 : Int32).toInt = 0 := rfl
  refine zd (fun h3 => ?_) (fun h3 => ?_)
  · skip
    have g4 := i_lt h3
    exact KX 2 _ (by decide) hI (show xB S (mR S 70) from by first | (exact xB_x (xC_o (W := 75) hpre2).2)) (show aZ S = ab from by first | (exact hpre3)) (show 2 = 2 ∧ ¬ (0 ≤ n.toInt ∧ n.toInt ≤ 60 ∧ 0 ≤ rt.toInt ∧ rt.toInt ≤ 15) from by first | (exact ⟨rfl, by omega⟩))
  · skip
    have g5 := i_nlt h3
    have li6 : (60 : Int32).toInt = 60 := rfl
    refine zd (fun h7 => ?_) (fun h7 => ?_)
    · skip
      have g8 := i_lt h7
      exact KX 2 _ (by decide) hI (show xB S (mR S 70) from by first | (exact xB_x (xC_o (W := 75) hpre2).2)) (show aZ S = ab from by first | (exact hpre3)) (show 2 = 2 ∧ ¬ (0 ≤ n.toInt ∧ n.toInt ≤ 60 ∧ 0 ≤ rt.toInt ∧ rt.toInt ≤ 15) from by first | (exact ⟨rfl, by omega⟩))
    · skip
      have g9 := i_nlt h7
      have b10 := i_bd rt
      refine zd (fun h11 => ?_) (fun h11 => ?_)
      · skip
        have g12 := i_lt h11
        exact KX 2 _ (by decide) hI (show xB S (mR S 70) from by first | (exact xB_x (xC_o (W := 75) hpre2).2)) (show aZ S = ab from by first | (exact hpre3)) (show 2 = 2 ∧ ¬ (0 ≤ n.toInt ∧ n.toInt ≤ 60 ∧ 0 ≤ rt.toInt ∧ rt.toInt ≤ 15) from by first | (exact ⟨rfl, by omega⟩))
      · skip
        have g13 := i_nlt h11
        have li14 : (16 : Int32).toInt = 16 := rfl
        refine zd (fun h15 => ?_) (fun h15 => ?_)
        · skip
          have g16 := i_le h15
          exact KX 2 _ (by decide) hI (show xB S (mR S 70) from by first | (exact xB_x (xC_o (W := 75) hpre2).2)) (show aZ S = ab from by first | (exact hpre3)) (show 2 = 2 ∧ ¬ (0 ≤ n.toInt ∧ n.toInt ≤ 60 ∧ 0 ≤ rt.toInt ∧ rt.toInt ≤ 15) from by first | (exact ⟨rfl, by omega⟩))
        · skip
          have g17 := i_nle h15
          have b18 := i_bd b
          refine zd (fun h19 => ?_) (fun h19 => ?_)
          · skip
            have g20 := i_eq h19
            have li21 : (17 : Int32).toInt = 17 := rfl
            refine sp_143_64_sz_p91 (ab := (aZ S)) ((17 : Int32)) (n) ((0 : Int64)) (rt) (by omega) (by omega) hI hr (by omega) (by omega) (by omega) (by omega) (show xB S (mR S 70) from by first | (exact xB_x (xC_o (W := 75) hpre2).2)) (show aZ S = (aZ S) from by first | (exact rfl)) (show qRv (aZ S) from by first | (rw [hpre3]; exact hpre4) | (rw [hpre3]; exact hpre4) | (exact hpre4)) (fun v2 S1 r₉ C₉ Z₉ N₉ sl1 sl2 sl3 sl4 hI_S1 hp_v2 rp0_S1 rp1_S1 => zi_n ⟨zG_T hI_S1, ?_⟩)
            have rp0_S1 : xB S1 (mR S1 70) := rp0_S1
            have rp1_S1 : aZ S1 = rMk (aZ S) (17 : Int32) n (0 : Int64) rt ∧ v2 = rMn (aZ S) n := rp1_S1
            have b22 := i_bd v2
            exact K (v2) _ _ _ _ _ sl1 sl2 sl3 sl4 hI_S1 trivial (show xB S1 (mR S1 70) from by first | (exact xB_x (xC_o (W := 75) rp0_S1).2)) (show (0 ≤ n.toInt ∧ n.toInt ≤ 60 ∧ 0 ≤ rt.toInt ∧ rt.toInt ≤ 15) ∧ aZ S1 = (if b = 0 then rMk ab 17 n 0 rt else rMk ab 16 n (-1) rt) ∧ v2 = rMn ab n from by first | (exfalso; omega) | (have q := rp1_S1; rw [hpre3] at q; refine ⟨⟨by omega, by omega, by omega, by omega⟩, ?_⟩; rw [if_pos (by assumption)]; exact q) | (have q := rp1_S1; rw [hpre3] at q; refine ⟨⟨by omega, by omega, by omega, by omega⟩, ?_⟩; rw [if_neg (by assumption)]; exact q))
          · skip
            have g23 := i_ne h19
            refine sp_143_64_sz_p91 (ab := (aZ S)) ((16 : Int32)) (n) ((-1 : Int64)) (rt) (by omega) (by omega) hI hr (by omega) (by omega) (by omega) (by omega) (show xB S (mR S 70) from by first | (exact xB_x (xC_o (W := 75) hpre2).2)) (show aZ S = (aZ S) from by first | (exact rfl)) (show qRv (aZ S) from by first | (rw [hpre3]; exact hpre4) | (rw [hpre3]; exact hpre4) | (exact hpre4)) (fun v4 S3 r₉ C₉ Z₉ N₉ sl1 sl2 sl3 sl4 hI_S3 hp_v4 rp0_S3 rp1_S3 => zi_n ⟨zG_T hI_S3, ?_⟩)
            have rp0_S3 : xB S3 (mR S3 70) := rp0_S3
            have rp1_S3 : aZ S3 = rMk (aZ S) (16 : Int32) n (-1 : Int64) rt ∧ v4 = rMn (aZ S) n := rp1_S3
            have b24 := i_bd v4
            exact K (v4) _ _ _ _ _ sl1 sl2 sl3 sl4 hI_S3 trivial (show xB S3 (mR S3 70) from by first | (exact xB_x (xC_o (W := 75) rp0_S3).2)) (show (0 ≤ n.toInt ∧ n.toInt ≤ 60 ∧ 0 ≤ rt.toInt ∧ rt.toInt ≤ 15) ∧ aZ S3 = (if b = 0 then rMk ab 17 n 0 rt else rMk ab 16 n (-1) rt) ∧ v4 = rMn ab n from by first | (exfalso; omega) | (have q := rp1_S3; rw [hpre3] at q; refine ⟨⟨by omega, by omega, by omega, by omega⟩, ?_⟩; rw [if_pos (by assumption)]; exact q) | (have q := rp1_S3; rw [hpre3] at q; refine ⟨⟨by omega, by omega, by omega, by omega⟩, ?_⟩; rw [if_neg (by assumption)]; exact q))
theorem g_159_64_sz_p91_0 {X : Nat × (Nat → Int32)} {d w : Nat} {S : ma_S} {Q : Option ma_V ⊕ Nat → ma_S → Prop}  (hd : 7 ≤ d) (hw : 183 ≤ w) (hS : zT S) (h : mR S 64 11 = some 91 ∧ (mR S 64 11 = some 91 ∧ (ma_wp X (d - 1) (w - 23) 43 0 [(0, .inr (.inr (some 91)))] [] S (zi (fun v2 S1 => zT S1 ∧ (Q (.inl (some (.inl v2))) S1)) (fun _ _ => False))))) : ma_wp X d w 159 0 [(0, .inr (.inr (some 64)))] [] S Q := by
  refine zw_push hm_159 dX11_clean_0 (v := .inr (.inr (some 64))) rfl ?_
  refine zw_cv hm_159 dX11_clean_1 v_11_119_11 hm_144 [] [] rfl (zT_rt hS s_64 rfl) ⟨by omega, by omega⟩ rfl ?_
  show ma_wp X (d - 1) (w - 20) 144 0 [(0, .inr (.inr (some 64)))] [] S _
  refine zw_push hm_144 dX11_needCollector_0 (v := .inr (.inr (some 64))) rfl ?_
  obtain ⟨hg, h⟩ := h
  refine zw_gf hm_144 dX11_needCollector_1 (v := .inr (.inr (some 91))) (zT_is hS s_64) (zT_t hS s_64) rfl f_11_98_11 (congrArg (fun z => Sum.inr (Sum.inr z)) hg) ?_
  refine zw_ifnonnull hm_144 dX11_needCollector_4 (t := 15) rfl (fun z => by cases z) (fun _ _ => ?_)
  refine zw_push hm_144 dX11_needCollector_15 (v := .inr (.inr (some 64))) rfl ?_
  obtain ⟨hg, h⟩ := h
  refine zw_gf hm_144 dX11_needCollector_16 (v := .inr (.inr (some 91))) (zT_is hS s_64) (zT_t hS s_64) rfl f_11_98_11 (congrArg (fun z => Sum.inr (Sum.inr z)) hg) ?_
  refine zw_aret hm_144 dX11_needCollector_19 ?_
  show ma_wp X d w 159 4 [(0, .inr (.inr (some 64)))] [.inr (.inr (some 91))] S _
  refine zw_cv hm_159 dX11_clean_4 v_11_207_4 hm_43 [] [] rfl (zT_rt hS s_91 rfl) ⟨by omega, by omega⟩ rfl (zw_mono h (zi_go ?_ ?_))
  · intro v2 S1 hv
    obtain ⟨hS1, h⟩ := hv
    exact zw_iret hm_159 dX11_clean_7 h
  · intro x S9 hx
    exact hx.elim
theorem sp_159_64_sz_p91 {X : Nat × (Nat → Int32)} {d w : Nat} {f : Nat → Nat → Int32} {r : Nat → Nat → Option Nat} {C Z N : Nat} {Q : Option ma_V ⊕ Nat → ma_S → Prop} {ab : Nat→Nat→Int32} {S : ma_S}  (hd : 7 ≤ d) (hw : 183 ≤ w) (hI : zB f r C Z N S) (hr : r 64 11 = some 91) (hpre0 : xB S (mR S 70)) (hpre1 : aZ S = ab) (hpre2 : qRv ab) (K : ∀ v S₉, zB f r C Z N S₉ → (True) → (xB S₉ (mR S₉ 70)) → (aZ S₉ = rCl ab ∧ v = aSv ab ∧ qRv (aZ S₉)) → Q (.inl (some (.inl v))) S₉) : ma_wp X d w 159 0 [(0, .inr (.inr (some 64)))] [] S Q := by
  refine g_159_64_sz_p91_0  (by omega) (by omega) (zG_T hI) ?_
  refine ⟨((zG_r hI (by decide)).trans hr), ?_⟩
  refine ⟨((zG_r hI (by decide)).trans hr), ?_⟩
  refine sp_43_91_sz (ab := (aZ S)) (by omega) (by omega) (zB_dn_zL91 hI) (show xB S (mR S 70) from by first | (exact xB_x (xC_o (W := 75) hpre0).2)) (show aZ S = (aZ S) from by first | (exact rfl)) (show qRv (aZ S) from by first | (rw [hpre1]; exact hpre2) | (rw [hpre1]; exact hpre2) | (exact hpre2)) (fun v2 S1 hL_S1 hp_v2 rp0_S1 rp1_S1 => zi_n ⟨zG_T hL_S1, ?_⟩)
  have hI_S1 := zB_up_zL91 hI hL_S1
  have rp0_S1 : xB S1 (mR S1 70) := by
    have z := rp0_S1
    (try rw [show mI S 65 = f 65 from funext (fun k => zG_z hI rfl)] at z)
    (try rw [show mI S 64 1 = f 64 1 from zG_z hI rfl] at z)
    exact z
  have rp1_S1 : aZ S1 = rCl (aZ S) ∧ v2 = aSv (aZ S) ∧ qRv (aZ S1) := by
    have z := rp1_S1
    (try rw [show mI S 65 = f 65 from funext (fun k => zG_z hI rfl)] at z)
    (try rw [show mI S 64 1 = f 64 1 from zG_z hI rfl] at z)
    exact z
  have b1 := i_bd v2
  exact K (v2) _ hI_S1 trivial (show xB S1 (mR S1 70) from by first | (exact xB_x (xC_o (W := 75) rp0_S1).2)) (show aZ S1 = rCl ab ∧ v2 = aSv ab ∧ qRv (aZ S1) from by first | (have z := rp1_S1; rw [hpre1] at z; exact z))

