/-! REGIONS, the class (written by wip/tools/gen15z.py) -/
theorem g_145_64_91_sz_0 {X : Nat × (Nat → Int32)} {d w : Nat} {S : ma_S} {Q : Option ma_V ⊕ Nat → ma_S → Prop} (i : Int32) (x : Option Nat) (hd : 5 ≤ d) (hw : 110 ≤ w) (hS : zT S) (h : ma_wp X (d - 1) (w - 23) 92 0 [(0, .inr (.inr (some 69))), (1, .inl i), (2, .inr (.inr x))] [] S (zo (fun v2 S1 => zT S1 ∧ (Q (.inl (some (.inr (.inr v2)))) S1)) (fun x S9 => Q (.inr x) S9))) : ma_wp X d w 145 0 [(0, .inr (.inr (some 64))), (1, .inr (.inr (some 91))), (2, .inl i), (3, .inr (.inr x))] [] S Q := by
  refine zw_push hm_145 dX11_changeRoot_0 (v := .inr (.inr (some 64))) rfl ?_
  refine zw_gf hm_145 dX11_changeRoot_1 (v := .inr (.inr (some 69))) (zT_is hS s_64) (zT_t hS s_64) rfl f_11_26_11 (zT_f hS r_64_8) ?_
  refine zw_push hm_145 dX11_changeRoot_4 (v := .inl i) rfl ?_
  refine zw_push hm_145 dX11_changeRoot_5 (v := .inr (.inr x)) rfl ?_
  refine zw_cv hm_145 dX11_changeRoot_6 v_11_379_7 hm_92 [.inr (.inr x), .inl i] [] rfl (zT_rt hS s_69 rfl) ⟨by omega, by omega⟩ rfl (zw_mono h (zo_go ?_ ?_))
  · intro v2 S1 hv
    obtain ⟨hS1, h⟩ := hv
    refine zw_sto hm_145 dX11_changeRoot_9 [(4, .inr (.inr v2)), (0, .inr (.inr (some 64))), (1, .inr (.inr (some 91))), (2, .inl i), (3, .inr (.inr x))] rfl rfl rfl ?_
    refine zw_push hm_145 dX11_changeRoot_11 (v := .inr (.inr (some 91))) rfl ?_
    refine zw_push hm_145 dX11_changeRoot_12 (v := .inr (.inr v2)) rfl ?_
    refine zw_push hm_145 dX11_changeRoot_14 (v := .inr (.inr x)) rfl ?_
    refine zw_cv hm_145 dX11_changeRoot_15 v_11_153_4 hm_265 [.inr (.inr x), .inr (.inr v2)] [] rfl (zT_rt hS1 s_91 rfl) ⟨by omega, by omega⟩ rfl ?_
    show ma_wp X (d - 1) (w - 22) 265 0 [(0, .inr (.inr (some 91))), (1, .inr (.inr v2)), (2, .inr (.inr x))] [] S1 _
    refine zw_vret hm_265 dX1_noteChange_0 ?_
    show ma_wp X d w 145 18 [(4, .inr (.inr v2)), (0, .inr (.inr (some 64))), (1, .inr (.inr (some 91))), (2, .inl i), (3, .inr (.inr x))] [] S1 _
    refine zw_push hm_145 dX11_changeRoot_18 (v := .inr (.inr (some 91))) rfl ?_
    refine zw_push hm_145 dX11_changeRoot_19 (v := .inr (.inr v2)) rfl ?_
    refine zw_cv hm_145 dX11_changeRoot_21 v_11_157_4 hm_266 [.inr (.inr v2)] [] rfl (zT_rt hS1 s_91 rfl) ⟨by omega, by omega⟩ rfl ?_
    show ma_wp X (d - 1) (w - 21) 266 0 [(0, .inr (.inr (some 91))), (1, .inr (.inr v2))] [] S1 _
    refine zw_vret hm_266 dX1_noteFewer_0 ?_
    show ma_wp X d w 145 24 [(4, .inr (.inr v2)), (0, .inr (.inr (some 64))), (1, .inr (.inr (some 91))), (2, .inl i), (3, .inr (.inr x))] [] S1 _
    refine zw_push hm_145 dX11_changeRoot_24 (v := .inr (.inr v2)) rfl ?_
    exact zw_aret hm_145 dX11_changeRoot_26 h
  · intro x S9 hx
    exact ⟨by decide, hx⟩
theorem sp_145_64_91_sz {X : Nat × (Nat → Int32)} {d w : Nat} {f : Nat → Nat → Int32} {r : Nat → Nat → Option Nat} {C Z N : Nat} {Q : Option ma_V ⊕ Nat → ma_S → Prop} {ab : Nat→Nat→Int32} {R : zRT} {y : Int32} {fp91 : Nat→Int32} {fp92 : Nat→Int32} {fp93 : Nat→Int32} {S : ma_S} (i : Int32) (x : Option Nat) (hd : 5 ≤ d) (hw : 110 ≤ w) (hI : zL91 f r C Z N S) (hq_x : ∀ c, x = some c → 126 ≤ c ∧ c < N) (hpre0 : xB S R) (hpre1 : aS 75 S = ab) (hpre2 : x = zTa R y) (hpre3 : 0 ≤ i.toInt) (hpre4 : i.toInt ≤ 15) (hpre5 : (mI S 91) = fp91) (hpre6 : (mI S 92) = fp92) (hpre7 : (mI S 93) = fp93) (K : ∀ v S', zL91 f r C Z N S' → (∀ c, v = some c → 126 ≤ c ∧ c < N) → (xB S' R) → (aS 75 S' = aR0 ab i y) → ((mI S' 91) = fp91) → ((mI S' 92) = fp92) → ((mI S' 93) = fp93) → Q (.inl (some (.inr (.inr v)))) S') : ma_wp X d w 145 0 [(0, .inr (.inr (some 64))), (1, .inr (.inr (some 91))), (2, .inl i), (3, .inr (.inr x))] [] S Q := by
  refine g_145_64_91_sz_0 i x (by omega) (by omega) (zG_T hI) ?_
  have b1 := i_bd i
  refine sp_92_69_s (ab := (aS 75 S)) (R := R) (W := 75) (y := (y)) (i) (x) (by omega) (by omega) (zL91_dn hI) hq_x (show xB S R from by first | (exact (xC_o (W := 75) hpre0).2)) (show aS 75 S = (aS 75 S) from by first | (exact rfl)) (show xW 75 from by first | (exact xW88) | (exact xW75)) (show x = zTa R (y) from by first | (exact hpre2)) (by omega) (by omega) (fun v2 S1 hL_S1 hq_v2 rp0_S1 rp1_S1 rp2_S1 => zo_n ⟨zG_T hL_S1, ?_⟩)
  have hI_S1 := zL91_up hI hL_S1
  have rp0_S1 : xB S1 R := by
    have z := rp0_S1
    (try rw [show mI S 65 = f 65 from funext (fun k => zG_z hI rfl)] at z)
    (try rw [show mI S 64 1 = f 64 1 from zG_z hI rfl] at z)
    exact z
  have rp1_S1 : aS 75 S1 = ma_u (aS 75 S) 72 i.toNatClampNeg (aNm (aS 75 S) (y)) := by
    have z := rp1_S1
    (try rw [show mI S 65 = f 65 from funext (fun k => zG_z hI rfl)] at z)
    (try rw [show mI S 64 1 = f 64 1 from zG_z hI rfl] at z)
    exact z
  have rp2_S1 : v2 = zTa R ((aS 75 S) 72 i.toNatClampNeg) := by
    have z := rp2_S1
    (try rw [show mI S 65 = f 65 from funext (fun k => zG_z hI rfl)] at z)
    (try rw [show mI S 64 1 = f 64 1 from zG_z hI rfl] at z)
    exact z
  exact K (v2) _ hI_S1 hq_v2 (show xB S1 R from by first | (exact (xC_o (W := 75) rp0_S1).2)) (show aS 75 S1 = aR0 ab i y from by first | (rw [rp1_S1, hpre1]; rfl)) (show (mI S1 91) = fp91 from by first | (exact ((show mI S1 91 = mI S 91 from funext (fun _ => zG_z hL_S1 rfl)).trans hpre5))) (show (mI S1 92) = fp92 from by first | (exact ((show mI S1 92 = mI S 92 from funext (fun _ => zG_z hL_S1 rfl)).trans hpre6))) (show (mI S1 93) = fp93 from by first | (exact ((show mI S1 93 = mI S 93 from funext (fun _ => zG_z hL_S1 rfl)).trans hpre7)))
theorem g_56_91_sz_0 {X : Nat × (Nat → Int32)} {d w : Nat} {S : ma_S} {Q : Option ma_V ⊕ Nat → ma_S → Prop} (t : Nat) (hd : 1 ≤ d) (hw : 22 ≤ w) (hS : zT S) (h : (126 ≤ t ∧ t < mN S) ∧ (if (mI S 91 5) < 0 then (Q (.inl none) S) else (if (93 : Int32) ≤ (mI S 91 5) then (Q (.inl none) S) else ((0 ≤ (mI S 91 5) ∧ (mI S 91 5).toNatClampNeg < 93) ∧ ((0 ≤ (mI S 91 5) ∧ (mI S 91 5).toNatClampNeg < 93) ∧ (Q (.inl none) (ma_put S 92 (mI S 91 5).toNatClampNeg (.inl ((mI S 92 (mI S 91 5).toNatClampNeg) + (mI S t 2)))))))))) : ma_wp X d w 56 0 [(0, .inr (.inr (some 91))), (1, .inr (.inr (some t)))] [] S Q := by
  refine zw_push hm_56 dX4_noteMade_0 (v := .inr (.inr (some 91))) rfl ?_
  refine zw_push hm_56 dX4_noteMade_1 (v := .inr (.inr (some 91))) rfl ?_
  refine zw_gf hm_56 dX4_noteMade_2 (v := .inl (mI S 91 5)) (zT_is hS s_91) (zT_t hS s_91) rfl f_4_34_4 rfl ?_
  refine zw_push hm_56 dX4_noteMade_5 (v := .inr (.inr (some t))) rfl ?_
  obtain ⟨hg, h⟩ := h
  refine zw_gf hm_56 dX4_noteMade_6 (v := .inl (mI S t 2)) (zT_tis hS hg) (zT_tt hS hg) rfl f_4_63_9 rfl ?_
  refine zw_cv hm_56 dX4_noteMade_9 v_4_66_4 hm_53 [.inl (mI S t 2), .inl (mI S 91 5)] [] rfl (zT_rt hS s_91 rfl) ⟨by omega, by omega⟩ rfl ?_
  show ma_wp X (d - 1) (w - 22) 53 0 [(0, .inr (.inr (some 91))), (1, .inl (mI S 91 5)), (2, .inl (mI S t 2))] [] S _
  refine zw_push hm_53 dX4_raiseTop_0 (v := .inl (mI S 91 5)) rfl ?_
  refine zw_if0 hm_53 dX4_raiseTop_1 (t := 20) rfl zc0_lt ?_ ?_
  · intro hc
    rw [if_pos hc] at h
    refine zw_vret hm_53 dX4_raiseTop_20 ?_
    show ma_wp X d w 56 12 [(0, .inr (.inr (some 91))), (1, .inr (.inr (some t)))] [] S _
    exact zw_vret hm_56 dX4_noteMade_12 h
  · intro hc
    rw [if_neg hc] at h
    refine zw_push hm_53 dX4_raiseTop_4 (v := .inl (mI S 91 5)) rfl ?_
    refine zw_push hm_53 dX4_raiseTop_5 (v := .inl (93 : Int32)) rfl ?_
    refine zw_if2 hm_53 dX4_raiseTop_7 (t := 20) rfl zc2_ge ?_ ?_
    · intro hc
      rw [if_pos hc] at h
      refine zw_vret hm_53 dX4_raiseTop_20 ?_
      show ma_wp X d w 56 12 [(0, .inr (.inr (some 91))), (1, .inr (.inr (some t)))] [] S _
      exact zw_vret hm_56 dX4_noteMade_12 h
    · intro hc
      rw [if_neg hc] at h
      refine zw_push hm_53 dX4_raiseTop_10 (v := .inr (.inr (some 91))) rfl ?_
      refine zw_gf hm_53 dX4_raiseTop_11 (v := .inr (.inr (some 92))) (zT_is hS s_91) (zT_t hS s_91) rfl f_4_9_4 (zT_f hS r_91_7) ?_
      refine zw_push hm_53 dX4_raiseTop_14 (v := .inl (mI S 91 5)) rfl ?_
      refine zw_stk hm_53 dX4_raiseTop_15 (st' := [.inl (mI S 91 5), .inr (.inr (some 92)), .inl (mI S 91 5), .inr (.inr (some 92))]) rfl rfl ?_
      obtain ⟨hg, h⟩ := h
      refine zw_ia hm_53 dX4_raiseTop_16 (zT_is hS s_92) (zT_h hS s_92) rfl hg ?_
      show ma_wp X (d - 1) (w - 22) 53 17 [(0, .inr (.inr (some 91))), (1, .inl (mI S 91 5)), (2, .inl (mI S t 2))] [.inl (mI S 92 (mI S 91 5).toNatClampNeg), .inl (mI S 91 5), .inr (.inr (some 92))] S _
      refine zw_push hm_53 dX4_raiseTop_17 (v := .inl (mI S t 2)) rfl ?_
      refine zw_stk hm_53 dX4_raiseTop_18 (st' := [.inl ((mI S 92 (mI S 91 5).toNatClampNeg) + (mI S t 2)), .inl (mI S 91 5), .inr (.inr (some 92))]) rfl rfl ?_
      obtain ⟨hg, h⟩ := h
      refine zw_ias hm_53 dX4_raiseTop_19 (zT_is hS s_92) (zT_h hS s_92) rfl hg ?_
      refine zw_vret hm_53 dX4_raiseTop_20 ?_
      show ma_wp X d w 56 12 [(0, .inr (.inr (some 91))), (1, .inr (.inr (some t)))] [] (ma_put S 92 (mI S 91 5).toNatClampNeg (.inl ((mI S 92 (mI S 91 5).toNatClampNeg) + (mI S t 2)))) _
      exact zw_vret hm_56 dX4_noteMade_12 h
theorem sp_56_91_sz {X : Nat × (Nat → Int32)} {d w : Nat} {f : Nat → Nat → Int32} {r : Nat → Nat → Option Nat} {C Z N : Nat} {Q : Option ma_V ⊕ Nat → ma_S → Prop} {ab : Nat→Nat→Int32} {R : zRT} {y : Int32} {S : ma_S} (t : Nat) (hd : 1 ≤ d) (hw : 22 ≤ w) (hI : zL91 f r C Z N S) (th_t : 126 ≤ t ∧ t < N) (hpre0 : xB S R) (hpre1 : aZ S = ab) (hpre2 : zTa R y = some t) (hpre3 : (mI S 92 (mI S 91 5).toNatClampNeg).toInt ≤ 1500) (K : ∀ S', zL91 f r C Z N S' → (xB S' R) → (aZ S' = rMd ab y) → Q (.inl none) S') : ma_wp X d w 56 0 [(0, .inr (.inr (some 91))), (1, .inr (.inr (some t)))] [] S Q := by
  refine g_56_91_sz_0 t (by omega) (by omega) (zG_T hI) ?_
  refine ⟨zG_n hI th_t, ?_⟩
  have f1 := zG_s hI (0) (92) (c := 91) (k := 5) (by decide)
  have li2 : (0 : Int32).toInt = 0 := rfl
  refine zd (fun h3 => ?_) (fun h3 => ?_)
  · skip
    have g4 := i_lt h3
    exact K _ hI (show xB S R from by first | (exact (xC_o (W := 75) hpre0).2)) (show aZ S = rMd ab y from by first | (exact Md_no hpre1 (by omega)))
  · skip
    have g5 := i_nlt h3
    have li6 : (93 : Int32).toInt = 93 := rfl
    refine zd (fun h7 => ?_) (fun h7 => ?_)
    · skip
      have g8 := i_le h7
      exact K _ hI (show xB S R from by first | (exact (xC_o (W := 75) hpre0).2)) (show aZ S = rMd ab y from by first | (exact Md_no hpre1 (by omega)))
    · skip
      have g9 := i_nle h7
      refine ⟨i_ix (by omega) (by omega), ?_⟩
      refine ⟨i_ix (by omega) (by omega), ?_⟩
      first | have f11 := zG_a hI 93 (0) (3000) (c := 92) (k := (mI S 91 5).toNatClampNeg) (by decide) (i_ix (n := 93) (by omega) (by omega)).2 | have b12 := i_bd (mI S 92 (mI S 91 5).toNatClampNeg)
      have f13 := zG_th hI th_t
      first | have e14 : ((mI S 92 (mI S 91 5).toNatClampNeg) + (mI S t 2)).toInt = (mI S 92 (mI S 91 5).toNatClampNeg).toInt + (mI S t 2).toInt := i_add (by omega) (by omega) | have b15 := i_bd ((mI S 92 (mI S 91 5).toNatClampNeg) + (mI S t 2))
      have hI10 : zL91 f r C Z N (ma_put S 92 (mI S 91 5).toNatClampNeg (.inl ((mI S 92 (mI S 91 5).toNatClampNeg) + (mI S t 2)))) := zG_sa hI (0) (3000) rfl (by decide) (by decide) (by decide) trivial (by omega) (by omega)
      exact K _ hI10 (show xB (ma_put S 92 (mI S 91 5).toNatClampNeg (.inl ((mI S 92 (mI S 91 5).toNatClampNeg) + (mI S t 2)))) R from by first | (exact (xC_n (c := 92) (k := (mI S 91 5).toNatClampNeg) (x := ((mI S 92 (mI S 91 5).toNatClampNeg) + (mI S t 2))) (xC_o (W := 75) hpre0) ⟨by decide, Or.inl ⟨rfl, rfl⟩⟩).2)) (show aZ (ma_put S 92 (mI S 91 5).toNatClampNeg (.inl ((mI S 92 (mI S 91 5).toNatClampNeg) + (mI S t 2)))) = rMd ab y from by first | (have ty := xB_th (W := 75) hpre0 hpre2; have f2 : mI S t 2 = ab 128 y.toNatClampNeg := (by rw [← hpre1, aZ_o (by decide) (by decide) (by decide)]; exact ty.2.2.2.2.1); rw [((Z_p9 (c := 92) (n := (mI S 91 5).toNatClampNeg) (x := ((mI S 92 (mI S 91 5).toNatClampNeg) + (mI S t 2))) (xC_o (W := 75) hpre0).2 (by decide)).trans (congrArg (fun q => ma_u q 92 (mI S 91 5).toNatClampNeg ((mI S 92 (mI S 91 5).toNatClampNeg) + (mI S t 2))) (show aZ S = aZ S from rfl)))]; exact Md_y9 hpre1 f2 (by omega) (by omega)))
theorem g_143_64_sz_64 {X : Nat × (Nat → Int32)} {d w : Nat} {S : ma_S} {Q : Option ma_V ⊕ Nat → ma_S → Prop} (l5 : Int32) (l8 : Nat) (hd : 7 ≤ d) (hw : 182 ≤ w) (hS : zT S) (h : ma_wp X (d - 1) (w - 23) 91 0 [(0, .inr (.inr (some 69))), (1, .inr (.inr (some l8)))] [] S (zv (fun S1 => zT S1 ∧ (ma_wp X (d - 1) (w - 21) 56 0 [(0, .inr (.inr (some 91))), (1, .inr (.inr (some l8)))] [] S1 (zv (fun S3 => zT S3 ∧ (ma_wp X (d - 1) (w - 24) 145 0 [(0, .inr (.inr (some 64))), (1, .inr (.inr (some 91))), (2, .inl l5), (3, .inr (.inr (some l8)))] [] S3 (zo (fun v6 S5 => zT S5 ∧ ((126 ≤ l8 ∧ l8 < mN S5) ∧ (Q (.inl (some (.inl (mI S5 l8 0)))) S5))) (fun x S9 => Q (.inr x) S9)))) (fun _ _ => False)))) (fun x S9 => Q (.inr x) S9))) : ma_wp X d w 143 64 [(0, .inr (.inr (some 64))), (5, .inl l5), (6, .inr (.inr (some 91))), (8, .inr (.inr (some l8)))] [] S Q := by
  refine zw_push hm_143 dX11_addObject_64 (v := .inr (.inr (some 64))) rfl ?_
  refine zw_gf hm_143 dX11_addObject_65 (v := .inr (.inr (some 69))) (zT_is hS s_64) (zT_t hS s_64) rfl f_11_26_11 (zT_f hS r_64_8) ?_
  refine zw_push hm_143 dX11_addObject_68 (v := .inr (.inr (some l8))) rfl ?_
  refine zw_cv hm_143 dX11_addObject_70 v_11_373_7 hm_91 [.inr (.inr (some l8))] [] rfl (zT_rt hS s_69 rfl) ⟨by omega, by omega⟩ rfl (zw_mono h (zv_go ?_ ?_))
  · intro S1 hv
    obtain ⟨hS1, h⟩ := hv
    refine zw_push hm_143 dX11_addObject_73 (v := .inr (.inr (some 91))) rfl ?_
    refine zw_push hm_143 dX11_addObject_75 (v := .inr (.inr (some l8))) rfl ?_
    refine zw_cv hm_143 dX11_addObject_77 v_11_376_4 hm_56 [.inr (.inr (some l8))] [] rfl (zT_rt hS1 s_91 rfl) ⟨by omega, by omega⟩ rfl (zw_mono h (zv_go ?_ ?_))
    · intro S3 hv
      obtain ⟨hS3, h⟩ := hv
      refine zw_push hm_143 dX11_addObject_80 (v := .inr (.inr (some 64))) rfl ?_
      refine zw_push hm_143 dX11_addObject_81 (v := .inr (.inr (some 91))) rfl ?_
      refine zw_push hm_143 dX11_addObject_83 (v := .inl l5) rfl ?_
      refine zw_push hm_143 dX11_addObject_85 (v := .inr (.inr (some l8))) rfl ?_
      refine zw_cv hm_143 dX11_addObject_87 v_11_169_11 hm_145 [.inr (.inr (some l8)), .inl l5, .inr (.inr (some 91))] [] rfl (zT_rt hS3 s_64 rfl) ⟨by omega, by omega⟩ rfl (zw_mono h (zo_go ?_ ?_))
      · intro v6 S5 hv
        obtain ⟨hS5, h⟩ := hv
        refine zw_stk hm_143 dX11_addObject_90 (st' := []) rfl rfl ?_
        refine zw_push hm_143 dX11_addObject_91 (v := .inr (.inr (some l8))) rfl ?_
        obtain ⟨hg, h⟩ := h
        refine zw_gf hm_143 dX11_addObject_93 (v := .inl (mI S5 l8 0)) (zT_tis hS5 hg) (zT_tt hS5 hg) rfl f_11_182_9 rfl ?_
        exact zw_iret hm_143 dX11_addObject_96 h
      · intro x S9 hx
        exact ⟨by decide, hx⟩
    · intro x S9 hx
      exact hx.elim
  · intro x S9 hx
    exact ⟨by decide, hx⟩
theorem sg_143_64_sz_64 {X : Nat × (Nat → Int32)} {d w : Nat} {f : Nat → Nat → Int32} {r : Nat → Nat → Option Nat} {C Z N : Nat} {Q : Option ma_V ⊕ Nat → ma_S → Prop} {ab : Nat→Nat→Int32} {R : zRT} {y : Int32} {I0 : Nat→Int32} {L0 : Int64} {S : ma_S} (l5 : Int32) (l8 : Nat) (hd : 7 ≤ d) (hw : 182 ≤ w) (hI : zB f r C Z N S) (th_l8 : 126 ≤ l8 ∧ l8 < N) (hpre0 : (mI S 69 6).toInt ≤ 511) (hpre1 : xB S R) (hpre2 : aZ S = ab) (hpre3 : mI S l8 = I0) (hpre4 : mL S l8 3 = L0) (hpre5 : I0 0 = y) (hpre6 : (0 ≤ (I0 0).toInt ∧ (I0 0).toInt ≤ 511) ∧ (1 ≤ (I0 2).toInt ∧ (I0 2).toInt ≤ 61) ∧ 0 ≤ (I0 4).toInt ∧ (I0 4).toInt + (I0 2).toInt ≤ 4500) (hpre7 : 0 ≤ y.toInt ∧ y.toInt < 512) (hpre8 : 0 ≤ l5.toInt) (hpre9 : l5.toInt ≤ 15) (hpre10 : (mI S 92 (mI S 91 5).toNatClampNeg).toInt ≤ 1500) (K : ∀ v S', zB f r C Z N S' → (True) → (xB S' (mR S' 70)) → (aZ S' = aR0 (rMd (aAd ab y I0 L0) y) l5 y ∧ v = y) → Q (.inl (some (.inl v))) S') : ma_wp X d w 143 64 [(0, .inr (.inr (some 64))), (5, .inl l5), (6, .inr (.inr (some 91))), (8, .inr (.inr (some l8)))] [] S Q := by
  refine g_143_64_sz_64 l5 l8 (by omega) (by omega) (zG_T hI) ?_
  have f1 := zG_s hI (0) (512) (c := 69) (k := 6) (by decide)
  have f2 := zG_s hI (0) (92) (c := 91) (k := 5) (by decide)
  first | have f3 := zG_a hI 93 (0) (3000) (c := 92) (k := (mI S 91 5).toNatClampNeg) (by decide) (i_ix (n := 93) (by omega) (by omega)).2 | have b4 := i_bd (mI S 92 (mI S 91 5).toNatClampNeg)
  refine sp_91_69_s (ab := (aS 75 S)) (R := R) (W := 75) (y := y) (I0 := I0) (L0 := L0) (u := l8) l8 (by omega) (by omega) (zB_dn_zS hI) th_l8 (show (mI S 69 6).toInt ≤ 511 from by omega) (show xB S R from by first | (exact (xC_o (W := 75) hpre1).2)) (show aS 75 S = (aS 75 S) from by first | (exact rfl)) (show xW 75 from by first | (exact xW88) | (exact xW75)) (show mI S l8 = I0 from by first | (exact rfl) | (exact hpre3)) (show mL S l8 3 = L0 from by first | (exact rfl) | (exact hpre4)) (show I0 0 = y from by first | (exact rfl) | (exact hpre5)) (show (0 ≤ (I0 0).toInt ∧ (I0 0).toInt ≤ 511) ∧ (1 ≤ (I0 2).toInt ∧ (I0 2).toInt ≤ 61) ∧ 0 ≤ (I0 4).toInt ∧ (I0 4).toInt + (I0 2).toInt ≤ 4500 from by first | (exact hpre6) | (omega)) (show l8 = l8 from by first | (exact rfl)) (fun S1 hL_S1 rp0_S1 rp1_S1 => zv_n ⟨zG_T hL_S1, ?_⟩)
  have hI_S1 := zB_up_zS hI hL_S1
  have rp0_S1 : xB S1 (zRu R y.toNatClampNeg (some l8)) := by
    have z := rp0_S1
    (try rw [show mI S 65 = f 65 from funext (fun k => zG_z hI rfl)] at z)
    (try rw [show mI S 64 1 = f 64 1 from zG_z hI rfl] at z)
    exact z
  have rp1_S1 : aS 75 S1 = aAd (aS 75 S) y I0 L0 := by
    have z := rp1_S1
    (try rw [show mI S 65 = f 65 from funext (fun k => zG_z hI rfl)] at z)
    (try rw [show mI S 64 1 = f 64 1 from zG_z hI rfl] at z)
    exact z
  have q5 : (mI S1 91 5).toInt = (mI S 91 5).toInt := zG_zi (f := mI S) hL_S1 rfl
  have f6 := zG_s hI_S1 (0) (92) (c := 91) (k := 5) (by decide)
  first | have f7 := zG_a hI 93 (0) (3000) (c := 92) (k := (mI S1 91 5).toNatClampNeg) (by decide) (i_ix (n := 93) (by omega) (by omega)).2 | have b8 := i_bd (mI S 92 (mI S1 91 5).toNatClampNeg)
  have q9 : (mI S1 92 (mI S1 91 5).toNatClampNeg).toInt = (mI S 92 (mI S1 91 5).toNatClampNeg).toInt := zG_zi (f := mI S) hL_S1 rfl
  first | have f10 := zG_a hI_S1 93 (0) (3000) (c := 92) (k := (mI S1 91 5).toNatClampNeg) (by decide) (i_ix (n := 93) (by omega) (by omega)).2 | have b11 := i_bd (mI S1 92 (mI S1 91 5).toNatClampNeg)
  refine sp_56_91_sz (ab := (aZ S1)) (R := (zRu R y.toNatClampNeg (some l8))) (y := (y)) l8 (by omega) (by omega) (zB_dn_zL91 hI_S1) th_l8 (show xB S1 (zRu R y.toNatClampNeg (some l8)) from by first | (exact (xC_o (W := 75) rp0_S1).2)) (show aZ S1 = (aZ S1) from by first | (exact rfl)) (show zTa (zRu R y.toNatClampNeg (some l8)) (y) = some l8 from by first | (exact (zTa_u (R := R) (c := l8) hpre7.1 hpre7.2))) (show (mI S1 92 (mI S1 91 5).toNatClampNeg).toInt ≤ 1500 from by first | omega | (rw [zG_z hL_S1 (c := 91) (k := 5) rfl, zG_z hL_S1 (c := 92) rfl]; omega)) (fun S3 hL_S3 rp0_S3 rp1_S3 => zv_n ⟨zG_T hL_S3, ?_⟩)
  have hI_S3 := zB_up_zL91 hI_S1 hL_S3
  have rp0_S3 : xB S3 (zRu R y.toNatClampNeg (some l8)) := by
    have z := rp0_S3
    (try rw [show mI S1 65 = f 65 from funext (fun k => zG_z hI_S1 rfl)] at z)
    (try rw [show mI S1 64 1 = f 64 1 from zG_z hI_S1 rfl] at z)
    exact z
  have rp1_S3 : aZ S3 = rMd (aZ S1) (y) := by
    have z := rp1_S3
    (try rw [show mI S1 65 = f 65 from funext (fun k => zG_z hI_S1 rfl)] at z)
    (try rw [show mI S1 64 1 = f 64 1 from zG_z hI_S1 rfl] at z)
    exact z
  have b12 := i_bd l5
  refine sp_145_64_91_sz (ab := (aS 75 S3)) (R := (zRu R y.toNatClampNeg (some l8))) (y := (y)) (fp91 := (mI S3 91)) (fp92 := (mI S3 92)) (fp93 := (mI S3 93)) (l5) ((some l8)) (by omega) (by omega) (zB_dn_zL91 hI_S3) (fun _ z => by cases z; exact th_l8) (show xB S3 (zRu R y.toNatClampNeg (some l8)) from by first | (exact (xC_o (W := 75) rp0_S3).2)) (show aS 75 S3 = (aS 75 S3) from by first | (exact rfl)) (show (some l8) = zTa (zRu R y.toNatClampNeg (some l8)) (y) from by first | (exact (zTa_u (R := R) (c := l8) hpre7.1 hpre7.2).symm)) (by omega) (by omega) (show (mI S3 91) = (mI S3 91) from by first | (exact rfl)) (show (mI S3 92) = (mI S3 92) from by first | (exact rfl)) (show (mI S3 93) = (mI S3 93) from by first | (exact rfl)) (fun v6 S5 hL_S5 hq_v6 rp0_S5 rp1_S5 rp2_S5 rp3_S5 rp4_S5 => zo_n ⟨zG_T hL_S5, ?_⟩)
  have hI_S5 := zB_up_zL91 hI_S3 hL_S5
  have rp0_S5 : xB S5 (zRu R y.toNatClampNeg (some l8)) := by
    have z := rp0_S5
    (try rw [show mI S3 65 = f 65 from funext (fun k => zG_z hI_S3 rfl)] at z)
    (try rw [show mI S3 64 1 = f 64 1 from zG_z hI_S3 rfl] at z)
    exact z
  have rp1_S5 : aS 75 S5 = aR0 (aS 75 S3) l5 (y) := by
    have z := rp1_S5
    (try rw [show mI S3 65 = f 65 from funext (fun k => zG_z hI_S3 rfl)] at z)
    (try rw [show mI S3 64 1 = f 64 1 from zG_z hI_S3 rfl] at z)
    exact z
  have rp2_S5 : (mI S5 91) = (mI S3 91) := by
    have z := rp2_S5
    (try rw [show mI S3 65 = f 65 from funext (fun k => zG_z hI_S3 rfl)] at z)
    (try rw [show mI S3 64 1 = f 64 1 from zG_z hI_S3 rfl] at z)
    exact z
  have rp3_S5 : (mI S5 92) = (mI S3 92) := by
    have z := rp3_S5
    (try rw [show mI S3 65 = f 65 from funext (fun k => zG_z hI_S3 rfl)] at z)
    (try rw [show mI S3 64 1 = f 64 1 from zG_z hI_S3 rfl] at z)
    exact z
  have rp4_S5 : (mI S5 93) = (mI S3 93) := by
    have z := rp4_S5
    (try rw [show mI S3 65 = f 65 from funext (fun k => zG_z hI_S3 rfl)] at z)
    (try rw [show mI S3 64 1 = f 64 1 from zG_z hI_S3 rfl] at z)
    exact z
  refine ⟨zG_n hI_S5 th_l8, ?_⟩
  have f13 := zG_th hI_S5 th_l8
  exact K ((mI S5 l8 0)) _ hI_S5 trivial (show xB S5 (mR S5 70) from by first | (exact xB_x (xC_o (W := 75) rp0_S5).2)) (show aZ S5 = aR0 (rMd (aAd ab y I0 L0) y) l5 y ∧ (mI S5 l8 0) = y from by first | (have ty := xB_th (W := 75) rp0_S5 (zTa_u (R := R) (c := l8) hpre7.1 hpre7.2); have s1 := Z_ad rp1_S1 (show mI S1 91 = mI S 91 from funext (fun _ => zG_z hL_S1 rfl)) (show mI S1 92 = mI S 92 from funext (fun _ => zG_z hL_S1 rfl)) (show mI S1 93 = mI S 93 from funext (fun _ => zG_z hL_S1 rfl)); rw [hpre2] at s1; have s2 := rp1_S3; have s3 := Z_r0 rp1_S5 rp2_S5 rp3_S5 rp4_S5; rw [s2, s1] at s3; exact ⟨s3, ty.2.2.1⟩))
