/-! THE FIRST CALL, on: those whose tests read the state, or that write -/
theorem lg_self (x : Int64) : lg_cmp x x = 0 := by
  unfold lg_cmp
  simp
theorem i_le1 {x : Int32} (h : x = 0) : x ≤ 1 := by rw [h]; decide
theorem i_le11 {x : Int32} (h : x = 1) : x ≤ 1 := by rw [h]; decide
theorem i_gt1 {x : Int32} (h1 : ¬ x < 0) (h3 : ¬ x = 0) (h4 : ¬ x = 1) : ¬ x ≤ 1 := by
  intro h5
  have e1 := Int32.le_iff_toInt_le.mp h5
  have e2 := Int32.le_iff_toInt_le.mp (Int32.not_lt.mp h1)
  have e0 : (0 : Int32).toInt = 0 := rfl
  have e9 : (1 : Int32).toInt = 1 := rfl
  rw [e0] at e2
  rw [e9] at e1
  have e3 : ¬ x.toInt = 0 := fun z => h3 (Int32.toInt_inj.mp (Eq.trans z e0.symm))
  have e4 : ¬ x.toInt = 1 := fun z => h4 (Int32.toInt_inj.mp (Eq.trans z e9.symm))
  omega
section P1B
variable {ys : Nat → Int32} {Q : Option ma_V → ma_S → Prop} {S : ma_S}
theorem p1_1 (F : zP S) (K : ∀ S', zO S' → mC S' ≤ mC S + 1 → mZ S' ≤ mZ S + 6 → ma_fp (6, ys) 0 13 494 1461 zL [] S' Q) : ma_fp (6, ys) 0 13 494 240 zL [] S Q := by
  obtain ⟨hS, f1, f7, f11, m3, m7, m8, m10⟩ := F
  refine gf_0_240 0 (by decide) (by decide) hS ?_
  refine ⟨gg_1, ?_⟩
  refine gf_2_0 _ (by decide) (by decide) hS ?_
  refine g_139_0 _ (by decide) (by decide) hS ?_
  refine zd (fun h1 => ?_) (fun h1 => zd (fun h2 => ?_) (fun h2 => ?_))
  · refine zi_x ⟨1, hd_2_2, zfi_n ⟨hS, ?_⟩⟩
    refine ⟨gg_1, ?_⟩
    refine g_169_0 _ (by decide) (by decide) hS ?_
    refine zt h1 ?_
    exact zi_n ⟨hS, zt rfl (zf (by decide) (K _ hS (Nat.le_refl _) (Nat.le_refl _)))⟩
  · rw [f1.trans m3.symm] at h2
    refine zi_n ⟨hS, zfi_n ⟨hS, ?_⟩⟩
    refine ⟨gg_1, ?_⟩
    refine g_169_0 _ (by decide) (by decide) hS ?_
    refine zf h1 (zt h2 ?_)
    exact zi_n ⟨hS, zt rfl (zt rfl (zt (lg_self _) (K _ hS (Nat.le_succ _) (Nat.le_add_right _ _))))⟩
  · rw [f1.trans m3.symm] at h2
    refine zi_x ⟨1, hd_2_2, zfi_n ⟨hS, ?_⟩⟩
    refine ⟨gg_1, ?_⟩
    refine g_169_0 _ (by decide) (by decide) hS ?_
    refine zf h1 (zf h2 ?_)
    exact zi_n ⟨hS, zt rfl (zf (by decide) (K _ hS (Nat.le_refl _) (Nat.le_refl _)))⟩
theorem p1_2 (F : zP S) (K : ∀ S', zO S' → mC S' ≤ mC S + 1 → mZ S' ≤ mZ S + 6 → ma_fp (6, ys) 0 13 494 1461 zL [] S' Q) : ma_fp (6, ys) 0 13 494 296 zL [] S Q := by
  obtain ⟨hS, f1, f7, f11, m3, m7, m8, m10⟩ := F
  refine gf_0_296 0 (by decide) (by decide) hS ?_
  refine ⟨gg_1, gg_2, ?_⟩
  refine gf_3_0 _ _ (by decide) (by decide) hS ?_
  refine g_140_0 _ _ (by decide) (by decide) hS ?_
  refine zd (fun h1 => ?_) (fun h1 => zd (fun h2 => ?_) (fun h2 => zd (fun h3 => ?_) (fun h3 => zd (fun h4 => ?_) (fun h4 => ?_))))
  · refine zi_x ⟨1, hd_3_2, zfi_n ⟨hS, ?_⟩⟩
    refine ⟨gg_1, gg_2, ?_⟩
    refine g_170_0 _ _ (by decide) (by decide) hS ?_
    refine zt h1 ?_
    exact zi_n ⟨hS, zt rfl (zf (by decide) (K _ hS (Nat.le_refl _) (Nat.le_refl _)))⟩
  · refine zi_x ⟨1, hd_3_2, zfi_n ⟨hS, ?_⟩⟩
    refine ⟨gg_1, gg_2, ?_⟩
    refine g_170_0 _ _ (by decide) (by decide) hS ?_
    refine zf h1 (zf (Int32.not_le.mpr h2) ?_)
    exact zi_n ⟨hS, zt rfl (zf (by decide) (K _ hS (Nat.le_refl _) (Nat.le_refl _)))⟩
  · refine zi_x ⟨1, hd_3_2, zfi_n ⟨hS, ?_⟩⟩
    refine ⟨gg_1, gg_2, ?_⟩
    refine g_170_0 _ _ (by decide) (by decide) hS ?_
    refine zf h1 (zt (Int32.not_lt.mp h2) (zt h3 ?_))
    exact zi_n ⟨hS, zt rfl (zf (by decide) (K _ hS (Nat.le_refl _) (Nat.le_refl _)))⟩
  · have g1 : mI S 64 7 < 16 := by rw [f7]; decide
    have g2 : 0 ≤ mI S 64 7 ∧ (mI S 64 7).toNatClampNeg < 16 := by rw [f7]; decide
    have g3 : ¬ mI S 94 7 = 16 := by rw [m7]; decide
    have g4 : 0 ≤ mI S 94 7 ∧ (mI S 94 7).toNatClampNeg < 16 := by rw [m7]; decide
    refine zt g1 ⟨g2, g2, ?_⟩
    refine zi_n ⟨hS, zfi_n ⟨hS, ?_⟩⟩
    refine ⟨gg_1, gg_2, ?_⟩
    refine g_170_0 _ _ (by decide) (by decide) hS ?_
    refine zf h1 (zt (Int32.not_lt.mp h2) (zf h3 (zt h4 (zf g3 ⟨g4, g4, ?_⟩))))
    refine zi_n ⟨hS, zt rfl (zt rfl (zt ?_ (K _ hS (Nat.le_succ _) (Nat.le_add_right _ _))))⟩
    show lg_cmp ((mI S 64 7 + 1 - 1).toInt64) ((mI S 94 7 + 1 - 1).toInt64) = 0
    rw [f7, m7]
    exact lg_self _
  · refine zi_x ⟨1, hd_3_2, zfi_n ⟨hS, ?_⟩⟩
    refine ⟨gg_1, gg_2, ?_⟩
    refine g_170_0 _ _ (by decide) (by decide) hS ?_
    refine zf h1 (zt (Int32.not_lt.mp h2) (zf h3 (zf h4 ?_)))
    exact zi_n ⟨hS, zt rfl (zf (by decide) (K _ hS (Nat.le_refl _) (Nat.le_refl _)))⟩
theorem p1_4 (F : zP S) (K : ∀ S', zO S' → mC S' ≤ mC S + 1 → mZ S' ≤ mZ S + 6 → ma_fp (6, ys) 0 13 494 1461 zL [] S' Q) : ma_fp (6, ys) 0 13 494 377 zL [] S Q := by
  obtain ⟨hS, f1, f7, f11, m3, m7, m8, m10⟩ := F
  refine gf_0_377 0 (by decide) (by decide) hS ?_
  refine ⟨gg_1, gg_2, ?_⟩
  refine gf_4_0 _ _ (by decide) (by decide) hS ?_
  refine g_141_0 _ _ (by decide) (by decide) hS ?_
  refine zd (fun h1 => ?_) (fun h1 => zd (fun h2 => ?_) (fun h2 => ?_))
  · refine zi_x ⟨1, hd_4_2, zfi_n ⟨hS, ?_⟩⟩
    refine ⟨gg_1, gg_2, ?_⟩
    refine g_181_0 _ _ (by decide) (by decide) hS ?_
    refine zt h1 ?_
    exact zi_n ⟨hS, zt rfl (zf (by decide) (K _ hS (Nat.le_refl _) (Nat.le_refl _)))⟩
  · rw [f7.trans m7.symm] at h2
    refine zi_x ⟨1, hd_4_2, zfi_n ⟨hS, ?_⟩⟩
    refine ⟨gg_1, gg_2, ?_⟩
    refine g_181_0 _ _ (by decide) (by decide) hS ?_
    refine zf h1 (zt h2 ?_)
    exact zi_n ⟨hS, zt rfl (zf (by decide) (K _ hS (Nat.le_refl _) (Nat.le_refl _)))⟩
  · rw [f7] at h2
    exact absurd (Int32.not_lt.mp h1) h2
theorem p1_19 (F : zP S) (K : ∀ S', zO S' → mC S' ≤ mC S + 1 → mZ S' ≤ mZ S + 6 → ma_fp (6, ys) 0 13 494 1461 zL [] S' Q) : ma_fp (6, ys) 0 13 494 1405 zL [] S Q := by
  obtain ⟨hS, f1, f7, f11, m3, m7, m8, m10⟩ := F
  refine gf_0_1405 0 (by decide) (by decide) hS ?_
  refine ⟨gg_1, ?_⟩
  refine gf_19_0 _ (by decide) (by decide) hS ?_
  refine g_163_0 _ (by decide) (by decide) hS ?_
  refine zd (fun h1 => ?_) (fun h1 => zd (fun h2 => zd (fun h3 => ?_) (fun h3 => zd (fun h4 => ?_) (fun h4 => ?_))) (fun h2 => ?_))
  · refine zi_x ⟨1, hd_19_2, zfi_n ⟨hS, ?_⟩⟩
    refine ⟨gg_1, ?_⟩
    refine g_260_0 _ (by decide) (by decide) hS ?_
    refine zt h1 ?_
    exact zi_n ⟨hS, zt rfl (zf (by decide) (K _ hS (Nat.le_refl _) (Nat.le_refl _)))⟩
  · refine zi_n ⟨hS, zfi_n ⟨hS, ?_⟩⟩
    refine ⟨gg_1, ?_⟩
    refine g_260_0 _ (by decide) (by decide) hS ?_
    refine zf h1 (zt h2 (zt (i_le1 h3) (zt h3 ?_)))
    refine zi_n ⟨hS, zt rfl (zt rfl (zt ?_ (K _ hS (Nat.le_succ _) (Nat.le_add_right _ _))))⟩
    show lg_cmp ((mI S 64 1).toInt64) ((mI S 94 3).toInt64) = 0
    rw [f1, m3]
    exact lg_self _
  · refine zi_n ⟨hS, zfi_n ⟨hS, ?_⟩⟩
    refine ⟨gg_1, ?_⟩
    refine g_260_0 _ (by decide) (by decide) hS ?_
    refine zf h1 (zt h2 (zt (i_le11 h4) (zf h3 (zt h4 ?_))))
    refine zi_n ⟨hS, zt rfl (zt rfl (zt ?_ (K _ hS (Nat.le_succ _) (Nat.le_add_right _ _))))⟩
    show lg_cmp ((mI S 64 7).toInt64) ((mI S 94 7).toInt64) = 0
    rw [f7, m7]
    exact lg_self _
  · refine ⟨fun _ => ?_, fun c hc => absurd (f11.symm.trans hc) (by intro z; cases z)⟩
    refine zi_x ⟨2, hd_19_3, zfi_n ⟨hS, ?_⟩⟩
    refine ⟨gg_1, ?_⟩
    refine g_260_0 _ (by decide) (by decide) hS ?_
    refine zf h1 (zt h2 (zf ?_ (zt m8 ?_)))
    · exact i_gt1 h1 h3 h4
    · exact zi_n ⟨hS, zt rfl (zf (by decide) (K _ hS (Nat.le_refl _) (Nat.le_refl _)))⟩
  · refine zi_x ⟨1, hd_19_2, zfi_n ⟨hS, ?_⟩⟩
    refine ⟨gg_1, ?_⟩
    refine g_260_0 _ (by decide) (by decide) hS ?_
    refine zf h1 (zf h2 ?_)
    exact zi_n ⟨hS, zt rfl (zf (by decide) (K _ hS (Nat.le_refl _) (Nat.le_refl _)))⟩
end P1B
/-- what a run that writes ints alone leaves: all but the ints, and the ints of other cells -/
def zq (S S' : ma_S) (c1 c2 : Nat) : Prop := zO S' ∧ mC S' = mC S ∧ mZ S' = mZ S ∧ mN S' = mN S ∧ mH S' = mH S ∧ mL S' = mL S ∧ mR S' = mR S ∧ ∀ c k, c ≠ c1 → c ≠ c2 → mI S' c k = mI S c k
theorem zq_refl {S : ma_S} {c1 c2 : Nat} (h : zO S) : zq S S c1 c2 := ⟨h, rfl, rfl, rfl, rfl, rfl, rfl, fun _ _ _ _ => rfl⟩
theorem zq_put {S S' : ma_S} {c1 c2 k1 k2 : Nat} {x y : Int32} (h : zq S S' c1 c2) : zq S (ma_put (ma_put S' c1 k1 (.inl x)) c2 k2 (.inl y)) c1 c2 := by
  obtain ⟨a1, a2, a3, a4, a5, a6, a7, a8⟩ := h
  refine ⟨a1, a2, a3, a4, a5, a6, a7, fun c k n1 n2 => ?_⟩
  show ma_u (ma_u (mI S') c1 k1 x) c2 k2 y c k = _
  unfold ma_u
  rw [if_neg (fun z => n2 z.1), if_neg (fun z => n1 z.1)]
  exact a8 c k n1 n2
theorem zq_tr {S S' S'' : ma_S} {c1 c2 : Nat} (h : zq S S' c1 c2) (g : zq S' S'' c1 c2) : zq S S'' c1 c2 := by
  obtain ⟨a1, a2, a3, a4, a5, a6, a7, a8⟩ := h
  obtain ⟨b1, b2, b3, b4, b5, b6, b7, b8⟩ := g
  exact ⟨b1, b2.trans a2, b3.trans a3, b4.trans a4, b5.trans a5, b6.trans a6, b7.trans a7, fun c k n1 n2 => (b8 c k n1 n2).trans (a8 c k n1 n2)⟩
def zb (t : Int32) : Prop := ¬ 100 ≤ t ∧ 0 ≤ t ∧ t.toNatClampNeg < 100
section P1F
variable {X : Nat × (Nat → Int32)} {d w : Nat} {S : ma_S} {Q : Option ma_V ⊕ Nat → ma_S → Prop} {t a : Int32}
theorem sp_ab (hd : 0 ≤ d) (hw : 0 ≤ w) (hS : zO S) (h : mI S 64 1 = t) (g0 : zb t) (g1 : zb (t + 1)) (g2 : zb (t + 1 + 1)) (g3 : zb (t + 1 + 1 + 1)) (K : ∀ S', zq S S' 65 64 → mI S' 64 1 = t + 1 + 1 + 1 + 1 → mI S' 64 7 = mI S 64 7 → Q (.inl none) S') : ma_wp X d w 138 0 [(0, .inr (.inr (some 64))), (1, .inl a)] [] S Q := by
  subst h
  refine g_138_0 a hd hw hS ?_
  refine g_138_3 a 24 hd hw hS (zf (by decide) (zf g0.1 ⟨g0.2, ?_⟩))
  refine g_138_3 a (24 + -8) hd hw hS (zf (by decide) (zf g1.1 ⟨g1.2, ?_⟩))
  refine g_138_3 a (24 + -8 + -8) hd hw hS (zf (by decide) (zf g2.1 ⟨g2.2, ?_⟩))
  refine g_138_3 a (24 + -8 + -8 + -8) hd hw hS (zf (by decide) (zf g3.1 ⟨g3.2, ?_⟩))
  refine g_138_3 a (24 + -8 + -8 + -8 + -8) hd hw hS (zt (by decide) ?_)
  refine g_138_45 a hd hw hS ?_
  exact K _ (zq_put (zq_put (zq_put (zq_put (zq_refl hS))))) rfl rfl
theorem sp_four (hd : 0 ≤ d) (hw : 0 ≤ w) (hS : zO S) (h : mI S 94 3 = t) (g0 : zb t) (g1 : zb (t + 1)) (g2 : zb (t + 1 + 1)) (g3 : zb (t + 1 + 1 + 1)) (K : ∀ S', zq S S' 95 94 → mI S' 94 3 = t + 1 + 1 + 1 + 1 → mI S' 94 0 = mI S 94 0 → Q (.inl none) S') : ma_wp X d w 168 0 [(0, .inr (.inr (some 94))), (1, .inl a)] [] S Q := by
  subst h
  refine g_168_0 a hd hw hS ?_
  refine g_168_3 a 24 hd hw hS (zf (by decide) ⟨g0.2, ?_⟩)
  refine g_168_3 a (24 + -8) hd hw hS (zf (by decide) ⟨g1.2, ?_⟩)
  refine g_168_3 a (24 + -8 + -8) hd hw hS (zf (by decide) ⟨g2.2, ?_⟩)
  refine g_168_3 a (24 + -8 + -8 + -8) hd hw hS (zf (by decide) ⟨g3.2, ?_⟩)
  refine g_168_3 a (24 + -8 + -8 + -8 + -8) hd hw hS (zt (by decide) ?_)
  exact K _ (zq_put (zq_put (zq_put (zq_put (zq_refl hS))))) rfl rfl
end P1F
