/-! AGES, the reference (written by wip/tools/gen15v.py) -/
/-! AGES, the reference: the fields through a walk -/
def qAX (a : Nat → Nat → Int32) (yo ol ag cd : Int32) : Prop := a 87 5 = yo ∧ a 87 9 = ol ∧ a 87 11 = ag ∧ a 87 12 = cd
section F35
variable {a b c d aa T : Nat → Nat → Int32} {yo ol ag cd x y i l : Int32} {n m k f : Nat} {e p : Int}
theorem AX_cg (h : qAX a yo ol ag cd) (e : b 87 = a 87) : qAX b yo ol ag cd := by
  unfold qAX at h ⊢
  rw [e]
  exact h
theorem cwf_o (h : n ≠ 75 ∧ n ≠ 76 ∧ n ≠ 77) : ∀ (f : Nat) (i : Int32) (a : Nat → Nat → Int32), aCwf m f i a n k = a n k := by
  intro f
  induction f with
  | zero => intro i a; rfl
  | succ f ih =>
    intro i a
    show aCwf m f (i + 1) (aCm a _) n k = a n k
    rw [ih, aCm_o h]
theorem AX_sw (h : qAX aa yo ol ag cd) (hT : aSp f (aCw c m i) = aSp 512 aa) : qAX c yo ol ag cd := by
  have e1 : aSp f (aCw c m i) 87 = c 87 := funext (fun k => (aSp_o ⟨by decide, by decide, by decide⟩ _ _).trans (cwf_o ⟨by decide, by decide, by decide⟩ _ _ _))
  have e2 : aSp 512 aa 87 = aa 87 := funext (fun k => aSp_o ⟨by decide, by decide, by decide⟩ _ _)
  exact AX_cg h (by rw [← e1, hT, e2])
theorem AX_ro (h : qAX aa yo ol ag cd) (hT : aRo c i = aRo (aWh aa x) 0) : qAX c yo ol ag cd := by
  have e1 : aRo c i 87 = c 87 := funext (fun k => aRo_o ⟨by decide, by decide, by decide⟩)
  have e2 : aRo (aWh aa x) 0 87 = aa 87 := funext (fun k => (aRo_o ⟨by decide, by decide, by decide⟩).trans (wh_of 87 k (by decide) (by decide) (by decide)).symm)
  exact AX_cg h (by rw [← e1, hT, e2])
theorem AX_cm (h : qAX c yo ol ag cd) : qAX (aCm c y) yo ol ag cd := AX_cg h (funext (fun k => aCm_o ⟨by decide, by decide, by decide⟩))
theorem AX_gr (h : qAX c yo ol ag cd) : qAX (aGr c y) yo ol ag cd := AX_cg h (gr_r (by decide) (by decide) (by decide) (by decide))
theorem hf_o (h : n ≠ 75 ∧ n ≠ 76 ∧ n ≠ 77) : ∀ (f : Nat) (i : Int32) (a : Nat → Nat → Int32), aHf f i a n k = a n k := by
  intro f
  induction f with
  | zero => intro i a; rfl
  | succ f ih =>
    intro i a
    show aHf f (i + 1) (if _ then aCm a i else a) n k = a n k
    rw [ih]
    split
    · exact aCm_o h
    · rfl
theorem wf_o (h : n ≠ 75 ∧ n ≠ 76 ∧ n ≠ 77) : ∀ (f : Nat) (i : Int32) (a : Nat → Nat → Int32), aWf f i a n k = a n k := by
  intro f
  induction f with
  | zero => intro i a; exact hf_o h _ _ _
  | succ f ih =>
    intro i a
    show aWf f (i + 1) (aCm a _) n k = a n k
    rw [ih, aCm_o h]
theorem AX_wi (h : qAX aa yo ol ag cd) (hT : aWi c i = aRo (aWh aa x) 0) : qAX c yo ol ag cd := by
  have e1 : aWi c i 87 = c 87 := funext (fun k => wf_o ⟨by decide, by decide, by decide⟩ _ _ _)
  have e2 : aRo (aWh aa x) 0 87 = aa 87 := funext (fun k => (aRo_o ⟨by decide, by decide, by decide⟩).trans (wh_of 87 k (by decide) (by decide) (by decide)).symm)
  exact AX_cg h (by rw [← e1, hT, e2])
theorem gdf_o (h : n ≠ 75 ∧ n ≠ 76 ∧ n ≠ 77) : ∀ (f : Nat) (a : Nat → Nat → Int32) (p : Int), gDf e f a p n k = a n k := by
  intro f
  induction f with
  | zero => intro a p; rfl
  | succ f ih =>
    intro a p
    by_cases w : p < e
    · by_cases z : (zOb a p).toInt < 0
      · rw [gDf_fr w z, ih]
      · rw [gDf_go w (by omega), ih, gDw_o h]
    · rw [gDf_e w]
theorem AX_dp (h : qAX aa yo ol ag cd) (hT : gDp (gDw c m i) e p = gDp aa e 0) : qAX c yo ol ag cd := by
  have e1 : gDp (gDw c m i) e p 87 = c 87 := funext (fun k => (gdf_o ⟨by decide, by decide, by decide⟩ _ _ _).trans (gDw_o ⟨by decide, by decide, by decide⟩))
  have e2 : gDp aa e 0 87 = aa 87 := funext (fun k => gdf_o ⟨by decide, by decide, by decide⟩ _ _ _)
  exact AX_cg h (by rw [← e1, hT, e2])
theorem gf_87 : ∀ (f : Nat) (i : Int32) (a : Nat → Nat → Int32), aGf f i a 87 k = a 87 k := fun f i a => gf_9 ⟨by decide, by decide⟩ f i a
theorem AX_gw (h : qAX aa yo ol ag cd) (hT : aGw b l = aGw aa 0) : qAX b yo ol ag cd := by
  have e1 : aGw b l 87 = b 87 := funext (fun k => gf_87 _ _ _)
  have e2 : aGw aa 0 87 = aa 87 := funext (fun k => gf_87 _ _ _)
  exact AX_cg h (by rw [← e1, hT, e2])
theorem AX_sp (h : qAX c yo ol ag cd) : qAX (aSp f c) yo ol ag cd := AX_cg h (funext (fun k => aSp_o ⟨by decide, by decide, by decide⟩ _ _))
end F35
theorem sp_207ry {X : Nat × (Nat → Int32)} {P : Option ma_V → (Nat → Nat → Int32) → Prop} {aa : Nat→Nat→Int32} {AT : Nat→Int32} {OW : Nat→Int32} {AG : Nat→Int32} {ro : Int32} {st : Int} {oo : Int} {m : Nat → Nat → Int32} (s : Int32) (hV : zV m) (hpre0 : -1 ≤ s.toInt) (hpre1 : s.toInt ≤ 3099) (hpre2 : (m 94 10).toInt = 3) (r_UQ : qU (m 99) s) (r_OW : zOw (m 99) (m 103) (m 111)) (r_AX3 : qAX aa (m 94 13) (m 94 14) (m 94 15) (m 94 16)) (r_YB : qYB (m 99) (m 100) (m 98) (m 101) (m 102) AT (m 107) (m 108) (m 109) OW (m 112) (m 113) (m 114) (m 94 55) (m 94 46) ro 0 0 0 1 (m 110) (m 119) (m 94 76) (m 94 75) (m 103) (m 111) (m 104) AG (m 94 77) (m 94 60) st oo aa) (KZ : ∀ m', zV (zov wr_207 m m') → (zOw (m 99) (m' 103) (m' 111)) → (qYB (m 99) (m 100) (m 98) (m 101) (m 102) AT (m 107) (m 108) (m 109) OW (m 112) (m 113) (m 114) (m 94 55) (m 94 46) ro 0 0 0 1 (m' 110) (m' 119) (m 94 76) (m' 94 75) (m' 103) (m' 111) (m' 104) AG (m' 94 77) (m' 94 60) st oo (aCm aa (qNo (m 100) s))) → P none (zov wr_207 m m')) : zm X 2 43 207 0 [(0, .inr (.inr (some 94))), (1, .inl s)] m P := by
  have K : ∀ m', zF wr_207 m m' → zV m' → (zOw (m' 99) (m' 103) (m' 111)) → (qYB (m' 99) (m' 100) (m' 98) (m' 101) (m' 102) AT (m' 107) (m' 108) (m' 109) OW (m' 112) (m' 113) (m' 114) (m' 94 55) (m' 94 46) ro 0 0 0 1 (m' 110) (m' 119) (m' 94 76) (m' 94 75) (m' 103) (m' 111) (m' 104) AG (m' 94 77) (m' 94 60) st oo (aCm aa (qNo (m' 100) s))) → P none m' := by
    intro m' hf z q0 q1
    have e := zov_eq hf
    rw [e] at z ⊢
    try rw [e] at q0
    try rw [e] at q1
    exact KZ m' z q0 q1
  refine g_207_0 s ?_
  have f1 : 0 ≤ (m 94 10).toInt ∧ (m 94 10).toInt ≤ 6 := rs_94_10 (m := m) hV
  have b2 := i_bd s
  have li3 : (0 : Int32).toInt = 0 := rfl
  refine zd (fun (h4 : s < (0 : Int32)) => ?_) (fun (h4 : ¬ s < (0 : Int32)) => ?_)
  · skip
    have g5 := i_lt h4
    try have hus := (U_y r_UQ (by omega)).2
    try have hto := YB_to r_YB (by omega) (by omega) hus (by assumption) r_AX3.2.2.1.symm
    try have ag1 : ((m 104 s.toNatClampNeg) + (1 : Int32)).toInt = (m 104 s.toNatClampNeg).toInt + 1 := i_p1 (by omega)
    try have hgi := congrArg Int32.toInt ((mu_self (m := m) (c := 104) (k := s.toNatClampNeg) (x := (m 104 s.toNatClampNeg) + (1 : Int32))).symm.trans (by assumption))
    try have hgg := hto.2.2.1.mpr (by omega)
    try have hg4 := hto.2.2.2.1 hgg
    try have hgn : ¬ qYg aa (m 100 s.toNatClampNeg).toNatClampNeg := (fun z => (fun z => absurd ((mu_self (m := m) (c := 104) (k := s.toNatClampNeg) (x := (m 104 s.toNatClampNeg) + (1 : Int32))).trans z) (by assumption)) (Int32.toInt_inj.mp (by have := hto.2.2.1.mp z; omega)))
    try have hg5 := hto.2.2.2.2 hgn
    exact K _ zF_rfl hV r_OW (show qYB (m 99) (m 100) (m 98) (m 101) (m 102) AT (m 107) (m 108) (m 109) OW (m 112) (m 113) (m 114) (m 94 55) (m 94 46) ro 0 0 0 1 (m 110) (m 119) (m 94 76) (m 94 75) (m 103) (m 111) (m 104) AG (m 94 77) (m 94 60) st oo (aCm aa (qNo (m 100) s)) from by first | (exact YB_skip r_YB (Or.inl (by omega))) | (exact YB_skip r_YB (Or.inr ⟨by omega, by omega, (U_y r_UQ (by omega)).2, by assumption⟩)) | (exact r_YB) | (exfalso; omega; done) | (exfalso; contradiction; done))
  · skip
    have g6 := i_nlt h4
    try have hus := (U_y r_UQ (by omega)).2
    have hg7 : (0 ≤ s ∧ s.toNatClampNeg < 3100) := i_ix (by omega) (by omega)
    refine ⟨hg7, ?_⟩
    first | have f8 : 0 ≤ (m 110 s.toNatClampNeg).toInt ∧ (m 110 s.toNatClampNeg).toInt ≤ 1 := ra_110 (m := m) hV (k := s.toNatClampNeg) (i_ix (n := 3100) (by omega) (by omega)).2 | have b9 := i_bd (m 110 s.toNatClampNeg)
    refine zd (fun (h10 : (m 110 s.toNatClampNeg) = (0 : Int32)) => ?_) (fun (h10 : ¬ (m 110 s.toNatClampNeg) = (0 : Int32)) => ?_)
    · skip
      have g11 := i_eq h10
      try have hus := (U_y r_UQ (by omega)).2
      have hg12 : (0 ≤ s ∧ s.toNatClampNeg < 3100) := i_ix (by omega) (by omega)
      refine ⟨hg12, ?_⟩
      have f13 : 0 ≤ (m 94 75).toInt ∧ (m 94 75).toInt ≤ 3100 := rs_94_75 (m := m) hV
      try have hb := YB_b r_YB
      have hg14 : (0 ≤ (m 94 75) ∧ (m 94 75).toNatClampNeg < 3100) := i_ix (by omega) (by omega)
      refine ⟨hg14, ?_⟩
      have li15 : (3 : Int32).toInt = 3 := rfl
      refine zd (fun (h16 : (m 94 10) = (3 : Int32)) => ?_) (fun (h16 : ¬ (m 94 10) = (3 : Int32)) => ?_)
      · skip
        have g17 := i_eq h16
        try have hus := (U_y r_UQ (by omega)).2
        have hg18 : (0 ≤ s ∧ s.toNatClampNeg < 3100) := i_ix (by omega) (by omega)
        refine ⟨hg18, ?_⟩
        try have hus := (U_y r_UQ (by omega)).2
        have hg19 : (0 ≤ s ∧ s.toNatClampNeg < 3100) := i_ix (by omega) (by omega)
        refine ⟨hg19, ?_⟩
        try have hus := (U_y r_UQ (by omega)).2
        have hg20 : (0 ≤ s ∧ s.toNatClampNeg < 3100) := i_ix (by omega) (by omega)
        refine ⟨hg20, ?_⟩
        have b21 := i_bd (m 104 s.toNatClampNeg)
        first | have e22 : ((m 104 s.toNatClampNeg) + (1 : Int32)).toInt = (m 104 s.toNatClampNeg).toInt + (1) := i_addk rfl (by omega) (by omega) | have b23 := i_bd ((m 104 s.toNatClampNeg) + (1 : Int32))
        have q24 : ((ma_u m 104 s.toNatClampNeg ((m 104 s.toNatClampNeg) + (1 : Int32))) 104 s.toNatClampNeg).toInt = ((m 104 s.toNatClampNeg) + (1 : Int32)).toInt := congrArg Int32.toInt mu_self
        have b25 := i_bd ((ma_u m 104 s.toNatClampNeg ((m 104 s.toNatClampNeg) + (1 : Int32))) 104 s.toNatClampNeg)
        have b26 := i_bd (m 94 15)
        refine zd (fun (h27 : ((ma_u m 104 s.toNatClampNeg ((m 104 s.toNatClampNeg) + (1 : Int32))) 104 s.toNatClampNeg) = (m 94 15)) => ?_) (fun (h27 : ¬ ((ma_u m 104 s.toNatClampNeg ((m 104 s.toNatClampNeg) + (1 : Int32))) 104 s.toNatClampNeg) = (m 94 15)) => ?_)
        · skip
          have g28 := i_eq h27
          have f29 : 0 ≤ (m 94 60).toInt ∧ (m 94 60).toInt ≤ 1600 := rs_94_60 (m := m) hV
          have li31 : (1 : Int32).toInt = 1 := rfl
          have hV30 : zV (ma_u m 110 s.toNatClampNeg (1 : Int32)) := ua_110 hV (by omega) (by omega)
          have hV32 : zV (ma_u (ma_u m 110 s.toNatClampNeg (1 : Int32)) 119 (m 94 75).toNatClampNeg s) := ua_119 hV30 (by omega) (by omega)
          first | have e34 : ((m 94 75) + (1 : Int32)).toInt = (m 94 75).toInt + (1) := i_addk rfl (by omega) (by omega) | have b35 := i_bd ((m 94 75) + (1 : Int32))
          have hV33 : zV (ma_u (ma_u (ma_u m 110 s.toNatClampNeg (1 : Int32)) 119 (m 94 75).toNatClampNeg s) 94 75 ((m 94 75) + (1 : Int32))) := us_94_75 hV32 (by omega) (by omega)
          have hV36 : zV (ma_u (ma_u (ma_u (ma_u m 110 s.toNatClampNeg (1 : Int32)) 119 (m 94 75).toNatClampNeg s) 94 75 ((m 94 75) + (1 : Int32))) 104 s.toNatClampNeg ((m 104 s.toNatClampNeg) + (1 : Int32))) := ua_104 hV33
          try have hus := (U_y r_UQ (by omega)).2
          try have hto := YB_to r_YB (by omega) (by omega) hus (by assumption) r_AX3.2.2.1.symm
          try have ag1 : ((m 104 s.toNatClampNeg) + (1 : Int32)).toInt = (m 104 s.toNatClampNeg).toInt + 1 := i_p1 (by omega)
          try have hgi := congrArg Int32.toInt ((mu_self (m := m) (c := 104) (k := s.toNatClampNeg) (x := (m 104 s.toNatClampNeg) + (1 : Int32))).symm.trans (by assumption))
          try have hgg := hto.2.2.1.mpr (by omega)
          try have hg4 := hto.2.2.2.1 hgg
          try have hgn : ¬ qYg aa (m 100 s.toNatClampNeg).toNatClampNeg := (fun z => (fun z => absurd ((mu_self (m := m) (c := 104) (k := s.toNatClampNeg) (x := (m 104 s.toNatClampNeg) + (1 : Int32))).trans z) (by assumption)) (Int32.toInt_inj.mp (by have := hto.2.2.1.mp z; omega)))
          try have hg5 := hto.2.2.2.2 hgn
          refine sp_205 (s) ((m 94 60)) hV36 (by omega) (by omega) (by omega) (by omega) (show (m 99) s.toNatClampNeg ≠ 0 from by first | (exact hus) | (assumption; done) | (exact ow5.1) | (exact ow3.1) | (exfalso; omega; done) | (exfalso; contradiction; done)) r_OW (fun m5 hV_m5 p0_m5 p1_m5 => zmv_n ?_)
          have p0_m5 : zOw (m 99) (m5 103) (m5 111) := p0_m5
          have p1_m5 : zmov s (m 94 60) (m 103) (m 111) (m5 103) (m5 111) := p1_m5
          try have mvs := mv_s p1_m5
          have hg37 : (0 ≤ s ∧ s.toNatClampNeg < 3100) := i_ix (by omega) (by omega)
          refine ⟨hg37, ?_⟩
          try have hus := (U_y r_UQ (by omega)).2
          try have hto := YB_to r_YB (by omega) (by omega) hus (by assumption) r_AX3.2.2.1.symm
          try have ag1 : ((m 104 s.toNatClampNeg) + (1 : Int32)).toInt = (m 104 s.toNatClampNeg).toInt + 1 := i_p1 (by omega)
          try have hgi := congrArg Int32.toInt ((mu_self (m := m) (c := 104) (k := s.toNatClampNeg) (x := (m 104 s.toNatClampNeg) + (1 : Int32))).symm.trans (by assumption))
          try have hgg := hto.2.2.1.mpr (by omega)
          try have hg4 := hto.2.2.2.1 hgg
          try have hgn : ¬ qYg aa (m 100 s.toNatClampNeg).toNatClampNeg := (fun z => (fun z => absurd ((mu_self (m := m) (c := 104) (k := s.toNatClampNeg) (x := (m 104 s.toNatClampNeg) + (1 : Int32))).trans z) (by assumption)) (Int32.toInt_inj.mp (by have := hto.2.2.1.mp z; omega)))
          try have hg5 := hto.2.2.2.2 hgn
          first | have f39 : 0 ≤ (m 102 s.toNatClampNeg).toInt ∧ (m 102 s.toNatClampNeg).toInt ≤ 60 := ra_102 (m := m) hV (k := s.toNatClampNeg) (i_ix (n := 3100) (by omega) (by omega)).2 | have b40 := i_bd (m 102 s.toNatClampNeg)
          first | have e41 : ((m 102 s.toNatClampNeg) + (1 : Int32)).toInt = (m 102 s.toNatClampNeg).toInt + (1) := i_addk rfl (by omega) (by omega) | have b42 := i_bd ((m 102 s.toNatClampNeg) + (1 : Int32))
          first | have e43 : ((m 94 60) + ((m 102 s.toNatClampNeg) + (1 : Int32))).toInt = (m 94 60).toInt + ((m 102 s.toNatClampNeg) + (1 : Int32)).toInt := i_add (by omega) (by omega) | have b44 := i_bd ((m 94 60) + ((m 102 s.toNatClampNeg) + (1 : Int32)))
          have hV38 : zV (ma_u (zov wr_205 (ma_u (ma_u (ma_u (ma_u m 110 s.toNatClampNeg (1 : Int32)) 119 (m 94 75).toNatClampNeg s) 94 75 ((m 94 75) + (1 : Int32))) 104 s.toNatClampNeg ((m 104 s.toNatClampNeg) + (1 : Int32))) m5) 94 60 ((m 94 60) + ((m 102 s.toNatClampNeg) + (1 : Int32)))) := us_94_60 hV_m5 (by omega) (by omega)
          exact K _ (zF_u (zF_zov (zF_u (zF_u (zF_u (zF_u zF_rfl rfl) rfl) rfl) rfl) ws_205_207) rfl) hV38 p0_m5 (show qYB (m 99) (m 100) (m 98) (m 101) (m 102) AT (m 107) (m 108) (m 109) OW (m 112) (m 113) (m 114) (m 94 55) (m 94 46) ro 0 0 0 1 ((ma_u m 110 s.toNatClampNeg (1 : Int32)) 110) ((ma_u m 119 (m 94 75).toNatClampNeg s) 119) (m 94 76) ((m 94 75) + (1 : Int32)) (m5 103) (m5 111) ((ma_u m 104 s.toNatClampNeg ((m 104 s.toNatClampNeg) + (1 : Int32))) 104) AG (m 94 77) ((m 94 60) + ((m 102 s.toNatClampNeg) + (1 : Int32))) st oo (aCm aa (qNo (m 100) s)) from by first | (have hto := YB_to r_YB (by omega) (by omega) hus (by assumption) r_AX3.2.2.1.symm; have ag1 : ((m 104 s.toNatClampNeg) + (1 : Int32)).toInt = (m 104 s.toNatClampNeg).toInt + 1 := i_p1 (by omega); have hgi := congrArg Int32.toInt ((mu_self (m := m) (c := 104) (k := s.toNatClampNeg) (x := (m 104 s.toNatClampNeg) + (1 : Int32))).symm.trans (by assumption)); have hgg := hto.2.2.1.mpr (by omega); exact YB_push r_YB (by omega) (by omega) hus (by assumption) (fun t => mu_at t) (fun t => mu_at t) (fun t => mu_at t) rfl p1_m5 (fun _ => ⟨rfl, rfl, by omega⟩) (fun z => absurd hgg z); done) | (have hto := YB_to r_YB (by omega) (by omega) hus (by assumption) r_AX3.2.2.1.symm; have ag1 : ((m 104 s.toNatClampNeg) + (1 : Int32)).toInt = (m 104 s.toNatClampNeg).toInt + 1 := i_p1 (by omega); have hgn : ¬ qYg aa (m 100 s.toNatClampNeg).toNatClampNeg := (fun z => (fun z => absurd ((mu_self (m := m) (c := 104) (k := s.toNatClampNeg) (x := (m 104 s.toNatClampNeg) + (1 : Int32))).trans z) (by assumption)) (Int32.toInt_inj.mp (by have := hto.2.2.1.mp z; omega))); exact YB_push r_YB (by omega) (by omega) hus (by assumption) (fun t => mu_at t) (fun t => mu_at t) (fun t => mu_at t) rfl p1_m5 (fun z => absurd z hgn) (fun _ => ⟨rfl, rfl, by omega⟩); done) | (exact r_YB) | (exfalso; omega; done) | (exfalso; contradiction; done))
        · skip
          have g45 := i_ne h27
          have f46 : 0 ≤ (m 94 77).toInt ∧ (m 94 77).toInt ≤ 4600 := rs_94_77 (m := m) hV
          have li48 : (1 : Int32).toInt = 1 := rfl
          have hV47 : zV (ma_u m 110 s.toNatClampNeg (1 : Int32)) := ua_110 hV (by omega) (by omega)
          have hV49 : zV (ma_u (ma_u m 110 s.toNatClampNeg (1 : Int32)) 119 (m 94 75).toNatClampNeg s) := ua_119 hV47 (by omega) (by omega)
          first | have e51 : ((m 94 75) + (1 : Int32)).toInt = (m 94 75).toInt + (1) := i_addk rfl (by omega) (by omega) | have b52 := i_bd ((m 94 75) + (1 : Int32))
          have hV50 : zV (ma_u (ma_u (ma_u m 110 s.toNatClampNeg (1 : Int32)) 119 (m 94 75).toNatClampNeg s) 94 75 ((m 94 75) + (1 : Int32))) := us_94_75 hV49 (by omega) (by omega)
          have hV53 : zV (ma_u (ma_u (ma_u (ma_u m 110 s.toNatClampNeg (1 : Int32)) 119 (m 94 75).toNatClampNeg s) 94 75 ((m 94 75) + (1 : Int32))) 104 s.toNatClampNeg ((m 104 s.toNatClampNeg) + (1 : Int32))) := ua_104 hV50
          try have hus := (U_y r_UQ (by omega)).2
          try have hto := YB_to r_YB (by omega) (by omega) hus (by assumption) r_AX3.2.2.1.symm
          try have ag1 : ((m 104 s.toNatClampNeg) + (1 : Int32)).toInt = (m 104 s.toNatClampNeg).toInt + 1 := i_p1 (by omega)
          try have hgi := congrArg Int32.toInt ((mu_self (m := m) (c := 104) (k := s.toNatClampNeg) (x := (m 104 s.toNatClampNeg) + (1 : Int32))).symm.trans (by assumption))
          try have hgg := hto.2.2.1.mpr (by omega)
          try have hg4 := hto.2.2.2.1 hgg
          try have hgn : ¬ qYg aa (m 100 s.toNatClampNeg).toNatClampNeg := (fun z => (fun z => absurd ((mu_self (m := m) (c := 104) (k := s.toNatClampNeg) (x := (m 104 s.toNatClampNeg) + (1 : Int32))).trans z) (by assumption)) (Int32.toInt_inj.mp (by have := hto.2.2.1.mp z; omega)))
          try have hg5 := hto.2.2.2.2 hgn
          refine sp_205 (s) ((m 94 77)) hV53 (by omega) (by omega) (by omega) (by omega) (show (m 99) s.toNatClampNeg ≠ 0 from by first | (exact hus) | (assumption; done) | (exact ow5.1) | (exact ow3.1) | (exfalso; omega; done) | (exfalso; contradiction; done)) r_OW (fun m3 hV_m3 p0_m3 p1_m3 => zmv_n ?_)
          have p0_m3 : zOw (m 99) (m3 103) (m3 111) := p0_m3
          have p1_m3 : zmov s (m 94 77) (m 103) (m 111) (m3 103) (m3 111) := p1_m3
          try have mvs := mv_s p1_m3
          have hg54 : (0 ≤ s ∧ s.toNatClampNeg < 3100) := i_ix (by omega) (by omega)
          refine ⟨hg54, ?_⟩
          try have hus := (U_y r_UQ (by omega)).2
          try have hto := YB_to r_YB (by omega) (by omega) hus (by assumption) r_AX3.2.2.1.symm
          try have ag1 : ((m 104 s.toNatClampNeg) + (1 : Int32)).toInt = (m 104 s.toNatClampNeg).toInt + 1 := i_p1 (by omega)
          try have hgi := congrArg Int32.toInt ((mu_self (m := m) (c := 104) (k := s.toNatClampNeg) (x := (m 104 s.toNatClampNeg) + (1 : Int32))).symm.trans (by assumption))
          try have hgg := hto.2.2.1.mpr (by omega)
          try have hg4 := hto.2.2.2.1 hgg
          try have hgn : ¬ qYg aa (m 100 s.toNatClampNeg).toNatClampNeg := (fun z => (fun z => absurd ((mu_self (m := m) (c := 104) (k := s.toNatClampNeg) (x := (m 104 s.toNatClampNeg) + (1 : Int32))).trans z) (by assumption)) (Int32.toInt_inj.mp (by have := hto.2.2.1.mp z; omega)))
          try have hg5 := hto.2.2.2.2 hgn
          first | have f56 : 0 ≤ (m 102 s.toNatClampNeg).toInt ∧ (m 102 s.toNatClampNeg).toInt ≤ 60 := ra_102 (m := m) hV (k := s.toNatClampNeg) (i_ix (n := 3100) (by omega) (by omega)).2 | have b57 := i_bd (m 102 s.toNatClampNeg)
          first | have e58 : ((m 102 s.toNatClampNeg) + (1 : Int32)).toInt = (m 102 s.toNatClampNeg).toInt + (1) := i_addk rfl (by omega) (by omega) | have b59 := i_bd ((m 102 s.toNatClampNeg) + (1 : Int32))
          first | have e60 : ((m 94 77) + ((m 102 s.toNatClampNeg) + (1 : Int32))).toInt = (m 94 77).toInt + ((m 102 s.toNatClampNeg) + (1 : Int32)).toInt := i_add (by omega) (by omega) | have b61 := i_bd ((m 94 77) + ((m 102 s.toNatClampNeg) + (1 : Int32)))
          have hV55 : zV (ma_u (zov wr_205 (ma_u (ma_u (ma_u (ma_u m 110 s.toNatClampNeg (1 : Int32)) 119 (m 94 75).toNatClampNeg s) 94 75 ((m 94 75) + (1 : Int32))) 104 s.toNatClampNeg ((m 104 s.toNatClampNeg) + (1 : Int32))) m3) 94 77 ((m 94 77) + ((m 102 s.toNatClampNeg) + (1 : Int32)))) := us_94_77 hV_m3 (by omega) (by omega)
          exact K _ (zF_u (zF_zov (zF_u (zF_u (zF_u (zF_u zF_rfl rfl) rfl) rfl) rfl) ws_205_207) rfl) hV55 p0_m3 (show qYB (m 99) (m 100) (m 98) (m 101) (m 102) AT (m 107) (m 108) (m 109) OW (m 112) (m 113) (m 114) (m 94 55) (m 94 46) ro 0 0 0 1 ((ma_u m 110 s.toNatClampNeg (1 : Int32)) 110) ((ma_u m 119 (m 94 75).toNatClampNeg s) 119) (m 94 76) ((m 94 75) + (1 : Int32)) (m3 103) (m3 111) ((ma_u m 104 s.toNatClampNeg ((m 104 s.toNatClampNeg) + (1 : Int32))) 104) AG ((m 94 77) + ((m 102 s.toNatClampNeg) + (1 : Int32))) (m 94 60) st oo (aCm aa (qNo (m 100) s)) from by first | (have hto := YB_to r_YB (by omega) (by omega) hus (by assumption) r_AX3.2.2.1.symm; have ag1 : ((m 104 s.toNatClampNeg) + (1 : Int32)).toInt = (m 104 s.toNatClampNeg).toInt + 1 := i_p1 (by omega); have hgi := congrArg Int32.toInt ((mu_self (m := m) (c := 104) (k := s.toNatClampNeg) (x := (m 104 s.toNatClampNeg) + (1 : Int32))).symm.trans (by assumption)); have hgg := hto.2.2.1.mpr (by omega); exact YB_push r_YB (by omega) (by omega) hus (by assumption) (fun t => mu_at t) (fun t => mu_at t) (fun t => mu_at t) rfl p1_m3 (fun _ => ⟨rfl, rfl, by omega⟩) (fun z => absurd hgg z); done) | (have hto := YB_to r_YB (by omega) (by omega) hus (by assumption) r_AX3.2.2.1.symm; have ag1 : ((m 104 s.toNatClampNeg) + (1 : Int32)).toInt = (m 104 s.toNatClampNeg).toInt + 1 := i_p1 (by omega); have hgn : ¬ qYg aa (m 100 s.toNatClampNeg).toNatClampNeg := (fun z => (fun z => absurd ((mu_self (m := m) (c := 104) (k := s.toNatClampNeg) (x := (m 104 s.toNatClampNeg) + (1 : Int32))).trans z) (by assumption)) (Int32.toInt_inj.mp (by have := hto.2.2.1.mp z; omega))); exact YB_push r_YB (by omega) (by omega) hus (by assumption) (fun t => mu_at t) (fun t => mu_at t) (fun t => mu_at t) rfl p1_m3 (fun z => absurd z hgn) (fun _ => ⟨rfl, rfl, by omega⟩); done) | (exact r_YB) | (exfalso; omega; done) | (exfalso; contradiction; done))
      · skip
        have g62 := i_ne h16
        exfalso; omega
    · skip
      have g63 := i_ne h10
      try have hus := (U_y r_UQ (by omega)).2
      try have hto := YB_to r_YB (by omega) (by omega) hus (by assumption) r_AX3.2.2.1.symm
      try have ag1 : ((m 104 s.toNatClampNeg) + (1 : Int32)).toInt = (m 104 s.toNatClampNeg).toInt + 1 := i_p1 (by omega)
      try have hgi := congrArg Int32.toInt ((mu_self (m := m) (c := 104) (k := s.toNatClampNeg) (x := (m 104 s.toNatClampNeg) + (1 : Int32))).symm.trans (by assumption))
      try have hgg := hto.2.2.1.mpr (by omega)
      try have hg4 := hto.2.2.2.1 hgg
      try have hgn : ¬ qYg aa (m 100 s.toNatClampNeg).toNatClampNeg := (fun z => (fun z => absurd ((mu_self (m := m) (c := 104) (k := s.toNatClampNeg) (x := (m 104 s.toNatClampNeg) + (1 : Int32))).trans z) (by assumption)) (Int32.toInt_inj.mp (by have := hto.2.2.1.mp z; omega)))
      try have hg5 := hto.2.2.2.2 hgn
      exact K _ zF_rfl hV r_OW (show qYB (m 99) (m 100) (m 98) (m 101) (m 102) AT (m 107) (m 108) (m 109) OW (m 112) (m 113) (m 114) (m 94 55) (m 94 46) ro 0 0 0 1 (m 110) (m 119) (m 94 76) (m 94 75) (m 103) (m 111) (m 104) AG (m 94 77) (m 94 60) st oo (aCm aa (qNo (m 100) s)) from by first | (exact YB_skip r_YB (Or.inl (by omega))) | (exact YB_skip r_YB (Or.inr ⟨by omega, by omega, (U_y r_UQ (by omega)).2, by assumption⟩)) | (exact r_YB) | (exfalso; omega; done) | (exfalso; contradiction; done))
theorem lp_208ry_33 {X : Nat × (Nat → Int32)} {P : Option ma_V → (Nat → Nat → Int32) → Prop} {aa : Nat→Nat→Int32} {AT : Nat→Int32} {OW : Nat→Int32} {AG : Nat→Int32} {ro : Int32} {st : Int} {oo : Int} {m0 : Nat → Nat → Int32} (h0 : zV m0) (K : ∀ m', zF wr_208 m0 m' → zV m' → (zOw (m' 99) (m' 103) (m' 111)) → (qYB (m' 99) (m' 100) (m' 98) (m' 101) (m' 102) AT (m' 107) (m' 108) (m' 109) OW (m' 112) (m' 113) (m' 114) (m' 94 55) (m' 94 46) ro 0 0 0 1 (m' 110) (m' 119) (m' 94 76) (m' 94 75) (m' 103) (m' 111) (m' 104) AG (m' 94 77) (m' 94 60) st oo (aSp 512 aa)) → ((m' 94 75).toInt ≤ (m' 94 76).toInt) → P none m') {n0 : Nat} (OUT0 : ∀ (m' : Nat → Nat → Int32) , (3101 - (m' 94 76).toInt).toNat < n0 → zF wr_208 m0 m' → zV m' → ((m' 94 10).toInt = 3) → (zW (m' 94 7) (m' 98) (m' 101) (m' 102) (m' 108)) → (zOw (m' 99) (m' 103) (m' 111)) → (qAX aa (m' 94 13) (m' 94 14) (m' 94 15) (m' 94 16)) → (qYS (m' 99) (m' 100) (m' 98) (m' 101) (m' 102) AT (m' 107) (m' 108) (m' 109) OW (m' 112) (m' 113) (m' 114) (m' 94 55) (m' 94 46) ro 0 0 0 1 (m' 110) (m' 119) (m' 94 76) (m' 94 75) (m' 103) (m' 111) (m' 104) AG (m' 94 77) (m' 94 60) st oo (aSp 512 aa)) → zm X 3 64 208 0 [(0, .inr (.inr (some 94)))] m' P) : ∀ (n : Nat) (m : Nat → Nat → Int32) (l1 : Int32) (l2 : Int32), (61 - l2.toInt).toNat = n → zF wr_208 m0 m → zV m → (0 ≤ l1.toInt) → (l1.toInt ≤ 3099) → (0 ≤ l2.toInt) → ((3101 - (m 94 76).toInt).toNat < n0) → ((m 94 10).toInt = 3) → (zW (m 94 7) (m 98) (m 101) (m 102) (m 108)) → (zOw (m 99) (m 103) (m 111)) → (qAX aa (m 94 13) (m 94 14) (m 94 15) (m 94 16)) → (qYW (m 99) (m 100) (m 98) (m 101) (m 102) AT (m 107) (m 108) (m 109) OW (m 112) (m 113) (m 114) (m 94 55) (m 94 46) ro 0 0 0 1 (m 110) (m 119) (m 94 76) (m 94 75) (m 103) (m 111) (m 104) AG (m 94 77) (m 94 60) st oo l1 l2 (aSp 512 aa)) → zm X 3 64 208 33 [(0, .inr (.inr (some 94))), (1, .inl l1), (2, .inl l2)] m P := by
  intro n
  induction n using Nat.strongRecOn with
  | _ n IH =>
    intro m l1 l2 hmu hF hV hi0 hi1 hi2 hi3 hi4 r_W r_OW r_AX3 r_YW
    refine g_208_33 l1 l2 ?_
    have f1 : 0 ≤ (m 94 76).toInt ∧ (m 94 76).toInt ≤ 3100 := rs_94_76 (m := m) hV
    have f2 : 0 ≤ (m 94 10).toInt ∧ (m 94 10).toInt ≤ 6 := rs_94_10 (m := m) hV
    obtain ⟨c, f, ⟨hB, hT, hf⟩, w0, w3, wu⟩ := r_YW
    have b3 := i_bd l1
    have hg4 : (0 ≤ l1 ∧ l1.toNatClampNeg < 3100) := i_ix (by omega) (by omega)
    refine ⟨hg4, ?_⟩
    first | have f5 : 0 ≤ (m 102 l1.toNatClampNeg).toInt ∧ (m 102 l1.toNatClampNeg).toInt ≤ 60 := ra_102 (m := m) hV (k := l1.toNatClampNeg) (i_ix (n := 3100) (by omega) (by omega)).2 | have b6 := i_bd (m 102 l1.toNatClampNeg)
    have b7 := i_bd l2
    refine zd (fun (h8 : (m 102 l1.toNatClampNeg) ≤ l2) => ?_) (fun (h8 : ¬ (m 102 l1.toNatClampNeg) ≤ l2) => ?_)
    · skip
      have g9 := i_le h8
      exact OUT0 _  (show (3101 - (m 94 76).toInt).toNat < n0 from by omega) hF hV (show (m 94 10).toInt = 3 from by omega) r_W r_OW r_AX3 (show qYS (m 99) (m 100) (m 98) (m 101) (m 102) AT (m 107) (m 108) (m 109) OW (m 112) (m 113) (m 114) (m 94 55) (m 94 46) ro 0 0 0 1 (m 110) (m 119) (m 94 76) (m 94 75) (m 103) (m 111) (m 104) AG (m 94 77) (m 94 60) st oo (aSp 512 aa) from by first | (exact YW_end ⟨c, f, ⟨hB, hT, hf⟩, w0, w3, wu⟩ (by omega) (by omega)) | (exfalso; omega; done) | (exfalso; contradiction; done))
    · skip
      have g10 := i_nle h8
      refine sp_192 (l1) (l2) hV (by omega) (by omega) (by omega) (show l2.toInt < (m 102 l1.toNatClampNeg).toInt from by omega) (fun v2 m1 hV_m1 p0_m1 => zmi_n ?_)
      have p0_m1 : v2 = zrf (m 98) (m 101) (m 108) l1.toNatClampNeg l2.toNatClampNeg := p0_m1
      try have := W_ref r_W (by omega) (by omega) (by omega) (by omega) p0_m1
      have b11 := i_bd v2
      refine sp_207ry (aa := c) (v2) hV_m1 (by omega) (by omega) (show (m 94 10).toInt = 3 from by omega) (show qU (m 99) v2 from by first | (exact (YW_rf hB w0 w3 wu (by omega) (by omega) p0_m1.symm).1) | (exfalso; omega; done) | (exfalso; contradiction; done)) r_OW (show qAX c (m 94 13) (m 94 14) (m 94 15) (m 94 16) from by first | (exact AX_sw r_AX3 hT) | (exact r_AX3) | (exfalso; omega; done) | (exfalso; contradiction; done)) hB (fun m3 hV_m3 p0_m3 p1_m3 => zmv_n ?_)
      have p0_m3 : zOw (m 99) (m3 103) (m3 111) := p0_m3
      have p1_m3 : qYB (m 99) (m 100) (m 98) (m 101) (m 102) AT (m 107) (m 108) (m 109) OW (m 112) (m 113) (m 114) (m 94 55) (m 94 46) ro 0 0 0 1 (m3 110) (m3 119) (m 94 76) (m3 94 75) (m3 103) (m3 111) (m3 104) AG (m3 94 77) (m3 94 60) st oo (aCm c (qNo (m 100) v2)) := p1_m3
      first | have e12 : (l2 + (1 : Int32)).toInt = l2.toInt + (1) := i_addk rfl (by omega) (by omega) | have b13 := i_bd (l2 + (1 : Int32))
      exact IH (61 - (l2 + (1 : Int32)).toInt).toNat (by omega) _ (l1) ((l2 + (1 : Int32))) rfl (zF_zov (zF_zov hF ws_192_208) ws_207_208) hV_m3 (by omega) (by omega) (by omega) (show (3101 - (m 94 76).toInt).toNat < n0 from by omega) (show (m 94 10).toInt = 3 from by omega) r_W p0_m3 r_AX3 (show qYW (m 99) (m 100) (m 98) (m 101) (m 102) AT (m 107) (m 108) (m 109) OW (m 112) (m 113) (m 114) (m 94 55) (m 94 46) ro 0 0 0 1 (m3 110) (m3 119) (m 94 76) (m3 94 75) (m3 103) (m3 111) (m3 104) AG (m3 94 77) (m3 94 60) st oo l1 (l2 + (1 : Int32)) (aSp 512 aa) from by first | (exact ⟨_, f, ⟨p1_m3, (congrArg (aSp f) (YW_rf hB w0 w3 wu (by omega) (by omega) p0_m1.symm).2).symm.trans hT, hf⟩, w0, w3, wu⟩) | (exfalso; omega; done) | (exfalso; contradiction; done))
theorem lp_208ry_0 {X : Nat × (Nat → Int32)} {P : Option ma_V → (Nat → Nat → Int32) → Prop} {aa : Nat→Nat→Int32} {AT : Nat→Int32} {OW : Nat→Int32} {AG : Nat→Int32} {ro : Int32} {st : Int} {oo : Int} {m0 : Nat → Nat → Int32} (h0 : zV m0) (K : ∀ m', zF wr_208 m0 m' → zV m' → (zOw (m' 99) (m' 103) (m' 111)) → (qYB (m' 99) (m' 100) (m' 98) (m' 101) (m' 102) AT (m' 107) (m' 108) (m' 109) OW (m' 112) (m' 113) (m' 114) (m' 94 55) (m' 94 46) ro 0 0 0 1 (m' 110) (m' 119) (m' 94 76) (m' 94 75) (m' 103) (m' 111) (m' 104) AG (m' 94 77) (m' 94 60) st oo (aSp 512 aa)) → ((m' 94 75).toInt ≤ (m' 94 76).toInt) → P none m') : ∀ (n : Nat) (m : Nat → Nat → Int32) , (3101 - (m 94 76).toInt).toNat = n → zF wr_208 m0 m → zV m → ((m 94 10).toInt = 3) → (zW (m 94 7) (m 98) (m 101) (m 102) (m 108)) → (zOw (m 99) (m 103) (m 111)) → (qAX aa (m 94 13) (m 94 14) (m 94 15) (m 94 16)) → (qYS (m 99) (m 100) (m 98) (m 101) (m 102) AT (m 107) (m 108) (m 109) OW (m 112) (m 113) (m 114) (m 94 55) (m 94 46) ro 0 0 0 1 (m 110) (m 119) (m 94 76) (m 94 75) (m 103) (m 111) (m 104) AG (m 94 77) (m 94 60) st oo (aSp 512 aa)) → zm X 3 64 208 0 [(0, .inr (.inr (some 94)))] m P := by
  intro n
  induction n using Nat.strongRecOn with
  | _ n IH =>
    intro m  hmu hF hV hi0 r_W r_OW r_AX3 r_YS
    refine g_208_0  ?_
    have f1 : 0 ≤ (m 94 10).toInt ∧ (m 94 10).toInt ≤ 6 := rs_94_10 (m := m) hV
    have f2 : 0 ≤ (m 94 75).toInt ∧ (m 94 75).toInt ≤ 3100 := rs_94_75 (m := m) hV
    have f3 : 0 ≤ (m 94 76).toInt ∧ (m 94 76).toInt ≤ 3100 := rs_94_76 (m := m) hV
    refine zd (fun (h4 : (m 94 75) ≤ (m 94 76)) => ?_) (fun (h4 : ¬ (m 94 75) ≤ (m 94 76)) => ?_)
    · skip
      have g5 := i_le h4
      try have hb := YS_b r_YS
      exact K _ hF hV r_OW (show qYB (m 99) (m 100) (m 98) (m 101) (m 102) AT (m 107) (m 108) (m 109) OW (m 112) (m 113) (m 114) (m 94 55) (m 94 46) ro 0 0 0 1 (m 110) (m 119) (m 94 76) (m 94 75) (m 103) (m 111) (m 104) AG (m 94 77) (m 94 60) st oo (aSp 512 aa) from by first | (exact YS_end r_YS (by omega)) | (exfalso; omega; done) | (exfalso; contradiction; done)) (show (m 94 75).toInt ≤ (m 94 76).toInt from by omega)
    · skip
      have g6 := i_nle h4
      try have hb := YS_b r_YS
      have hg7 : (0 ≤ (m 94 76) ∧ (m 94 76).toNatClampNeg < 3100) := i_ix (by omega) (by omega)
      refine ⟨hg7, ?_⟩
      try have hb := YS_b r_YS
      first | have e9 : ((m 94 76) + (1 : Int32)).toInt = (m 94 76).toInt + (1) := i_addk rfl (by omega) (by omega) | have b10 := i_bd ((m 94 76) + (1 : Int32))
      have hV8 : zV (ma_u m 94 76 ((m 94 76) + (1 : Int32))) := us_94_76 hV (by omega) (by omega)
      first | have f11 : 0 ≤ (m 119 (m 94 76).toNatClampNeg).toInt ∧ (m 119 (m 94 76).toNatClampNeg).toInt ≤ 3099 := ra_119 (m := m) hV (k := (m 94 76).toNatClampNeg) (i_ix (n := 3100) (by omega) (by omega)).2 | have b12 := i_bd (m 119 (m 94 76).toNatClampNeg)
      have li13 : (0 : Int32).toInt = 0 := rfl
      exact lp_208ry_33 h0 K (fun _  z1 z2 z3 y0 y1 y2 y3 y4 => IH _ z1 _  rfl z2 z3 y0 y1 y2 y3 y4) _ _ ((m 119 (m 94 76).toNatClampNeg)) ((0 : Int32)) rfl (zF_u hF rfl) hV8 (by omega) (by omega) (by omega) (show (3101 - ((m 94 76) + (1 : Int32)).toInt).toNat < n from by omega) (show (m 94 10).toInt = 3 from by omega) r_W r_OW r_AX3 (show qYW (m 99) (m 100) (m 98) (m 101) (m 102) AT (m 107) (m 108) (m 109) OW (m 112) (m 113) (m 114) (m 94 55) (m 94 46) ro 0 0 0 1 (m 110) (m 119) ((m 94 76) + (1 : Int32)) (m 94 75) (m 103) (m 111) (m 104) AG (m 94 77) (m 94 60) st oo (m 119 (m 94 76).toNatClampNeg) (0 : Int32) (aSp 512 aa) from by first | (exact YS_go r_YS (by omega) rfl rfl) | (exfalso; omega; done) | (exfalso; contradiction; done))
theorem sp_208ry {X : Nat × (Nat → Int32)} {P : Option ma_V → (Nat → Nat → Int32) → Prop} {aa : Nat→Nat→Int32} {AT : Nat→Int32} {OW : Nat→Int32} {AG : Nat→Int32} {ro : Int32} {st : Int} {oo : Int} {m : Nat → Nat → Int32}  (hV : zV m) (hpre0 : (m 94 10).toInt = 3) (r_W : zW (m 94 7) (m 98) (m 101) (m 102) (m 108)) (r_OW : zOw (m 99) (m 103) (m 111)) (r_AX3 : qAX aa (m 94 13) (m 94 14) (m 94 15) (m 94 16)) (r_YB : qYB (m 99) (m 100) (m 98) (m 101) (m 102) AT (m 107) (m 108) (m 109) OW (m 112) (m 113) (m 114) (m 94 55) (m 94 46) ro 0 0 0 1 (m 110) (m 119) (m 94 76) (m 94 75) (m 103) (m 111) (m 104) AG (m 94 77) (m 94 60) st oo aa) (KZ : ∀ m', zV (zov wr_208 m m') → (zOw (m 99) (m' 103) (m' 111)) → (qYB (m 99) (m 100) (m 98) (m 101) (m 102) AT (m 107) (m 108) (m 109) OW (m 112) (m 113) (m 114) (m 94 55) (m 94 46) ro 0 0 0 1 (m' 110) (m' 119) (m' 94 76) (m' 94 75) (m' 103) (m' 111) (m' 104) AG (m' 94 77) (m' 94 60) st oo (aSp 512 aa)) → ((m' 94 75).toInt ≤ (m' 94 76).toInt) → P none (zov wr_208 m m')) : zm X 3 64 208 0 [(0, .inr (.inr (some 94)))] m P := by
  have K : ∀ m', zF wr_208 m m' → zV m' → (zOw (m' 99) (m' 103) (m' 111)) → (qYB (m' 99) (m' 100) (m' 98) (m' 101) (m' 102) AT (m' 107) (m' 108) (m' 109) OW (m' 112) (m' 113) (m' 114) (m' 94 55) (m' 94 46) ro 0 0 0 1 (m' 110) (m' 119) (m' 94 76) (m' 94 75) (m' 103) (m' 111) (m' 104) AG (m' 94 77) (m' 94 60) st oo (aSp 512 aa)) → ((m' 94 75).toInt ≤ (m' 94 76).toInt) → P none m' := by
    intro m' hf z q0 q1 q2
    have e := zov_eq hf
    rw [e] at z ⊢
    try rw [e] at q0
    try rw [e] at q1
    try rw [e] at q2
    exact KZ m' z q0 q1 q2
  have f1 : 0 ≤ (m 94 10).toInt ∧ (m 94 10).toInt ≤ 6 := rs_94_10 (m := m) hV
  have f2 : 0 ≤ (m 94 76).toInt ∧ (m 94 76).toInt ≤ 3100 := rs_94_76 (m := m) hV
  exact lp_208ry_0 hV K _ _  rfl zF_rfl hV (show (m 94 10).toInt = 3 from by omega) r_W r_OW r_AX3 (show qYS (m 99) (m 100) (m 98) (m 101) (m 102) AT (m 107) (m 108) (m 109) OW (m 112) (m 113) (m 114) (m 94 55) (m 94 46) ro 0 0 0 1 (m 110) (m 119) (m 94 76) (m 94 75) (m 103) (m 111) (m 104) AG (m 94 77) (m 94 60) st oo (aSp 512 aa) from by first | (exact YS_0 r_YB) | (exfalso; omega; done) | (exfalso; contradiction; done))
