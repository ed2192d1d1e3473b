/-! from 95.h12 -/
/-! the reference by numbers (written by wip/tools/gen18r.py) -/
theorem lp_195r_5 {X : Nat × (Nat → Int32)} {P : Option ma_V → (Nat → Nat → Int32) → Prop} {ab : Int32} {yo : Int32} {m0 : Nat → Nat → Int32} (h0 : zV m0) (K : ∀ v m₉, zF wr_195 m0 m₉ → zV m₉ → (zWS (m₉ 100) (m₉ 99) (m₉ 110) (m₉ 109) ab v) → (qMin (qCw (m₉ 99) (m₉ 110) (m₉ 109) (m₉ 100) ab) (m₉ 100) v 3100) → P (some (.inl v)) m₉) : ∀ (n : Nat) (m : Nat → Nat → Int32) (l1 : Int32) (l2 : Int32) (l3 : Int32) (l4 : Int32), (3100 - l4.toInt).toNat = n → zF wr_195 m0 m → zV m → (0 ≤ l4.toInt) → (l4.toInt ≤ 3100) → (l1.toInt = ab.toInt) → (l2.toInt = 0) → (l1 = ab) → (-1 ≤ l3.toInt) → (l3.toInt ≤ 3099) → (zWS (m 100) (m 99) (m 110) (m 109) ab l3) → (qMin (qCw (m 99) (m 110) (m 109) (m 100) l1) (m 100) l3 l4.toInt) → zm X 1 21 195 5 [(0, .inr (.inr (some 94))), (1, .inl l1), (2, .inl l2), (3, .inl l3), (4, .inl l4)] m P := by
  intro n
  induction n using Nat.strongRecOn with
  | _ n IH =>
    intro m l1 l2 l3 l4 hmu hF hV hi0 hi1 hi2 hi3 r_LN hi5 hi6 r_WS r_WM
    refine g_195_5 l1 l2 l3 l4 ?_
    have li1 : (3100 : Int32).toInt = 3100 := rfl
    have b2 := i_bd l4
    refine zd (fun (h3 : (3100 : Int32) ≤ l4) => ?_) (fun (h3 : ¬ (3100 : Int32) ≤ l4) => ?_)
    · skip
      have g4 := i_le h3
      have b5 := i_bd l3
      exact K (l3) _ hF hV r_WS (show qMin (qCw (m 99) (m 110) (m 109) (m 100) ab) (m 100) l3 3100 from by first | (exact Min_0 (by decide) (by decide)) | (rw [← r_LN]; exact (show l4.toInt = 3100 from by omega) ▸ r_WM; done) | (exact Min_new r_WM (by omega) (by omega) (by omega) ⟨by assumption, by assumption, by assumption, by omega⟩ (Or.inl (by omega))) | (exact Min_new r_WM (by omega) (by omega) (by omega) ⟨by assumption, by assumption, by assumption, by omega⟩ (Or.inr (by omega))) | (exact Min_keep r_WM (by omega) (by omega) (by omega) (by omega)) | (exact Min_skip r_WM (by omega) (by omega) (fun z => absurd (by assumption) z.1)) | (exact Min_skip r_WM (by omega) (by omega) (fun z => absurd z.2.1 (by assumption))) | (exact Min_skip r_WM (by omega) (by omega) (fun z => absurd (by assumption) z.2.2.1)) | (exact Min_skip r_WM (by omega) (by omega) (fun z => by have z1 := z.2.2.2; omega)) | (exfalso; omega; done) | (exfalso; contradiction; done))
    · skip
      have g6 := i_nle h3
      have hg7 : (0 ≤ l4 ∧ l4.toNatClampNeg < 3100) := i_ix (by omega) (by omega)
      refine ⟨hg7, ?_⟩
      first | have f8 : 0 ≤ (m 99 l4.toNatClampNeg).toInt ∧ (m 99 l4.toNatClampNeg).toInt ≤ 1 := ra_99 (m := m) hV (k := l4.toNatClampNeg) (i_ix (n := 3100) (by omega) (by omega)).2 | have b9 := i_bd (m 99 l4.toNatClampNeg)
      have li10 : (0 : Int32).toInt = 0 := rfl
      refine zd (fun (h11 : (m 99 l4.toNatClampNeg) = (0 : Int32)) => ?_) (fun (h11 : ¬ (m 99 l4.toNatClampNeg) = (0 : Int32)) => ?_)
      · skip
        have g12 := i_eq h11
        have b13 := i_bd l1
        have b14 := i_bd l2
        have b15 := i_bd l3
        first | have e16 : (l4 + (1 : Int32)).toInt = l4.toInt + (1) := i_addk rfl (by omega) (by omega) | have b17 := i_bd (l4 + (1 : Int32))
        exact IH (3100 - (l4 + (1 : Int32)).toInt).toNat (by omega) _ (l1) (l2) (l3) ((l4 + (1 : Int32))) rfl hF hV (by omega) (by omega) (by omega) (by omega) r_LN (by omega) (by omega) r_WS (show qMin (qCw (m 99) (m 110) (m 109) (m 100) l1) (m 100) l3 (l4 + (1 : Int32)).toInt from by first | (exact Min_0 (by decide) (by decide)) | (rw [← r_LN]; exact (show l4.toInt = 3100 from by omega) ▸ r_WM; done) | (exact Min_new r_WM (by omega) (by omega) (by omega) ⟨by assumption, by assumption, by assumption, by omega⟩ (Or.inl (by omega))) | (exact Min_new r_WM (by omega) (by omega) (by omega) ⟨by assumption, by assumption, by assumption, by omega⟩ (Or.inr (by omega))) | (exact Min_keep r_WM (by omega) (by omega) (by omega) (by omega)) | (exact Min_skip r_WM (by omega) (by omega) (fun z => absurd (by assumption) z.1)) | (exact Min_skip r_WM (by omega) (by omega) (fun z => absurd z.2.1 (by assumption))) | (exact Min_skip r_WM (by omega) (by omega) (fun z => absurd (by assumption) z.2.2.1)) | (exact Min_skip r_WM (by omega) (by omega) (fun z => by have z1 := z.2.2.2; omega)) | (exfalso; omega; done) | (exfalso; contradiction; done))
      · skip
        have g18 := i_ne h11
        have hg19 : (0 ≤ l4 ∧ l4.toNatClampNeg < 3100) := i_ix (by omega) (by omega)
        refine ⟨hg19, ?_⟩
        first | have f20 : 0 ≤ (m 110 l4.toNatClampNeg).toInt ∧ (m 110 l4.toNatClampNeg).toInt ≤ 1 := ra_110 (m := m) hV (k := l4.toNatClampNeg) (i_ix (n := 3100) (by omega) (by omega)).2 | have b21 := i_bd (m 110 l4.toNatClampNeg)
        refine zd (fun (h22 : (m 110 l4.toNatClampNeg) = (0 : Int32)) => ?_) (fun (h22 : ¬ (m 110 l4.toNatClampNeg) = (0 : Int32)) => ?_)
        · skip
          have g23 := i_eq h22
          have hg24 : (0 ≤ l4 ∧ l4.toNatClampNeg < 3100) := i_ix (by omega) (by omega)
          refine ⟨hg24, ?_⟩
          first | have f25 : 0 ≤ (m 109 l4.toNatClampNeg).toInt ∧ (m 109 l4.toNatClampNeg).toInt ≤ 1 := ra_109 (m := m) hV (k := l4.toNatClampNeg) (i_ix (n := 3100) (by omega) (by omega)).2 | have b26 := i_bd (m 109 l4.toNatClampNeg)
          refine zd (fun (h27 : (m 109 l4.toNatClampNeg) = (0 : Int32)) => ?_) (fun (h27 : ¬ (m 109 l4.toNatClampNeg) = (0 : Int32)) => ?_)
          · skip
            have g28 := i_eq h27
            have b29 := i_bd l1
            have b30 := i_bd l2
            have b31 := i_bd l3
            first | have e32 : (l4 + (1 : Int32)).toInt = l4.toInt + (1) := i_addk rfl (by omega) (by omega) | have b33 := i_bd (l4 + (1 : Int32))
            exact IH (3100 - (l4 + (1 : Int32)).toInt).toNat (by omega) _ (l1) (l2) (l3) ((l4 + (1 : Int32))) rfl hF hV (by omega) (by omega) (by omega) (by omega) r_LN (by omega) (by omega) r_WS (show qMin (qCw (m 99) (m 110) (m 109) (m 100) l1) (m 100) l3 (l4 + (1 : Int32)).toInt from by first | (exact Min_0 (by decide) (by decide)) | (rw [← r_LN]; exact (show l4.toInt = 3100 from by omega) ▸ r_WM; done) | (exact Min_new r_WM (by omega) (by omega) (by omega) ⟨by assumption, by assumption, by assumption, by omega⟩ (Or.inl (by omega))) | (exact Min_new r_WM (by omega) (by omega) (by omega) ⟨by assumption, by assumption, by assumption, by omega⟩ (Or.inr (by omega))) | (exact Min_keep r_WM (by omega) (by omega) (by omega) (by omega)) | (exact Min_skip r_WM (by omega) (by omega) (fun z => absurd (by assumption) z.1)) | (exact Min_skip r_WM (by omega) (by omega) (fun z => absurd z.2.1 (by assumption))) | (exact Min_skip r_WM (by omega) (by omega) (fun z => absurd (by assumption) z.2.2.1)) | (exact Min_skip r_WM (by omega) (by omega) (fun z => by have z1 := z.2.2.2; omega)) | (exfalso; omega; done) | (exfalso; contradiction; done))
          · skip
            have g34 := i_ne h27
            have hg35 : (0 ≤ l4 ∧ l4.toNatClampNeg < 3100) := i_ix (by omega) (by omega)
            refine ⟨hg35, ?_⟩
            first | have f36 : 0 ≤ (m 100 l4.toNatClampNeg).toInt ∧ (m 100 l4.toNatClampNeg).toInt ≤ 100000 := ra_100 (m := m) hV (k := l4.toNatClampNeg) (i_ix (n := 3100) (by omega) (by omega)).2 | have b37 := i_bd (m 100 l4.toNatClampNeg)
            have b38 := i_bd l1
            refine zd (fun (h39 : (m 100 l4.toNatClampNeg) ≤ l1) => ?_) (fun (h39 : ¬ (m 100 l4.toNatClampNeg) ≤ l1) => ?_)
            · skip
              have g40 := i_le h39
              have b41 := i_bd l2
              have b42 := i_bd l3
              first | have e43 : (l4 + (1 : Int32)).toInt = l4.toInt + (1) := i_addk rfl (by omega) (by omega) | have b44 := i_bd (l4 + (1 : Int32))
              exact IH (3100 - (l4 + (1 : Int32)).toInt).toNat (by omega) _ (l1) (l2) (l3) ((l4 + (1 : Int32))) rfl hF hV (by omega) (by omega) (by omega) (by omega) r_LN (by omega) (by omega) r_WS (show qMin (qCw (m 99) (m 110) (m 109) (m 100) l1) (m 100) l3 (l4 + (1 : Int32)).toInt from by first | (exact Min_0 (by decide) (by decide)) | (rw [← r_LN]; exact (show l4.toInt = 3100 from by omega) ▸ r_WM; done) | (exact Min_new r_WM (by omega) (by omega) (by omega) ⟨by assumption, by assumption, by assumption, by omega⟩ (Or.inl (by omega))) | (exact Min_new r_WM (by omega) (by omega) (by omega) ⟨by assumption, by assumption, by assumption, by omega⟩ (Or.inr (by omega))) | (exact Min_keep r_WM (by omega) (by omega) (by omega) (by omega)) | (exact Min_skip r_WM (by omega) (by omega) (fun z => absurd (by assumption) z.1)) | (exact Min_skip r_WM (by omega) (by omega) (fun z => absurd z.2.1 (by assumption))) | (exact Min_skip r_WM (by omega) (by omega) (fun z => absurd (by assumption) z.2.2.1)) | (exact Min_skip r_WM (by omega) (by omega) (fun z => by have z1 := z.2.2.2; omega)) | (exfalso; omega; done) | (exfalso; contradiction; done))
            · skip
              have g45 := i_nle h39
              have b46 := i_bd l2
              refine zd (fun (h47 : l2 = (0 : Int32)) => ?_) (fun (h47 : ¬ l2 = (0 : Int32)) => ?_)
              · skip
                have g48 := i_eq h47
                have b49 := i_bd l3
                refine zd (fun (h50 : l3 < (0 : Int32)) => ?_) (fun (h50 : ¬ l3 < (0 : Int32)) => ?_)
                · skip
                  have g51 := i_lt h50
                  first | have e52 : (l4 + (1 : Int32)).toInt = l4.toInt + (1) := i_addk rfl (by omega) (by omega) | have b53 := i_bd (l4 + (1 : Int32))
                  exact IH (3100 - (l4 + (1 : Int32)).toInt).toNat (by omega) _ (l1) (l2) (l4) ((l4 + (1 : Int32))) rfl hF hV (by omega) (by omega) (by omega) (by omega) r_LN (by omega) (by omega) (show zWS (m 100) (m 99) (m 110) (m 109) ab l4 from by first | (exact Or.inl (by decide)) | (exact Or.inr ⟨by omega, by omega, by assumption, by assumption, by assumption, by omega⟩) | (exfalso; omega; done) | (exfalso; contradiction; done)) (show qMin (qCw (m 99) (m 110) (m 109) (m 100) l1) (m 100) l4 (l4 + (1 : Int32)).toInt from by first | (exact Min_0 (by decide) (by decide)) | (rw [← r_LN]; exact (show l4.toInt = 3100 from by omega) ▸ r_WM; done) | (exact Min_new r_WM (by omega) (by omega) (by omega) ⟨by assumption, by assumption, by assumption, by omega⟩ (Or.inl (by omega))) | (exact Min_new r_WM (by omega) (by omega) (by omega) ⟨by assumption, by assumption, by assumption, by omega⟩ (Or.inr (by omega))) | (exact Min_keep r_WM (by omega) (by omega) (by omega) (by omega)) | (exact Min_skip r_WM (by omega) (by omega) (fun z => absurd (by assumption) z.1)) | (exact Min_skip r_WM (by omega) (by omega) (fun z => absurd z.2.1 (by assumption))) | (exact Min_skip r_WM (by omega) (by omega) (fun z => absurd (by assumption) z.2.2.1)) | (exact Min_skip r_WM (by omega) (by omega) (fun z => by have z1 := z.2.2.2; omega)) | (exfalso; omega; done) | (exfalso; contradiction; done))
                · skip
                  have g54 := i_nlt h50
                  have hg55 : (0 ≤ l4 ∧ l4.toNatClampNeg < 3100) := i_ix (by omega) (by omega)
                  refine ⟨hg55, ?_⟩
                  have hg56 : (0 ≤ l3 ∧ l3.toNatClampNeg < 3100) := i_ix (by omega) (by omega)
                  refine ⟨hg56, ?_⟩
                  first | have f57 : 0 ≤ (m 100 l3.toNatClampNeg).toInt ∧ (m 100 l3.toNatClampNeg).toInt ≤ 100000 := ra_100 (m := m) hV (k := l3.toNatClampNeg) (i_ix (n := 3100) (by omega) (by omega)).2 | have b58 := i_bd (m 100 l3.toNatClampNeg)
                  refine zd (fun (h59 : (m 100 l3.toNatClampNeg) ≤ (m 100 l4.toNatClampNeg)) => ?_) (fun (h59 : ¬ (m 100 l3.toNatClampNeg) ≤ (m 100 l4.toNatClampNeg)) => ?_)
                  · skip
                    have g60 := i_le h59
                    first | have e61 : (l4 + (1 : Int32)).toInt = l4.toInt + (1) := i_addk rfl (by omega) (by omega) | have b62 := i_bd (l4 + (1 : Int32))
                    exact IH (3100 - (l4 + (1 : Int32)).toInt).toNat (by omega) _ (l1) (l2) (l3) ((l4 + (1 : Int32))) rfl hF hV (by omega) (by omega) (by omega) (by omega) r_LN (by omega) (by omega) r_WS (show qMin (qCw (m 99) (m 110) (m 109) (m 100) l1) (m 100) l3 (l4 + (1 : Int32)).toInt from by first | (exact Min_0 (by decide) (by decide)) | (rw [← r_LN]; exact (show l4.toInt = 3100 from by omega) ▸ r_WM; done) | (exact Min_new r_WM (by omega) (by omega) (by omega) ⟨by assumption, by assumption, by assumption, by omega⟩ (Or.inl (by omega))) | (exact Min_new r_WM (by omega) (by omega) (by omega) ⟨by assumption, by assumption, by assumption, by omega⟩ (Or.inr (by omega))) | (exact Min_keep r_WM (by omega) (by omega) (by omega) (by omega)) | (exact Min_skip r_WM (by omega) (by omega) (fun z => absurd (by assumption) z.1)) | (exact Min_skip r_WM (by omega) (by omega) (fun z => absurd z.2.1 (by assumption))) | (exact Min_skip r_WM (by omega) (by omega) (fun z => absurd (by assumption) z.2.2.1)) | (exact Min_skip r_WM (by omega) (by omega) (fun z => by have z1 := z.2.2.2; omega)) | (exfalso; omega; done) | (exfalso; contradiction; done))
                  · skip
                    have g63 := i_nle h59
                    first | have e64 : (l4 + (1 : Int32)).toInt = l4.toInt + (1) := i_addk rfl (by omega) (by omega) | have b65 := i_bd (l4 + (1 : Int32))
                    exact IH (3100 - (l4 + (1 : Int32)).toInt).toNat (by omega) _ (l1) (l2) (l4) ((l4 + (1 : Int32))) rfl hF hV (by omega) (by omega) (by omega) (by omega) r_LN (by omega) (by omega) (show zWS (m 100) (m 99) (m 110) (m 109) ab l4 from by first | (exact Or.inl (by decide)) | (exact Or.inr ⟨by omega, by omega, by assumption, by assumption, by assumption, by omega⟩) | (exfalso; omega; done) | (exfalso; contradiction; done)) (show qMin (qCw (m 99) (m 110) (m 109) (m 100) l1) (m 100) l4 (l4 + (1 : Int32)).toInt from by first | (exact Min_0 (by decide) (by decide)) | (rw [← r_LN]; exact (show l4.toInt = 3100 from by omega) ▸ r_WM; done) | (exact Min_new r_WM (by omega) (by omega) (by omega) ⟨by assumption, by assumption, by assumption, by omega⟩ (Or.inl (by omega))) | (exact Min_new r_WM (by omega) (by omega) (by omega) ⟨by assumption, by assumption, by assumption, by omega⟩ (Or.inr (by omega))) | (exact Min_keep r_WM (by omega) (by omega) (by omega) (by omega)) | (exact Min_skip r_WM (by omega) (by omega) (fun z => absurd (by assumption) z.1)) | (exact Min_skip r_WM (by omega) (by omega) (fun z => absurd z.2.1 (by assumption))) | (exact Min_skip r_WM (by omega) (by omega) (fun z => absurd (by assumption) z.2.2.1)) | (exact Min_skip r_WM (by omega) (by omega) (fun z => by have z1 := z.2.2.2; omega)) | (exfalso; omega; done) | (exfalso; contradiction; done))
              · skip
                have g66 := i_ne h47
                have hg67 : (0 ≤ l4 ∧ l4.toNatClampNeg < 3100) := i_ix (by omega) (by omega)
                refine ⟨hg67, ?_⟩
                have f68 : 0 ≤ (m 94 14).toInt ∧ (m 94 14).toInt ≤ 1500 := rs_94_14 (m := m) hV
                first | have f69 : 0 ≤ (m 103 l4.toNatClampNeg).toInt ∧ (m 103 l4.toNatClampNeg).toInt ≤ 4599 := ra_103 (m := m) hV (k := l4.toNatClampNeg) (i_ix (n := 3100) (by omega) (by omega)).2 | have b70 := i_bd (m 103 l4.toNatClampNeg)
                refine zd (fun (h71 : (m 94 14) ≤ (m 103 l4.toNatClampNeg)) => ?_) (fun (h71 : ¬ (m 94 14) ≤ (m 103 l4.toNatClampNeg)) => ?_)
                · skip
                  have g72 := i_le h71
                  have b73 := i_bd l3
                  refine zd (fun (h74 : l3 < (0 : Int32)) => ?_) (fun (h74 : ¬ l3 < (0 : Int32)) => ?_)
                  · skip
                    have g75 := i_lt h74
                    first | have e76 : (l4 + (1 : Int32)).toInt = l4.toInt + (1) := i_addk rfl (by omega) (by omega) | have b77 := i_bd (l4 + (1 : Int32))
                    exact IH (3100 - (l4 + (1 : Int32)).toInt).toNat (by omega) _ (l1) (l2) (l4) ((l4 + (1 : Int32))) rfl hF hV (by omega) (by omega) (by omega) (by omega) r_LN (by omega) (by omega) (show zWS (m 100) (m 99) (m 110) (m 109) ab l4 from by first | (exact Or.inl (by decide)) | (exact Or.inr ⟨by omega, by omega, by assumption, by assumption, by assumption, by omega⟩) | (exfalso; omega; done) | (exfalso; contradiction; done)) (show qMin (qCw (m 99) (m 110) (m 109) (m 100) l1) (m 100) l4 (l4 + (1 : Int32)).toInt from by first | (exact Min_0 (by decide) (by decide)) | (rw [← r_LN]; exact (show l4.toInt = 3100 from by omega) ▸ r_WM; done) | (exact Min_new r_WM (by omega) (by omega) (by omega) ⟨by assumption, by assumption, by assumption, by omega⟩ (Or.inl (by omega))) | (exact Min_new r_WM (by omega) (by omega) (by omega) ⟨by assumption, by assumption, by assumption, by omega⟩ (Or.inr (by omega))) | (exact Min_keep r_WM (by omega) (by omega) (by omega) (by omega)) | (exact Min_skip r_WM (by omega) (by omega) (fun z => absurd (by assumption) z.1)) | (exact Min_skip r_WM (by omega) (by omega) (fun z => absurd z.2.1 (by assumption))) | (exact Min_skip r_WM (by omega) (by omega) (fun z => absurd (by assumption) z.2.2.1)) | (exact Min_skip r_WM (by omega) (by omega) (fun z => by have z1 := z.2.2.2; omega)) | (exfalso; omega; done) | (exfalso; contradiction; done))
                  · skip
                    have g78 := i_nlt h74
                    have hg79 : (0 ≤ l4 ∧ l4.toNatClampNeg < 3100) := i_ix (by omega) (by omega)
                    refine ⟨hg79, ?_⟩
                    have hg80 : (0 ≤ l3 ∧ l3.toNatClampNeg < 3100) := i_ix (by omega) (by omega)
                    refine ⟨hg80, ?_⟩
                    first | have f81 : 0 ≤ (m 100 l3.toNatClampNeg).toInt ∧ (m 100 l3.toNatClampNeg).toInt ≤ 100000 := ra_100 (m := m) hV (k := l3.toNatClampNeg) (i_ix (n := 3100) (by omega) (by omega)).2 | have b82 := i_bd (m 100 l3.toNatClampNeg)
                    refine zd (fun (h83 : (m 100 l3.toNatClampNeg) ≤ (m 100 l4.toNatClampNeg)) => ?_) (fun (h83 : ¬ (m 100 l3.toNatClampNeg) ≤ (m 100 l4.toNatClampNeg)) => ?_)
                    · skip
                      have g84 := i_le h83
                      first | have e85 : (l4 + (1 : Int32)).toInt = l4.toInt + (1) := i_addk rfl (by omega) (by omega) | have b86 := i_bd (l4 + (1 : Int32))
                      exact IH (3100 - (l4 + (1 : Int32)).toInt).toNat (by omega) _ (l1) (l2) (l3) ((l4 + (1 : Int32))) rfl hF hV (by omega) (by omega) (by omega) (by omega) r_LN (by omega) (by omega) r_WS (show qMin (qCw (m 99) (m 110) (m 109) (m 100) l1) (m 100) l3 (l4 + (1 : Int32)).toInt from by first | (exact Min_0 (by decide) (by decide)) | (rw [← r_LN]; exact (show l4.toInt = 3100 from by omega) ▸ r_WM; done) | (exact Min_new r_WM (by omega) (by omega) (by omega) ⟨by assumption, by assumption, by assumption, by omega⟩ (Or.inl (by omega))) | (exact Min_new r_WM (by omega) (by omega) (by omega) ⟨by assumption, by assumption, by assumption, by omega⟩ (Or.inr (by omega))) | (exact Min_keep r_WM (by omega) (by omega) (by omega) (by omega)) | (exact Min_skip r_WM (by omega) (by omega) (fun z => absurd (by assumption) z.1)) | (exact Min_skip r_WM (by omega) (by omega) (fun z => absurd z.2.1 (by assumption))) | (exact Min_skip r_WM (by omega) (by omega) (fun z => absurd (by assumption) z.2.2.1)) | (exact Min_skip r_WM (by omega) (by omega) (fun z => by have z1 := z.2.2.2; omega)) | (exfalso; omega; done) | (exfalso; contradiction; done))
                    · skip
                      have g87 := i_nle h83
                      first | have e88 : (l4 + (1 : Int32)).toInt = l4.toInt + (1) := i_addk rfl (by omega) (by omega) | have b89 := i_bd (l4 + (1 : Int32))
                      exact IH (3100 - (l4 + (1 : Int32)).toInt).toNat (by omega) _ (l1) (l2) (l4) ((l4 + (1 : Int32))) rfl hF hV (by omega) (by omega) (by omega) (by omega) r_LN (by omega) (by omega) (show zWS (m 100) (m 99) (m 110) (m 109) ab l4 from by first | (exact Or.inl (by decide)) | (exact Or.inr ⟨by omega, by omega, by assumption, by assumption, by assumption, by omega⟩) | (exfalso; omega; done) | (exfalso; contradiction; done)) (show qMin (qCw (m 99) (m 110) (m 109) (m 100) l1) (m 100) l4 (l4 + (1 : Int32)).toInt from by first | (exact Min_0 (by decide) (by decide)) | (rw [← r_LN]; exact (show l4.toInt = 3100 from by omega) ▸ r_WM; done) | (exact Min_new r_WM (by omega) (by omega) (by omega) ⟨by assumption, by assumption, by assumption, by omega⟩ (Or.inl (by omega))) | (exact Min_new r_WM (by omega) (by omega) (by omega) ⟨by assumption, by assumption, by assumption, by omega⟩ (Or.inr (by omega))) | (exact Min_keep r_WM (by omega) (by omega) (by omega) (by omega)) | (exact Min_skip r_WM (by omega) (by omega) (fun z => absurd (by assumption) z.1)) | (exact Min_skip r_WM (by omega) (by omega) (fun z => absurd z.2.1 (by assumption))) | (exact Min_skip r_WM (by omega) (by omega) (fun z => absurd (by assumption) z.2.2.1)) | (exact Min_skip r_WM (by omega) (by omega) (fun z => by have z1 := z.2.2.2; omega)) | (exfalso; omega; done) | (exfalso; contradiction; done))
                · skip
                  have g90 := i_nle h71
                  have b91 := i_bd l3
                  first | have e92 : (l4 + (1 : Int32)).toInt = l4.toInt + (1) := i_addk rfl (by omega) (by omega) | have b93 := i_bd (l4 + (1 : Int32))
                  exact IH (3100 - (l4 + (1 : Int32)).toInt).toNat (by omega) _ (l1) (l2) (l3) ((l4 + (1 : Int32))) rfl hF hV (by omega) (by omega) (by omega) (by omega) r_LN (by omega) (by omega) r_WS (show qMin (qCw (m 99) (m 110) (m 109) (m 100) l1) (m 100) l3 (l4 + (1 : Int32)).toInt from by first | (exact Min_0 (by decide) (by decide)) | (rw [← r_LN]; exact (show l4.toInt = 3100 from by omega) ▸ r_WM; done) | (exact Min_new r_WM (by omega) (by omega) (by omega) ⟨by assumption, by assumption, by assumption, by omega⟩ (Or.inl (by omega))) | (exact Min_new r_WM (by omega) (by omega) (by omega) ⟨by assumption, by assumption, by assumption, by omega⟩ (Or.inr (by omega))) | (exact Min_keep r_WM (by omega) (by omega) (by omega) (by omega)) | (exact Min_skip r_WM (by omega) (by omega) (fun z => absurd (by assumption) z.1)) | (exact Min_skip r_WM (by omega) (by omega) (fun z => absurd z.2.1 (by assumption))) | (exact Min_skip r_WM (by omega) (by omega) (fun z => absurd (by assumption) z.2.2.1)) | (exact Min_skip r_WM (by omega) (by omega) (fun z => by have z1 := z.2.2.2; omega)) | (exfalso; omega; done) | (exfalso; contradiction; done))
        · skip
          have g94 := i_ne h22
          have b95 := i_bd l1
          have b96 := i_bd l2
          have b97 := i_bd l3
          first | have e98 : (l4 + (1 : Int32)).toInt = l4.toInt + (1) := i_addk rfl (by omega) (by omega) | have b99 := i_bd (l4 + (1 : Int32))
          exact IH (3100 - (l4 + (1 : Int32)).toInt).toNat (by omega) _ (l1) (l2) (l3) ((l4 + (1 : Int32))) rfl hF hV (by omega) (by omega) (by omega) (by omega) r_LN (by omega) (by omega) r_WS (show qMin (qCw (m 99) (m 110) (m 109) (m 100) l1) (m 100) l3 (l4 + (1 : Int32)).toInt from by first | (exact Min_0 (by decide) (by decide)) | (rw [← r_LN]; exact (show l4.toInt = 3100 from by omega) ▸ r_WM; done) | (exact Min_new r_WM (by omega) (by omega) (by omega) ⟨by assumption, by assumption, by assumption, by omega⟩ (Or.inl (by omega))) | (exact Min_new r_WM (by omega) (by omega) (by omega) ⟨by assumption, by assumption, by assumption, by omega⟩ (Or.inr (by omega))) | (exact Min_keep r_WM (by omega) (by omega) (by omega) (by omega)) | (exact Min_skip r_WM (by omega) (by omega) (fun z => absurd (by assumption) z.1)) | (exact Min_skip r_WM (by omega) (by omega) (fun z => absurd z.2.1 (by assumption))) | (exact Min_skip r_WM (by omega) (by omega) (fun z => absurd (by assumption) z.2.2.1)) | (exact Min_skip r_WM (by omega) (by omega) (fun z => by have z1 := z.2.2.2; omega)) | (exfalso; omega; done) | (exfalso; contradiction; done))
theorem sp_195r {X : Nat × (Nat → Int32)} {P : Option ma_V → (Nat → Nat → Int32) → Prop} {m : Nat → Nat → Int32} (ab : Int32) (yo : Int32) (hV : zV m) (hpre0 : yo.toInt = 0) (KZ : ∀ v m₉, zV (zov wr_195 m m₉) → (zWS (m 100) (m 99) (m 110) (m 109) ab v) → (qMin (qCw (m 99) (m 110) (m 109) (m 100) ab) (m 100) v 3100) → P (some (.inl v)) (zov wr_195 m m₉)) : zm X 1 21 195 0 [(0, .inr (.inr (some 94))), (1, .inl ab), (2, .inl yo)] m P := by
  have K : ∀ v m₉, zF wr_195 m m₉ → zV m₉ → (zWS (m₉ 100) (m₉ 99) (m₉ 110) (m₉ 109) ab v) → (qMin (qCw (m₉ 99) (m₉ 110) (m₉ 109) (m₉ 100) ab) (m₉ 100) v 3100) → P (some (.inl v)) m₉ := by
    intro v m₉ hf z q0 q1
    have e := zov_eq hf
    rw [e] at z ⊢
    try rw [e] at q0
    try rw [e] at q1
    exact KZ v m₉ z q0 q1
  refine g_195_0 ab yo ?_
  have b1 := i_bd ab
  have b2 := i_bd yo
  have li3 : (-1 : Int32).toInt = -1 := rfl
  have li4 : (0 : Int32).toInt = 0 := rfl
  exact lp_195r_5 (ab := ab) (yo := yo) hV K _ _ (ab) (yo) ((-1 : Int32)) ((0 : Int32)) rfl zF_rfl hV (by omega) (by omega) (by omega) (by omega) (show ab = ab from by first | (exact rfl) | (exfalso; omega; done) | (exfalso; contradiction; done)) (by omega) (by omega) (show zWS (m 100) (m 99) (m 110) (m 109) ab (-1 : Int32) from by first | (exact Or.inl (by decide)) | (exact Or.inr ⟨by omega, by omega, by assumption, by assumption, by assumption, by omega⟩) | (exfalso; omega; done) | (exfalso; contradiction; done)) (show qMin (qCw (m 99) (m 110) (m 109) (m 100) ab) (m 100) (-1 : Int32) (0 : Int32).toInt from by first | (exact Min_0 (by decide) (by decide)) | (exfalso; omega; done) | (exfalso; contradiction; done))
theorem lp_198r_2 {X : Nat × (Nat → Int32)} {P : Option ma_V → (Nat → Nat → Int32) → Prop} {s : Int32} {m0 : Nat → Nat → Int32} (h0 : zV m0) (K : ∀ m₉, zF wr_198 m0 m₉ → zV m₉ → (zuw (m0 113) (m₉ 113)) → (qUn (m0 113) (m₉ 113) s 16) → P none m₉) : ∀ (n : Nat) (m : Nat → Nat → Int32) (l1 : Int32) (l2 : Int32), (16 - l2.toInt).toNat = n → zF wr_198 m0 m → zV m → (0 ≤ l2.toInt) → (l2.toInt ≤ 16) → (l1 = s) → (zuw (m0 113) (m 113)) → (qUn (m0 113) (m 113) s l2.toInt) → zm X 0 0 198 2 [(0, .inr (.inr (some 94))), (1, .inl l1), (2, .inl l2)] m P := by
  intro n
  induction n using Nat.strongRecOn with
  | _ n IH =>
    intro m l1 l2 hmu hF hV hi0 hi1 r_LN r_UW r_UN
    refine g_198_2 l1 l2 ?_
    have li1 : (16 : Int32).toInt = 16 := rfl
    have b2 := i_bd l2
    refine zd (fun (h3 : (16 : Int32) ≤ l2) => ?_) (fun (h3 : ¬ (16 : Int32) ≤ l2) => ?_)
    · skip
      have g4 := i_le h3
      exact K _ hF hV r_UW (show qUn (m0 113) (m 113) s 16 from by first | (exact Un_0 (by decide)) | (exact Un_n r_UN (by omega) (by omega) (by rw [← r_LN]; assumption)) | (exact (show l2.toInt = 16 from by omega) ▸ r_UN) | (exfalso; omega; done) | (exfalso; contradiction; done))
    · skip
      have g5 := i_nle h3
      have hg6 : (0 ≤ l2 ∧ l2.toNatClampNeg < 16) := i_ix (by omega) (by omega)
      refine ⟨hg6, ?_⟩
      first | have f7 : -1 ≤ (m 113 l2.toNatClampNeg).toInt ∧ (m 113 l2.toNatClampNeg).toInt ≤ 3099 := ra_113 (m := m) hV (k := l2.toNatClampNeg) (i_ix (n := 16) (by omega) (by omega)).2 | have b8 := i_bd (m 113 l2.toNatClampNeg)
      have b9 := i_bd l1
      refine zd (fun (h10 : (m 113 l2.toNatClampNeg) = l1) => ?_) (fun (h10 : ¬ (m 113 l2.toNatClampNeg) = l1) => ?_)
      · skip
        have g11 := i_eq h10
        have hg12 : (0 ≤ l2 ∧ l2.toNatClampNeg < 16) := i_ix (by omega) (by omega)
        refine ⟨hg12, ?_⟩
        have li14 : (-1 : Int32).toInt = -1 := rfl
        have hV13 : zV (ma_u m 113 l2.toNatClampNeg (-1 : Int32)) := ua_113 hV (by omega) (by omega)
        first | have e15 : (l2 + (1 : Int32)).toInt = l2.toInt + (1) := i_addk rfl (by omega) (by omega) | have b16 := i_bd (l2 + (1 : Int32))
        exact IH (16 - (l2 + (1 : Int32)).toInt).toNat (by omega) _ (l1) ((l2 + (1 : Int32))) rfl (zF_u hF rfl) hV13 (by omega) (by omega) r_LN (show zuw (m0 113) ((ma_u m 113 l2.toNatClampNeg (-1 : Int32)) 113) from by first | (exact zuw_put r_UW (by decide)) | (exfalso; omega; done) | (exfalso; contradiction; done)) (show qUn (m0 113) ((ma_u m 113 l2.toNatClampNeg (-1 : Int32)) 113) s (l2 + (1 : Int32)).toInt from by first | (exact Un_y r_UN (by omega) (by omega) (by rw [← r_LN]; assumption)) | (exfalso; omega; done) | (exfalso; contradiction; done))
      · skip
        have g17 := i_ne h10
        first | have e18 : (l2 + (1 : Int32)).toInt = l2.toInt + (1) := i_addk rfl (by omega) (by omega) | have b19 := i_bd (l2 + (1 : Int32))
        exact IH (16 - (l2 + (1 : Int32)).toInt).toNat (by omega) _ (l1) ((l2 + (1 : Int32))) rfl hF hV (by omega) (by omega) r_LN r_UW (show qUn (m0 113) (m 113) s (l2 + (1 : Int32)).toInt from by first | (exact Un_0 (by decide)) | (exact Un_n r_UN (by omega) (by omega) (by rw [← r_LN]; assumption)) | (exact (show l2.toInt = 16 from by omega) ▸ r_UN) | (exfalso; omega; done) | (exfalso; contradiction; done))
theorem sp_198r {X : Nat × (Nat → Int32)} {P : Option ma_V → (Nat → Nat → Int32) → Prop} {m : Nat → Nat → Int32} (s : Int32) (hV : zV m)  (KZ : ∀ m₉, zV (zov wr_198 m m₉) → (zuw (m 113) (m₉ 113)) → (qUn (m 113) (m₉ 113) s 16) → P none (zov wr_198 m m₉)) : zm X 0 0 198 0 [(0, .inr (.inr (some 94))), (1, .inl s)] m P := by
  have K : ∀ m₉, zF wr_198 m m₉ → zV m₉ → (zuw (m 113) (m₉ 113)) → (qUn (m 113) (m₉ 113) s 16) → P none m₉ := by
    intro m₉ hf z q0 q1
    have e := zov_eq hf
    rw [e] at z ⊢
    try rw [e] at q0
    try rw [e] at q1
    exact KZ m₉ z q0 q1
  refine g_198_0 s ?_
  have b1 := i_bd s
  have li2 : (0 : Int32).toInt = 0 := rfl
  exact lp_198r_2 (s := s) hV K _ _ (s) ((0 : Int32)) rfl zF_rfl hV (by omega) (by omega) (show s = s from by first | (exact rfl) | (exfalso; omega; done) | (exfalso; contradiction; done)) (show zuw (m 113) (m 113) from by first | (exact zuw_rfl) | (exfalso; omega; done) | (exfalso; contradiction; done)) (show qUn (m 113) (m 113) s (0 : Int32).toInt from by first | (exact Un_0 (by decide)) | (exfalso; omega; done) | (exfalso; contradiction; done))

