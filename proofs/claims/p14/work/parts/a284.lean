/-! from 95.v05 -/
/-! AGES, the reference (written by wip/tools/gen15v.py) -/
theorem lp_195ry_5 {X : Nat × (Nat → Int32)} {P : Option ma_V → (Nat → Nat → Int32) → Prop} {ab : Int32} {yo : Int32} {m0 : Nat → Nat → Int32} (h0 : zV m0) (K : ∀ v m₉, zF wr_195 m0 m₉ → zV m₉ → (zWS (m₉ 100) (m₉ 99) (m₉ 110) (m₉ 109) ab v) → (qMin (qCw (m₉ 99) (m₉ 110) (m₉ 109) (m₉ 100) ab) (m₉ 100) v 3100) → P (some (.inl v)) m₉) : ∀ (n : Nat) (m : Nat → Nat → Int32) (l1 : Int32) (l2 : Int32) (l3 : Int32) (l4 : Int32), (3100 - l4.toInt).toNat = n → zF wr_195 m0 m → zV m → (0 ≤ l4.toInt) → (l4.toInt ≤ 3100) → (l1.toInt = ab.toInt) → (l2.toInt = 1) → (l1 = ab) → (-1 ≤ l3.toInt) → (l3.toInt ≤ 3099) → (∀ s, s < 3100 → (m 99) s ≠ 0 → (m 110) s = 0 → (m 94 14).toInt ≤ ((m 103) s).toInt) → (zWS (m 100) (m 99) (m 110) (m 109) ab l3) → (qMin (qCw (m 99) (m 110) (m 109) (m 100) l1) (m 100) l3 l4.toInt) → zm X 1 21 195 5 [(0, .inr (.inr (some 94))), (1, .inl l1), (2, .inl l2), (3, .inl l3), (4, .inl l4)] m P := by
  intro n
  induction n using Nat.strongRecOn with
  | _ n IH =>
    intro m l1 l2 l3 l4 hmu hF hV hi0 hi1 hi2 hi3 r_LN hi5 hi6 r_KO r_WS r_WM
    refine g_195_5 l1 l2 l3 l4 ?_
    have li1 : (3100 : Int32).toInt = 3100 := rfl
    have b2 := i_bd l4
    refine zd (fun (h3 : (3100 : Int32) ≤ l4) => ?_) (fun (h3 : ¬ (3100 : Int32) ≤ l4) => ?_)
    · skip
      have g4 := i_le h3
      have b5 := i_bd l3
      exact K (l3) _ hF hV r_WS (show qMin (qCw (m 99) (m 110) (m 109) (m 100) ab) (m 100) l3 3100 from by first | (exact Min_0 (by decide) (by decide)) | (rw [← r_LN]; exact (show l4.toInt = 3100 from by omega) ▸ r_WM; done) | (exact Min_new r_WM (by omega) (by omega) (by omega) ⟨by assumption, by assumption, by assumption, by omega⟩ (Or.inl (by omega))) | (exact Min_new r_WM (by omega) (by omega) (by omega) ⟨by assumption, by assumption, by assumption, by omega⟩ (Or.inr (by omega))) | (exact Min_keep r_WM (by omega) (by omega) (by omega) (by omega)) | (exact Min_skip r_WM (by omega) (by omega) (fun z => absurd (by assumption) z.1)) | (exact Min_skip r_WM (by omega) (by omega) (fun z => absurd z.2.1 (by assumption))) | (exact Min_skip r_WM (by omega) (by omega) (fun z => absurd (by assumption) z.2.2.1)) | (exact Min_skip r_WM (by omega) (by omega) (fun z => by have z1 := z.2.2.2; omega)) | (exact Min_skip r_WM (by omega) (by omega) (fun z => absurd (r_KO _ (tn_lt (by omega) (by omega)) z.1 z.2.1) (by omega))) | (exfalso; omega; done) | (exfalso; contradiction; done))
    · skip
      have g6 := i_nle h3
      have hg7 : (0 ≤ l4 ∧ l4.toNatClampNeg < 3100) := i_ix (by omega) (by omega)
      refine ⟨hg7, ?_⟩
      first | have f8 : 0 ≤ (m 99 l4.toNatClampNeg).toInt ∧ (m 99 l4.toNatClampNeg).toInt ≤ 1 := ra_99 (m := m) hV (k := l4.toNatClampNeg) (i_ix (n := 3100) (by omega) (by omega)).2 | have b9 := i_bd (m 99 l4.toNatClampNeg)
      have li10 : (0 : Int32).toInt = 0 := rfl
      refine zd (fun (h11 : (m 99 l4.toNatClampNeg) = (0 : Int32)) => ?_) (fun (h11 : ¬ (m 99 l4.toNatClampNeg) = (0 : Int32)) => ?_)
      · skip
        have g12 := i_eq h11
        have b13 := i_bd l1
        have b14 := i_bd l2
        have b15 := i_bd l3
        first | have e16 : (l4 + (1 : Int32)).toInt = l4.toInt + (1) := i_addk rfl (by omega) (by omega) | have b17 := i_bd (l4 + (1 : Int32))
        exact IH (3100 - (l4 + (1 : Int32)).toInt).toNat (by omega) _ (l1) (l2) (l3) ((l4 + (1 : Int32))) rfl hF hV (by omega) (by omega) (by omega) (by omega) r_LN (by omega) (by omega) r_KO r_WS (show qMin (qCw (m 99) (m 110) (m 109) (m 100) l1) (m 100) l3 (l4 + (1 : Int32)).toInt from by first | (exact Min_0 (by decide) (by decide)) | (rw [← r_LN]; exact (show l4.toInt = 3100 from by omega) ▸ r_WM; done) | (exact Min_new r_WM (by omega) (by omega) (by omega) ⟨by assumption, by assumption, by assumption, by omega⟩ (Or.inl (by omega))) | (exact Min_new r_WM (by omega) (by omega) (by omega) ⟨by assumption, by assumption, by assumption, by omega⟩ (Or.inr (by omega))) | (exact Min_keep r_WM (by omega) (by omega) (by omega) (by omega)) | (exact Min_skip r_WM (by omega) (by omega) (fun z => absurd (by assumption) z.1)) | (exact Min_skip r_WM (by omega) (by omega) (fun z => absurd z.2.1 (by assumption))) | (exact Min_skip r_WM (by omega) (by omega) (fun z => absurd (by assumption) z.2.2.1)) | (exact Min_skip r_WM (by omega) (by omega) (fun z => by have z1 := z.2.2.2; omega)) | (exact Min_skip r_WM (by omega) (by omega) (fun z => absurd (r_KO _ (tn_lt (by omega) (by omega)) z.1 z.2.1) (by omega))) | (exfalso; omega; done) | (exfalso; contradiction; done))
      · skip
        have g18 := i_ne h11
        have hg19 : (0 ≤ l4 ∧ l4.toNatClampNeg < 3100) := i_ix (by omega) (by omega)
        refine ⟨hg19, ?_⟩
        first | have f20 : 0 ≤ (m 110 l4.toNatClampNeg).toInt ∧ (m 110 l4.toNatClampNeg).toInt ≤ 1 := ra_110 (m := m) hV (k := l4.toNatClampNeg) (i_ix (n := 3100) (by omega) (by omega)).2 | have b21 := i_bd (m 110 l4.toNatClampNeg)
        refine zd (fun (h22 : (m 110 l4.toNatClampNeg) = (0 : Int32)) => ?_) (fun (h22 : ¬ (m 110 l4.toNatClampNeg) = (0 : Int32)) => ?_)
        · skip
          have g23 := i_eq h22
          have hg24 : (0 ≤ l4 ∧ l4.toNatClampNeg < 3100) := i_ix (by omega) (by omega)
          refine ⟨hg24, ?_⟩
          first | have f25 : 0 ≤ (m 109 l4.toNatClampNeg).toInt ∧ (m 109 l4.toNatClampNeg).toInt ≤ 1 := ra_109 (m := m) hV (k := l4.toNatClampNeg) (i_ix (n := 3100) (by omega) (by omega)).2 | have b26 := i_bd (m 109 l4.toNatClampNeg)
          refine zd (fun (h27 : (m 109 l4.toNatClampNeg) = (0 : Int32)) => ?_) (fun (h27 : ¬ (m 109 l4.toNatClampNeg) = (0 : Int32)) => ?_)
          · skip
            have g28 := i_eq h27
            have b29 := i_bd l1
            have b30 := i_bd l2
            have b31 := i_bd l3
            first | have e32 : (l4 + (1 : Int32)).toInt = l4.toInt + (1) := i_addk rfl (by omega) (by omega) | have b33 := i_bd (l4 + (1 : Int32))
            exact IH (3100 - (l4 + (1 : Int32)).toInt).toNat (by omega) _ (l1) (l2) (l3) ((l4 + (1 : Int32))) rfl hF hV (by omega) (by omega) (by omega) (by omega) r_LN (by omega) (by omega) r_KO r_WS (show qMin (qCw (m 99) (m 110) (m 109) (m 100) l1) (m 100) l3 (l4 + (1 : Int32)).toInt from by first | (exact Min_0 (by decide) (by decide)) | (rw [← r_LN]; exact (show l4.toInt = 3100 from by omega) ▸ r_WM; done) | (exact Min_new r_WM (by omega) (by omega) (by omega) ⟨by assumption, by assumption, by assumption, by omega⟩ (Or.inl (by omega))) | (exact Min_new r_WM (by omega) (by omega) (by omega) ⟨by assumption, by assumption, by assumption, by omega⟩ (Or.inr (by omega))) | (exact Min_keep r_WM (by omega) (by omega) (by omega) (by omega)) | (exact Min_skip r_WM (by omega) (by omega) (fun z => absurd (by assumption) z.1)) | (exact Min_skip r_WM (by omega) (by omega) (fun z => absurd z.2.1 (by assumption))) | (exact Min_skip r_WM (by omega) (by omega) (fun z => absurd (by assumption) z.2.2.1)) | (exact Min_skip r_WM (by omega) (by omega) (fun z => by have z1 := z.2.2.2; omega)) | (exact Min_skip r_WM (by omega) (by omega) (fun z => absurd (r_KO _ (tn_lt (by omega) (by omega)) z.1 z.2.1) (by omega))) | (exfalso; omega; done) | (exfalso; contradiction; done))
          · skip
            have g34 := i_ne h27
            have hg35 : (0 ≤ l4 ∧ l4.toNatClampNeg < 3100) := i_ix (by omega) (by omega)
            refine ⟨hg35, ?_⟩
            first | have f36 : 0 ≤ (m 100 l4.toNatClampNeg).toInt ∧ (m 100 l4.toNatClampNeg).toInt ≤ 100000 := ra_100 (m := m) hV (k := l4.toNatClampNeg) (i_ix (n := 3100) (by omega) (by omega)).2 | have b37 := i_bd (m 100 l4.toNatClampNeg)
            have b38 := i_bd l1
            refine zd (fun (h39 : (m 100 l4.toNatClampNeg) ≤ l1) => ?_) (fun (h39 : ¬ (m 100 l4.toNatClampNeg) ≤ l1) => ?_)
            · skip
              have g40 := i_le h39
              have b41 := i_bd l2
              have b42 := i_bd l3
              first | have e43 : (l4 + (1 : Int32)).toInt = l4.toInt + (1) := i_addk rfl (by omega) (by omega) | have b44 := i_bd (l4 + (1 : Int32))
              exact IH (3100 - (l4 + (1 : Int32)).toInt).toNat (by omega) _ (l1) (l2) (l3) ((l4 + (1 : Int32))) rfl hF hV (by omega) (by omega) (by omega) (by omega) r_LN (by omega) (by omega) r_KO r_WS (show qMin (qCw (m 99) (m 110) (m 109) (m 100) l1) (m 100) l3 (l4 + (1 : Int32)).toInt from by first | (exact Min_0 (by decide) (by decide)) | (rw [← r_LN]; exact (show l4.toInt = 3100 from by omega) ▸ r_WM; done) | (exact Min_new r_WM (by omega) (by omega) (by omega) ⟨by assumption, by assumption, by assumption, by omega⟩ (Or.inl (by omega))) | (exact Min_new r_WM (by omega) (by omega) (by omega) ⟨by assumption, by assumption, by assumption, by omega⟩ (Or.inr (by omega))) | (exact Min_keep r_WM (by omega) (by omega) (by omega) (by omega)) | (exact Min_skip r_WM (by omega) (by omega) (fun z => absurd (by assumption) z.1)) | (exact Min_skip r_WM (by omega) (by omega) (fun z => absurd z.2.1 (by assumption))) | (exact Min_skip r_WM (by omega) (by omega) (fun z => absurd (by assumption) z.2.2.1)) | (exact Min_skip r_WM (by omega) (by omega) (fun z => by have z1 := z.2.2.2; omega)) | (exact Min_skip r_WM (by omega) (by omega) (fun z => absurd (r_KO _ (tn_lt (by omega) (by omega)) z.1 z.2.1) (by omega))) | (exfalso; omega; done) | (exfalso; contradiction; done))
            · skip
              have g45 := i_nle h39
              have b46 := i_bd l2
              refine zd (fun (h47 : l2 = (0 : Int32)) => ?_) (fun (h47 : ¬ l2 = (0 : Int32)) => ?_)
              · skip
                have g48 := i_eq h47
                have b49 := i_bd l3
                refine zd (fun (h50 : l3 < (0 : Int32)) => ?_) (fun (h50 : ¬ l3 < (0 : Int32)) => ?_)
                · skip
                  have g51 := i_lt h50
                  first | have e52 : (l4 + (1 : Int32)).toInt = l4.toInt + (1) := i_addk rfl (by omega) (by omega) | have b53 := i_bd (l4 + (1 : Int32))
                  exact IH (3100 - (l4 + (1 : Int32)).toInt).toNat (by omega) _ (l1) (l2) (l4) ((l4 + (1 : Int32))) rfl hF hV (by omega) (by omega) (by omega) (by omega) r_LN (by omega) (by omega) r_KO (show zWS (m 100) (m 99) (m 110) (m 109) ab l4 from by first | (exact Or.inl (by decide)) | (exact Or.inr ⟨by omega, by omega, by assumption, by assumption, by assumption, by omega⟩) | (exfalso; omega; done) | (exfalso; contradiction; done)) (show qMin (qCw (m 99) (m 110) (m 109) (m 100) l1) (m 100) l4 (l4 + (1 : Int32)).toInt from by first | (exact Min_0 (by decide) (by decide)) | (rw [← r_LN]; exact (show l4.toInt = 3100 from by omega) ▸ r_WM; done) | (exact Min_new r_WM (by omega) (by omega) (by omega) ⟨by assumption, by assumption, by assumption, by omega⟩ (Or.inl (by omega))) | (exact Min_new r_WM (by omega) (by omega) (by omega) ⟨by assumption, by assumption, by assumption, by omega⟩ (Or.inr (by omega))) | (exact Min_keep r_WM (by omega) (by omega) (by omega) (by omega)) | (exact Min_skip r_WM (by omega) (by omega) (fun z => absurd (by assumption) z.1)) | (exact Min_skip r_WM (by omega) (by omega) (fun z => absurd z.2.1 (by assumption))) | (exact Min_skip r_WM (by omega) (by omega) (fun z => absurd (by assumption) z.2.2.1)) | (exact Min_skip r_WM (by omega) (by omega) (fun z => by have z1 := z.2.2.2; omega)) | (exact Min_skip r_WM (by omega) (by omega) (fun z => absurd (r_KO _ (tn_lt (by omega) (by omega)) z.1 z.2.1) (by omega))) | (exfalso; omega; done) | (exfalso; contradiction; done))
                · skip
                  have g54 := i_nlt h50
                  have hg55 : (0 ≤ l4 ∧ l4.toNatClampNeg < 3100) := i_ix (by omega) (by omega)
                  refine ⟨hg55, ?_⟩
                  have hg56 : (0 ≤ l3 ∧ l3.toNatClampNeg < 3100) := i_ix (by omega) (by omega)
                  refine ⟨hg56, ?_⟩
                  first | have f57 : 0 ≤ (m 100 l3.toNatClampNeg).toInt ∧ (m 100 l3.toNatClampNeg).toInt ≤ 100000 := ra_100 (m := m) hV (k := l3.toNatClampNeg) (i_ix (n := 3100) (by omega) (by omega)).2 | have b58 := i_bd (m 100 l3.toNatClampNeg)
                  refine zd (fun (h59 : (m 100 l3.toNatClampNeg) ≤ (m 100 l4.toNatClampNeg)) => ?_) (fun (h59 : ¬ (m 100 l3.toNatClampNeg) ≤ (m 100 l4.toNatClampNeg)) => ?_)
                  · skip
                    have g60 := i_le h59
                    first | have e61 : (l4 + (1 : Int32)).toInt = l4.toInt + (1) := i_addk rfl (by omega) (by omega) | have b62 := i_bd (l4 + (1 : Int32))
                    exact IH (3100 - (l4 + (1 : Int32)).toInt).toNat (by omega) _ (l1) (l2) (l3) ((l4 + (1 : Int32))) rfl hF hV (by omega) (by omega) (by omega) (by omega) r_LN (by omega) (by omega) r_KO r_WS (show qMin (qCw (m 99) (m 110) (m 109) (m 100) l1) (m 100) l3 (l4 + (1 : Int32)).toInt from by first | (exact Min_0 (by decide) (by decide)) | (rw [← r_LN]; exact (show l4.toInt = 3100 from by omega) ▸ r_WM; done) | (exact Min_new r_WM (by omega) (by omega) (by omega) ⟨by assumption, by assumption, by assumption, by omega⟩ (Or.inl (by omega))) | (exact Min_new r_WM (by omega) (by omega) (by omega) ⟨by assumption, by assumption, by assumption, by omega⟩ (Or.inr (by omega))) | (exact Min_keep r_WM (by omega) (by omega) (by omega) (by omega)) | (exact Min_skip r_WM (by omega) (by omega) (fun z => absurd (by assumption) z.1)) | (exact Min_skip r_WM (by omega) (by omega) (fun z => absurd z.2.1 (by assumption))) | (exact Min_skip r_WM (by omega) (by omega) (fun z => absurd (by assumption) z.2.2.1)) | (exact Min_skip r_WM (by omega) (by omega) (fun z => by have z1 := z.2.2.2; omega)) | (exact Min_skip r_WM (by omega) (by omega) (fun z => absurd (r_KO _ (tn_lt (by omega) (by omega)) z.1 z.2.1) (by omega))) | (exfalso; omega; done) | (exfalso; contradiction; done))
                  · skip
                    have g63 := i_nle h59
                    first | have e64 : (l4 + (1 : Int32)).toInt = l4.toInt + (1) := i_addk rfl (by omega) (by omega) | have b65 := i_bd (l4 + (1 : Int32))
                    exact IH (3100 - (l4 + (1 : Int32)).toInt).toNat (by omega) _ (l1) (l2) (l4) ((l4 + (1 : Int32))) rfl hF hV (by omega) (by omega) (by omega) (by omega) r_LN (by omega) (by omega) r_KO (show zWS (m 100) (m 99) (m 110) (m 109) ab l4 from by first | (exact Or.inl (by decide)) | (exact Or.inr ⟨by omega, by omega, by assumption, by assumption, by assumption, by omega⟩) | (exfalso; omega; done) | (exfalso; contradiction; done)) (show qMin (qCw (m 99) (m 110) (m 109) (m 100) l1) (m 100) l4 (l4 + (1 : Int32)).toInt from by first | (exact Min_0 (by decide) (by decide)) | (rw [← r_LN]; exact (show l4.toInt = 3100 from by omega) ▸ r_WM; done) | (exact Min_new r_WM (by omega) (by omega) (by omega) ⟨by assumption, by assumption, by assumption, by omega⟩ (Or.inl (by omega))) | (exact Min_new r_WM (by omega) (by omega) (by omega) ⟨by assumption, by assumption, by assumption, by omega⟩ (Or.inr (by omega))) | (exact Min_keep r_WM (by omega) (by omega) (by omega) (by omega)) | (exact Min_skip r_WM (by omega) (by omega) (fun z => absurd (by assumption) z.1)) | (exact Min_skip r_WM (by omega) (by omega) (fun z => absurd z.2.1 (by assumption))) | (exact Min_skip r_WM (by omega) (by omega) (fun z => absurd (by assumption) z.2.2.1)) | (exact Min_skip r_WM (by omega) (by omega) (fun z => by have z1 := z.2.2.2; omega)) | (exact Min_skip r_WM (by omega) (by omega) (fun z => absurd (r_KO _ (tn_lt (by omega) (by omega)) z.1 z.2.1) (by omega))) | (exfalso; omega; done) | (exfalso; contradiction; done))
              · skip
                have g66 := i_ne h47
                have hg67 : (0 ≤ l4 ∧ l4.toNatClampNeg < 3100) := i_ix (by omega) (by omega)
                refine ⟨hg67, ?_⟩
                have f68 : 0 ≤ (m 94 14).toInt ∧ (m 94 14).toInt ≤ 1500 := rs_94_14 (m := m) hV
                first | have f69 : 0 ≤ (m 103 l4.toNatClampNeg).toInt ∧ (m 103 l4.toNatClampNeg).toInt ≤ 4599 := ra_103 (m := m) hV (k := l4.toNatClampNeg) (i_ix (n := 3100) (by omega) (by omega)).2 | have b70 := i_bd (m 103 l4.toNatClampNeg)
                refine zd (fun (h71 : (m 94 14) ≤ (m 103 l4.toNatClampNeg)) => ?_) (fun (h71 : ¬ (m 94 14) ≤ (m 103 l4.toNatClampNeg)) => ?_)
                · skip
                  have g72 := i_le h71
                  have b73 := i_bd l3
                  refine zd (fun (h74 : l3 < (0 : Int32)) => ?_) (fun (h74 : ¬ l3 < (0 : Int32)) => ?_)
                  · skip
                    have g75 := i_lt h74
                    first | have e76 : (l4 + (1 : Int32)).toInt = l4.toInt + (1) := i_addk rfl (by omega) (by omega) | have b77 := i_bd (l4 + (1 : Int32))
                    exact IH (3100 - (l4 + (1 : Int32)).toInt).toNat (by omega) _ (l1) (l2) (l4) ((l4 + (1 : Int32))) rfl hF hV (by omega) (by omega) (by omega) (by omega) r_LN (by omega) (by omega) r_KO (show zWS (m 100) (m 99) (m 110) (m 109) ab l4 from by first | (exact Or.inl (by decide)) | (exact Or.inr ⟨by omega, by omega, by assumption, by assumption, by assumption, by omega⟩) | (exfalso; omega; done) | (exfalso; contradiction; done)) (show qMin (qCw (m 99) (m 110) (m 109) (m 100) l1) (m 100) l4 (l4 + (1 : Int32)).toInt from by first | (exact Min_0 (by decide) (by decide)) | (rw [← r_LN]; exact (show l4.toInt = 3100 from by omega) ▸ r_WM; done) | (exact Min_new r_WM (by omega) (by omega) (by omega) ⟨by assumption, by assumption, by assumption, by omega⟩ (Or.inl (by omega))) | (exact Min_new r_WM (by omega) (by omega) (by omega) ⟨by assumption, by assumption, by assumption, by omega⟩ (Or.inr (by omega))) | (exact Min_keep r_WM (by omega) (by omega) (by omega) (by omega)) | (exact Min_skip r_WM (by omega) (by omega) (fun z => absurd (by assumption) z.1)) | (exact Min_skip r_WM (by omega) (by omega) (fun z => absurd z.2.1 (by assumption))) | (exact Min_skip r_WM (by omega) (by omega) (fun z => absurd (by assumption) z.2.2.1)) | (exact Min_skip r_WM (by omega) (by omega) (fun z => by have z1 := z.2.2.2; omega)) | (exact Min_skip r_WM (by omega) (by omega) (fun z => absurd (r_KO _ (tn_lt (by omega) (by omega)) z.1 z.2.1) (by omega))) | (exfalso; omega; done) | (exfalso; contradiction; done))
                  · skip
                    have g78 := i_nlt h74
                    have hg79 : (0 ≤ l4 ∧ l4.toNatClampNeg < 3100) := i_ix (by omega) (by omega)
                    refine ⟨hg79, ?_⟩
                    have hg80 : (0 ≤ l3 ∧ l3.toNatClampNeg < 3100) := i_ix (by omega) (by omega)
                    refine ⟨hg80, ?_⟩
                    first | have f81 : 0 ≤ (m 100 l3.toNatClampNeg).toInt ∧ (m 100 l3.toNatClampNeg).toInt ≤ 100000 := ra_100 (m := m) hV (k := l3.toNatClampNeg) (i_ix (n := 3100) (by omega) (by omega)).2 | have b82 := i_bd (m 100 l3.toNatClampNeg)
                    refine zd (fun (h83 : (m 100 l3.toNatClampNeg) ≤ (m 100 l4.toNatClampNeg)) => ?_) (fun (h83 : ¬ (m 100 l3.toNatClampNeg) ≤ (m 100 l4.toNatClampNeg)) => ?_)
                    · skip
                      have g84 := i_le h83
                      first | have e85 : (l4 + (1 : Int32)).toInt = l4.toInt + (1) := i_addk rfl (by omega) (by omega) | have b86 := i_bd (l4 + (1 : Int32))
                      exact IH (3100 - (l4 + (1 : Int32)).toInt).toNat (by omega) _ (l1) (l2) (l3) ((l4 + (1 : Int32))) rfl hF hV (by omega) (by omega) (by omega) (by omega) r_LN (by omega) (by omega) r_KO r_WS (show qMin (qCw (m 99) (m 110) (m 109) (m 100) l1) (m 100) l3 (l4 + (1 : Int32)).toInt from by first | (exact Min_0 (by decide) (by decide)) | (rw [← r_LN]; exact (show l4.toInt = 3100 from by omega) ▸ r_WM; done) | (exact Min_new r_WM (by omega) (by omega) (by omega) ⟨by assumption, by assumption, by assumption, by omega⟩ (Or.inl (by omega))) | (exact Min_new r_WM (by omega) (by omega) (by omega) ⟨by assumption, by assumption, by assumption, by omega⟩ (Or.inr (by omega))) | (exact Min_keep r_WM (by omega) (by omega) (by omega) (by omega)) | (exact Min_skip r_WM (by omega) (by omega) (fun z => absurd (by assumption) z.1)) | (exact Min_skip r_WM (by omega) (by omega) (fun z => absurd z.2.1 (by assumption))) | (exact Min_skip r_WM (by omega) (by omega) (fun z => absurd (by assumption) z.2.2.1)) | (exact Min_skip r_WM (by omega) (by omega) (fun z => by have z1 := z.2.2.2; omega)) | (exact Min_skip r_WM (by omega) (by omega) (fun z => absurd (r_KO _ (tn_lt (by omega) (by omega)) z.1 z.2.1) (by omega))) | (exfalso; omega; done) | (exfalso; contradiction; done))
                    · skip
                      have g87 := i_nle h83
                      first | have e88 : (l4 + (1 : Int32)).toInt = l4.toInt + (1) := i_addk rfl (by omega) (by omega) | have b89 := i_bd (l4 + (1 : Int32))
                      exact IH (3100 - (l4 + (1 : Int32)).toInt).toNat (by omega) _ (l1) (l2) (l4) ((l4 + (1 : Int32))) rfl hF hV (by omega) (by omega) (by omega) (by omega) r_LN (by omega) (by omega) r_KO (show zWS (m 100) (m 99) (m 110) (m 109) ab l4 from by first | (exact Or.inl (by decide)) | (exact Or.inr ⟨by omega, by omega, by assumption, by assumption, by assumption, by omega⟩) | (exfalso; omega; done) | (exfalso; contradiction; done)) (show qMin (qCw (m 99) (m 110) (m 109) (m 100) l1) (m 100) l4 (l4 + (1 : Int32)).toInt from by first | (exact Min_0 (by decide) (by decide)) | (rw [← r_LN]; exact (show l4.toInt = 3100 from by omega) ▸ r_WM; done) | (exact Min_new r_WM (by omega) (by omega) (by omega) ⟨by assumption, by assumption, by assumption, by omega⟩ (Or.inl (by omega))) | (exact Min_new r_WM (by omega) (by omega) (by omega) ⟨by assumption, by assumption, by assumption, by omega⟩ (Or.inr (by omega))) | (exact Min_keep r_WM (by omega) (by omega) (by omega) (by omega)) | (exact Min_skip r_WM (by omega) (by omega) (fun z => absurd (by assumption) z.1)) | (exact Min_skip r_WM (by omega) (by omega) (fun z => absurd z.2.1 (by assumption))) | (exact Min_skip r_WM (by omega) (by omega) (fun z => absurd (by assumption) z.2.2.1)) | (exact Min_skip r_WM (by omega) (by omega) (fun z => by have z1 := z.2.2.2; omega)) | (exact Min_skip r_WM (by omega) (by omega) (fun z => absurd (r_KO _ (tn_lt (by omega) (by omega)) z.1 z.2.1) (by omega))) | (exfalso; omega; done) | (exfalso; contradiction; done))
                · skip
                  have g90 := i_nle h71
                  have b91 := i_bd l3
                  first | have e92 : (l4 + (1 : Int32)).toInt = l4.toInt + (1) := i_addk rfl (by omega) (by omega) | have b93 := i_bd (l4 + (1 : Int32))
                  exact IH (3100 - (l4 + (1 : Int32)).toInt).toNat (by omega) _ (l1) (l2) (l3) ((l4 + (1 : Int32))) rfl hF hV (by omega) (by omega) (by omega) (by omega) r_LN (by omega) (by omega) r_KO r_WS (show qMin (qCw (m 99) (m 110) (m 109) (m 100) l1) (m 100) l3 (l4 + (1 : Int32)).toInt from by first | (exact Min_0 (by decide) (by decide)) | (rw [← r_LN]; exact (show l4.toInt = 3100 from by omega) ▸ r_WM; done) | (exact Min_new r_WM (by omega) (by omega) (by omega) ⟨by assumption, by assumption, by assumption, by omega⟩ (Or.inl (by omega))) | (exact Min_new r_WM (by omega) (by omega) (by omega) ⟨by assumption, by assumption, by assumption, by omega⟩ (Or.inr (by omega))) | (exact Min_keep r_WM (by omega) (by omega) (by omega) (by omega)) | (exact Min_skip r_WM (by omega) (by omega) (fun z => absurd (by assumption) z.1)) | (exact Min_skip r_WM (by omega) (by omega) (fun z => absurd z.2.1 (by assumption))) | (exact Min_skip r_WM (by omega) (by omega) (fun z => absurd (by assumption) z.2.2.1)) | (exact Min_skip r_WM (by omega) (by omega) (fun z => by have z1 := z.2.2.2; omega)) | (exact Min_skip r_WM (by omega) (by omega) (fun z => absurd (r_KO _ (tn_lt (by omega) (by omega)) z.1 z.2.1) (by omega))) | (exfalso; omega; done) | (exfalso; contradiction; done))
        · skip
          have g94 := i_ne h22
          have b95 := i_bd l1
          have b96 := i_bd l2
          have b97 := i_bd l3
          first | have e98 : (l4 + (1 : Int32)).toInt = l4.toInt + (1) := i_addk rfl (by omega) (by omega) | have b99 := i_bd (l4 + (1 : Int32))
          exact IH (3100 - (l4 + (1 : Int32)).toInt).toNat (by omega) _ (l1) (l2) (l3) ((l4 + (1 : Int32))) rfl hF hV (by omega) (by omega) (by omega) (by omega) r_LN (by omega) (by omega) r_KO r_WS (show qMin (qCw (m 99) (m 110) (m 109) (m 100) l1) (m 100) l3 (l4 + (1 : Int32)).toInt from by first | (exact Min_0 (by decide) (by decide)) | (rw [← r_LN]; exact (show l4.toInt = 3100 from by omega) ▸ r_WM; done) | (exact Min_new r_WM (by omega) (by omega) (by omega) ⟨by assumption, by assumption, by assumption, by omega⟩ (Or.inl (by omega))) | (exact Min_new r_WM (by omega) (by omega) (by omega) ⟨by assumption, by assumption, by assumption, by omega⟩ (Or.inr (by omega))) | (exact Min_keep r_WM (by omega) (by omega) (by omega) (by omega)) | (exact Min_skip r_WM (by omega) (by omega) (fun z => absurd (by assumption) z.1)) | (exact Min_skip r_WM (by omega) (by omega) (fun z => absurd z.2.1 (by assumption))) | (exact Min_skip r_WM (by omega) (by omega) (fun z => absurd (by assumption) z.2.2.1)) | (exact Min_skip r_WM (by omega) (by omega) (fun z => by have z1 := z.2.2.2; omega)) | (exact Min_skip r_WM (by omega) (by omega) (fun z => absurd (r_KO _ (tn_lt (by omega) (by omega)) z.1 z.2.1) (by omega))) | (exfalso; omega; done) | (exfalso; contradiction; done))
theorem sp_195ry {X : Nat × (Nat → Int32)} {P : Option ma_V → (Nat → Nat → Int32) → Prop} {m : Nat → Nat → Int32} (ab : Int32) (yo : Int32) (hV : zV m) (hpre0 : yo.toInt = 1) (r_KO : ∀ s, s < 3100 → (m 99) s ≠ 0 → (m 110) s = 0 → (m 94 14).toInt ≤ ((m 103) s).toInt) (KZ : ∀ v m₉, zV (zov wr_195 m m₉) → (zWS (m 100) (m 99) (m 110) (m 109) ab v) → (qMin (qCw (m 99) (m 110) (m 109) (m 100) ab) (m 100) v 3100) → P (some (.inl v)) (zov wr_195 m m₉)) : zm X 1 21 195 0 [(0, .inr (.inr (some 94))), (1, .inl ab), (2, .inl yo)] m P := by
  have K : ∀ v m₉, zF wr_195 m m₉ → zV m₉ → (zWS (m₉ 100) (m₉ 99) (m₉ 110) (m₉ 109) ab v) → (qMin (qCw (m₉ 99) (m₉ 110) (m₉ 109) (m₉ 100) ab) (m₉ 100) v 3100) → P (some (.inl v)) m₉ := by
    intro v m₉ hf z q0 q1
    have e := zov_eq hf
    rw [e] at z ⊢
    try rw [e] at q0
    try rw [e] at q1
    exact KZ v m₉ z q0 q1
  refine g_195_0 ab yo ?_
  have b1 := i_bd ab
  have b2 := i_bd yo
  have li3 : (-1 : Int32).toInt = -1 := rfl
  have li4 : (0 : Int32).toInt = 0 := rfl
  exact lp_195ry_5 (ab := ab) (yo := yo) hV K _ _ (ab) (yo) ((-1 : Int32)) ((0 : Int32)) rfl zF_rfl hV (by omega) (by omega) (by omega) (by omega) (show ab = ab from by first | (exact rfl) | (exfalso; omega; done) | (exfalso; contradiction; done)) (by omega) (by omega) r_KO (show zWS (m 100) (m 99) (m 110) (m 109) ab (-1 : Int32) from by first | (exact Or.inl (by decide)) | (exact Or.inr ⟨by omega, by omega, by assumption, by assumption, by assumption, by omega⟩) | (exfalso; omega; done) | (exfalso; contradiction; done)) (show qMin (qCw (m 99) (m 110) (m 109) (m 100) ab) (m 100) (-1 : Int32) (0 : Int32).toInt from by first | (exact Min_0 (by decide) (by decide)) | (exfalso; omega; done) | (exfalso; contradiction; done))
set_option maxHeartbeats 8000000 in
theorem lp_209ry_9 {X : Nat × (Nat → Int32)} {P : Option ma_V → (Nat → Nat → Int32) → Prop} {T : Nat} {aa : Nat→Nat→Int32} {AT : Nat→Int32} {OW : Nat→Int32} {AG : Nat→Int32} {ro : Int32} {st : Int} {oo : Int} {yo : Int32} {m0 : Nat → Nat → Int32} (h0 : zV m0) (K : ∀ m₉, zF wr_209 m0 m₉ → zV m₉ → (zGW T (m₉ 94 55) (m₉ 109)) → (zuw (m0 113) (m₉ 113)) → (zOw (m₉ 99) (m₉ 103) (m₉ 111)) → (qYB (m₉ 99) (m₉ 100) (m₉ 98) (m₉ 101) (m₉ 102) AT (m₉ 107) (m₉ 108) (m₉ 109) OW (m₉ 112) (m₉ 113) (m₉ 114) (m₉ 94 55) (m₉ 94 46) ro 0 0 0 1 (m₉ 110) (m₉ 119) (m₉ 94 76) (m₉ 94 75) (m₉ 103) (m₉ 111) (m₉ 104) AG (m₉ 94 77) (m₉ 94 60) st oo (aGw aa 0)) → (qE0 (aPc (aGw aa 0))) → (qCl (aPc (aGw aa 0))) → P none m₉) : ∀ (n : Nat) (m : Nat → Nat → Int32) (l1 : Int32) (l3 : Int32), ((zmg (m 100) l3 : Int)).toNat = n → zF wr_209 m0 m → zV m → (l1.toInt = 1) → (T ≤ 512) → ((m 94 10).toInt = 3) → (zWS (m 100) (m 99) (m 110) (m 109) (-1 : Int32) l3) → (zW (m 94 7) (m 98) (m 101) (m 102) (m 108)) → (zGW T (m 94 55) (m 109)) → (zuw (m0 113) (m 113)) → (zOw (m 99) (m 103) (m 111)) → (qAX aa (m 94 13) (m 94 14) (m 94 15) (m 94 16)) → (qYG (m 99) (m 100) (m 98) (m 101) (m 102) AT (m 107) (m 108) (m 109) OW (m 112) (m 113) (m 114) (m 94 55) (m 94 46) ro 0 0 0 1 (m 110) (m 119) (m 94 76) (m 94 75) (m 103) (m 111) (m 104) AG (m 94 77) (m 94 60) st oo l3 (aGw aa 0)) → zm X 4 86 209 9 [(0, .inr (.inr (some 94))), (1, .inl l1), (3, .inl l3)] m P := by
  intro n
  induction n using Nat.strongRecOn with
  | _ n IH =>
    intro m l1 l3 hmu hF hV hi0 hi1 hi2 r_WS r_W r_GW r_UW r_OW r_AX3 r_YG
    refine g_209_9 l1 l3 ?_
    have f1 : 0 ≤ (m 94 10).toInt ∧ (m 94 10).toInt ≤ 6 := rs_94_10 (m := m) hV
    obtain ⟨b, lst, gHB, gE0, gCL, gl, gMn, gT⟩ := r_YG
    have gAX := AX_gw r_AX3 gT
    have gQI := gHB.2.2.2.2.2.2.2.1.1
    have b2 := i_bd l3
    have li3 : (0 : Int32).toInt = 0 := rfl
    refine zd (fun (h4 : l3 < (0 : Int32)) => ?_) (fun (h4 : ¬ l3 < (0 : Int32)) => ?_)
    · skip
      have g5 := i_lt h4
      try have gw := GW_room r_GW
      try have ws0 := WS_ge r_WS (by omega)
      exact K _ hF hV r_GW r_UW r_OW (show qYB (m 99) (m 100) (m 98) (m 101) (m 102) AT (m 107) (m 108) (m 109) OW (m 112) (m 113) (m 114) (m 94 55) (m 94 46) ro 0 0 0 1 (m 110) (m 119) (m 94 76) (m 94 75) (m 103) (m 111) (m 104) AG (m 94 77) (m 94 60) st oo (aGw aa 0) from by first | (exact (YG_end ⟨b, lst, gHB, gE0, gCL, gl, gMn, gT⟩ (by omega)).1) | (exact gHB) | (exfalso; omega; done) | (exfalso; contradiction; done)) (show qE0 (aPc (aGw aa 0)) from by first | (exact (YG_end ⟨b, lst, gHB, gE0, gCL, gl, gMn, gT⟩ (by omega)).2.1) | (exfalso; omega; done) | (exfalso; contradiction; done)) (show qCl (aPc (aGw aa 0)) from by first | (exact (YG_end ⟨b, lst, gHB, gE0, gCL, gl, gMn, gT⟩ (by omega)).2.2) | (exfalso; omega; done) | (exfalso; contradiction; done))
    · skip
      have g6 := i_nlt h4
      try obtain ⟨ws1, ws2, ws3, ws4, ws5, ws6⟩ := WS_ge r_WS (by omega)
      have hg7 : (0 ≤ l3 ∧ l3.toNatClampNeg < 3100) := i_ix (by omega) (by omega)
      refine ⟨hg7, ?_⟩
      try have ws0 := WS_ge r_WS (by omega)
      refine sp_197rv (aa := b) (l3) hV (by omega) (by omega) (by omega) (show (m 94 10).toInt ≠ 4 from by omega) (show (m 109) l3.toNatClampNeg ≠ 0 from by first | (exact ws5) | (exact ws0.2.2.2.2.1) | (assumption; done) | (exfalso; omega; done) | (exfalso; contradiction; done)) (show (m 99) l3.toNatClampNeg ≠ 0 from by first | (exact ws3) | (exact ws0.2.2.1) | (assumption; done) | (exact ws3) | (exfalso; omega; done) | (exfalso; contradiction; done)) r_GW gHB.1 gQI (fun m1 hV_m1 p0_m1 p1_m1 p2_m1 p3_m1 p4_m1 p5_m1 => zmv_n ?_)
      have p0_m1 : zGW T (m1 94 55) (m1 109) := p0_m1
      have p1_m1 : zuw (m 113) (m1 113) := p1_m1
      have p2_m1 : zwx (m 114) (m1 114) (m 94 55) l3 := p2_m1
      have p3_m1 : (m1 94 55).toInt = (m 94 55).toInt + 1 := p3_m1
      have p4_m1 : qRB (m 99) (m 100) (m 98) (m 101) (m 102) AT (m 107) (m 108) (m1 109) OW (m 112) (m1 113) (m1 114) (m1 94 55) (m 94 46) ro 0 0 0 1 (aGr b ((m 100) l3.toNatClampNeg)) := p4_m1
      have p5_m1 : qI (aGr b ((m 100) l3.toNatClampNeg)) := p5_m1
      have f8 : 0 ≤ (m1 94 55).toInt ∧ (m1 94 55).toInt ≤ 3100 := rs_94_55 (m := (zov wr_197 m m1)) hV_m1
      have f9 : 0 ≤ (m 94 55).toInt ∧ (m 94 55).toInt ≤ 3100 := rs_94_55 (m := m) hV
      try have ws0 := WS_ge r_WS (by omega)
      refine sp_207ry (aa := (aGr b (m 100 l3.toNatClampNeg))) (l3) hV_m1 (by omega) (by omega) (show (m 94 10).toInt = 3 from by omega) (show qU (m 99) l3 from by first | (exact Or.inr ⟨by omega, ws0.2.2.1⟩) | (exfalso; omega; done) | (exfalso; contradiction; done)) r_OW (show qAX (aGr b (m 100 l3.toNatClampNeg)) (m 94 13) (m 94 14) (m 94 15) (m 94 16) from by first | (exact AX_gr gAX) | (exact r_AX3) | (exfalso; omega; done) | (exfalso; contradiction; done)) (show qYB (m 99) (m 100) (m 98) (m 101) (m 102) AT (m 107) (m 108) (m1 109) OW (m 112) (m1 113) (m1 114) (m1 94 55) (m 94 46) ro 0 0 0 1 (m 110) (m 119) (m 94 76) (m 94 75) (m 103) (m 111) (m 104) AG (m 94 77) (m 94 60) st oo (aGr b (m 100 l3.toNatClampNeg)) from by first | (exact YB_gr p4_m1 p5_m1 gHB) | (exact gHB) | (exfalso; omega; done) | (exfalso; contradiction; done)) (fun m3 hV_m3 p0_m3 p1_m3 => zmv_n ?_)
      have p0_m3 : zOw (m 99) (m3 103) (m3 111) := p0_m3
      have p1_m3 : qYB (m 99) (m 100) (m 98) (m 101) (m 102) AT (m 107) (m 108) (m1 109) OW (m 112) (m1 113) (m1 114) (m1 94 55) (m 94 46) ro 0 0 0 1 (m3 110) (m3 119) (m 94 76) (m3 94 75) (m3 103) (m3 111) (m3 104) AG (m3 94 77) (m3 94 60) st oo (aCm (aGr b (m 100 l3.toNatClampNeg)) (qNo (m 100) l3)) := p1_m3
      try have ws0 := WS_ge r_WS (by omega)
      refine sp_208ry (aa := (aCm (aGr b (m 100 l3.toNatClampNeg)) (qNo (m 100) l3)))  hV_m3 (show (m 94 10).toInt = 3 from by omega) r_W p0_m3 (show qAX (aCm (aGr b (m 100 l3.toNatClampNeg)) (qNo (m 100) l3)) (m 94 13) (m 94 14) (m 94 15) (m 94 16) from by first | (exact AX_cm (AX_gr gAX)) | (exact r_AX3) | (exfalso; omega; done) | (exfalso; contradiction; done)) p1_m3 (fun m5 hV_m5 p0_m5 p1_m5 p2_m5 => zmv_n ?_)
      have p0_m5 : zOw (m 99) (m5 103) (m5 111) := p0_m5
      have p1_m5 : qYB (m 99) (m 100) (m 98) (m 101) (m 102) AT (m 107) (m 108) (m1 109) OW (m 112) (m1 113) (m1 114) (m1 94 55) (m 94 46) ro 0 0 0 1 (m5 110) (m5 119) (m5 94 76) (m5 94 75) (m5 103) (m5 111) (m5 104) AG (m5 94 77) (m5 94 60) st oo (aSp 512 (aCm (aGr b (m 100 l3.toNatClampNeg)) (qNo (m 100) l3))) := p1_m5
      have p2_m5 : (m5 94 75).toInt ≤ (m5 94 76).toInt := p2_m5
      have f10 : 0 ≤ (m5 94 75).toInt ∧ (m5 94 75).toInt ≤ 3100 := rs_94_75 (m := (zov wr_208 (zov wr_207 (zov wr_197 m m1) m3) m5)) hV_m5
      have f11 : 0 ≤ (m5 94 76).toInt ∧ (m5 94 76).toInt ≤ 3100 := rs_94_76 (m := (zov wr_208 (zov wr_207 (zov wr_197 m m1) m3) m5)) hV_m5
      first | have f12 : 0 ≤ (m 100 l3.toNatClampNeg).toInt ∧ (m 100 l3.toNatClampNeg).toInt ≤ 100000 := ra_100 (m := m) hV (k := l3.toNatClampNeg) (i_ix (n := 3100) (by omega) (by omega)).2 | have b13 := i_bd (m 100 l3.toNatClampNeg)
      have b14 := i_bd l1
      try have ws0 := WS_ge r_WS (by omega)
      refine sp_195ry ((m 100 l3.toNatClampNeg)) (l1) hV_m5 (by omega) (show ∀ s, s < 3100 → (m 99) s ≠ 0 → (m5 110) s = 0 → (m 94 14).toInt ≤ ((m5 103) s).toInt from by first | (intro s hs hu hk; have z := YB_ko p1_m5 hs hu hk; rw [(AX_sp (AX_cm (AX_gr gAX))).2.1] at z; exact z; done) | (exfalso; omega; done) | (exfalso; contradiction; done)) (fun v8 m7 hV_m7 p0_m7 p1_m7 => zmi_n ?_)
      have p0_m7 : zWS (m 100) (m 99) (m5 110) (m1 109) (m 100 l3.toNatClampNeg) v8 := p0_m7
      have p1_m7 : qMin (qCw (m 99) (m5 110) (m1 109) (m 100) (m 100 l3.toNatClampNeg)) (m 100) v8 3100 := p1_m7
      try have gw := GW_room p0_m1
      try have ws0 := WS_ge r_WS (by omega)
      have b15 := i_bd v8
      exact IH ((zmg (m 100) v8 : Int)).toNat (by have zq := zmg_lt (s := l3) (by omega) p0_m7 rfl (by omega) (by omega); omega) _ (l1) (v8) rfl (zF_zov (zF_zov (zF_zov (zF_zov hF ws_197_209) ws_207_209) ws_208_209) ws_195_209) hV_m7 (by omega) (by omega) (show (m 94 10).toInt = 3 from by omega) (show zWS (m 100) (m 99) (m5 110) (m1 109) (-1 : Int32) v8 from by first | (exact WS_weak p0_m7 (by omega)) | (exact p0_m7) | (exact Or.inl (by decide)) | (exact Or.inr ⟨by omega, by omega, by assumption, by assumption, by assumption, by omega⟩) | (exfalso; omega; done) | (exfalso; contradiction; done)) r_W p0_m1 (show zuw (m0 113) (m1 113) from by first | (exact zuw_tr r_UW p1_m1) | (exact zuw_rfl) | (exfalso; omega; done) | (exfalso; contradiction; done)) p0_m5 r_AX3 (show qYG (m 99) (m 100) (m 98) (m 101) (m 102) AT (m 107) (m 108) (m1 109) OW (m 112) (m1 113) (m1 114) (m1 94 55) (m 94 46) ro 0 0 0 1 (m5 110) (m5 119) (m5 94 76) (m5 94 75) (m5 103) (m5 111) (m5 104) AG (m5 94 77) (m5 94 60) st oo v8 (aGw aa 0) from by first | (exact YG_nx gHB gE0 gCL gl gMn gT (by omega) ws0.2.2.1 (by omega) (GW_512 r_GW ws0.2.2.2.2.1 (by omega) (by omega) (by omega)) p1_m5 p1_m7) | (exfalso; omega; done) | (exfalso; contradiction; done))
set_option maxHeartbeats 8000000 in
theorem sp_209ry {X : Nat × (Nat → Int32)} {P : Option ma_V → (Nat → Nat → Int32) → Prop} {T : Nat} {aa : Nat→Nat→Int32} {AT : Nat→Int32} {OW : Nat→Int32} {AG : Nat→Int32} {ro : Int32} {st : Int} {oo : Int} {m : Nat → Nat → Int32} (yo : Int32) (hV : zV m) (hpre0 : yo.toInt = 1) (hpre1 : T ≤ 512) (hpre2 : (m 94 10).toInt = 3) (r_W : zW (m 94 7) (m 98) (m 101) (m 102) (m 108)) (r_GW : zGW T (m 94 55) (m 109)) (r_OW : zOw (m 99) (m 103) (m 111)) (r_AX3 : qAX aa (m 94 13) (m 94 14) (m 94 15) (m 94 16)) (r_YB : qYB (m 99) (m 100) (m 98) (m 101) (m 102) AT (m 107) (m 108) (m 109) OW (m 112) (m 113) (m 114) (m 94 55) (m 94 46) ro 0 0 0 1 (m 110) (m 119) (m 94 76) (m 94 75) (m 103) (m 111) (m 104) AG (m 94 77) (m 94 60) st oo aa) (r_E0 : qE0 (aPc aa)) (r_CLr : qCl (aPc aa)) (KZ : ∀ m₉, zV (zov wr_209 m m₉) → (zGW T (m₉ 94 55) (m₉ 109)) → (zuw (m 113) (m₉ 113)) → (zOw (m 99) (m₉ 103) (m₉ 111)) → (qYB (m 99) (m 100) (m 98) (m 101) (m 102) AT (m 107) (m 108) (m₉ 109) OW (m 112) (m₉ 113) (m₉ 114) (m₉ 94 55) (m 94 46) ro 0 0 0 1 (m₉ 110) (m₉ 119) (m₉ 94 76) (m₉ 94 75) (m₉ 103) (m₉ 111) (m₉ 104) AG (m₉ 94 77) (m₉ 94 60) st oo (aGw aa 0)) → (qE0 (aPc (aGw aa 0))) → (qCl (aPc (aGw aa 0))) → P none (zov wr_209 m m₉)) : zm X 4 86 209 0 [(0, .inr (.inr (some 94))), (1, .inl yo)] m P := by
  have K : ∀ m₉, zF wr_209 m m₉ → zV m₉ → (zGW T (m₉ 94 55) (m₉ 109)) → (zuw (m 113) (m₉ 113)) → (zOw (m₉ 99) (m₉ 103) (m₉ 111)) → (qYB (m₉ 99) (m₉ 100) (m₉ 98) (m₉ 101) (m₉ 102) AT (m₉ 107) (m₉ 108) (m₉ 109) OW (m₉ 112) (m₉ 113) (m₉ 114) (m₉ 94 55) (m₉ 94 46) ro 0 0 0 1 (m₉ 110) (m₉ 119) (m₉ 94 76) (m₉ 94 75) (m₉ 103) (m₉ 111) (m₉ 104) AG (m₉ 94 77) (m₉ 94 60) st oo (aGw aa 0)) → (qE0 (aPc (aGw aa 0))) → (qCl (aPc (aGw aa 0))) → P none m₉ := by
    intro m₉ hf z q0 q1 q2 q3 q4 q5
    have e := zov_eq hf
    rw [e] at z ⊢
    try rw [e] at q0
    try rw [e] at q1
    try rw [e] at q2
    try rw [e] at q3
    try rw [e] at q4
    try rw [e] at q5
    exact KZ m₉ z q0 q1 q2 q3 q4 q5
  refine g_209_0 yo ?_
  have f1 : 0 ≤ (m 94 10).toInt ∧ (m 94 10).toInt ≤ 6 := rs_94_10 (m := m) hV
  have li2 : (-1 : Int32).toInt = -1 := rfl
  have b3 := i_bd yo
  try have ws0 := WS_ge r_WS (by omega)
  refine sp_195ry ((-1 : Int32)) (yo) hV (by omega) (show ∀ s, s < 3100 → (m 99) s ≠ 0 → (m 110) s = 0 → (m 94 14).toInt ≤ ((m 103) s).toInt from by first | (intro s hs hu hk; have z := YB_ko r_YB hs hu hk; rw [r_AX3.2.1] at z; exact z; done) | (exfalso; omega; done) | (exfalso; contradiction; done)) (fun v2 m1 hV_m1 p0_m1 p1_m1 => zmi_n ?_)
  have p0_m1 : zWS (m 100) (m 99) (m 110) (m 109) (-1 : Int32) v2 := p0_m1
  have p1_m1 : qMin (qCw (m 99) (m 110) (m 109) (m 100) (-1 : Int32)) (m 100) v2 3100 := p1_m1
  try have gw := GW_room r_GW
  try have ws0 := WS_ge r_WS (by omega)
  have b4 := i_bd v2
  exact lp_209ry_9 (yo := yo) hV K _ _ (yo) (v2) rfl (zF_zov zF_rfl ws_195_209) hV_m1 (by omega) (by omega) (show (m 94 10).toInt = 3 from by omega) p0_m1 r_W r_GW (show zuw (m 113) (m 113) from by first | (exact zuw_rfl) | (exact zuw_rfl) | (exfalso; omega; done) | (exfalso; contradiction; done)) r_OW r_AX3 (show qYG (m 99) (m 100) (m 98) (m 101) (m 102) AT (m 107) (m 108) (m 109) OW (m 112) (m 113) (m 114) (m 94 55) (m 94 46) ro 0 0 0 1 (m 110) (m 119) (m 94 76) (m 94 75) (m 103) (m 111) (m 104) AG (m 94 77) (m 94 60) st oo v2 (aGw aa 0) from by first | (exact YG_0 r_YB r_E0 r_CLr p1_m1) | (exfalso; omega; done) | (exfalso; contradiction; done))

