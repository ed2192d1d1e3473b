/-! from 95.h07 -/
/-! the reference by numbers (written by wip/tools/gen18r.py) -/
theorem lp_220r_62 {X : Nat × (Nat → Int32)} {P : Option ma_V → (Nat → Nat → Int32) → Prop} {aa : Nat→Nat→Int32} {m0 : Nat → Nat → Int32} (h0 : zV m0) (K : ∀ m₉, zF wr_220 m0 m₉ → zV m₉ → (zG1 (m₉ 94 56) (m₉ 94 57) (m₉ 106)) → ((m0 94 56).toInt ≤ (m₉ 94 56).toInt) → (qRB (m₉ 99) (m₉ 100) (m₉ 98) (m₉ 101) (m₉ 102) (m₉ 103) (m₉ 107) (m₉ 108) (m₉ 109) (m₉ 111) (m₉ 112) (m₉ 113) (m₉ 114) (m₉ 94 55) (m₉ 94 46) (m₉ 94 11) (m₉ 94 12) (m₉ 94 62) (m₉ 94 17) (m₉ 94 9) (aRo aa 0)) → (qI (aRo aa 0)) → (qMQ (m₉ 106) (m₉ 115) (m₉ 94 57) (m₉ 94 56) (m₉ 99) (m₉ 100) (aRo aa 0)) → P none m₉) {n52 : Nat} (OUT52 : ∀ (m₉ : Nat → Nat → Int32) (l1 : Int32), (100002 - (l1.toInt + 1) % 100003).toNat < n52 → zF wr_220 m0 m₉ → zV m₉ → (-2 ≤ l1.toInt) → (l1.toInt ≤ 100000) → (zG1 (m₉ 94 56) (m₉ 94 57) (m₉ 106)) → ((m0 94 56).toInt ≤ (m₉ 94 56).toInt) → (qRB (m₉ 99) (m₉ 100) (m₉ 98) (m₉ 101) (m₉ 102) (m₉ 103) (m₉ 107) (m₉ 108) (m₉ 109) (m₉ 111) (m₉ 112) (m₉ 113) (m₉ 114) (m₉ 94 55) (m₉ 94 46) (m₉ 94 11) (m₉ 94 12) (m₉ 94 62) (m₉ 94 17) (m₉ 94 9) aa) → (qI aa) → (qG5 (m₉ 106) (m₉ 115) (m₉ 99) (m₉ 100) (m₉ 94 57) (m₉ 94 56) aa l1 (aRo aa 0)) → zm X 1 21 220 52 [(0, .inr (.inr (some 94))), (1, .inl l1)] m₉ P) : ∀ (n : Nat) (m : Nat → Nat → Int32) (l1 : Int32) (l2 : Int32) (l3 : Int32), (3100 - l3.toInt).toNat = n → zF wr_220 m0 m → zV m → (-1 ≤ l1.toInt) → (l1.toInt ≤ 100000) → (0 ≤ l3.toInt) → (l3.toInt ≤ 3100) → (-1 ≤ l2.toInt) → (l2.toInt ≤ 3099) → ((100002 - (l1.toInt + 1) % 100003).toNat = n52) → (l2.toInt < 0 ∨ l1.toInt < ((m 100) l2.toNatClampNeg).toInt) → (zG1 (m 94 56) (m 94 57) (m 106)) → ((m0 94 56).toInt ≤ (m 94 56).toInt) → (qRB (m 99) (m 100) (m 98) (m 101) (m 102) (m 103) (m 107) (m 108) (m 109) (m 111) (m 112) (m 113) (m 114) (m 94 55) (m 94 46) (m 94 11) (m 94 12) (m 94 62) (m 94 17) (m 94 9) aa) → (qI aa) → (qG5 (m 106) (m 115) (m 99) (m 100) (m 94 57) (m 94 56) aa l1 (aRo aa 0)) → (qMin (qCd (m 99) (m 107) (m 100) l1) (m 100) l2 l3.toInt) → zm X 1 21 220 62 [(0, .inr (.inr (some 94))), (1, .inl l1), (2, .inl l2), (3, .inl l3)] m P := by
  intro n
  induction n using Nat.strongRecOn with
  | _ n IH =>
    intro m l1 l2 l3 hmu hF hV hi0 hi1 hi2 hi3 hi4 hi5 hi6 r_NB r_G1 hi9 r_RB r_QI r_G5 r_MN
    refine g_220_62 l1 l2 l3 ?_
    have f1 : 0 ≤ (m0 94 56).toInt ∧ (m0 94 56).toInt ≤ 3100 := rs_94_56 (m := m0) h0
    have f2 : 0 ≤ (m 94 56).toInt ∧ (m 94 56).toInt ≤ 3100 := rs_94_56 (m := m) hV
    have li3 : (3100 : Int32).toInt = 3100 := rfl
    have b4 := i_bd l3
    refine zd (fun (h5 : (3100 : Int32) ≤ l3) => ?_) (fun (h5 : ¬ (3100 : Int32) ≤ l3) => ?_)
    · skip
      have g6 := i_le h5
      have li7 : (0 : Int32).toInt = 0 := rfl
      have b8 := i_bd l2
      refine zd (fun (h9 : (0 : Int32) ≤ l2) => ?_) (fun (h9 : ¬ (0 : Int32) ≤ l2) => ?_)
      · skip
        have g10 := i_le h9
        refine zd (fun (h11 : l2 < (0 : Int32)) => ?_) (fun (h11 : ¬ l2 < (0 : Int32)) => ?_)
        · skip
          have g12 := i_lt h11
          have hg13 : (0 ≤ l2 ∧ l2.toNatClampNeg < 3100) := i_ix (by omega) (by omega)
          refine ⟨hg13, ?_⟩
          try have nb := r_NB
          first | have f14 : 0 ≤ (m 100 l2.toNatClampNeg).toInt ∧ (m 100 l2.toNatClampNeg).toInt ≤ 100000 := ra_100 (m := m) hV (k := l2.toNatClampNeg) (i_ix (n := 3100) (by omega) (by omega)).2 | have b15 := i_bd (m 100 l2.toNatClampNeg)
          exact OUT52 _ ((m 100 l2.toNatClampNeg)) (show (100002 - ((m 100 l2.toNatClampNeg).toInt + 1) % 100003).toNat < n52 from by omega) hF hV (by omega) (by omega) r_G1 (show (m0 94 56).toInt ≤ (m 94 56).toInt from by omega) r_RB r_QI (show qG5 (m 106) (m 115) (m 99) (m 100) (m 94 57) (m 94 56) aa (m 100 l2.toNatClampNeg) (aRo aa 0) from by first | (exact r_G5) | (exact G5_none r_G5 r_RB r_QI (by omega) (show qMin _ _ _ 3100 from (show l3.toInt = 3100 from by omega) ▸ r_MN) (by omega)) | (exact G5_skip r_G5 r_RB r_QI (by omega) (show qMin _ _ _ 3100 from (show l3.toInt = 3100 from by omega) ▸ r_MN) (by omega) (by assumption)) | (exfalso; omega; done) | (exfalso; contradiction; done))
        · skip
          have g16 := i_nlt h11
          have hg17 : (0 ≤ l2 ∧ l2.toNatClampNeg < 3100) := i_ix (by omega) (by omega)
          refine ⟨hg17, ?_⟩
          have b18 := i_bd (m 106 l2.toNatClampNeg)
          refine zd (fun (h19 : (m 106 l2.toNatClampNeg) = (0 : Int32)) => ?_) (fun (h19 : ¬ (m 106 l2.toNatClampNeg) = (0 : Int32)) => ?_)
          · skip
            have g20 := i_eq h19
            have hg21 : (0 ≤ l2 ∧ l2.toNatClampNeg < 3100) := i_ix (by omega) (by omega)
            refine ⟨hg21, ?_⟩
            try have gk := G1_room r_G1 (by assumption) (by omega)
            have hg22 : (0 ≤ (m 94 56) ∧ (m 94 56).toNatClampNeg < 3100) := i_ix (by omega) (by omega)
            refine ⟨hg22, ?_⟩
            have hg23 : (0 ≤ l2 ∧ l2.toNatClampNeg < 3100) := i_ix (by omega) (by omega)
            refine ⟨hg23, ?_⟩
            try have nb := r_NB
            have hV24 : zV (ma_u m 106 l2.toNatClampNeg (1 : Int32)) := ua_106 hV
            have hV25 : zV (ma_u (ma_u m 106 l2.toNatClampNeg (1 : Int32)) 115 (m 94 56).toNatClampNeg l2) := ua_115 hV24 (by omega) (by omega)
            first | have e27 : ((m 94 56) + (1 : Int32)).toInt = (m 94 56).toInt + (1) := i_addk rfl (by omega) (by omega) | have b28 := i_bd ((m 94 56) + (1 : Int32))
            have hV26 : zV (ma_u (ma_u (ma_u m 106 l2.toNatClampNeg (1 : Int32)) 115 (m 94 56).toNatClampNeg l2) 94 56 ((m 94 56) + (1 : Int32))) := us_94_56 hV25 (by omega) (by omega)
            first | have f29 : 0 ≤ (m 100 l2.toNatClampNeg).toInt ∧ (m 100 l2.toNatClampNeg).toInt ≤ 100000 := ra_100 (m := m) hV (k := l2.toNatClampNeg) (i_ix (n := 3100) (by omega) (by omega)).2 | have b30 := i_bd (m 100 l2.toNatClampNeg)
            exact OUT52 _ ((m 100 l2.toNatClampNeg)) (show (100002 - ((m 100 l2.toNatClampNeg).toInt + 1) % 100003).toNat < n52 from by omega) (zF_u (zF_u (zF_u hF rfl) rfl) rfl) hV26 (by omega) (by omega) (show zG1 ((m 94 56) + (1 : Int32)) (m 94 57) ((ma_u m 106 l2.toNatClampNeg (1 : Int32)) 106) from by first | (exact G1_push r_G1 (by assumption) (by omega) (by decide) (by assumption)) | (exact G1_dark0 r_G1 (by decide)) | (exfalso; omega; done) | (exfalso; contradiction; done)) (show (m0 94 56).toInt ≤ ((m 94 56) + (1 : Int32)).toInt from by omega) r_RB r_QI (show qG5 ((ma_u m 106 l2.toNatClampNeg (1 : Int32)) 106) ((ma_u m 115 (m 94 56).toNatClampNeg l2) 115) (m 99) (m 100) (m 94 57) ((m 94 56) + (1 : Int32)) aa (m 100 l2.toNatClampNeg) (aRo aa 0) from by first | (exact G5_push r_G5 r_RB r_QI (by omega) (show qMin _ _ _ 3100 from (show l3.toInt = 3100 from by omega) ▸ r_MN) (by omega) (by assumption)) | (exfalso; omega; done) | (exfalso; contradiction; done))
          · skip
            have g31 := i_ne h19
            have hg32 : (0 ≤ l2 ∧ l2.toNatClampNeg < 3100) := i_ix (by omega) (by omega)
            refine ⟨hg32, ?_⟩
            try have nb := r_NB
            first | have f33 : 0 ≤ (m 100 l2.toNatClampNeg).toInt ∧ (m 100 l2.toNatClampNeg).toInt ≤ 100000 := ra_100 (m := m) hV (k := l2.toNatClampNeg) (i_ix (n := 3100) (by omega) (by omega)).2 | have b34 := i_bd (m 100 l2.toNatClampNeg)
            exact OUT52 _ ((m 100 l2.toNatClampNeg)) (show (100002 - ((m 100 l2.toNatClampNeg).toInt + 1) % 100003).toNat < n52 from by omega) hF hV (by omega) (by omega) r_G1 (show (m0 94 56).toInt ≤ (m 94 56).toInt from by omega) r_RB r_QI (show qG5 (m 106) (m 115) (m 99) (m 100) (m 94 57) (m 94 56) aa (m 100 l2.toNatClampNeg) (aRo aa 0) from by first | (exact r_G5) | (exact G5_none r_G5 r_RB r_QI (by omega) (show qMin _ _ _ 3100 from (show l3.toInt = 3100 from by omega) ▸ r_MN) (by omega)) | (exact G5_skip r_G5 r_RB r_QI (by omega) (show qMin _ _ _ 3100 from (show l3.toInt = 3100 from by omega) ▸ r_MN) (by omega) (by assumption)) | (exfalso; omega; done) | (exfalso; contradiction; done))
      · skip
        have g35 := i_nle h9
        try have nb := r_NB
        have li36 : (-2 : Int32).toInt = -2 := rfl
        exact OUT52 _ ((-2 : Int32)) (show (100002 - ((-2 : Int32).toInt + 1) % 100003).toNat < n52 from by omega) hF hV (by omega) (by omega) r_G1 (show (m0 94 56).toInt ≤ (m 94 56).toInt from by omega) r_RB r_QI (show qG5 (m 106) (m 115) (m 99) (m 100) (m 94 57) (m 94 56) aa (-2 : Int32) (aRo aa 0) from by first | (exact r_G5) | (exact G5_none r_G5 r_RB r_QI (by omega) (show qMin _ _ _ 3100 from (show l3.toInt = 3100 from by omega) ▸ r_MN) (by omega)) | (exact G5_skip r_G5 r_RB r_QI (by omega) (show qMin _ _ _ 3100 from (show l3.toInt = 3100 from by omega) ▸ r_MN) (by omega) (by assumption)) | (exfalso; omega; done) | (exfalso; contradiction; done))
    · skip
      have g37 := i_nle h5
      have hg38 : (0 ≤ l3 ∧ l3.toNatClampNeg < 3100) := i_ix (by omega) (by omega)
      refine ⟨hg38, ?_⟩
      first | have f39 : 0 ≤ (m 99 l3.toNatClampNeg).toInt ∧ (m 99 l3.toNatClampNeg).toInt ≤ 1 := ra_99 (m := m) hV (k := l3.toNatClampNeg) (i_ix (n := 3100) (by omega) (by omega)).2 | have b40 := i_bd (m 99 l3.toNatClampNeg)
      have li41 : (0 : Int32).toInt = 0 := rfl
      refine zd (fun (h42 : (m 99 l3.toNatClampNeg) = (0 : Int32)) => ?_) (fun (h42 : ¬ (m 99 l3.toNatClampNeg) = (0 : Int32)) => ?_)
      · skip
        have g43 := i_eq h42
        try have nb := r_NB
        have b44 := i_bd l1
        have b45 := i_bd l2
        first | have e46 : (l3 + (1 : Int32)).toInt = l3.toInt + (1) := i_addk rfl (by omega) (by omega) | have b47 := i_bd (l3 + (1 : Int32))
        exact IH (3100 - (l3 + (1 : Int32)).toInt).toNat (by omega) _ (l1) (l2) ((l3 + (1 : Int32))) rfl hF hV (by omega) (by omega) (by omega) (by omega) (by omega) (by omega) (show (100002 - (l1.toInt + 1) % 100003).toNat = n52 from by omega) r_NB r_G1 (show (m0 94 56).toInt ≤ (m 94 56).toInt from by omega) r_RB r_QI r_G5 (show qMin (qCd (m 99) (m 107) (m 100) l1) (m 100) l2 (l3 + (1 : Int32)).toInt from by first | (exact Min_0 (by decide) (by decide)) | (exact Min_new r_MN (by omega) (by omega) (by omega) ⟨by assumption, by omega, by omega⟩ (Or.inl (by omega))) | (exact Min_new r_MN (by omega) (by omega) (by omega) ⟨by assumption, by omega, by omega⟩ (Or.inr (by omega))) | (exact Min_keep r_MN (by omega) (by omega) (by omega) (by omega)) | (exact Min_skip r_MN (by omega) (by omega) (fun z => z.1 (by assumption))) | (exact Min_skip r_MN (by omega) (by omega) (fun z => by have z1 := z.2.1; have z2 := z.2.2; omega)) | (exfalso; omega; done) | (exfalso; contradiction; done))
      · skip
        have g48 := i_ne h42
        have hg49 : (0 ≤ l3 ∧ l3.toNatClampNeg < 3100) := i_ix (by omega) (by omega)
        refine ⟨hg49, ?_⟩
        have b50 := i_bd (m 107 l3.toNatClampNeg)
        refine zd (fun (h51 : (m 107 l3.toNatClampNeg) ≤ (0 : Int32)) => ?_) (fun (h51 : ¬ (m 107 l3.toNatClampNeg) ≤ (0 : Int32)) => ?_)
        · skip
          have g52 := i_le h51
          try have nb := r_NB
          have b53 := i_bd l1
          have b54 := i_bd l2
          first | have e55 : (l3 + (1 : Int32)).toInt = l3.toInt + (1) := i_addk rfl (by omega) (by omega) | have b56 := i_bd (l3 + (1 : Int32))
          exact IH (3100 - (l3 + (1 : Int32)).toInt).toNat (by omega) _ (l1) (l2) ((l3 + (1 : Int32))) rfl hF hV (by omega) (by omega) (by omega) (by omega) (by omega) (by omega) (show (100002 - (l1.toInt + 1) % 100003).toNat = n52 from by omega) r_NB r_G1 (show (m0 94 56).toInt ≤ (m 94 56).toInt from by omega) r_RB r_QI r_G5 (show qMin (qCd (m 99) (m 107) (m 100) l1) (m 100) l2 (l3 + (1 : Int32)).toInt from by first | (exact Min_0 (by decide) (by decide)) | (exact Min_new r_MN (by omega) (by omega) (by omega) ⟨by assumption, by omega, by omega⟩ (Or.inl (by omega))) | (exact Min_new r_MN (by omega) (by omega) (by omega) ⟨by assumption, by omega, by omega⟩ (Or.inr (by omega))) | (exact Min_keep r_MN (by omega) (by omega) (by omega) (by omega)) | (exact Min_skip r_MN (by omega) (by omega) (fun z => z.1 (by assumption))) | (exact Min_skip r_MN (by omega) (by omega) (fun z => by have z1 := z.2.1; have z2 := z.2.2; omega)) | (exfalso; omega; done) | (exfalso; contradiction; done))
        · skip
          have g57 := i_nle h51
          have hg58 : (0 ≤ l3 ∧ l3.toNatClampNeg < 3100) := i_ix (by omega) (by omega)
          refine ⟨hg58, ?_⟩
          first | have f59 : 0 ≤ (m 100 l3.toNatClampNeg).toInt ∧ (m 100 l3.toNatClampNeg).toInt ≤ 100000 := ra_100 (m := m) hV (k := l3.toNatClampNeg) (i_ix (n := 3100) (by omega) (by omega)).2 | have b60 := i_bd (m 100 l3.toNatClampNeg)
          have b61 := i_bd l1
          refine zd (fun (h62 : (m 100 l3.toNatClampNeg) ≤ l1) => ?_) (fun (h62 : ¬ (m 100 l3.toNatClampNeg) ≤ l1) => ?_)
          · skip
            have g63 := i_le h62
            try have nb := r_NB
            have b64 := i_bd l2
            first | have e65 : (l3 + (1 : Int32)).toInt = l3.toInt + (1) := i_addk rfl (by omega) (by omega) | have b66 := i_bd (l3 + (1 : Int32))
            exact IH (3100 - (l3 + (1 : Int32)).toInt).toNat (by omega) _ (l1) (l2) ((l3 + (1 : Int32))) rfl hF hV (by omega) (by omega) (by omega) (by omega) (by omega) (by omega) (show (100002 - (l1.toInt + 1) % 100003).toNat = n52 from by omega) r_NB r_G1 (show (m0 94 56).toInt ≤ (m 94 56).toInt from by omega) r_RB r_QI r_G5 (show qMin (qCd (m 99) (m 107) (m 100) l1) (m 100) l2 (l3 + (1 : Int32)).toInt from by first | (exact Min_0 (by decide) (by decide)) | (exact Min_new r_MN (by omega) (by omega) (by omega) ⟨by assumption, by omega, by omega⟩ (Or.inl (by omega))) | (exact Min_new r_MN (by omega) (by omega) (by omega) ⟨by assumption, by omega, by omega⟩ (Or.inr (by omega))) | (exact Min_keep r_MN (by omega) (by omega) (by omega) (by omega)) | (exact Min_skip r_MN (by omega) (by omega) (fun z => z.1 (by assumption))) | (exact Min_skip r_MN (by omega) (by omega) (fun z => by have z1 := z.2.1; have z2 := z.2.2; omega)) | (exfalso; omega; done) | (exfalso; contradiction; done))
          · skip
            have g67 := i_nle h62
            have b68 := i_bd l2
            refine zd (fun (h69 : l2 < (0 : Int32)) => ?_) (fun (h69 : ¬ l2 < (0 : Int32)) => ?_)
            · skip
              have g70 := i_lt h69
              try have nb := r_NB
              first | have e71 : (l3 + (1 : Int32)).toInt = l3.toInt + (1) := i_addk rfl (by omega) (by omega) | have b72 := i_bd (l3 + (1 : Int32))
              exact IH (3100 - (l3 + (1 : Int32)).toInt).toNat (by omega) _ (l1) (l3) ((l3 + (1 : Int32))) rfl hF hV (by omega) (by omega) (by omega) (by omega) (by omega) (by omega) (show (100002 - (l1.toInt + 1) % 100003).toNat = n52 from by omega) (show l3.toInt < 0 ∨ l1.toInt < ((m 100) l3.toNatClampNeg).toInt from by first | (exact Or.inl (by decide)) | (exact Or.inr (by omega)) | (exfalso; omega; done) | (exfalso; contradiction; done)) r_G1 (show (m0 94 56).toInt ≤ (m 94 56).toInt from by omega) r_RB r_QI r_G5 (show qMin (qCd (m 99) (m 107) (m 100) l1) (m 100) l3 (l3 + (1 : Int32)).toInt from by first | (exact Min_0 (by decide) (by decide)) | (exact Min_new r_MN (by omega) (by omega) (by omega) ⟨by assumption, by omega, by omega⟩ (Or.inl (by omega))) | (exact Min_new r_MN (by omega) (by omega) (by omega) ⟨by assumption, by omega, by omega⟩ (Or.inr (by omega))) | (exact Min_keep r_MN (by omega) (by omega) (by omega) (by omega)) | (exact Min_skip r_MN (by omega) (by omega) (fun z => z.1 (by assumption))) | (exact Min_skip r_MN (by omega) (by omega) (fun z => by have z1 := z.2.1; have z2 := z.2.2; omega)) | (exfalso; omega; done) | (exfalso; contradiction; done))
            · skip
              have g73 := i_nlt h69
              have hg74 : (0 ≤ l3 ∧ l3.toNatClampNeg < 3100) := i_ix (by omega) (by omega)
              refine ⟨hg74, ?_⟩
              have hg75 : (0 ≤ l2 ∧ l2.toNatClampNeg < 3100) := i_ix (by omega) (by omega)
              refine ⟨hg75, ?_⟩
              first | have f76 : 0 ≤ (m 100 l2.toNatClampNeg).toInt ∧ (m 100 l2.toNatClampNeg).toInt ≤ 100000 := ra_100 (m := m) hV (k := l2.toNatClampNeg) (i_ix (n := 3100) (by omega) (by omega)).2 | have b77 := i_bd (m 100 l2.toNatClampNeg)
              refine zd (fun (h78 : (m 100 l2.toNatClampNeg) ≤ (m 100 l3.toNatClampNeg)) => ?_) (fun (h78 : ¬ (m 100 l2.toNatClampNeg) ≤ (m 100 l3.toNatClampNeg)) => ?_)
              · skip
                have g79 := i_le h78
                try have nb := r_NB
                first | have e80 : (l3 + (1 : Int32)).toInt = l3.toInt + (1) := i_addk rfl (by omega) (by omega) | have b81 := i_bd (l3 + (1 : Int32))
                exact IH (3100 - (l3 + (1 : Int32)).toInt).toNat (by omega) _ (l1) (l2) ((l3 + (1 : Int32))) rfl hF hV (by omega) (by omega) (by omega) (by omega) (by omega) (by omega) (show (100002 - (l1.toInt + 1) % 100003).toNat = n52 from by omega) r_NB r_G1 (show (m0 94 56).toInt ≤ (m 94 56).toInt from by omega) r_RB r_QI r_G5 (show qMin (qCd (m 99) (m 107) (m 100) l1) (m 100) l2 (l3 + (1 : Int32)).toInt from by first | (exact Min_0 (by decide) (by decide)) | (exact Min_new r_MN (by omega) (by omega) (by omega) ⟨by assumption, by omega, by omega⟩ (Or.inl (by omega))) | (exact Min_new r_MN (by omega) (by omega) (by omega) ⟨by assumption, by omega, by omega⟩ (Or.inr (by omega))) | (exact Min_keep r_MN (by omega) (by omega) (by omega) (by omega)) | (exact Min_skip r_MN (by omega) (by omega) (fun z => z.1 (by assumption))) | (exact Min_skip r_MN (by omega) (by omega) (fun z => by have z1 := z.2.1; have z2 := z.2.2; omega)) | (exfalso; omega; done) | (exfalso; contradiction; done))
              · skip
                have g82 := i_nle h78
                try have nb := r_NB
                first | have e83 : (l3 + (1 : Int32)).toInt = l3.toInt + (1) := i_addk rfl (by omega) (by omega) | have b84 := i_bd (l3 + (1 : Int32))
                exact IH (3100 - (l3 + (1 : Int32)).toInt).toNat (by omega) _ (l1) (l3) ((l3 + (1 : Int32))) rfl hF hV (by omega) (by omega) (by omega) (by omega) (by omega) (by omega) (show (100002 - (l1.toInt + 1) % 100003).toNat = n52 from by omega) (show l3.toInt < 0 ∨ l1.toInt < ((m 100) l3.toNatClampNeg).toInt from by first | (exact Or.inl (by decide)) | (exact Or.inr (by omega)) | (exfalso; omega; done) | (exfalso; contradiction; done)) r_G1 (show (m0 94 56).toInt ≤ (m 94 56).toInt from by omega) r_RB r_QI r_G5 (show qMin (qCd (m 99) (m 107) (m 100) l1) (m 100) l3 (l3 + (1 : Int32)).toInt from by first | (exact Min_0 (by decide) (by decide)) | (exact Min_new r_MN (by omega) (by omega) (by omega) ⟨by assumption, by omega, by omega⟩ (Or.inl (by omega))) | (exact Min_new r_MN (by omega) (by omega) (by omega) ⟨by assumption, by omega, by omega⟩ (Or.inr (by omega))) | (exact Min_keep r_MN (by omega) (by omega) (by omega) (by omega)) | (exact Min_skip r_MN (by omega) (by omega) (fun z => z.1 (by assumption))) | (exact Min_skip r_MN (by omega) (by omega) (fun z => by have z1 := z.2.1; have z2 := z.2.2; omega)) | (exfalso; omega; done) | (exfalso; contradiction; done))
theorem lp_220r_52 {X : Nat × (Nat → Int32)} {P : Option ma_V → (Nat → Nat → Int32) → Prop} {aa : Nat→Nat→Int32} {m0 : Nat → Nat → Int32} (h0 : zV m0) (K : ∀ m₉, zF wr_220 m0 m₉ → zV m₉ → (zG1 (m₉ 94 56) (m₉ 94 57) (m₉ 106)) → ((m0 94 56).toInt ≤ (m₉ 94 56).toInt) → (qRB (m₉ 99) (m₉ 100) (m₉ 98) (m₉ 101) (m₉ 102) (m₉ 103) (m₉ 107) (m₉ 108) (m₉ 109) (m₉ 111) (m₉ 112) (m₉ 113) (m₉ 114) (m₉ 94 55) (m₉ 94 46) (m₉ 94 11) (m₉ 94 12) (m₉ 94 62) (m₉ 94 17) (m₉ 94 9) (aRo aa 0)) → (qI (aRo aa 0)) → (qMQ (m₉ 106) (m₉ 115) (m₉ 94 57) (m₉ 94 56) (m₉ 99) (m₉ 100) (aRo aa 0)) → P none m₉) : ∀ (n : Nat) (m : Nat → Nat → Int32) (l1 : Int32), (100002 - (l1.toInt + 1) % 100003).toNat = n → zF wr_220 m0 m → zV m → (-2 ≤ l1.toInt) → (l1.toInt ≤ 100000) → (zG1 (m 94 56) (m 94 57) (m 106)) → ((m0 94 56).toInt ≤ (m 94 56).toInt) → (qRB (m 99) (m 100) (m 98) (m 101) (m 102) (m 103) (m 107) (m 108) (m 109) (m 111) (m 112) (m 113) (m 114) (m 94 55) (m 94 46) (m 94 11) (m 94 12) (m 94 62) (m 94 17) (m 94 9) aa) → (qI aa) → (qG5 (m 106) (m 115) (m 99) (m 100) (m 94 57) (m 94 56) aa l1 (aRo aa 0)) → zm X 1 21 220 52 [(0, .inr (.inr (some 94))), (1, .inl l1)] m P := by
  intro n
  induction n using Nat.strongRecOn with
  | _ n IH =>
    intro m l1 hmu hF hV hi0 hi1 r_G1 hi3 r_RB r_QI r_G5
    refine g_220_52 l1 ?_
    have f1 : 0 ≤ (m0 94 56).toInt ∧ (m0 94 56).toInt ≤ 3100 := rs_94_56 (m := m0) h0
    have f2 : 0 ≤ (m 94 56).toInt ∧ (m 94 56).toInt ≤ 3100 := rs_94_56 (m := m) hV
    have b3 := i_bd l1
    have li4 : (-2 : Int32).toInt = -2 := rfl
    refine zd (fun (h5 : l1 = (-2 : Int32)) => ?_) (fun (h5 : ¬ l1 = (-2 : Int32)) => ?_)
    · skip
      have g6 := i_eq h5
      exact K _ hF hV r_G1 (show (m0 94 56).toInt ≤ (m 94 56).toInt from by omega) (show qRB (m 99) (m 100) (m 98) (m 101) (m 102) (m 103) (m 107) (m 108) (m 109) (m 111) (m 112) (m 113) (m 114) (m 94 55) (m 94 46) (m 94 11) (m 94 12) (m 94 62) (m 94 17) (m 94 9) (aRo aa 0) from by first | (exact RB_of r_RB (G5_end r_G5 (by omega)).2) | (exfalso; omega; done) | (exfalso; contradiction; done)) (show qI (aRo aa 0) from by first | (exact qI_of r_QI (G5_end r_G5 (by omega)).2) | (exfalso; omega; done) | (exfalso; contradiction; done)) (show qMQ (m 106) (m 115) (m 94 57) (m 94 56) (m 99) (m 100) (aRo aa 0) from by first | (exact (G5_end r_G5 (by omega)).1) | (exfalso; omega; done) | (exfalso; contradiction; done))
    · skip
      have g7 := i_ne h5
      have li8 : (-1 : Int32).toInt = -1 := rfl
      have li9 : (0 : Int32).toInt = 0 := rfl
      exact lp_220r_62 h0 K (fun _ _ z1 z2 z3 y0 y1 y2 y3 y4 y5 y6 => IH _ z1 _ _ rfl z2 z3 y0 y1 y2 y3 y4 y5 y6) _ _ (l1) ((-1 : Int32)) ((0 : Int32)) rfl hF hV (by omega) (by omega) (by omega) (by omega) (by omega) (by omega) (show (100002 - (l1.toInt + 1) % 100003).toNat = n from by omega) (show (-1 : Int32).toInt < 0 ∨ l1.toInt < ((m 100) (-1 : Int32).toNatClampNeg).toInt from by first | (exact Or.inl (by decide)) | (exact Or.inr (by omega)) | (exfalso; omega; done) | (exfalso; contradiction; done)) r_G1 (show (m0 94 56).toInt ≤ (m 94 56).toInt from by omega) r_RB r_QI r_G5 (show qMin (qCd (m 99) (m 107) (m 100) l1) (m 100) (-1 : Int32) (0 : Int32).toInt from by first | (exact Min_0 (by decide) (by decide)) | (exfalso; omega; done) | (exfalso; contradiction; done))
theorem lp_220r_26 {X : Nat × (Nat → Int32)} {P : Option ma_V → (Nat → Nat → Int32) → Prop} {aa : Nat→Nat→Int32} {m0 : Nat → Nat → Int32} (h0 : zV m0) (K : ∀ m₉, zF wr_220 m0 m₉ → zV m₉ → (zG1 (m₉ 94 56) (m₉ 94 57) (m₉ 106)) → ((m0 94 56).toInt ≤ (m₉ 94 56).toInt) → (qRB (m₉ 99) (m₉ 100) (m₉ 98) (m₉ 101) (m₉ 102) (m₉ 103) (m₉ 107) (m₉ 108) (m₉ 109) (m₉ 111) (m₉ 112) (m₉ 113) (m₉ 114) (m₉ 94 55) (m₉ 94 46) (m₉ 94 11) (m₉ 94 12) (m₉ 94 62) (m₉ 94 17) (m₉ 94 9) (aRo aa 0)) → (qI (aRo aa 0)) → (qMQ (m₉ 106) (m₉ 115) (m₉ 94 57) (m₉ 94 56) (m₉ 99) (m₉ 100) (aRo aa 0)) → P none m₉) : ∀ (n : Nat) (m : Nat → Nat → Int32) (l1 : Int32), (3100 - l1.toInt).toNat = n → zF wr_220 m0 m → zV m → (0 ≤ l1.toInt) → (zG1 (m 94 56) (m 94 57) (m 106)) → ((m0 94 56).toInt ≤ (m 94 56).toInt) → (qRB (m 99) (m 100) (m 98) (m 101) (m 102) (m 103) (m 107) (m 108) (m 109) (m 111) (m 112) (m 113) (m 114) (m 94 55) (m 94 46) (m 94 11) (m 94 12) (m 94 62) (m 94 17) (m 94 9) aa) → (qI aa) → (qG3 (m 106) (m 115) (m 99) (m 100) (m 94 57) (m 94 56) aa l1 (aRo aa 0)) → zm X 1 21 220 26 [(0, .inr (.inr (some 94))), (1, .inl l1)] m P := by
  intro n
  induction n using Nat.strongRecOn with
  | _ n IH =>
    intro m l1 hmu hF hV hi0 r_G1 hi2 r_RB r_QI r_G3
    refine g_220_26 l1 ?_
    have f1 : 0 ≤ (m0 94 56).toInt ∧ (m0 94 56).toInt ≤ 3100 := rs_94_56 (m := m0) h0
    have f2 : 0 ≤ (m 94 56).toInt ∧ (m 94 56).toInt ≤ 3100 := rs_94_56 (m := m) hV
    have f3 : 0 ≤ (m 94 55).toInt ∧ (m 94 55).toInt ≤ 3100 := rs_94_55 (m := m) hV
    have b4 := i_bd l1
    refine zd (fun (h5 : (m 94 55) ≤ l1) => ?_) (fun (h5 : ¬ (m 94 55) ≤ l1) => ?_)
    · skip
      have g6 := i_le h5
      have li7 : (-1 : Int32).toInt = -1 := rfl
      exact lp_220r_52 h0 K _ _ ((-1 : Int32)) rfl hF hV (by omega) (by omega) r_G1 (show (m0 94 56).toInt ≤ (m 94 56).toInt from by omega) r_RB r_QI (show qG5 (m 106) (m 115) (m 99) (m 100) (m 94 57) (m 94 56) aa (-1 : Int32) (aRo aa 0) from by first | (exact G3_end r_G3 r_RB r_QI (by omega)) | (exfalso; omega; done) | (exfalso; contradiction; done))
    · skip
      have g8 := i_nle h5
      have hg9 : (0 ≤ l1 ∧ l1.toNatClampNeg < 3100) := i_ix (by omega) (by omega)
      refine ⟨hg9, ?_⟩
      first | have f10 : 0 ≤ (m 114 l1.toNatClampNeg).toInt ∧ (m 114 l1.toNatClampNeg).toInt ≤ 3099 := ra_114 (m := m) hV (k := l1.toNatClampNeg) (i_ix (n := 3100) (by omega) (by omega)).2 | have b11 := i_bd (m 114 l1.toNatClampNeg)
      have li12 : (0 : Int32).toInt = 0 := rfl
      refine zd (fun (h13 : (m 114 l1.toNatClampNeg) < (0 : Int32)) => ?_) (fun (h13 : ¬ (m 114 l1.toNatClampNeg) < (0 : Int32)) => ?_)
      · skip
        have g14 := i_lt h13
        first | have e15 : (l1 + (1 : Int32)).toInt = l1.toInt + (1) := i_addk rfl (by omega) (by omega) | have b16 := i_bd (l1 + (1 : Int32))
        exact IH (3100 - (l1 + (1 : Int32)).toInt).toNat (by omega) _ ((l1 + (1 : Int32))) rfl hF hV (by omega) r_G1 (show (m0 94 56).toInt ≤ (m 94 56).toInt from by omega) r_RB r_QI (show qG3 (m 106) (m 115) (m 99) (m 100) (m 94 57) (m 94 56) aa (l1 + (1 : Int32)) (aRo aa 0) from by first | (exact G3_skip r_G3 r_RB (by omega) (by omega) rfl (Or.inl (by omega))) | (exact G3_skip r_G3 r_RB (by omega) (by omega) rfl (Or.inr (by assumption))) | (exfalso; omega; done) | (exfalso; contradiction; done))
      · skip
        have g17 := i_nlt h13
        have hg18 : (0 ≤ (m 114 l1.toNatClampNeg) ∧ (m 114 l1.toNatClampNeg).toNatClampNeg < 3100) := i_ix (by omega) (by omega)
        refine ⟨hg18, ?_⟩
        have b19 := i_bd (m 106 (m 114 l1.toNatClampNeg).toNatClampNeg)
        refine zd (fun (h20 : (m 106 (m 114 l1.toNatClampNeg).toNatClampNeg) = (0 : Int32)) => ?_) (fun (h20 : ¬ (m 106 (m 114 l1.toNatClampNeg).toNatClampNeg) = (0 : Int32)) => ?_)
        · skip
          have g21 := i_eq h20
          have hg22 : (0 ≤ (m 114 l1.toNatClampNeg) ∧ (m 114 l1.toNatClampNeg).toNatClampNeg < 3100) := i_ix (by omega) (by omega)
          refine ⟨hg22, ?_⟩
          try have gk := G1_room r_G1 (by assumption) (by omega)
          have hg23 : (0 ≤ (m 94 56) ∧ (m 94 56).toNatClampNeg < 3100) := i_ix (by omega) (by omega)
          refine ⟨hg23, ?_⟩
          have hV24 : zV (ma_u m 106 (m 114 l1.toNatClampNeg).toNatClampNeg (1 : Int32)) := ua_106 hV
          have hV25 : zV (ma_u (ma_u m 106 (m 114 l1.toNatClampNeg).toNatClampNeg (1 : Int32)) 115 (m 94 56).toNatClampNeg (m 114 l1.toNatClampNeg)) := ua_115 hV24 (by omega) (by omega)
          first | have e27 : ((m 94 56) + (1 : Int32)).toInt = (m 94 56).toInt + (1) := i_addk rfl (by omega) (by omega) | have b28 := i_bd ((m 94 56) + (1 : Int32))
          have hV26 : zV (ma_u (ma_u (ma_u m 106 (m 114 l1.toNatClampNeg).toNatClampNeg (1 : Int32)) 115 (m 94 56).toNatClampNeg (m 114 l1.toNatClampNeg)) 94 56 ((m 94 56) + (1 : Int32))) := us_94_56 hV25 (by omega) (by omega)
          first | have e29 : (l1 + (1 : Int32)).toInt = l1.toInt + (1) := i_addk rfl (by omega) (by omega) | have b30 := i_bd (l1 + (1 : Int32))
          exact IH (3100 - (l1 + (1 : Int32)).toInt).toNat (by omega) _ ((l1 + (1 : Int32))) rfl (zF_u (zF_u (zF_u hF rfl) rfl) rfl) hV26 (by omega) (show zG1 ((m 94 56) + (1 : Int32)) (m 94 57) ((ma_u m 106 (m 114 l1.toNatClampNeg).toNatClampNeg (1 : Int32)) 106) from by first | (exact G1_push r_G1 (by assumption) (by omega) (by decide) (by assumption)) | (exact G1_dark0 r_G1 (by decide)) | (exfalso; omega; done) | (exfalso; contradiction; done)) (show (m0 94 56).toInt ≤ ((m 94 56) + (1 : Int32)).toInt from by omega) r_RB r_QI (show qG3 ((ma_u m 106 (m 114 l1.toNatClampNeg).toNatClampNeg (1 : Int32)) 106) ((ma_u m 115 (m 94 56).toNatClampNeg (m 114 l1.toNatClampNeg)) 115) (m 99) (m 100) (m 94 57) ((m 94 56) + (1 : Int32)) aa (l1 + (1 : Int32)) (aRo aa 0) from by first | (exact G3_push r_G3 r_RB (by omega) (by omega) rfl (by assumption)) | (exfalso; omega; done) | (exfalso; contradiction; done))
        · skip
          have g31 := i_ne h20
          first | have e32 : (l1 + (1 : Int32)).toInt = l1.toInt + (1) := i_addk rfl (by omega) (by omega) | have b33 := i_bd (l1 + (1 : Int32))
          exact IH (3100 - (l1 + (1 : Int32)).toInt).toNat (by omega) _ ((l1 + (1 : Int32))) rfl hF hV (by omega) r_G1 (show (m0 94 56).toInt ≤ (m 94 56).toInt from by omega) r_RB r_QI (show qG3 (m 106) (m 115) (m 99) (m 100) (m 94 57) (m 94 56) aa (l1 + (1 : Int32)) (aRo aa 0) from by first | (exact G3_skip r_G3 r_RB (by omega) (by omega) rfl (Or.inl (by omega))) | (exact G3_skip r_G3 r_RB (by omega) (by omega) rfl (Or.inr (by assumption))) | (exfalso; omega; done) | (exfalso; contradiction; done))
theorem lp_220r_2 {X : Nat × (Nat → Int32)} {P : Option ma_V → (Nat → Nat → Int32) → Prop} {aa : Nat→Nat→Int32} {m0 : Nat → Nat → Int32} (h0 : zV m0) (K : ∀ m₉, zF wr_220 m0 m₉ → zV m₉ → (zG1 (m₉ 94 56) (m₉ 94 57) (m₉ 106)) → ((m0 94 56).toInt ≤ (m₉ 94 56).toInt) → (qRB (m₉ 99) (m₉ 100) (m₉ 98) (m₉ 101) (m₉ 102) (m₉ 103) (m₉ 107) (m₉ 108) (m₉ 109) (m₉ 111) (m₉ 112) (m₉ 113) (m₉ 114) (m₉ 94 55) (m₉ 94 46) (m₉ 94 11) (m₉ 94 12) (m₉ 94 62) (m₉ 94 17) (m₉ 94 9) (aRo aa 0)) → (qI (aRo aa 0)) → (qMQ (m₉ 106) (m₉ 115) (m₉ 94 57) (m₉ 94 56) (m₉ 99) (m₉ 100) (aRo aa 0)) → P none m₉) : ∀ (n : Nat) (m : Nat → Nat → Int32) (l1 : Int32), (16 - l1.toInt).toNat = n → zF wr_220 m0 m → zV m → (0 ≤ l1.toInt) → (zG1 (m 94 56) (m 94 57) (m 106)) → ((m0 94 56).toInt ≤ (m 94 56).toInt) → (qRB (m 99) (m 100) (m 98) (m 101) (m 102) (m 103) (m 107) (m 108) (m 109) (m 111) (m 112) (m 113) (m 114) (m 94 55) (m 94 46) (m 94 11) (m 94 12) (m 94 62) (m 94 17) (m 94 9) aa) → (qI aa) → (qG2 (m 106) (m 115) (m 99) (m 100) (m 94 57) (m 94 56) aa l1 (aRo aa 0)) → zm X 1 21 220 2 [(0, .inr (.inr (some 94))), (1, .inl l1)] m P := by
  intro n
  induction n using Nat.strongRecOn with
  | _ n IH =>
    intro m l1 hmu hF hV hi0 r_G1 hi2 r_RB r_QI r_G2
    refine g_220_2 l1 ?_
    have f1 : 0 ≤ (m0 94 56).toInt ∧ (m0 94 56).toInt ≤ 3100 := rs_94_56 (m := m0) h0
    have f2 : 0 ≤ (m 94 56).toInt ∧ (m 94 56).toInt ≤ 3100 := rs_94_56 (m := m) hV
    have li3 : (16 : Int32).toInt = 16 := rfl
    have b4 := i_bd l1
    refine zd (fun (h5 : (16 : Int32) ≤ l1) => ?_) (fun (h5 : ¬ (16 : Int32) ≤ l1) => ?_)
    · skip
      have g6 := i_le h5
      have li7 : (0 : Int32).toInt = 0 := rfl
      exact lp_220r_26 h0 K _ _ ((0 : Int32)) rfl hF hV (by omega) r_G1 (show (m0 94 56).toInt ≤ (m 94 56).toInt from by omega) r_RB r_QI (show qG3 (m 106) (m 115) (m 99) (m 100) (m 94 57) (m 94 56) aa (0 : Int32) (aRo aa 0) from by first | (exact G2_end r_G2 (by omega)) | (exfalso; omega; done) | (exfalso; contradiction; done))
    · skip
      have g8 := i_nle h5
      have hg9 : (0 ≤ l1 ∧ l1.toNatClampNeg < 16) := i_ix (by omega) (by omega)
      refine ⟨hg9, ?_⟩
      first | have f10 : -1 ≤ (m 112 l1.toNatClampNeg).toInt ∧ (m 112 l1.toNatClampNeg).toInt ≤ 3099 := ra_112 (m := m) hV (k := l1.toNatClampNeg) (i_ix (n := 16) (by omega) (by omega)).2 | have b11 := i_bd (m 112 l1.toNatClampNeg)
      have li12 : (0 : Int32).toInt = 0 := rfl
      refine zd (fun (h13 : (m 112 l1.toNatClampNeg) < (0 : Int32)) => ?_) (fun (h13 : ¬ (m 112 l1.toNatClampNeg) < (0 : Int32)) => ?_)
      · skip
        have g14 := i_lt h13
        first | have e15 : (l1 + (1 : Int32)).toInt = l1.toInt + (1) := i_addk rfl (by omega) (by omega) | have b16 := i_bd (l1 + (1 : Int32))
        exact IH (16 - (l1 + (1 : Int32)).toInt).toNat (by omega) _ ((l1 + (1 : Int32))) rfl hF hV (by omega) r_G1 (show (m0 94 56).toInt ≤ (m 94 56).toInt from by omega) r_RB r_QI (show qG2 (m 106) (m 115) (m 99) (m 100) (m 94 57) (m 94 56) aa (l1 + (1 : Int32)) (aRo aa 0) from by first | (exact G2_skip r_G2 r_RB (by omega) (by omega) rfl (Or.inl (by omega))) | (exact G2_skip r_G2 r_RB (by omega) (by omega) rfl (Or.inr (by assumption))) | (exfalso; omega; done) | (exfalso; contradiction; done))
      · skip
        have g17 := i_nlt h13
        have hg18 : (0 ≤ (m 112 l1.toNatClampNeg) ∧ (m 112 l1.toNatClampNeg).toNatClampNeg < 3100) := i_ix (by omega) (by omega)
        refine ⟨hg18, ?_⟩
        have b19 := i_bd (m 106 (m 112 l1.toNatClampNeg).toNatClampNeg)
        refine zd (fun (h20 : (m 106 (m 112 l1.toNatClampNeg).toNatClampNeg) = (0 : Int32)) => ?_) (fun (h20 : ¬ (m 106 (m 112 l1.toNatClampNeg).toNatClampNeg) = (0 : Int32)) => ?_)
        · skip
          have g21 := i_eq h20
          have hg22 : (0 ≤ (m 112 l1.toNatClampNeg) ∧ (m 112 l1.toNatClampNeg).toNatClampNeg < 3100) := i_ix (by omega) (by omega)
          refine ⟨hg22, ?_⟩
          try have gk := G1_room r_G1 (by assumption) (by omega)
          have hg23 : (0 ≤ (m 94 56) ∧ (m 94 56).toNatClampNeg < 3100) := i_ix (by omega) (by omega)
          refine ⟨hg23, ?_⟩
          have hV24 : zV (ma_u m 106 (m 112 l1.toNatClampNeg).toNatClampNeg (1 : Int32)) := ua_106 hV
          have hV25 : zV (ma_u (ma_u m 106 (m 112 l1.toNatClampNeg).toNatClampNeg (1 : Int32)) 115 (m 94 56).toNatClampNeg (m 112 l1.toNatClampNeg)) := ua_115 hV24 (by omega) (by omega)
          first | have e27 : ((m 94 56) + (1 : Int32)).toInt = (m 94 56).toInt + (1) := i_addk rfl (by omega) (by omega) | have b28 := i_bd ((m 94 56) + (1 : Int32))
          have hV26 : zV (ma_u (ma_u (ma_u m 106 (m 112 l1.toNatClampNeg).toNatClampNeg (1 : Int32)) 115 (m 94 56).toNatClampNeg (m 112 l1.toNatClampNeg)) 94 56 ((m 94 56) + (1 : Int32))) := us_94_56 hV25 (by omega) (by omega)
          first | have e29 : (l1 + (1 : Int32)).toInt = l1.toInt + (1) := i_addk rfl (by omega) (by omega) | have b30 := i_bd (l1 + (1 : Int32))
          exact IH (16 - (l1 + (1 : Int32)).toInt).toNat (by omega) _ ((l1 + (1 : Int32))) rfl (zF_u (zF_u (zF_u hF rfl) rfl) rfl) hV26 (by omega) (show zG1 ((m 94 56) + (1 : Int32)) (m 94 57) ((ma_u m 106 (m 112 l1.toNatClampNeg).toNatClampNeg (1 : Int32)) 106) from by first | (exact G1_push r_G1 (by assumption) (by omega) (by decide) (by assumption)) | (exact G1_dark0 r_G1 (by decide)) | (exfalso; omega; done) | (exfalso; contradiction; done)) (show (m0 94 56).toInt ≤ ((m 94 56) + (1 : Int32)).toInt from by omega) r_RB r_QI (show qG2 ((ma_u m 106 (m 112 l1.toNatClampNeg).toNatClampNeg (1 : Int32)) 106) ((ma_u m 115 (m 94 56).toNatClampNeg (m 112 l1.toNatClampNeg)) 115) (m 99) (m 100) (m 94 57) ((m 94 56) + (1 : Int32)) aa (l1 + (1 : Int32)) (aRo aa 0) from by first | (exact G2_push r_G2 r_RB (by omega) (by omega) rfl (by omega) (by assumption)) | (exfalso; omega; done) | (exfalso; contradiction; done))
        · skip
          have g31 := i_ne h20
          first | have e32 : (l1 + (1 : Int32)).toInt = l1.toInt + (1) := i_addk rfl (by omega) (by omega) | have b33 := i_bd (l1 + (1 : Int32))
          exact IH (16 - (l1 + (1 : Int32)).toInt).toNat (by omega) _ ((l1 + (1 : Int32))) rfl hF hV (by omega) r_G1 (show (m0 94 56).toInt ≤ (m 94 56).toInt from by omega) r_RB r_QI (show qG2 (m 106) (m 115) (m 99) (m 100) (m 94 57) (m 94 56) aa (l1 + (1 : Int32)) (aRo aa 0) from by first | (exact G2_skip r_G2 r_RB (by omega) (by omega) rfl (Or.inl (by omega))) | (exact G2_skip r_G2 r_RB (by omega) (by omega) rfl (Or.inr (by assumption))) | (exfalso; omega; done) | (exfalso; contradiction; done))
theorem sp_220r {X : Nat × (Nat → Int32)} {P : Option ma_V → (Nat → Nat → Int32) → Prop} {aa : Nat→Nat→Int32} {m : Nat → Nat → Int32}  (hV : zV m) (r_G1 : zG1 (m 94 56) (m 94 57) (m 106)) (r_MQ : qMQ (m 106) (m 115) (m 94 57) (m 94 56) (m 99) (m 100) aa) (r_RB : qRB (m 99) (m 100) (m 98) (m 101) (m 102) (m 103) (m 107) (m 108) (m 109) (m 111) (m 112) (m 113) (m 114) (m 94 55) (m 94 46) (m 94 11) (m 94 12) (m 94 62) (m 94 17) (m 94 9) aa) (r_QI : qI aa) (KZ : ∀ m₉, zV (zov wr_220 m m₉) → (zG1 (m₉ 94 56) (m 94 57) (m₉ 106)) → ((m 94 56).toInt ≤ (m₉ 94 56).toInt) → (qRB (m 99) (m 100) (m 98) (m 101) (m 102) (m 103) (m 107) (m 108) (m 109) (m 111) (m 112) (m 113) (m 114) (m 94 55) (m 94 46) (m 94 11) (m 94 12) (m 94 62) (m 94 17) (m 94 9) (aRo aa 0)) → (qI (aRo aa 0)) → (qMQ (m₉ 106) (m₉ 115) (m 94 57) (m₉ 94 56) (m 99) (m 100) (aRo aa 0)) → P none (zov wr_220 m m₉)) : zm X 1 21 220 0 [(0, .inr (.inr (some 94)))] m P := by
  have K : ∀ m₉, zF wr_220 m m₉ → zV m₉ → (zG1 (m₉ 94 56) (m₉ 94 57) (m₉ 106)) → ((m 94 56).toInt ≤ (m₉ 94 56).toInt) → (qRB (m₉ 99) (m₉ 100) (m₉ 98) (m₉ 101) (m₉ 102) (m₉ 103) (m₉ 107) (m₉ 108) (m₉ 109) (m₉ 111) (m₉ 112) (m₉ 113) (m₉ 114) (m₉ 94 55) (m₉ 94 46) (m₉ 94 11) (m₉ 94 12) (m₉ 94 62) (m₉ 94 17) (m₉ 94 9) (aRo aa 0)) → (qI (aRo aa 0)) → (qMQ (m₉ 106) (m₉ 115) (m₉ 94 57) (m₉ 94 56) (m₉ 99) (m₉ 100) (aRo aa 0)) → P none m₉ := by
    intro m₉ hf z q0 q1 q2 q3 q4
    have e := zov_eq hf
    rw [e] at z ⊢
    try rw [e] at q0
    try rw [e] at q1
    try rw [e] at q2
    try rw [e] at q3
    try rw [e] at q4
    exact KZ m₉ z q0 q1 q2 q3 q4
  refine g_220_0  ?_
  have li1 : (0 : Int32).toInt = 0 := rfl
  have f2 : 0 ≤ (m 94 56).toInt ∧ (m 94 56).toInt ≤ 3100 := rs_94_56 (m := m) hV
  exact lp_220r_2 hV K _ _ ((0 : Int32)) rfl zF_rfl hV (by omega) r_G1 (show (m 94 56).toInt ≤ (m 94 56).toInt from by omega) r_RB r_QI (show qG2 (m 106) (m 115) (m 99) (m 100) (m 94 57) (m 94 56) aa (0 : Int32) (aRo aa 0) from by first | (exact ⟨aa, r_MQ, Of_rf, rfl⟩) | (exfalso; omega; done) | (exfalso; contradiction; done))

