/-! from 95.h08 -/
/-! the reference by numbers (written by wip/tools/gen18r.py) -/
theorem lp_219r_7 {X : Nat × (Nat → Int32)} {P : Option ma_V → (Nat → Nat → Int32) → Prop} {aa : Nat→Nat→Int32} {m0 : Nat → Nat → Int32} (h0 : zV m0) (K : ∀ m₉, zF wr_219 m0 m₉ → zV m₉ → (zG1 (m₉ 94 56) (m₉ 94 57) (m₉ 106)) → ((m₉ 94 58).toInt = 1) → (qRB (m₉ 99) (m₉ 100) (m₉ 98) (m₉ 101) (m₉ 102) (m₉ 103) (m₉ 107) (m₉ 108) (m₉ 109) (m₉ 111) (m₉ 112) (m₉ 113) (m₉ 114) (m₉ 94 55) (m₉ 94 46) (m₉ 94 11) (m₉ 94 12) (m₉ 94 62) (m₉ 94 17) (m₉ 94 9) (aB0 aa)) → (qI (aB0 aa)) → (qMQ (m₉ 106) (m₉ 115) (m₉ 94 57) (m₉ 94 56) (m₉ 99) (m₉ 100) (aB0 aa)) → P none m₉) : ∀ (n : Nat) (m : Nat → Nat → Int32) (l1 : Int32), (3100 - l1.toInt).toNat = n → zF wr_219 m0 m → zV m → (0 ≤ l1.toInt) → ((m 94 58).toInt = 1) → (∀ s : Nat, (s : Int) < l1.toInt → (m 106) s = 0) → (qRB (m 99) (m 100) (m 98) (m 101) (m 102) (m 103) (m 107) (m 108) (m 109) (m 111) (m 112) (m 113) (m 114) (m 94 55) (m 94 46) (m 94 11) (m 94 12) (m 94 62) (m 94 17) (m 94 9) aa) → (qI aa) → zm X 2 44 219 7 [(0, .inr (.inr (some 94))), (1, .inl l1)] m P := by
  intro n
  induction n using Nat.strongRecOn with
  | _ n IH =>
    intro m l1 hmu hF hV hi0 hi1 r_CW r_RB r_QI
    refine g_219_7 l1 ?_
    have f1 : 0 ≤ (m 94 58).toInt ∧ (m 94 58).toInt ≤ 1 := rs_94_58 (m := m) hV
    have li2 : (3100 : Int32).toInt = 3100 := rfl
    have b3 := i_bd l1
    refine zd (fun (h4 : (3100 : Int32) ≤ l1) => ?_) (fun (h4 : ¬ (3100 : Int32) ≤ l1) => ?_)
    · skip
      have g5 := i_le h4
      have li7 : (0 : Int32).toInt = 0 := rfl
      have hV6 : zV (ma_u m 94 56 (0 : Int32)) := us_94_56 hV (by omega) (by omega)
      have hV8 : zV (ma_u (ma_u m 94 56 (0 : Int32)) 94 57 (0 : Int32)) := us_94_57 hV6 (by omega) (by omega)
      refine sp_220r (aa := (aWh (ma_u aa 87 8 1) 0))  hV8 (show zG1 (0 : Int32) (0 : Int32) (m 106) from by first | (exact G1_0 (by omega) (by omega)) | (exfalso; omega; done) | (exfalso; contradiction; done)) (show qMQ (m 106) (m 115) (0 : Int32) (0 : Int32) (m 99) (m 100) (aWh (ma_u aa 87 8 1) 0) from by first | (exact MQ_wh (I_87 r_QI) (RB_87 r_RB).1 (z0_all r_CW (by omega)) rfl rfl) | (exfalso; omega; done) | (exfalso; contradiction; done)) (show qRB (m 99) (m 100) (m 98) (m 101) (m 102) (m 103) (m 107) (m 108) (m 109) (m 111) (m 112) (m 113) (m 114) (m 94 55) (m 94 46) (m 94 11) (m 94 12) (m 94 62) (m 94 17) (m 94 9) (aWh (ma_u aa 87 8 1) 0) from by first | (exact RB_of (RB_87 r_RB) Wh_of) | (exfalso; omega; done) | (exfalso; contradiction; done)) (show qI (aWh (ma_u aa 87 8 1) 0) from by first | (exact qI_of (I_87 r_QI) Wh_of) | (exfalso; omega; done) | (exfalso; contradiction; done)) (fun m1 hV_m1 p0_m1 p1_m1 p2_m1 p3_m1 p4_m1 => zmv_n ?_)
      have p0_m1 : zG1 (m1 94 56) (0 : Int32) (m1 106) := p0_m1
      have p1_m1 : (0 : Int32).toInt ≤ (m1 94 56).toInt := p1_m1
      have p2_m1 : qRB (m 99) (m 100) (m 98) (m 101) (m 102) (m 103) (m 107) (m 108) (m 109) (m 111) (m 112) (m 113) (m 114) (m 94 55) (m 94 46) (m 94 11) (m 94 12) (m 94 62) (m 94 17) (m 94 9) (aRo (aWh (ma_u aa 87 8 1) 0) 0) := p2_m1
      have p3_m1 : qI (aRo (aWh (ma_u aa 87 8 1) 0) 0) := p3_m1
      have p4_m1 : qMQ (m1 106) (m1 115) (0 : Int32) (m1 94 56) (m 99) (m 100) (aRo (aWh (ma_u aa 87 8 1) 0) 0) := p4_m1
      have f9 : 0 ≤ (m1 94 56).toInt ∧ (m1 94 56).toInt ≤ 3100 := rs_94_56 (m := (zov wr_220 (ma_u (ma_u m 94 56 (0 : Int32)) 94 57 (0 : Int32)) m1)) hV_m1
      exact K _ (zF_zov (zF_u (zF_u hF rfl) rfl) ws_220_219) hV_m1 p0_m1 (show (m 94 58).toInt = 1 from by omega) (show qRB (m 99) (m 100) (m 98) (m 101) (m 102) (m 103) (m 107) (m 108) (m 109) (m 111) (m 112) (m 113) (m 114) (m 94 55) (m 94 46) (m 94 11) (m 94 12) (m 94 62) (m 94 17) (m 94 9) (aB0 aa) from by first | (exact p2_m1) | (exfalso; omega; done) | (exfalso; contradiction; done)) (show qI (aB0 aa) from by first | (exact p3_m1) | (exfalso; omega; done) | (exfalso; contradiction; done)) (show qMQ (m1 106) (m1 115) (0 : Int32) (m1 94 56) (m 99) (m 100) (aB0 aa) from by first | (exact p4_m1) | (exfalso; omega; done) | (exfalso; contradiction; done))
    · skip
      have g10 := i_nle h4
      have hg11 : (0 ≤ l1 ∧ l1.toNatClampNeg < 3100) := i_ix (by omega) (by omega)
      refine ⟨hg11, ?_⟩
      have hV12 : zV (ma_u m 106 l1.toNatClampNeg (0 : Int32)) := ua_106 hV
      first | have e13 : (l1 + (1 : Int32)).toInt = l1.toInt + (1) := i_addk rfl (by omega) (by omega) | have b14 := i_bd (l1 + (1 : Int32))
      exact IH (3100 - (l1 + (1 : Int32)).toInt).toNat (by omega) _ ((l1 + (1 : Int32))) rfl (zF_u hF rfl) hV12 (by omega) (show (m 94 58).toInt = 1 from by omega) (show ∀ s : Nat, (s : Int) < (l1 + (1 : Int32)).toInt → ((ma_u m 106 l1.toNatClampNeg (0 : Int32)) 106) s = 0 from by first | (exact z0_step r_CW (by omega) (by omega)) | (intro s hs; omega; done) | (exfalso; omega; done) | (exfalso; contradiction; done)) r_RB r_QI
theorem sp_219r {X : Nat × (Nat → Int32)} {P : Option ma_V → (Nat → Nat → Int32) → Prop} {aa : Nat→Nat→Int32} {m : Nat → Nat → Int32}  (hV : zV m) (r_RB : qRB (m 99) (m 100) (m 98) (m 101) (m 102) (m 103) (m 107) (m 108) (m 109) (m 111) (m 112) (m 113) (m 114) (m 94 55) (m 94 46) (m 94 11) (m 94 12) (m 94 62) (m 94 17) (m 94 9) aa) (r_QI : qI aa) (KZ : ∀ m₉, zV (zov wr_219 m m₉) → (zG1 (m₉ 94 56) (m₉ 94 57) (m₉ 106)) → ((m₉ 94 58).toInt = 1) → (qRB (m 99) (m 100) (m 98) (m 101) (m 102) (m 103) (m 107) (m 108) (m 109) (m 111) (m 112) (m 113) (m 114) (m 94 55) (m 94 46) (m 94 11) (m 94 12) (m 94 62) (m 94 17) (m 94 9) (aB0 aa)) → (qI (aB0 aa)) → (qMQ (m₉ 106) (m₉ 115) (m₉ 94 57) (m₉ 94 56) (m 99) (m 100) (aB0 aa)) → P none (zov wr_219 m m₉)) : zm X 2 44 219 0 [(0, .inr (.inr (some 94)))] m P := by
  have K : ∀ m₉, zF wr_219 m m₉ → zV m₉ → (zG1 (m₉ 94 56) (m₉ 94 57) (m₉ 106)) → ((m₉ 94 58).toInt = 1) → (qRB (m₉ 99) (m₉ 100) (m₉ 98) (m₉ 101) (m₉ 102) (m₉ 103) (m₉ 107) (m₉ 108) (m₉ 109) (m₉ 111) (m₉ 112) (m₉ 113) (m₉ 114) (m₉ 94 55) (m₉ 94 46) (m₉ 94 11) (m₉ 94 12) (m₉ 94 62) (m₉ 94 17) (m₉ 94 9) (aB0 aa)) → (qI (aB0 aa)) → (qMQ (m₉ 106) (m₉ 115) (m₉ 94 57) (m₉ 94 56) (m₉ 99) (m₉ 100) (aB0 aa)) → P none m₉ := by
    intro m₉ hf z q0 q1 q2 q3 q4
    have e := zov_eq hf
    rw [e] at z ⊢
    try rw [e] at q0
    try rw [e] at q1
    try rw [e] at q2
    try rw [e] at q3
    try rw [e] at q4
    exact KZ m₉ z q0 q1 q2 q3 q4
  refine g_219_0  ?_
  have li2 : (1 : Int32).toInt = 1 := rfl
  have hV1 : zV (ma_u m 94 58 (1 : Int32)) := us_94_58 hV (by omega) (by omega)
  have li3 : (0 : Int32).toInt = 0 := rfl
  exact lp_219r_7 hV K _ _ ((0 : Int32)) rfl (zF_u zF_rfl rfl) hV1 (by omega) (show (1 : Int32).toInt = 1 from by omega) (show ∀ s : Nat, (s : Int) < (0 : Int32).toInt → (m 106) s = 0 from by first | (intro s hs; omega; done) | (exfalso; omega; done) | (exfalso; contradiction; done)) r_RB r_QI
theorem lp_222r_48 {X : Nat × (Nat → Int32)} {P : Option ma_V → (Nat → Nat → Int32) → Prop} {aa : Nat→Nat→Int32} {nn : Int32} {m0 : Nat → Nat → Int32} (h0 : zV m0) (K : ∀ v m₉, zF wr_222 m0 m₉ → zV m₉ → (zG1 (m₉ 94 56) (m₉ 94 57) (m₉ 106)) → ((m0 94 56).toInt ≤ (m₉ 94 56).toInt) → ((m0 94 57).toInt ≤ (m₉ 94 57).toInt ∧ ((m₉ 94 56).toInt ≤ (m₉ 94 57).toInt ∨ (m0 94 57).toInt + nn.toInt ≤ (m₉ 94 57).toInt)) → (qRB (m₉ 99) (m₉ 100) (m₉ 98) (m₉ 101) (m₉ 102) (m₉ 103) (m₉ 107) (m₉ 108) (m₉ 109) (m₉ 111) (m₉ 112) (m₉ 113) (m₉ 114) (m₉ 94 55) (m₉ 94 46) (m₉ 94 11) (m₉ 94 12) (m₉ 94 62) (m₉ 94 17) (m₉ 94 9) (aSp nn.toInt.toNat aa)) → (qI (aSp nn.toInt.toNat aa)) → (qMQ (m₉ 106) (m₉ 115) (m₉ 94 57) (m₉ 94 56) (m₉ 99) (m₉ 100) (aSp nn.toInt.toNat aa)) → (qEq v.toInt (aSn nn.toInt.toNat aa : Int)) → P (some (.inl v)) m₉) {n2 : Nat} (OUT2 : ∀ (m₉ : Nat → Nat → Int32) (l1 : Int32) (l2 : Int32), (3101 - (m₉ 94 57).toInt).toNat < n2 → zF wr_222 m0 m₉ → zV m₉ → (0 ≤ l2.toInt) → (l1.toInt = nn.toInt) → (l2.toInt ≤ nn.toInt) → (zW (m₉ 94 7) (m₉ 98) (m₉ 101) (m₉ 102) (m₉ 108)) → (zG1 (m₉ 94 56) (m₉ 94 57) (m₉ 106)) → ((m0 94 56).toInt ≤ (m₉ 94 56).toInt) → ((m₉ 94 57).toInt = (m0 94 57).toInt + l2.toInt) → (qRB (m₉ 99) (m₉ 100) (m₉ 98) (m₉ 101) (m₉ 102) (m₉ 103) (m₉ 107) (m₉ 108) (m₉ 109) (m₉ 111) (m₉ 112) (m₉ 113) (m₉ 114) (m₉ 94 55) (m₉ 94 46) (m₉ 94 11) (m₉ 94 12) (m₉ 94 62) (m₉ 94 17) (m₉ 94 9) aa) → (qI aa) → (qSO (m₉ 106) (m₉ 115) (m₉ 99) (m₉ 100) (m₉ 94 57) (m₉ 94 56) aa (nn.toInt - l2.toInt).toNat l2.toInt nn.toInt.toNat) → zm X 2 44 222 2 [(0, .inr (.inr (some 94))), (1, .inl l1), (2, .inl l2)] m₉ P) : ∀ (n : Nat) (m : Nat → Nat → Int32) (l1 : Int32) (l2 : Int32) (l3 : Int32) (l4 : Int32), (61 - l4.toInt).toNat = n → zF wr_222 m0 m → zV m → (0 ≤ l2.toInt) → (l2.toInt < nn.toInt) → (l1.toInt = nn.toInt) → (0 ≤ l3.toInt) → (l3.toInt ≤ 3099) → (0 ≤ l4.toInt) → (zW (m 94 7) (m 98) (m 101) (m 102) (m 108)) → (zG1 (m 94 56) (m 94 57) (m 106)) → ((m0 94 56).toInt ≤ (m 94 56).toInt) → ((m 94 57).toInt = (m0 94 57).toInt + l2.toInt + 1) → ((3101 - (m 94 57).toInt).toNat < n2) → (qRB (m 99) (m 100) (m 98) (m 101) (m 102) (m 103) (m 107) (m 108) (m 109) (m 111) (m 112) (m 113) (m 114) (m 94 55) (m 94 46) (m 94 11) (m 94 12) (m 94 62) (m 94 17) (m 94 9) aa) → (qI aa) → ((m 99) l3.toNatClampNeg ≠ 0) → (qSI (m 106) (m 115) (m 99) (m 100) (m 94 57) (m 94 56) aa ((m 100) l3.toNatClampNeg).toNatClampNeg l4 (nn.toInt - l2.toInt - 1).toNat (l2.toInt + 1) nn.toInt.toNat) → zm X 2 44 222 48 [(0, .inr (.inr (some 94))), (1, .inl l1), (2, .inl l2), (3, .inl l3), (4, .inl l4)] m P := by
  intro n
  induction n using Nat.strongRecOn with
  | _ n IH =>
    intro m l1 l2 l3 l4 hmu hF hV hi0 hi1 hi2 hi3 hi4 hi5 r_W r_G1 hi8 hi9 hi10 r_RB r_QI r_US3 r_SI
    refine g_222_48 l1 l2 l3 l4 ?_
    have f1 : 0 ≤ (m0 94 56).toInt ∧ (m0 94 56).toInt ≤ 3100 := rs_94_56 (m := m0) h0
    have f2 : 0 ≤ (m 94 56).toInt ∧ (m 94 56).toInt ≤ 3100 := rs_94_56 (m := m) hV
    have f3 : 0 ≤ (m 94 57).toInt ∧ (m 94 57).toInt ≤ 3100 := rs_94_57 (m := m) hV
    have f4 : 0 ≤ (m0 94 57).toInt ∧ (m0 94 57).toInt ≤ 3100 := rs_94_57 (m := m0) h0
    have b5 := i_bd l3
    have hg6 : (0 ≤ l3 ∧ l3.toNatClampNeg < 3100) := i_ix (by omega) (by omega)
    refine ⟨hg6, ?_⟩
    first | have f7 : 0 ≤ (m 102 l3.toNatClampNeg).toInt ∧ (m 102 l3.toNatClampNeg).toInt ≤ 60 := ra_102 (m := m) hV (k := l3.toNatClampNeg) (i_ix (n := 3100) (by omega) (by omega)).2 | have b8 := i_bd (m 102 l3.toNatClampNeg)
    have b9 := i_bd l4
    refine zd (fun (h10 : (m 102 l3.toNatClampNeg) ≤ l4) => ?_) (fun (h10 : ¬ (m 102 l3.toNatClampNeg) ≤ l4) => ?_)
    · skip
      have g11 := i_le h10
      have b12 := i_bd l1
      have b13 := i_bd l2
      first | have e14 : (l2 + (1 : Int32)).toInt = l2.toInt + (1) := i_addk rfl (by omega) (by omega) | have b15 := i_bd (l2 + (1 : Int32))
      exact OUT2 _ (l1) ((l2 + (1 : Int32))) (show (3101 - (m 94 57).toInt).toNat < n2 from by omega) hF hV (by omega) (by omega) (by omega) r_W r_G1 (show (m0 94 56).toInt ≤ (m 94 56).toInt from by omega) (show (m 94 57).toInt = (m0 94 57).toInt + (l2 + (1 : Int32)).toInt from by omega) r_RB r_QI (show qSO (m 106) (m 115) (m 99) (m 100) (m 94 57) (m 94 56) aa (nn.toInt - (l2 + (1 : Int32)).toInt).toNat (l2 + (1 : Int32)).toInt nn.toInt.toNat from by first | (exact SI_end r_SI r_RB (by omega) (by omega) r_US3 (by omega) (by omega) (by omega)) | (exfalso; omega; done) | (exfalso; contradiction; done))
    · skip
      have g16 := i_nle h10
      refine sp_192 (l3) (l4) hV (by omega) (by omega) (by omega) (show l4.toInt < (m 102 l3.toNatClampNeg).toInt from by omega) (fun v2 m1 hV_m1 p0_m1 => zmi_n ?_)
      have p0_m1 : v2 = zrf (m 98) (m 101) (m 108) l3.toNatClampNeg l4.toNatClampNeg := p0_m1
      try have := W_ref r_W (by omega) (by omega) (by omega) (by omega) p0_m1
      have b17 := i_bd v2
      have li18 : (0 : Int32).toInt = 0 := rfl
      refine zd (fun (h19 : v2 < (0 : Int32)) => ?_) (fun (h19 : ¬ v2 < (0 : Int32)) => ?_)
      · skip
        have g20 := i_lt h19
        have b21 := i_bd l1
        have b22 := i_bd l2
        first | have e23 : (l4 + (1 : Int32)).toInt = l4.toInt + (1) := i_addk rfl (by omega) (by omega) | have b24 := i_bd (l4 + (1 : Int32))
        exact IH (61 - (l4 + (1 : Int32)).toInt).toNat (by omega) _ (l1) (l2) (l3) ((l4 + (1 : Int32))) rfl (zF_zov hF ws_192_222) hV_m1 (by omega) (by omega) (by omega) (by omega) (by omega) (by omega) r_W r_G1 (show (m0 94 56).toInt ≤ (m 94 56).toInt from by omega) (show (m 94 57).toInt = (m0 94 57).toInt + l2.toInt + 1 from by omega) (show (3101 - (m 94 57).toInt).toNat < n2 from by omega) r_RB r_QI r_US3 (show qSI (m 106) (m 115) (m 99) (m 100) (m 94 57) (m 94 56) aa ((m 100) l3.toNatClampNeg).toNatClampNeg (l4 + (1 : Int32)) (nn.toInt - l2.toInt - 1).toNat (l2.toInt + 1) nn.toInt.toNat from by first | (exact SI_skip r_SI r_RB (by omega) (by omega) r_US3 (by omega) (by omega) p0_m1 (Or.inl (by omega))) | (exact SI_skip r_SI r_RB (by omega) (by omega) r_US3 (by omega) (by omega) p0_m1 (Or.inr (by assumption))) | (exfalso; omega; done) | (exfalso; contradiction; done))
      · skip
        have g25 := i_nlt h19
        have hg26 : (0 ≤ v2 ∧ v2.toNatClampNeg < 3100) := i_ix (by omega) (by omega)
        refine ⟨hg26, ?_⟩
        have b27 := i_bd (m 106 v2.toNatClampNeg)
        refine zd (fun (h28 : (m 106 v2.toNatClampNeg) = (0 : Int32)) => ?_) (fun (h28 : ¬ (m 106 v2.toNatClampNeg) = (0 : Int32)) => ?_)
        · skip
          have g29 := i_eq h28
          have hg30 : (0 ≤ v2 ∧ v2.toNatClampNeg < 3100) := i_ix (by omega) (by omega)
          refine ⟨hg30, ?_⟩
          try have gk := G1_room r_G1 (by assumption) (by omega)
          have hg31 : (0 ≤ (m 94 56) ∧ (m 94 56).toNatClampNeg < 3100) := i_ix (by omega) (by omega)
          refine ⟨hg31, ?_⟩
          have hV32 : zV (ma_u (zov wr_192 m m1) 106 v2.toNatClampNeg (1 : Int32)) := ua_106 hV_m1
          have hV33 : zV (ma_u (ma_u (zov wr_192 m m1) 106 v2.toNatClampNeg (1 : Int32)) 115 (m 94 56).toNatClampNeg v2) := ua_115 hV32 (by omega) (by omega)
          first | have e35 : ((m 94 56) + (1 : Int32)).toInt = (m 94 56).toInt + (1) := i_addk rfl (by omega) (by omega) | have b36 := i_bd ((m 94 56) + (1 : Int32))
          have hV34 : zV (ma_u (ma_u (ma_u (zov wr_192 m m1) 106 v2.toNatClampNeg (1 : Int32)) 115 (m 94 56).toNatClampNeg v2) 94 56 ((m 94 56) + (1 : Int32))) := us_94_56 hV33 (by omega) (by omega)
          have b37 := i_bd l1
          have b38 := i_bd l2
          first | have e39 : (l4 + (1 : Int32)).toInt = l4.toInt + (1) := i_addk rfl (by omega) (by omega) | have b40 := i_bd (l4 + (1 : Int32))
          exact IH (61 - (l4 + (1 : Int32)).toInt).toNat (by omega) _ (l1) (l2) (l3) ((l4 + (1 : Int32))) rfl (zF_u (zF_u (zF_u (zF_zov hF ws_192_222) rfl) rfl) rfl) hV34 (by omega) (by omega) (by omega) (by omega) (by omega) (by omega) r_W (show zG1 ((m 94 56) + (1 : Int32)) (m 94 57) ((ma_u m 106 v2.toNatClampNeg (1 : Int32)) 106) from by first | (exact G1_push r_G1 (by assumption) (by omega) (by decide) (by assumption)) | (exact G1_push r_G1 (by assumption) (by omega) (by decide) (by assumption)) | (exact G1_dark0 r_G1 (by decide)) | (exfalso; omega; done) | (exfalso; contradiction; done)) (show (m0 94 56).toInt ≤ ((m 94 56) + (1 : Int32)).toInt from by omega) (show (m 94 57).toInt = (m0 94 57).toInt + l2.toInt + 1 from by omega) (show (3101 - (m 94 57).toInt).toNat < n2 from by omega) r_RB r_QI r_US3 (show qSI ((ma_u m 106 v2.toNatClampNeg (1 : Int32)) 106) ((ma_u m 115 (m 94 56).toNatClampNeg v2) 115) (m 99) (m 100) (m 94 57) ((m 94 56) + (1 : Int32)) aa ((m 100) l3.toNatClampNeg).toNatClampNeg (l4 + (1 : Int32)) (nn.toInt - l2.toInt - 1).toNat (l2.toInt + 1) nn.toInt.toNat from by first | (exact SI_push r_SI r_RB (by omega) (by omega) r_US3 (by omega) (by omega) p0_m1 (by omega) (by assumption)) | (exfalso; omega; done) | (exfalso; contradiction; done))
        · skip
          have g41 := i_ne h28
          have b42 := i_bd l1
          have b43 := i_bd l2
          first | have e44 : (l4 + (1 : Int32)).toInt = l4.toInt + (1) := i_addk rfl (by omega) (by omega) | have b45 := i_bd (l4 + (1 : Int32))
          exact IH (61 - (l4 + (1 : Int32)).toInt).toNat (by omega) _ (l1) (l2) (l3) ((l4 + (1 : Int32))) rfl (zF_zov hF ws_192_222) hV_m1 (by omega) (by omega) (by omega) (by omega) (by omega) (by omega) r_W r_G1 (show (m0 94 56).toInt ≤ (m 94 56).toInt from by omega) (show (m 94 57).toInt = (m0 94 57).toInt + l2.toInt + 1 from by omega) (show (3101 - (m 94 57).toInt).toNat < n2 from by omega) r_RB r_QI r_US3 (show qSI (m 106) (m 115) (m 99) (m 100) (m 94 57) (m 94 56) aa ((m 100) l3.toNatClampNeg).toNatClampNeg (l4 + (1 : Int32)) (nn.toInt - l2.toInt - 1).toNat (l2.toInt + 1) nn.toInt.toNat from by first | (exact SI_skip r_SI r_RB (by omega) (by omega) r_US3 (by omega) (by omega) p0_m1 (Or.inl (by omega))) | (exact SI_skip r_SI r_RB (by omega) (by omega) r_US3 (by omega) (by omega) p0_m1 (Or.inr (by assumption))) | (exfalso; omega; done) | (exfalso; contradiction; done))
theorem lp_222r_2 {X : Nat × (Nat → Int32)} {P : Option ma_V → (Nat → Nat → Int32) → Prop} {aa : Nat→Nat→Int32} {nn : Int32} {m0 : Nat → Nat → Int32} (h0 : zV m0) (K : ∀ v m₉, zF wr_222 m0 m₉ → zV m₉ → (zG1 (m₉ 94 56) (m₉ 94 57) (m₉ 106)) → ((m0 94 56).toInt ≤ (m₉ 94 56).toInt) → ((m0 94 57).toInt ≤ (m₉ 94 57).toInt ∧ ((m₉ 94 56).toInt ≤ (m₉ 94 57).toInt ∨ (m0 94 57).toInt + nn.toInt ≤ (m₉ 94 57).toInt)) → (qRB (m₉ 99) (m₉ 100) (m₉ 98) (m₉ 101) (m₉ 102) (m₉ 103) (m₉ 107) (m₉ 108) (m₉ 109) (m₉ 111) (m₉ 112) (m₉ 113) (m₉ 114) (m₉ 94 55) (m₉ 94 46) (m₉ 94 11) (m₉ 94 12) (m₉ 94 62) (m₉ 94 17) (m₉ 94 9) (aSp nn.toInt.toNat aa)) → (qI (aSp nn.toInt.toNat aa)) → (qMQ (m₉ 106) (m₉ 115) (m₉ 94 57) (m₉ 94 56) (m₉ 99) (m₉ 100) (aSp nn.toInt.toNat aa)) → (qEq v.toInt (aSn nn.toInt.toNat aa : Int)) → P (some (.inl v)) m₉) : ∀ (n : Nat) (m : Nat → Nat → Int32) (l1 : Int32) (l2 : Int32), (3101 - (m 94 57).toInt).toNat = n → zF wr_222 m0 m → zV m → (0 ≤ l2.toInt) → (l1.toInt = nn.toInt) → (l2.toInt ≤ nn.toInt) → (zW (m 94 7) (m 98) (m 101) (m 102) (m 108)) → (zG1 (m 94 56) (m 94 57) (m 106)) → ((m0 94 56).toInt ≤ (m 94 56).toInt) → ((m 94 57).toInt = (m0 94 57).toInt + l2.toInt) → (qRB (m 99) (m 100) (m 98) (m 101) (m 102) (m 103) (m 107) (m 108) (m 109) (m 111) (m 112) (m 113) (m 114) (m 94 55) (m 94 46) (m 94 11) (m 94 12) (m 94 62) (m 94 17) (m 94 9) aa) → (qI aa) → (qSO (m 106) (m 115) (m 99) (m 100) (m 94 57) (m 94 56) aa (nn.toInt - l2.toInt).toNat l2.toInt nn.toInt.toNat) → zm X 2 44 222 2 [(0, .inr (.inr (some 94))), (1, .inl l1), (2, .inl l2)] m P := by
  intro n
  induction n using Nat.strongRecOn with
  | _ n IH =>
    intro m l1 l2 hmu hF hV hi0 hi1 hi2 r_W r_G1 hi5 hi6 r_RB r_QI r_SO
    refine g_222_2 l1 l2 ?_
    have f1 : 0 ≤ (m0 94 56).toInt ∧ (m0 94 56).toInt ≤ 3100 := rs_94_56 (m := m0) h0
    have f2 : 0 ≤ (m 94 56).toInt ∧ (m 94 56).toInt ≤ 3100 := rs_94_56 (m := m) hV
    have f3 : 0 ≤ (m 94 57).toInt ∧ (m 94 57).toInt ≤ 3100 := rs_94_57 (m := m) hV
    have f4 : 0 ≤ (m0 94 57).toInt ∧ (m0 94 57).toInt ≤ 3100 := rs_94_57 (m := m0) h0
    have b5 := i_bd l1
    have b6 := i_bd l2
    refine zd (fun (h7 : l1 ≤ l2) => ?_) (fun (h7 : ¬ l1 ≤ l2) => ?_)
    · skip
      have g8 := i_le h7
      exact K (l2) _ hF hV r_G1 (show (m0 94 56).toInt ≤ (m 94 56).toInt from by omega) (show (m0 94 57).toInt ≤ (m 94 57).toInt ∧ ((m 94 56).toInt ≤ (m 94 57).toInt ∨ (m0 94 57).toInt + nn.toInt ≤ (m 94 57).toInt) from by omega) (show qRB (m 99) (m 100) (m 98) (m 101) (m 102) (m 103) (m 107) (m 108) (m 109) (m 111) (m 112) (m 113) (m 114) (m 94 55) (m 94 46) (m 94 11) (m 94 12) (m 94 62) (m 94 17) (m 94 9) (aSp nn.toInt.toNat aa) from by first | (exact RB_of r_RB (SO_end r_SO (Or.inl (by omega))).2.1) | (exact RB_of r_RB (SO_end r_SO (Or.inr (by omega))).2.1) | (exfalso; omega; done) | (exfalso; contradiction; done)) (show qI (aSp nn.toInt.toNat aa) from by first | (exact qI_of r_QI (SO_end r_SO (Or.inl (by omega))).2.1) | (exact qI_of r_QI (SO_end r_SO (Or.inr (by omega))).2.1) | (exfalso; omega; done) | (exfalso; contradiction; done)) (show qMQ (m 106) (m 115) (m 94 57) (m 94 56) (m 99) (m 100) (aSp nn.toInt.toNat aa) from by first | (exact (SO_end r_SO (Or.inl (by omega))).1) | (exact (SO_end r_SO (Or.inr (by omega))).1) | (exfalso; omega; done) | (exfalso; contradiction; done)) (show qEq l2.toInt (aSn nn.toInt.toNat aa : Int) from by first | (exact (SO_end r_SO (Or.inl (by omega))).2.2) | (exact (SO_end r_SO (Or.inr (by omega))).2.2) | (exfalso; omega; done) | (exfalso; contradiction; done))
    · skip
      have g9 := i_nle h7
      refine zd (fun (h10 : (m 94 56) ≤ (m 94 57)) => ?_) (fun (h10 : ¬ (m 94 56) ≤ (m 94 57)) => ?_)
      · skip
        have g11 := i_le h10
        exact K (l2) _ hF hV r_G1 (show (m0 94 56).toInt ≤ (m 94 56).toInt from by omega) (show (m0 94 57).toInt ≤ (m 94 57).toInt ∧ ((m 94 56).toInt ≤ (m 94 57).toInt ∨ (m0 94 57).toInt + nn.toInt ≤ (m 94 57).toInt) from by omega) (show qRB (m 99) (m 100) (m 98) (m 101) (m 102) (m 103) (m 107) (m 108) (m 109) (m 111) (m 112) (m 113) (m 114) (m 94 55) (m 94 46) (m 94 11) (m 94 12) (m 94 62) (m 94 17) (m 94 9) (aSp nn.toInt.toNat aa) from by first | (exact RB_of r_RB (SO_end r_SO (Or.inl (by omega))).2.1) | (exact RB_of r_RB (SO_end r_SO (Or.inr (by omega))).2.1) | (exfalso; omega; done) | (exfalso; contradiction; done)) (show qI (aSp nn.toInt.toNat aa) from by first | (exact qI_of r_QI (SO_end r_SO (Or.inl (by omega))).2.1) | (exact qI_of r_QI (SO_end r_SO (Or.inr (by omega))).2.1) | (exfalso; omega; done) | (exfalso; contradiction; done)) (show qMQ (m 106) (m 115) (m 94 57) (m 94 56) (m 99) (m 100) (aSp nn.toInt.toNat aa) from by first | (exact (SO_end r_SO (Or.inl (by omega))).1) | (exact (SO_end r_SO (Or.inr (by omega))).1) | (exfalso; omega; done) | (exfalso; contradiction; done)) (show qEq l2.toInt (aSn nn.toInt.toNat aa : Int) from by first | (exact (SO_end r_SO (Or.inl (by omega))).2.2) | (exact (SO_end r_SO (Or.inr (by omega))).2.2) | (exfalso; omega; done) | (exfalso; contradiction; done))
      · skip
        have g12 := i_nle h10
        try have gk := G1_room r_G1 (by assumption) (by omega)
        have hg13 : (0 ≤ (m 94 57) ∧ (m 94 57).toNatClampNeg < 3100) := i_ix (by omega) (by omega)
        refine ⟨hg13, ?_⟩
        first | have f14 : 0 ≤ (m 115 (m 94 57).toNatClampNeg).toInt ∧ (m 115 (m 94 57).toNatClampNeg).toInt ≤ 3099 := ra_115 (m := m) hV (k := (m 94 57).toNatClampNeg) (i_ix (n := 3100) (by omega) (by omega)).2 | have b15 := i_bd (m 115 (m 94 57).toNatClampNeg)
        have hg16 : (0 ≤ (m 115 (m 94 57).toNatClampNeg) ∧ (m 115 (m 94 57).toNatClampNeg).toNatClampNeg < 3100) := i_ix (by omega) (by omega)
        refine ⟨hg16, ?_⟩
        first | have e18 : ((m 94 57) + (1 : Int32)).toInt = (m 94 57).toInt + (1) := i_addk rfl (by omega) (by omega) | have b19 := i_bd ((m 94 57) + (1 : Int32))
        have hV17 : zV (ma_u m 94 57 ((m 94 57) + (1 : Int32))) := us_94_57 hV (by omega) (by omega)
        have hV20 : zV (ma_u (ma_u m 94 57 ((m 94 57) + (1 : Int32))) 106 (m 115 (m 94 57).toNatClampNeg).toNatClampNeg (2 : Int32)) := ua_106 hV17
        have li21 : (0 : Int32).toInt = 0 := rfl
        exact lp_222r_48 (nn := nn) h0 K (fun _ _ _ z1 z2 z3 y0 y1 y2 y3 y4 y5 y6 y7 y8 y9 => IH _ z1 _ _ _ rfl z2 z3 y0 y1 y2 y3 y4 y5 y6 y7 y8 y9) _ _ (l1) (l2) ((m 115 (m 94 57).toNatClampNeg)) ((0 : Int32)) rfl (zF_u (zF_u hF rfl) rfl) hV20 (by omega) (by omega) (by omega) (by omega) (by omega) (by omega) r_W (show zG1 (m 94 56) ((m 94 57) + (1 : Int32)) ((ma_u m 106 (m 115 (m 94 57).toNatClampNeg).toNatClampNeg (2 : Int32)) 106) from by first | (exact G1_dark r_G1 (by decide) (by omega)) | (exact G1_push r_G1 (by assumption) (by omega) (by decide) (by assumption)) | (exact G1_dark0 r_G1 (by decide)) | (exfalso; omega; done) | (exfalso; contradiction; done)) (show (m0 94 56).toInt ≤ (m 94 56).toInt from by omega) (show ((m 94 57) + (1 : Int32)).toInt = (m0 94 57).toInt + l2.toInt + 1 from by omega) (show (3101 - ((m 94 57) + (1 : Int32)).toInt).toNat < n from by omega) r_RB r_QI (show (m 99) (m 115 (m 94 57).toNatClampNeg).toNatClampNeg ≠ 0 from by first | (exact SI_us r_SO (by omega) (by omega)) | (exfalso; omega; done) | (exfalso; contradiction; done)) (show qSI ((ma_u m 106 (m 115 (m 94 57).toNatClampNeg).toNatClampNeg (2 : Int32)) 106) (m 115) (m 99) (m 100) ((m 94 57) + (1 : Int32)) (m 94 56) aa ((m 100) (m 115 (m 94 57).toNatClampNeg).toNatClampNeg).toNatClampNeg (0 : Int32) (nn.toInt - l2.toInt - 1).toNat (l2.toInt + 1) nn.toInt.toNat from by first | (exact SO_go r_SO r_RB.1 (by omega) (by omega) (by omega) rfl rfl) | (exfalso; omega; done) | (exfalso; contradiction; done))
theorem sp_222r {X : Nat × (Nat → Int32)} {P : Option ma_V → (Nat → Nat → Int32) → Prop} {aa : Nat→Nat→Int32} {m : Nat → Nat → Int32} (nn : Int32) (hV : zV m) (hpre0 : 0 ≤ nn.toInt) (r_W : zW (m 94 7) (m 98) (m 101) (m 102) (m 108)) (r_G1 : zG1 (m 94 56) (m 94 57) (m 106)) (r_MQ : qMQ (m 106) (m 115) (m 94 57) (m 94 56) (m 99) (m 100) aa) (r_RB : qRB (m 99) (m 100) (m 98) (m 101) (m 102) (m 103) (m 107) (m 108) (m 109) (m 111) (m 112) (m 113) (m 114) (m 94 55) (m 94 46) (m 94 11) (m 94 12) (m 94 62) (m 94 17) (m 94 9) aa) (r_QI : qI aa) (KZ : ∀ v m₉, zV (zov wr_222 m m₉) → (zG1 (m₉ 94 56) (m₉ 94 57) (m₉ 106)) → ((m 94 56).toInt ≤ (m₉ 94 56).toInt) → ((m 94 57).toInt ≤ (m₉ 94 57).toInt ∧ ((m₉ 94 56).toInt ≤ (m₉ 94 57).toInt ∨ (m 94 57).toInt + nn.toInt ≤ (m₉ 94 57).toInt)) → (qRB (m 99) (m 100) (m 98) (m 101) (m 102) (m 103) (m 107) (m 108) (m 109) (m 111) (m 112) (m 113) (m 114) (m 94 55) (m 94 46) (m 94 11) (m 94 12) (m 94 62) (m 94 17) (m 94 9) (aSp nn.toInt.toNat aa)) → (qI (aSp nn.toInt.toNat aa)) → (qMQ (m₉ 106) (m₉ 115) (m₉ 94 57) (m₉ 94 56) (m 99) (m 100) (aSp nn.toInt.toNat aa)) → (qEq v.toInt (aSn nn.toInt.toNat aa : Int)) → P (some (.inl v)) (zov wr_222 m m₉)) : zm X 2 44 222 0 [(0, .inr (.inr (some 94))), (1, .inl nn)] m P := by
  have K : ∀ v m₉, zF wr_222 m m₉ → zV m₉ → (zG1 (m₉ 94 56) (m₉ 94 57) (m₉ 106)) → ((m 94 56).toInt ≤ (m₉ 94 56).toInt) → ((m 94 57).toInt ≤ (m₉ 94 57).toInt ∧ ((m₉ 94 56).toInt ≤ (m₉ 94 57).toInt ∨ (m 94 57).toInt + nn.toInt ≤ (m₉ 94 57).toInt)) → (qRB (m₉ 99) (m₉ 100) (m₉ 98) (m₉ 101) (m₉ 102) (m₉ 103) (m₉ 107) (m₉ 108) (m₉ 109) (m₉ 111) (m₉ 112) (m₉ 113) (m₉ 114) (m₉ 94 55) (m₉ 94 46) (m₉ 94 11) (m₉ 94 12) (m₉ 94 62) (m₉ 94 17) (m₉ 94 9) (aSp nn.toInt.toNat aa)) → (qI (aSp nn.toInt.toNat aa)) → (qMQ (m₉ 106) (m₉ 115) (m₉ 94 57) (m₉ 94 56) (m₉ 99) (m₉ 100) (aSp nn.toInt.toNat aa)) → (qEq v.toInt (aSn nn.toInt.toNat aa : Int)) → P (some (.inl v)) m₉ := by
    intro v m₉ hf z q0 q1 q2 q3 q4 q5 q6
    have e := zov_eq hf
    rw [e] at z ⊢
    try rw [e] at q0
    try rw [e] at q1
    try rw [e] at q2
    try rw [e] at q3
    try rw [e] at q4
    try rw [e] at q5
    try rw [e] at q6
    exact KZ v m₉ z q0 q1 q2 q3 q4 q5 q6
  refine g_222_0 nn ?_
  have b1 := i_bd nn
  have li2 : (0 : Int32).toInt = 0 := rfl
  have f3 : 0 ≤ (m 94 56).toInt ∧ (m 94 56).toInt ≤ 3100 := rs_94_56 (m := m) hV
  have f4 : 0 ≤ (m 94 57).toInt ∧ (m 94 57).toInt ≤ 3100 := rs_94_57 (m := m) hV
  exact lp_222r_2 (nn := nn) hV K _ _ (nn) ((0 : Int32)) rfl zF_rfl hV (by omega) (by omega) (by omega) r_W r_G1 (show (m 94 56).toInt ≤ (m 94 56).toInt from by omega) (show (m 94 57).toInt = (m 94 57).toInt + (0 : Int32).toInt from by omega) r_RB r_QI (show qSO (m 106) (m 115) (m 99) (m 100) (m 94 57) (m 94 56) aa (nn.toInt - (0 : Int32).toInt).toNat (0 : Int32).toInt nn.toInt.toNat from by first | (exact SO_0 r_MQ (by omega) rfl) | (exfalso; omega; done) | (exfalso; contradiction; done))

/-! from 95.h09 -/
/-! the reference by numbers (written by wip/tools/gen18r.py) -/
/-! WHAT IS KEPT, the reference: Q all that may be kept, D those whose words are not looked at -/
def qKA (kp us nr kr kd ws wd st : Nat → Int32) (z : Int32) (Q D : Nat → Prop) (cur i : Nat) : Prop :=
  (∀ s, s < 3100 → kp s ≠ 0 → us s ≠ 0 ∧ Q (nr s).toNatClampNeg) ∧
  (∀ j : Nat, (j : Int) < z.toInt → (0 ≤ (st j).toInt ∧ (st j).toInt < 3100) ∧ kp (st j).toNatClampNeg ≠ 0 ∧ ¬ D (nr (st j).toNatClampNeg).toNatClampNeg) ∧
  (cur < 3100 → kp cur ≠ 0 ∧ ¬ D (nr cur).toNatClampNeg) ∧
  (∀ s, s < 3100 → us s ≠ 0 → D (nr s).toNatClampNeg → kp s ≠ 0) ∧
  ∀ s, s < 3100 → kp s ≠ 0 → D (nr s).toNatClampNeg ∨ (∃ j : Nat, (j : Int) < z.toInt ∧ (st j).toNatClampNeg = s) ∨ (∀ i₉ : Nat, (i₉ : Int) < (ws s).toInt → zcl kp kr kd wd s i₉) ∨ (s = cur ∧ ∀ i₉, i₉ < i → zcl kp kr kd wd s i₉)
def qQC (us nr kr kd ws wd : Nat → Int32) (Q D : Nat → Prop) : Prop := ∀ s, s < 3100 → us s ≠ 0 → Q (nr s).toNatClampNeg → ¬ D (nr s).toNatClampNeg → ∀ i : Nat, (i : Int) < (ws s).toInt → 0 ≤ (zrf kr kd wd s i).toInt → Q (nr (zrf kr kd wd s i).toNatClampNeg).toNatClampNeg
section QK
variable {aa a b : Nat → Nat → Int32} {us nr kr kd ws at₉ ho wd wi ow rt wk wl kp kp₉ st : Nat → Int32} {wm nu ro fo le ra pi z v y x j : Int32} {cur i n s t u : Nat} {m ms : Nat → Nat → Int32} {Q D : Nat → Prop}
theorem KA_push (h : qKA (m 110) us nr kr kd ws wd (ms 118) z Q D cur i) (h0 : 0 ≤ v.toInt) (h3 : v.toInt ≤ 3099) (hu : us v.toNatClampNeg ≠ 0) (hq : Q (nr v.toNatClampNeg).toNatClampNeg) (hk : m 110 v.toNatClampNeg = 0) (hz : 0 ≤ z.toInt) (hy : y.toInt = z.toInt + 1) (hx : x ≠ 0) : qKA (ma_u m 110 v.toNatClampNeg x 110) us nr kr kd ws wd (ma_u ms 118 z.toNatClampNeg v 118) y Q D cur i := by
  obtain ⟨h1, h2, h3₉, h4, h5⟩ := h
  have cv := tn_cast h0
  have cz := tn_cast hz
  have nd : ¬ D (nr v.toNatClampNeg).toNatClampNeg := fun w => h4 _ (by omega) hu w hk
  refine ⟨fun s hs hk2 => ?_, fun j hj => ?_, fun hc => ⟨mu_mono hx (h3₉ hc).1, (h3₉ hc).2⟩, fun s hs hu2 hd => mu_mono hx (h4 s hs hu2 hd), fun s hs hk2 => ?_⟩
  · by_cases e : s = v.toNatClampNeg
    · rw [e]
      exact ⟨hu, hq⟩
    · exact h1 s hs (mu_back e hk2)
  · by_cases e : j = z.toNatClampNeg
    · rw [e, mu_self, mu_self]
      exact ⟨⟨h0, by omega⟩, hx, nd⟩
    · rw [mu_ne e]
      have q := h2 j (by omega)
      exact ⟨q.1, mu_mono hx q.2.1, q.2.2⟩
  · by_cases e : s = v.toNatClampNeg
    · exact Or.inr (Or.inl ⟨z.toNatClampNeg, by omega, by rw [mu_self, e]⟩)
    · rcases h5 s hs (mu_back e hk2) with q | ⟨j, hj, hs2⟩ | q | ⟨q1, q2⟩
      · exact Or.inl q
      · exact Or.inr (Or.inl ⟨j, by omega, by rw [mu_ne (by omega)]; exact hs2⟩)
      · exact Or.inr (Or.inr (Or.inl (fun i₉ hi => zcl_mono hx (q i₉ hi))))
      · exact Or.inr (Or.inr (Or.inr ⟨q1, fun i₉ hi => zcl_mono hx (q2 i₉ hi)⟩))
theorem KA_adv {i2 : Nat} (h : qKA kp us nr kr kd ws wd st z Q D cur i) (hr : zcl kp kr kd wd cur i) (e : i2 = i + 1) : qKA kp us nr kr kd ws wd st z Q D cur i2 := by
  subst e
  refine ⟨h.1, h.2.1, h.2.2.1, h.2.2.2.1, fun s hs hk => ?_⟩
  rcases h.2.2.2.2 s hs hk with q | q | q | ⟨q1, q2⟩
  · exact Or.inl q
  · exact Or.inr (Or.inl q)
  · exact Or.inr (Or.inr (Or.inl q))
  · refine Or.inr (Or.inr (Or.inr ⟨q1, fun i₉ hi => ?_⟩))
    by_cases e : i₉ = i
    · rw [e, q1]
      exact hr
    · exact q2 i₉ (by omega)
theorem KA_done (h : qKA kp us nr kr kd ws wd st z Q D cur i) (hi : (ws cur).toInt ≤ (i : Int)) : qKA kp us nr kr kd ws wd st z Q D 3100 0 := by
  refine ⟨h.1, h.2.1, fun e => absurd e (by decide), h.2.2.2.1, fun s hs hk => ?_⟩
  rcases h.2.2.2.2 s hs hk with q | q | q | ⟨q1, q2⟩
  · exact Or.inl q
  · exact Or.inr (Or.inl q)
  · exact Or.inr (Or.inr (Or.inl q))
  · refine Or.inr (Or.inr (Or.inl (fun i₉ hi₉ => q2 i₉ ?_)))
    rw [q1] at hi₉
    omega
theorem KA_pop (h : qKA kp us nr kr kd ws wd st z Q D 3100 i) (hz : 0 < z.toInt) (hy : y.toInt = z.toInt - 1) (hc : cur = (st y.toNatClampNeg).toNatClampNeg) : qKA kp us nr kr kd ws wd st y Q D cur 0 := by
  have cy := tn_cast (x := y) (by omega)
  have p := h.2.1 y.toNatClampNeg (by omega)
  refine ⟨h.1, fun j hj => h.2.1 j (by omega), fun _ => by rw [hc]; exact p.2, h.2.2.2.1, fun s hs hk => ?_⟩
  rcases h.2.2.2.2 s hs hk with q | ⟨j, hj, hs2⟩ | q | ⟨q1, q2⟩
  · exact Or.inl q
  · by_cases e : j = y.toNatClampNeg
    · refine Or.inr (Or.inr (Or.inr ⟨?_, fun i₉ hi => absurd hi (Nat.not_lt_zero _)⟩))
      rw [hc, ← e, hs2]
    · exact Or.inr (Or.inl ⟨j, by omega, hs2⟩)
  · exact Or.inr (Or.inr (Or.inl q))
  · omega
theorem KA_none (h : ∀ s, s < 3100 → kp s = 0) (hz : z.toInt = 0) (hd : ∀ u, ¬ D u) : qKA kp us nr kr kd ws wd st z Q D 3100 0 :=
  ⟨fun s hs hk => absurd (h s hs) hk, fun j hj => by omega, fun e => absurd e (by decide), fun s _ _ w => absurd w (hd _), fun s hs hk => absurd (h s hs) hk⟩
/-- what the one at work refers to -/
theorem KA_ref (h : qKA kp us nr kr kd ws wd st z Q D cur i) (hQ : qQC us nr kr kd ws wd Q D) (hR : qR2 us nr kr kd ws wd aa) (hc : cur < 3100) (hi : (i : Int) < (ws cur).toInt) (hv : v = zrf kr kd wd cur i) (h0 : 0 ≤ v.toInt) : us v.toNatClampNeg ≠ 0 ∧ Q (nr v.toNatClampNeg).toNatClampNeg := by
  have k := h.2.2.1 hc
  have u := h.1 cur hc k.1
  have r := hR cur hc u.1 i hi
  rw [← hv] at r
  have q := hQ cur hc u.1 u.2 k.2 i hi (by rw [← hv]; exact h0)
  rw [← hv] at q
  exact ⟨(U_y r.1 h0).2, q⟩
/-- who refers to whom, by slots -/
theorem Ed_s (hR : qRB us nr kr kd ws at₉ ho wd wi ow rt wk wl wm nu ro fo le ra pi aa) (ht : t < 3100) (hu : us t ≠ 0) (hi : (i : Int) < (ws t).toInt) (h0 : 0 ≤ (zrf kr kd wd t i).toInt) : zEd aa (nr t).toNatClampNeg (nr (zrf kr kd wd t i).toNatClampNeg).toNatClampNeg := by
  have r := hR.2.1 t ht hu i hi
  have u := U_y r.1 h0
  have hs := tn_lt h0 u.1
  have b := (hR.1.1 t ht hu)
  have ei : (Int32.ofNat i).toInt = (i : Int) := Int32.toInt_ofNat_of_lt (by have := b.2.2.2.2.2.1; omega)
  refine ⟨R1_al hR.1 hs u.2, Int32.ofNat i, by omega, ?_, ?_⟩
  · rw [b.2.2.1, i_p1 (by have := b.2.2.2.2.2.1; omega)]
    omega
  · rw [r.2.1, No_y h0, R1_of_nr hR.1 hs u.2]
theorem Ed_t (hR : qRB us nr kr kd ws at₉ ho wd wi ow rt wk wl wm nu ro fo le ra pi aa) (ht : t < 3100) (hu : us t ≠ 0) (h : zEd aa (nr t).toNatClampNeg n) : ∃ i : Nat, (i : Int) < (ws t).toInt ∧ 0 ≤ (zrf kr kd wd t i).toInt ∧ (zrf kr kd wd t i).toNatClampNeg < 3100 ∧ us (zrf kr kd wd t i).toNatClampNeg ≠ 0 ∧ (nr (zrf kr kd wd t i).toNatClampNeg).toNatClampNeg = n := by
  obtain ⟨al, i, h0, h1, h2⟩ := h
  have b := (hR.1.1 t ht hu)
  rw [b.2.2.1, i_p1 (by have := b.2.2.2.2.2.1; omega)] at h1
  have c := tn_cast h0
  have r := hR.2.1 t ht hu i.toNatClampNeg (by omega)
  rw [ofN_tn h0, h2] at r
  have en := ofN_i al.1
  by_cases z : (zrf kr kd wd t i.toNatClampNeg).toInt < 0
  · rw [No_n z] at r
    have := congrArg Int32.toInt r.2.1
    rw [en] at this
    have e1 : (-1 : Int32).toInt = -1 := rfl
    omega
  · have u := U_y r.1 (by omega)
    refine ⟨i.toNatClampNeg, by omega, by omega, tn_lt (by omega) u.1, u.2, ?_⟩
    rw [No_y (by omega)] at r
    rw [← r.2.1]
    exact tn_of al.1
theorem QC_M {N : Nat → Prop} (hR : qRB us nr kr kd ws at₉ ho wd wi ow rt wk wl wm nu ro fo le ra pi aa) : qQC us nr kr kd ws wd (zM N D (zEd aa)) D := fun s hs hu hq hd i hi h0 => zM_cl hq hd (Ed_s hR hs hu hi h0)
/-- ROOTS, WISHES and held ones are reached -/
theorem Rc_rt (hR : qRB us nr kr kd ws at₉ ho wd wi ow rt wk wl wm nu ro fo le ra pi aa) (hj : 0 ≤ j.toInt) (hj2 : j.toInt < 16) (hx : x = rt j.toNatClampNeg) (h0 : 0 ≤ x.toInt) : us x.toNatClampNeg ≠ 0 ∧ zRch aa (nr x.toNatClampNeg).toNatClampNeg := by
  have c := tn_cast hj
  have r := hR.2.2.1 j.toNatClampNeg (by omega)
  rw [← hx] at r
  have u := U_y r.1 h0
  have hs := tn_lt h0 u.1
  refine ⟨u.2, zM_in ⟨R1_al hR.1 hs u.2, Or.inl ⟨j.toNatClampNeg, by omega, ?_⟩⟩⟩
  rw [r.2, No_y h0, R1_of_nr hR.1 hs u.2]
theorem Rc_wl (hR : qRB us nr kr kd ws at₉ ho wd wi ow rt wk wl wm nu ro fo le ra pi aa) (hj : 0 ≤ j.toInt) (hj2 : j.toInt < wm.toInt) (hx : x = wl j.toNatClampNeg) : us x.toNatClampNeg ≠ 0 ∧ zRch aa (nr x.toNatClampNeg).toNatClampNeg := by
  have c := tn_cast hj
  have r := hR.2.2.2.2.1.2 j.toNatClampNeg (by omega)
  rw [← hx] at r
  have hs := tn_lt r.1.1 r.1.2.1
  refine ⟨r.1.2.2, zM_in ⟨R1_al hR.1 hs r.1.2.2, Or.inr (Or.inl ⟨j.toNatClampNeg, by rw [hR.2.2.2.2.1.1]; omega, ?_⟩)⟩⟩
  rw [r.2, R1_of_nr hR.1 hs r.1.2.2]
theorem Rc_ho (hR : qRB us nr kr kd ws at₉ ho wd wi ow rt wk wl wm nu ro fo le ra pi aa) (hI : qI aa) (hs : s < 3100) (hu : us s ≠ 0) (hh : 0 < (ho s).toInt) : zRch aa (nr s).toNatClampNeg := by
  have al := R1_al hR.1 hs hu
  refine zM_in ⟨al, Or.inr (Or.inr ⟨(hI.1 _ al).1.1, ?_⟩)⟩
  rw [(hR.1.1 s hs hu).2.2.2.2.1]
  exact hh
/-- all of it -/
theorem KR_end (hR : qRB us nr kr kd ws at₉ ho wd wi ow rt wk wl wm nu ro fo le ra pi aa) (h : qKA kp us nr kr kd ws wd st z (zRch aa) (fun _ => False) 3100 0) (hz : z.toInt = 0) (h1 : zcov kp rt 16) (h2 : zcov kp wl wm.toInt) (h3 : ∀ s : Nat, (s : Int) < 3100 → us s ≠ 0 → 0 < (ho s).toInt → kp s ≠ 0) (hs : s < 3100) (hu : us s ≠ 0) : kp s ≠ 0 ↔ zRch aa (nr s).toNatClampNeg := by
  refine ⟨fun w => (h.1 s hs w).2, fun w => ?_⟩
  have q := w (fun x => ∃ t, t < 3100 ∧ us t ≠ 0 ∧ (nr t).toNatClampNeg = x ∧ kp t ≠ 0) (fun g hg => ?_) (fun u y hp _ he => ?_)
  · obtain ⟨t, ht, hv, e, hk⟩ := q
    rw [← R1_in hR.1 ht hs hv hu e]
    exact hk
  · obtain ⟨al, ⟨j, j1, j2⟩ | ⟨j, j1, j2⟩ | hh⟩ := hg
    · have r := hR.2.2.1 j j1
      rw [j2] at r
      have en := ofN_i al.1
      by_cases w2 : (rt j).toInt < 0
      · rw [No_n w2] at r
        have := congrArg Int32.toInt r.2
        rw [en] at this
        have e1 : (-1 : Int32).toInt = -1 := rfl
        omega
      · have u := U_y r.1 (by omega)
        rw [No_y (by omega)] at r
        refine ⟨(rt j).toNatClampNeg, tn_lt (by omega) u.1, u.2, by rw [← r.2]; exact tn_of al.1, ?_⟩
        exact (h1 j (by omega)).elim (fun w3 => absurd w3 w2) id
    · rw [hR.2.2.2.2.1.1] at j1
      have r := hR.2.2.2.2.1.2 j j1
      rw [j2] at r
      refine ⟨(wl j).toNatClampNeg, tn_lt r.1.1 r.1.2.1, r.1.2.2, by rw [← r.2]; exact tn_of al.1, ?_⟩
      exact (h2 j j1).elim (fun w3 => absurd w3 (by have := r.1.1; omega)) id
    · obtain ⟨t, ht, hv, e⟩ := R1_ex hR.1 al
      refine ⟨t, ht, hv, e, h3 t (by omega) hv ?_⟩
      have e2 := (hR.1.1 t ht hv).2.2.2.2.1
      rw [← e2, e]
      exact hh.2
  · obtain ⟨t, ht, hv, e, hk⟩ := hp
    rw [← e] at he
    obtain ⟨i, i1, i2, i3, i4, i5⟩ := Ed_t hR ht hv he
    refine ⟨_, i3, i4, i5, ?_⟩
    rcases h.2.2.2.2 t ht hk with w | ⟨j, j1, _⟩ | w | ⟨w, _⟩
    · exact w.elim
    · omega
    · exact (w i i1).elim (fun w2 => by omega) id
    · omega
theorem Rq_ch (hI : qI aa) : zRq aa x ↔ 0 ≤ x.toInt ∧ x.toInt < 512 ∧ aa 126 x.toNatClampNeg ≠ 0 ∧ zRch aa x.toNatClampNeg := by
  have q : ∀ n, zNn (aRA aa) n ↔ zRch aa n := fun n => RA_set (fun y hy => (hI.1 y hy).1.2) hI.2.2.2.1.1.2 hI.2.2.2.1.2.1.2
  unfold zRq
  constructor
  · rintro ⟨w1, w2, w3, w4⟩
    have c := tn_cast w1
    exact ⟨w1, w2, w3, (q _).mp ⟨by omega, w4⟩⟩
  · rintro ⟨w1, w2, w3, w4⟩
    exact ⟨w1, w2, w3, ((q _).mpr w4).2⟩
def qRe (us nr : Nat → Int32) (a : Nat → Nat → Int32) (x v : Int32) : Prop := (v = -1 ∧ ¬ zRq a x) ∨ (0 ≤ v.toInt ∧ v.toInt ≤ 3099 ∧ us v.toNatClampNeg ≠ 0 ∧ nr v.toNatClampNeg = x ∧ zRq a x)
theorem Re_0 (hR : qRB us nr kr kd ws at₉ ho wd wi ow rt wk wl wm nu ro fo le ra pi aa) (h : qPl us nr x v) (hv : v.toInt < 0) : qRe us nr aa x (-1) := by
  refine Or.inl ⟨rfl, fun w => ?_⟩
  rcases h with q | q
  · have c := tn_cast w.1
    have w1 := w.2.1
    obtain ⟨t, ht, hu, e⟩ := hR.1.2.2 x.toNatClampNeg (by omega) w.2.2.1
    refine q.2 t ht hu ?_
    rw [e]
    exact ofN_tn w.1
  · omega
theorem Re_1 (hR : qRB us nr kr kd ws at₉ ho wd wi ow rt wk wl wm nu ro fo le ra pi aa) (hI : qI aa) (h : qPl us nr x v) (hv : 0 ≤ v.toInt) (hk : ∀ s, s < 3100 → us s ≠ 0 → (kp s ≠ 0 ↔ zRch aa (nr s).toNatClampNeg)) (h0 : kp v.toNatClampNeg = 0) : qRe us nr aa x (-1) := by
  rcases h with q | q
  · rw [q.1] at hv
    exact absurd hv (by decide)
  · refine Or.inl ⟨rfl, fun w => ?_⟩
    have w4 := ((Rq_ch hI).mp w).2.2.2
    have k := hk _ (tn_lt q.1 (by omega)) q.2.2.1
    rw [q.2.2.2] at k
    exact k.mpr w4 h0
theorem Re_2 (hR : qRB us nr kr kd ws at₉ ho wd wi ow rt wk wl wm nu ro fo le ra pi aa) (hI : qI aa) (h : qPl us nr x v) (hv : 0 ≤ v.toInt) (hk : ∀ s, s < 3100 → us s ≠ 0 → (kp s ≠ 0 ↔ zRch aa (nr s).toNatClampNeg)) (h0 : kp v.toNatClampNeg ≠ 0) : qRe us nr aa x v := by
  rcases h with q | q
  · rw [q.1] at hv
    exact absurd hv (by decide)
  · have hs := tn_lt q.1 (by omega)
    have t := hR.1.1 _ hs q.2.2.1
    have k := (hk _ hs q.2.2.1).mp h0
    rw [q.2.2.2] at k t
    exact Or.inr ⟨q.1, q.2.1, q.2.2.1, q.2.2.2, (Rq_ch hI).mpr ⟨t.1.1, t.1.2, t.2.1, k⟩⟩
end QK
theorem lp_191r_29 {X : Nat × (Nat → Int32)} {P : Option ma_V → (Nat → Nat → Int32) → Prop} {aa : Nat→Nat→Int32} {QQ : Nat→Prop} {DD : Nat→Prop} {m0 : Nat → Nat → Int32} (h0 : zV m0) (K : ∀ m₉, zF wr_191 m0 m₉ → zV m₉ → ((m₉ 94 73).toInt = 0) → (zle (m0 110) (m₉ 110)) → (qKA (m₉ 110) (m₉ 99) (m₉ 100) (m₉ 98) (m₉ 101) (m₉ 102) (m₉ 108) (m₉ 118) (m₉ 94 73) QQ DD 3100 0) → P none m₉) {n0 : Nat} (OUT0 : ∀ (m₉ : Nat → Nat → Int32) , ((zMu (m₉ 110) (m₉ 94 73) : Int)).toNat < n0 → zF wr_191 m0 m₉ → zV m₉ → (zKS (m₉ 110) (m₉ 94 73)) → (zW (m₉ 94 7) (m₉ 98) (m₉ 101) (m₉ 102) (m₉ 108)) → (qRB (m₉ 99) (m₉ 100) (m₉ 98) (m₉ 101) (m₉ 102) (m₉ 103) (m₉ 107) (m₉ 108) (m₉ 109) (m₉ 111) (m₉ 112) (m₉ 113) (m₉ 114) (m₉ 94 55) (m₉ 94 46) (m₉ 94 11) (m₉ 94 12) (m₉ 94 62) (m₉ 94 17) (m₉ 94 9) aa) → (qQC (m₉ 99) (m₉ 100) (m₉ 98) (m₉ 101) (m₉ 102) (m₉ 108) QQ DD) → (zle (m0 110) (m₉ 110)) → (qKA (m₉ 110) (m₉ 99) (m₉ 100) (m₉ 98) (m₉ 101) (m₉ 102) (m₉ 108) (m₉ 118) (m₉ 94 73) QQ DD 3100 0) → zm X 2 44 191 0 [(0, .inr (.inr (some 94)))] m₉ P) : ∀ (n : Nat) (m : Nat → Nat → Int32) (l1 : Int32) (l2 : Int32), (61 - l2.toInt).toNat = n → zF wr_191 m0 m → zV m → (0 ≤ l1.toInt) → (l1.toInt ≤ 3099) → (0 ≤ l2.toInt) → (zKS (m 110) (m 94 73)) → (zW (m 94 7) (m 98) (m 101) (m 102) (m 108)) → (qRB (m 99) (m 100) (m 98) (m 101) (m 102) (m 103) (m 107) (m 108) (m 109) (m 111) (m 112) (m 113) (m 114) (m 94 55) (m 94 46) (m 94 11) (m 94 12) (m 94 62) (m 94 17) (m 94 9) aa) → (qQC (m 99) (m 100) (m 98) (m 101) (m 102) (m 108) QQ DD) → (zle (m0 110) (m 110)) → (qKA (m 110) (m 99) (m 100) (m 98) (m 101) (m 102) (m 108) (m 118) (m 94 73) QQ DD l1.toNatClampNeg l2.toNatClampNeg) → (zMu (m 110) (m 94 73) < n0) → zm X 2 44 191 29 [(0, .inr (.inr (some 94))), (1, .inl l1), (2, .inl l2)] m P := by
  intro n
  induction n using Nat.strongRecOn with
  | _ n IH =>
    intro m l1 l2 hmu hF hV hi0 hi1 hi2 r_KS r_W r_RB r_QC r_KM r_KA r_MU
    refine g_191_29 l1 l2 ?_
    have b1 := i_bd l1
    have hg2 : (0 ≤ l1 ∧ l1.toNatClampNeg < 3100) := i_ix (by omega) (by omega)
    refine ⟨hg2, ?_⟩
    first | have f3 : 0 ≤ (m 102 l1.toNatClampNeg).toInt ∧ (m 102 l1.toNatClampNeg).toInt ≤ 60 := ra_102 (m := m) hV (k := l1.toNatClampNeg) (i_ix (n := 3100) (by omega) (by omega)).2 | have b4 := i_bd (m 102 l1.toNatClampNeg)
    have b5 := i_bd l2
    refine zd (fun (h6 : (m 102 l1.toNatClampNeg) ≤ l2) => ?_) (fun (h6 : ¬ (m 102 l1.toNatClampNeg) ≤ l2) => ?_)
    · skip
      have g7 := i_le h6
      exact OUT0 _  (show ((zMu (m 110) (m 94 73) : Int)).toNat < n0 from by omega) hF hV r_KS r_W r_RB r_QC r_KM (show qKA (m 110) (m 99) (m 100) (m 98) (m 101) (m 102) (m 108) (m 118) (m 94 73) QQ DD 3100 0 from by first | (exact KA_done r_KA (by rw [tn_cast (x := l2) (by omega)]; omega)) | (exfalso; omega; done) | (exfalso; contradiction; done))
    · skip
      have g8 := i_nle h6
      refine sp_192 (l1) (l2) hV (by omega) (by omega) (by omega) (show l2.toInt < (m 102 l1.toNatClampNeg).toInt from by omega) (fun v2 m1 hV_m1 p0_m1 => zmi_n ?_)
      have p0_m1 : v2 = zrf (m 98) (m 101) (m 108) l1.toNatClampNeg l2.toNatClampNeg := p0_m1
      try have := W_ref r_W (by omega) (by omega) (by omega) (by omega) p0_m1
      have b9 := i_bd v2
      have li10 : (0 : Int32).toInt = 0 := rfl
      refine zd (fun (h11 : v2 < (0 : Int32)) => ?_) (fun (h11 : ¬ v2 < (0 : Int32)) => ?_)
      · skip
        have g12 := i_lt h11
        first | have e13 : (l2 + (1 : Int32)).toInt = l2.toInt + (1) := i_addk rfl (by omega) (by omega) | have b14 := i_bd (l2 + (1 : Int32))
        exact IH (61 - (l2 + (1 : Int32)).toInt).toNat (by omega) _ (l1) ((l2 + (1 : Int32))) rfl (zF_zov hF ws_192_191) hV_m1 (by omega) (by omega) (by omega) r_KS r_W r_RB r_QC r_KM (show qKA (m 110) (m 99) (m 100) (m 98) (m 101) (m 102) (m 108) (m 118) (m 94 73) QQ DD l1.toNatClampNeg (l2 + (1 : Int32)).toNatClampNeg from by first | (exact KA_adv r_KA (Or.inl (by rw [← p0_m1]; omega)) (tn_succ (by omega) (by omega))) | (exact KA_adv r_KA (Or.inr (by rw [← p0_m1]; assumption)) (tn_succ (by omega) (by omega))) | (exfalso; omega; done) | (exfalso; contradiction; done)) r_MU
      · skip
        have g15 := i_nlt h11
        have hg16 : (0 ≤ v2 ∧ v2.toNatClampNeg < 3100) := i_ix (by omega) (by omega)
        refine ⟨hg16, ?_⟩
        first | have f17 : 0 ≤ (m 110 v2.toNatClampNeg).toInt ∧ (m 110 v2.toNatClampNeg).toInt ≤ 1 := ra_110 (m := m) hV (k := v2.toNatClampNeg) (i_ix (n := 3100) (by omega) (by omega)).2 | have b18 := i_bd (m 110 v2.toNatClampNeg)
        refine zd (fun (h19 : (m 110 v2.toNatClampNeg) = (0 : Int32)) => ?_) (fun (h19 : ¬ (m 110 v2.toNatClampNeg) = (0 : Int32)) => ?_)
        · skip
          have g20 := i_eq h19
          have hg21 : (0 ≤ v2 ∧ v2.toNatClampNeg < 3100) := i_ix (by omega) (by omega)
          refine ⟨hg21, ?_⟩
          have f22 : 0 ≤ (m 94 73).toInt ∧ (m 94 73).toInt ≤ 3100 := rs_94_73 (m := m) hV
          try have gk := KS_room r_KS (by assumption) (by omega)
          have hg23 : (0 ≤ (m 94 73) ∧ (m 94 73).toNatClampNeg < 3100) := i_ix (by omega) (by omega)
          refine ⟨hg23, ?_⟩
          have li25 : (1 : Int32).toInt = 1 := rfl
          have hV24 : zV (ma_u (zov wr_192 m m1) 110 v2.toNatClampNeg (1 : Int32)) := ua_110 hV_m1 (by omega) (by omega)
          have hV26 : zV (ma_u (ma_u (zov wr_192 m m1) 110 v2.toNatClampNeg (1 : Int32)) 118 (m 94 73).toNatClampNeg v2) := ua_118 hV24 (by omega) (by omega)
          first | have e28 : ((m 94 73) + (1 : Int32)).toInt = (m 94 73).toInt + (1) := i_addk rfl (by omega) (by omega) | have b29 := i_bd ((m 94 73) + (1 : Int32))
          have hV27 : zV (ma_u (ma_u (ma_u (zov wr_192 m m1) 110 v2.toNatClampNeg (1 : Int32)) 118 (m 94 73).toNatClampNeg v2) 94 73 ((m 94 73) + (1 : Int32))) := us_94_73 hV26 (by omega) (by omega)
          first | have e30 : (l2 + (1 : Int32)).toInt = l2.toInt + (1) := i_addk rfl (by omega) (by omega) | have b31 := i_bd (l2 + (1 : Int32))
          exact IH (61 - (l2 + (1 : Int32)).toInt).toNat (by omega) _ (l1) ((l2 + (1 : Int32))) rfl (zF_u (zF_u (zF_u (zF_zov hF ws_192_191) rfl) rfl) rfl) hV27 (by omega) (by omega) (by omega) (show zKS ((ma_u m 110 v2.toNatClampNeg (1 : Int32)) 110) ((m 94 73) + (1 : Int32)) from by first | (exact KS_push r_KS (by assumption) (by omega) (by decide) (by assumption)) | (exact KS_push (KS_0 (r := m 110) (y := m 94 73) (by omega)) (by assumption) (by omega) (by decide) (by assumption)) | (exfalso; omega; done) | (exfalso; contradiction; done)) r_W r_RB r_QC (show zle (m0 110) ((ma_u m 110 v2.toNatClampNeg (1 : Int32)) 110) from by first | (exact zle_push r_KM (by decide)) | (exact zle_rfl) | (exfalso; omega; done) | (exfalso; contradiction; done)) (show qKA ((ma_u m 110 v2.toNatClampNeg (1 : Int32)) 110) (m 99) (m 100) (m 98) (m 101) (m 102) (m 108) ((ma_u m 118 (m 94 73).toNatClampNeg v2) 118) ((m 94 73) + (1 : Int32)) QQ DD l1.toNatClampNeg (l2 + (1 : Int32)).toNatClampNeg from by first | (exact KA_adv (KA_push r_KA (by omega) (by omega) (KA_ref r_KA r_QC r_RB.2.1 (by omega) (by rw [tn_cast (x := l2) (by omega)]; omega) p0_m1 (by omega)).1 (KA_ref r_KA r_QC r_RB.2.1 (by omega) (by rw [tn_cast (x := l2) (by omega)]; omega) p0_m1 (by omega)).2 (by assumption) (by omega) (by omega) (by decide)) (Or.inr (by rw [← p0_m1, mu_self]; decide)) (tn_succ (by omega) (by omega))) | (exfalso; omega; done) | (exfalso; contradiction; done)) (show zMu ((ma_u m 110 v2.toNatClampNeg (1 : Int32)) 110) ((m 94 73) + (1 : Int32)) < n0 from by first | (have zq := Mu_push (m := m) (c := 110) (z := m 94 73) (y := (m 94 73) + (1 : Int32)) (x := 1) (by omega) (by assumption) (by omega) (by decide) (by assumption); omega; done) | (exfalso; omega; done) | (exfalso; contradiction; done))
        · skip
          have g32 := i_ne h19
          first | have e33 : (l2 + (1 : Int32)).toInt = l2.toInt + (1) := i_addk rfl (by omega) (by omega) | have b34 := i_bd (l2 + (1 : Int32))
          exact IH (61 - (l2 + (1 : Int32)).toInt).toNat (by omega) _ (l1) ((l2 + (1 : Int32))) rfl (zF_zov hF ws_192_191) hV_m1 (by omega) (by omega) (by omega) r_KS r_W r_RB r_QC r_KM (show qKA (m 110) (m 99) (m 100) (m 98) (m 101) (m 102) (m 108) (m 118) (m 94 73) QQ DD l1.toNatClampNeg (l2 + (1 : Int32)).toNatClampNeg from by first | (exact KA_adv r_KA (Or.inl (by rw [← p0_m1]; omega)) (tn_succ (by omega) (by omega))) | (exact KA_adv r_KA (Or.inr (by rw [← p0_m1]; assumption)) (tn_succ (by omega) (by omega))) | (exfalso; omega; done) | (exfalso; contradiction; done)) r_MU
theorem lp_191r_0 {X : Nat × (Nat → Int32)} {P : Option ma_V → (Nat → Nat → Int32) → Prop} {aa : Nat→Nat→Int32} {QQ : Nat→Prop} {DD : Nat→Prop} {m0 : Nat → Nat → Int32} (h0 : zV m0) (K : ∀ m₉, zF wr_191 m0 m₉ → zV m₉ → ((m₉ 94 73).toInt = 0) → (zle (m0 110) (m₉ 110)) → (qKA (m₉ 110) (m₉ 99) (m₉ 100) (m₉ 98) (m₉ 101) (m₉ 102) (m₉ 108) (m₉ 118) (m₉ 94 73) QQ DD 3100 0) → P none m₉) : ∀ (n : Nat) (m : Nat → Nat → Int32) , ((zMu (m 110) (m 94 73) : Int)).toNat = n → zF wr_191 m0 m → zV m → (zKS (m 110) (m 94 73)) → (zW (m 94 7) (m 98) (m 101) (m 102) (m 108)) → (qRB (m 99) (m 100) (m 98) (m 101) (m 102) (m 103) (m 107) (m 108) (m 109) (m 111) (m 112) (m 113) (m 114) (m 94 55) (m 94 46) (m 94 11) (m 94 12) (m 94 62) (m 94 17) (m 94 9) aa) → (qQC (m 99) (m 100) (m 98) (m 101) (m 102) (m 108) QQ DD) → (zle (m0 110) (m 110)) → (qKA (m 110) (m 99) (m 100) (m 98) (m 101) (m 102) (m 108) (m 118) (m 94 73) QQ DD 3100 0) → zm X 2 44 191 0 [(0, .inr (.inr (some 94)))] m P := by
  intro n
  induction n using Nat.strongRecOn with
  | _ n IH =>
    intro m  hmu hF hV r_KS r_W r_RB r_QC r_KM r_KA
    refine g_191_0  ?_
    have f1 : 0 ≤ (m 94 73).toInt ∧ (m 94 73).toInt ≤ 3100 := rs_94_73 (m := m) hV
    have li2 : (0 : Int32).toInt = 0 := rfl
    refine zd (fun (h3 : (m 94 73) ≤ (0 : Int32)) => ?_) (fun (h3 : ¬ (m 94 73) ≤ (0 : Int32)) => ?_)
    · skip
      have g4 := i_le h3
      exact K _ hF hV (show (m 94 73).toInt = 0 from by omega) r_KM r_KA
    · skip
      have g5 := i_nle h3
      first | have e6 : ((m 94 73) - (1 : Int32)).toInt = (m 94 73).toInt - (1) := i_subk rfl (by omega) (by omega) | have b7 := i_bd ((m 94 73) - (1 : Int32))
      try have gk := KS_room r_KS (by assumption) (by omega)
      have hg8 : (0 ≤ ((m 94 73) - (1 : Int32)) ∧ ((m 94 73) - (1 : Int32)).toNatClampNeg < 3100) := i_ix (by omega) (by omega)
      refine ⟨hg8, ?_⟩
      have hV9 : zV (ma_u m 94 73 ((m 94 73) - (1 : Int32))) := us_94_73 hV (by omega) (by omega)
      first | have f10 : 0 ≤ (m 118 ((m 94 73) - (1 : Int32)).toNatClampNeg).toInt ∧ (m 118 ((m 94 73) - (1 : Int32)).toNatClampNeg).toInt ≤ 3099 := ra_118 (m := m) hV (k := ((m 94 73) - (1 : Int32)).toNatClampNeg) (i_ix (n := 3100) (by omega) (by omega)).2 | have b11 := i_bd (m 118 ((m 94 73) - (1 : Int32)).toNatClampNeg)
      exact lp_191r_29 h0 K (fun _  z1 z2 z3 y0 y1 y2 y3 y4 y5 => IH _ z1 _  rfl z2 z3 y0 y1 y2 y3 y4 y5) _ _ ((m 118 ((m 94 73) - (1 : Int32)).toNatClampNeg)) ((0 : Int32)) rfl (zF_u hF rfl) hV9 (by omega) (by omega) (by omega) (show zKS (m 110) ((m 94 73) - (1 : Int32)) from by first | (exact KS_0 (by omega)) | (exact KS_dec r_KS (by omega)) | (exfalso; omega; done) | (exfalso; contradiction; done)) r_W r_RB r_QC r_KM (show qKA (m 110) (m 99) (m 100) (m 98) (m 101) (m 102) (m 108) (m 118) ((m 94 73) - (1 : Int32)) QQ DD (m 118 ((m 94 73) - (1 : Int32)).toNatClampNeg).toNatClampNeg (0 : Int32).toNatClampNeg from by first | (exact KA_pop r_KA (by omega) (by omega) rfl) | (exfalso; omega; done) | (exfalso; contradiction; done)) (show zMu (m 110) ((m 94 73) - (1 : Int32)) < n from by first | (have zq := Mu_pop (r := m 110) (z := m 94 73) (y := (m 94 73) - (1 : Int32)) (by omega) (by omega); omega; done) | (exfalso; omega; done) | (exfalso; contradiction; done))
theorem sp_191r {X : Nat × (Nat → Int32)} {P : Option ma_V → (Nat → Nat → Int32) → Prop} {aa : Nat→Nat→Int32} {QQ : Nat→Prop} {DD : Nat→Prop} {m : Nat → Nat → Int32}  (hV : zV m) (r_KS : zKS (m 110) (m 94 73)) (r_W : zW (m 94 7) (m 98) (m 101) (m 102) (m 108)) (r_RB : qRB (m 99) (m 100) (m 98) (m 101) (m 102) (m 103) (m 107) (m 108) (m 109) (m 111) (m 112) (m 113) (m 114) (m 94 55) (m 94 46) (m 94 11) (m 94 12) (m 94 62) (m 94 17) (m 94 9) aa) (r_QC : qQC (m 99) (m 100) (m 98) (m 101) (m 102) (m 108) QQ DD) (r_KA : qKA (m 110) (m 99) (m 100) (m 98) (m 101) (m 102) (m 108) (m 118) (m 94 73) QQ DD 3100 0) (KZ : ∀ m₉, zV (zov wr_191 m m₉) → ((m₉ 94 73).toInt = 0) → (zle (m 110) (m₉ 110)) → (qKA (m₉ 110) (m 99) (m 100) (m 98) (m 101) (m 102) (m 108) (m₉ 118) (m₉ 94 73) QQ DD 3100 0) → P none (zov wr_191 m m₉)) : zm X 2 44 191 0 [(0, .inr (.inr (some 94)))] m P := by
  have K : ∀ m₉, zF wr_191 m m₉ → zV m₉ → ((m₉ 94 73).toInt = 0) → (zle (m 110) (m₉ 110)) → (qKA (m₉ 110) (m₉ 99) (m₉ 100) (m₉ 98) (m₉ 101) (m₉ 102) (m₉ 108) (m₉ 118) (m₉ 94 73) QQ DD 3100 0) → P none m₉ := by
    intro m₉ hf z q0 q1 q2
    have e := zov_eq hf
    rw [e] at z ⊢
    try rw [e] at q0
    try rw [e] at q1
    try rw [e] at q2
    exact KZ m₉ z q0 q1 q2
  exact lp_191r_0 hV K _ _  rfl zF_rfl hV r_KS r_W r_RB r_QC (show zle (m 110) (m 110) from by first | (exact zle_rfl) | (exfalso; omega; done) | (exfalso; contradiction; done)) r_KA

