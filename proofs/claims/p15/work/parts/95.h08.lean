/-! the reference by numbers (written by wip/tools/gen18r.py) -/
theorem lp_219r_7 {X : Nat × (Nat → Int32)} {P : Option ma_V → (Nat → Nat → Int32) → Prop} {aa : Nat→Nat→Int32} {m0 : Nat → Nat → Int32} (h0 : zV m0) (K : ∀ m', zF wr_219 m0 m' → zV m' → (zG1 (m' 94 56) (m' 94 57) (m' 106)) → ((m' 94 58).toInt = 1) → (qRB (m' 99) (m' 100) (m' 98) (m' 101) (m' 102) (m' 103) (m' 107) (m' 108) (m' 109) (m' 111) (m' 112) (m' 113) (m' 114) (m' 94 55) (m' 94 46) (m' 94 11) (m' 94 12) (m' 94 62) (m' 94 17) (m' 94 9) (aB0 aa)) → (qI (aB0 aa)) → (qMQ (m' 106) (m' 115) (m' 94 57) (m' 94 56) (m' 99) (m' 100) (aB0 aa)) → P none m') : ∀ (n : Nat) (m : Nat → Nat → Int32) (l1 : Int32), (3100 - l1.toInt).toNat = n → zF wr_219 m0 m → zV m → (0 ≤ l1.toInt) → ((m 94 58).toInt = 1) → (∀ s : Nat, (s : Int) < l1.toInt → (m 106) s = 0) → (qRB (m 99) (m 100) (m 98) (m 101) (m 102) (m 103) (m 107) (m 108) (m 109) (m 111) (m 112) (m 113) (m 114) (m 94 55) (m 94 46) (m 94 11) (m 94 12) (m 94 62) (m 94 17) (m 94 9) aa) → (qI aa) → zm X 2 44 219 7 [(0, .inr (.inr (some 94))), (1, .inl l1)] m P := by
  intro n
  induction n using Nat.strongRecOn with
  | _ n IH =>
    intro m l1 hmu hF hV hi0 hi1 r_CW r_RB r_QI
    refine g_219_7 l1 ?_
    have f1 : 0 ≤ (m 94 58).toInt ∧ (m 94 58).toInt ≤ 1 := rs_94_58 (m := m) hV
    have li2 : (3100 : Int32).toInt = 3100 := rfl
    have b3 := i_bd l1
    refine zd (fun (h4 : (3100 : Int32) ≤ l1) => ?_) (fun (h4 : ¬ (3100 : Int32) ≤ l1) => ?_)
    · skip
      have g5 := i_le h4
      have li7 : (0 : Int32).toInt = 0 := rfl
      have hV6 : zV (ma_u m 94 56 (0 : Int32)) := us_94_56 hV (by omega) (by omega)
      have hV8 : zV (ma_u (ma_u m 94 56 (0 : Int32)) 94 57 (0 : Int32)) := us_94_57 hV6 (by omega) (by omega)
      refine sp_220r (aa := (aWh (ma_u aa 87 8 1) 0))  hV8 (show zG1 (0 : Int32) (0 : Int32) (m 106) from by first | (exact G1_0 (by omega) (by omega)) | (exfalso; omega; done) | (exfalso; contradiction; done)) (show qMQ (m 106) (m 115) (0 : Int32) (0 : Int32) (m 99) (m 100) (aWh (ma_u aa 87 8 1) 0) from by first | (exact MQ_wh (I_87 r_QI) (RB_87 r_RB).1 (z0_all r_CW (by omega)) rfl rfl) | (exfalso; omega; done) | (exfalso; contradiction; done)) (show qRB (m 99) (m 100) (m 98) (m 101) (m 102) (m 103) (m 107) (m 108) (m 109) (m 111) (m 112) (m 113) (m 114) (m 94 55) (m 94 46) (m 94 11) (m 94 12) (m 94 62) (m 94 17) (m 94 9) (aWh (ma_u aa 87 8 1) 0) from by first | (exact RB_of (RB_87 r_RB) Wh_of) | (exfalso; omega; done) | (exfalso; contradiction; done)) (show qI (aWh (ma_u aa 87 8 1) 0) from by first | (exact qI_of (I_87 r_QI) Wh_of) | (exfalso; omega; done) | (exfalso; contradiction; done)) (fun m1 hV_m1 p0_m1 p1_m1 p2_m1 p3_m1 p4_m1 => zmv_n ?_)
      have p0_m1 : zG1 (m1 94 56) (0 : Int32) (m1 106) := p0_m1
      have p1_m1 : (0 : Int32).toInt ≤ (m1 94 56).toInt := p1_m1
      have p2_m1 : qRB (m 99) (m 100) (m 98) (m 101) (m 102) (m 103) (m 107) (m 108) (m 109) (m 111) (m 112) (m 113) (m 114) (m 94 55) (m 94 46) (m 94 11) (m 94 12) (m 94 62) (m 94 17) (m 94 9) (aRo (aWh (ma_u aa 87 8 1) 0) 0) := p2_m1
      have p3_m1 : qI (aRo (aWh (ma_u aa 87 8 1) 0) 0) := p3_m1
      have p4_m1 : qMQ (m1 106) (m1 115) (0 : Int32) (m1 94 56) (m 99) (m 100) (aRo (aWh (ma_u aa 87 8 1) 0) 0) := p4_m1
      have f9 : 0 ≤ (m1 94 56).toInt ∧ (m1 94 56).toInt ≤ 3100 := rs_94_56 (m := (zov wr_220 (ma_u (ma_u m 94 56 (0 : Int32)) 94 57 (0 : Int32)) m1)) hV_m1
      exact K _ (zF_zov (zF_u (zF_u hF rfl) rfl) ws_220_219) hV_m1 p0_m1 (show (m 94 58).toInt = 1 from by omega) (show qRB (m 99) (m 100) (m 98) (m 101) (m 102) (m 103) (m 107) (m 108) (m 109) (m 111) (m 112) (m 113) (m 114) (m 94 55) (m 94 46) (m 94 11) (m 94 12) (m 94 62) (m 94 17) (m 94 9) (aB0 aa) from by first | (exact p2_m1) | (exfalso; omega; done) | (exfalso; contradiction; done)) (show qI (aB0 aa) from by first | (exact p3_m1) | (exfalso; omega; done) | (exfalso; contradiction; done)) (show qMQ (m1 106) (m1 115) (0 : Int32) (m1 94 56) (m 99) (m 100) (aB0 aa) from by first | (exact p4_m1) | (exfalso; omega; done) | (exfalso; contradiction; done))
    · skip
      have g10 := i_nle h4
      have hg11 : (0 ≤ l1 ∧ l1.toNatClampNeg < 3100) := i_ix (by omega) (by omega)
      refine ⟨hg11, ?_⟩
      have hV12 : zV (ma_u m 106 l1.toNatClampNeg (0 : Int32)) := ua_106 hV
      first | have e13 : (l1 + (1 : Int32)).toInt = l1.toInt + (1) := i_addk rfl (by omega) (by omega) | have b14 := i_bd (l1 + (1 : Int32))
      exact IH (3100 - (l1 + (1 : Int32)).toInt).toNat (by omega) _ ((l1 + (1 : Int32))) rfl (zF_u hF rfl) hV12 (by omega) (show (m 94 58).toInt = 1 from by omega) (show ∀ s : Nat, (s : Int) < (l1 + (1 : Int32)).toInt → ((ma_u m 106 l1.toNatClampNeg (0 : Int32)) 106) s = 0 from by first | (exact z0_step r_CW (by omega) (by omega)) | (intro s hs; omega; done) | (exfalso; omega; done) | (exfalso; contradiction; done)) r_RB r_QI
theorem sp_219r {X : Nat × (Nat → Int32)} {P : Option ma_V → (Nat → Nat → Int32) → Prop} {aa : Nat→Nat→Int32} {m : Nat → Nat → Int32}  (hV : zV m) (r_RB : qRB (m 99) (m 100) (m 98) (m 101) (m 102) (m 103) (m 107) (m 108) (m 109) (m 111) (m 112) (m 113) (m 114) (m 94 55) (m 94 46) (m 94 11) (m 94 12) (m 94 62) (m 94 17) (m 94 9) aa) (r_QI : qI aa) (KZ : ∀ m', zV (zov wr_219 m m') → (zG1 (m' 94 56) (m' 94 57) (m' 106)) → ((m' 94 58).toInt = 1) → (qRB (m 99) (m 100) (m 98) (m 101) (m 102) (m 103) (m 107) (m 108) (m 109) (m 111) (m 112) (m 113) (m 114) (m 94 55) (m 94 46) (m 94 11) (m 94 12) (m 94 62) (m 94 17) (m 94 9) (aB0 aa)) → (qI (aB0 aa)) → (qMQ (m' 106) (m' 115) (m' 94 57) (m' 94 56) (m 99) (m 100) (aB0 aa)) → P none (zov wr_219 m m')) : zm X 2 44 219 0 [(0, .inr (.inr (some 94)))] m P := by
  have K : ∀ m', zF wr_219 m m' → zV m' → (zG1 (m' 94 56) (m' 94 57) (m' 106)) → ((m' 94 58).toInt = 1) → (qRB (m' 99) (m' 100) (m' 98) (m' 101) (m' 102) (m' 103) (m' 107) (m' 108) (m' 109) (m' 111) (m' 112) (m' 113) (m' 114) (m' 94 55) (m' 94 46) (m' 94 11) (m' 94 12) (m' 94 62) (m' 94 17) (m' 94 9) (aB0 aa)) → (qI (aB0 aa)) → (qMQ (m' 106) (m' 115) (m' 94 57) (m' 94 56) (m' 99) (m' 100) (aB0 aa)) → P none m' := by
    intro m' hf z q0 q1 q2 q3 q4
    have e := zov_eq hf
    rw [e] at z ⊢
    try rw [e] at q0
    try rw [e] at q1
    try rw [e] at q2
    try rw [e] at q3
    try rw [e] at q4
    exact KZ m' z q0 q1 q2 q3 q4
  refine g_219_0  ?_
  have li2 : (1 : Int32).toInt = 1 := rfl
  have hV1 : zV (ma_u m 94 58 (1 : Int32)) := us_94_58 hV (by omega) (by omega)
  have li3 : (0 : Int32).toInt = 0 := rfl
  exact lp_219r_7 hV K _ _ ((0 : Int32)) rfl (zF_u zF_rfl rfl) hV1 (by omega) (show (1 : Int32).toInt = 1 from by omega) (show ∀ s : Nat, (s : Int) < (0 : Int32).toInt → (m 106) s = 0 from by first | (intro s hs; omega; done) | (exfalso; omega; done) | (exfalso; contradiction; done)) r_RB r_QI
theorem lp_222r_48 {X : Nat × (Nat → Int32)} {P : Option ma_V → (Nat → Nat → Int32) → Prop} {aa : Nat→Nat→Int32} {nn : Int32} {m0 : Nat → Nat → Int32} (h0 : zV m0) (K : ∀ v m', zF wr_222 m0 m' → zV m' → (zG1 (m' 94 56) (m' 94 57) (m' 106)) → ((m0 94 56).toInt ≤ (m' 94 56).toInt) → ((m0 94 57).toInt ≤ (m' 94 57).toInt ∧ ((m' 94 56).toInt ≤ (m' 94 57).toInt ∨ (m0 94 57).toInt + nn.toInt ≤ (m' 94 57).toInt)) → (qRB (m' 99) (m' 100) (m' 98) (m' 101) (m' 102) (m' 103) (m' 107) (m' 108) (m' 109) (m' 111) (m' 112) (m' 113) (m' 114) (m' 94 55) (m' 94 46) (m' 94 11) (m' 94 12) (m' 94 62) (m' 94 17) (m' 94 9) (aSp nn.toInt.toNat aa)) → (qI (aSp nn.toInt.toNat aa)) → (qMQ (m' 106) (m' 115) (m' 94 57) (m' 94 56) (m' 99) (m' 100) (aSp nn.toInt.toNat aa)) → (qEq v.toInt (aSn nn.toInt.toNat aa : Int)) → P (some (.inl v)) m') {n2 : Nat} (OUT2 : ∀ (m' : Nat → Nat → Int32) (l1 : Int32) (l2 : Int32), (3101 - (m' 94 57).toInt).toNat < n2 → zF wr_222 m0 m' → zV m' → (0 ≤ l2.toInt) → (l1.toInt = nn.toInt) → (l2.toInt ≤ nn.toInt) → (zW (m' 94 7) (m' 98) (m' 101) (m' 102) (m' 108)) → (zG1 (m' 94 56) (m' 94 57) (m' 106)) → ((m0 94 56).toInt ≤ (m' 94 56).toInt) → ((m' 94 57).toInt = (m0 94 57).toInt + l2.toInt) → (qRB (m' 99) (m' 100) (m' 98) (m' 101) (m' 102) (m' 103) (m' 107) (m' 108) (m' 109) (m' 111) (m' 112) (m' 113) (m' 114) (m' 94 55) (m' 94 46) (m' 94 11) (m' 94 12) (m' 94 62) (m' 94 17) (m' 94 9) aa) → (qI aa) → (qSO (m' 106) (m' 115) (m' 99) (m' 100) (m' 94 57) (m' 94 56) aa (nn.toInt - l2.toInt).toNat l2.toInt nn.toInt.toNat) → zm X 2 44 222 2 [(0, .inr (.inr (some 94))), (1, .inl l1), (2, .inl l2)] m' P) : ∀ (n : Nat) (m : Nat → Nat → Int32) (l1 : Int32) (l2 : Int32) (l3 : Int32) (l4 : Int32), (61 - l4.toInt).toNat = n → zF wr_222 m0 m → zV m → (0 ≤ l2.toInt) → (l2.toInt < nn.toInt) → (l1.toInt = nn.toInt) → (0 ≤ l3.toInt) → (l3.toInt ≤ 3099) → (0 ≤ l4.toInt) → (zW (m 94 7) (m 98) (m 101) (m 102) (m 108)) → (zG1 (m 94 56) (m 94 57) (m 106)) → ((m0 94 56).toInt ≤ (m 94 56).toInt) → ((m 94 57).toInt = (m0 94 57).toInt + l2.toInt + 1) → ((3101 - (m 94 57).toInt).toNat < n2) → (qRB (m 99) (m 100) (m 98) (m 101) (m 102) (m 103) (m 107) (m 108) (m 109) (m 111) (m 112) (m 113) (m 114) (m 94 55) (m 94 46) (m 94 11) (m 94 12) (m 94 62) (m 94 17) (m 94 9) aa) → (qI aa) → ((m 99) l3.toNatClampNeg ≠ 0) → (qSI (m 106) (m 115) (m 99) (m 100) (m 94 57) (m 94 56) aa ((m 100) l3.toNatClampNeg).toNatClampNeg l4 (nn.toInt - l2.toInt - 1).toNat (l2.toInt + 1) nn.toInt.toNat) → zm X 2 44 222 48 [(0, .inr (.inr (some 94))), (1, .inl l1), (2, .inl l2), (3, .inl l3), (4, .inl l4)] m P := by
  intro n
  induction n using Nat.strongRecOn with
  | _ n IH =>
    intro m l1 l2 l3 l4 hmu hF hV hi0 hi1 hi2 hi3 hi4 hi5 r_W r_G1 hi8 hi9 hi10 r_RB r_QI r_US3 r_SI
    refine g_222_48 l1 l2 l3 l4 ?_
    have f1 : 0 ≤ (m0 94 56).toInt ∧ (m0 94 56).toInt ≤ 3100 := rs_94_56 (m := m0) h0
    have f2 : 0 ≤ (m 94 56).toInt ∧ (m 94 56).toInt ≤ 3100 := rs_94_56 (m := m) hV
    have f3 : 0 ≤ (m 94 57).toInt ∧ (m 94 57).toInt ≤ 3100 := rs_94_57 (m := m) hV
    have f4 : 0 ≤ (m0 94 57).toInt ∧ (m0 94 57).toInt ≤ 3100 := rs_94_57 (m := m0) h0
    have b5 := i_bd l3
    have hg6 : (0 ≤ l3 ∧ l3.toNatClampNeg < 3100) := i_ix (by omega) (by omega)
    refine ⟨hg6, ?_⟩
    first | have f7 : 0 ≤ (m 102 l3.toNatClampNeg).toInt ∧ (m 102 l3.toNatClampNeg).toInt ≤ 60 := ra_102 (m := m) hV (k := l3.toNatClampNeg) (i_ix (n := 3100) (by omega) (by omega)).2 | have b8 := i_bd (m 102 l3.toNatClampNeg)
    have b9 := i_bd l4
    refine zd (fun (h10 : (m 102 l3.toNatClampNeg) ≤ l4) => ?_) (fun (h10 : ¬ (m 102 l3.toNatClampNeg) ≤ l4) => ?_)
    · skip
      have g11 := i_le h10
      have b12 := i_bd l1
      have b13 := i_bd l2
      first | have e14 : (l2 + (1 : Int32)).toInt = l2.toInt + (1) := i_addk rfl (by omega) (by omega) | have b15 := i_bd (l2 + (1 : Int32))
      exact OUT2 _ (l1) ((l2 + (1 : Int32))) (show (3101 - (m 94 57).toInt).toNat < n2 from by omega) hF hV (by omega) (by omega) (by omega) r_W r_G1 (show (m0 94 56).toInt ≤ (m 94 56).toInt from by omega) (show (m 94 57).toInt = (m0 94 57).toInt + (l2 + (1 : Int32)).toInt from by omega) r_RB r_QI (show qSO (m 106) (m 115) (m 99) (m 100) (m 94 57) (m 94 56) aa (nn.toInt - (l2 + (1 : Int32)).toInt).toNat (l2 + (1 : Int32)).toInt nn.toInt.toNat from by first | (exact SI_end r_SI r_RB (by omega) (by omega) r_US3 (by omega) (by omega) (by omega)) | (exfalso; omega; done) | (exfalso; contradiction; done))
    · skip
      have g16 := i_nle h10
      refine sp_192 (l3) (l4) hV (by omega) (by omega) (by omega) (show l4.toInt < (m 102 l3.toNatClampNeg).toInt from by omega) (fun v2 m1 hV_m1 p0_m1 => zmi_n ?_)
      have p0_m1 : v2 = zrf (m 98) (m 101) (m 108) l3.toNatClampNeg l4.toNatClampNeg := p0_m1
      try have := W_ref r_W (by omega) (by omega) (by omega) (by omega) p0_m1
      have b17 := i_bd v2
      have li18 : (0 : Int32).toInt = 0 := rfl
      refine zd (fun (h19 : v2 < (0 : Int32)) => ?_) (fun (h19 : ¬ v2 < (0 : Int32)) => ?_)
      · skip
        have g20 := i_lt h19
        have b21 := i_bd l1
        have b22 := i_bd l2
        first | have e23 : (l4 + (1 : Int32)).toInt = l4.toInt + (1) := i_addk rfl (by omega) (by omega) | have b24 := i_bd (l4 + (1 : Int32))
        exact IH (61 - (l4 + (1 : Int32)).toInt).toNat (by omega) _ (l1) (l2) (l3) ((l4 + (1 : Int32))) rfl (zF_zov hF ws_192_222) hV_m1 (by omega) (by omega) (by omega) (by omega) (by omega) (by omega) r_W r_G1 (show (m0 94 56).toInt ≤ (m 94 56).toInt from by omega) (show (m 94 57).toInt = (m0 94 57).toInt + l2.toInt + 1 from by omega) (show (3101 - (m 94 57).toInt).toNat < n2 from by omega) r_RB r_QI r_US3 (show qSI (m 106) (m 115) (m 99) (m 100) (m 94 57) (m 94 56) aa ((m 100) l3.toNatClampNeg).toNatClampNeg (l4 + (1 : Int32)) (nn.toInt - l2.toInt - 1).toNat (l2.toInt + 1) nn.toInt.toNat from by first | (exact SI_skip r_SI r_RB (by omega) (by omega) r_US3 (by omega) (by omega) p0_m1 (Or.inl (by omega))) | (exact SI_skip r_SI r_RB (by omega) (by omega) r_US3 (by omega) (by omega) p0_m1 (Or.inr (by assumption))) | (exfalso; omega; done) | (exfalso; contradiction; done))
      · skip
        have g25 := i_nlt h19
        have hg26 : (0 ≤ v2 ∧ v2.toNatClampNeg < 3100) := i_ix (by omega) (by omega)
        refine ⟨hg26, ?_⟩
        have b27 := i_bd (m 106 v2.toNatClampNeg)
        refine zd (fun (h28 : (m 106 v2.toNatClampNeg) = (0 : Int32)) => ?_) (fun (h28 : ¬ (m 106 v2.toNatClampNeg) = (0 : Int32)) => ?_)
        · skip
          have g29 := i_eq h28
          have hg30 : (0 ≤ v2 ∧ v2.toNatClampNeg < 3100) := i_ix (by omega) (by omega)
          refine ⟨hg30, ?_⟩
          try have gk := G1_room r_G1 (by assumption) (by omega)
          have hg31 : (0 ≤ (m 94 56) ∧ (m 94 56).toNatClampNeg < 3100) := i_ix (by omega) (by omega)
          refine ⟨hg31, ?_⟩
          have hV32 : zV (ma_u (zov wr_192 m m1) 106 v2.toNatClampNeg (1 : Int32)) := ua_106 hV_m1
          have hV33 : zV (ma_u (ma_u (zov wr_192 m m1) 106 v2.toNatClampNeg (1 : Int32)) 115 (m 94 56).toNatClampNeg v2) := ua_115 hV32 (by omega) (by omega)
          first | have e35 : ((m 94 56) + (1 : Int32)).toInt = (m 94 56).toInt + (1) := i_addk rfl (by omega) (by omega) | have b36 := i_bd ((m 94 56) + (1 : Int32))
          have hV34 : zV (ma_u (ma_u (ma_u (zov wr_192 m m1) 106 v2.toNatClampNeg (1 : Int32)) 115 (m 94 56).toNatClampNeg v2) 94 56 ((m 94 56) + (1 : Int32))) := us_94_56 hV33 (by omega) (by omega)
          have b37 := i_bd l1
          have b38 := i_bd l2
          first | have e39 : (l4 + (1 : Int32)).toInt = l4.toInt + (1) := i_addk rfl (by omega) (by omega) | have b40 := i_bd (l4 + (1 : Int32))
          exact IH (61 - (l4 + (1 : Int32)).toInt).toNat (by omega) _ (l1) (l2) (l3) ((l4 + (1 : Int32))) rfl (zF_u (zF_u (zF_u (zF_zov hF ws_192_222) rfl) rfl) rfl) hV34 (by omega) (by omega) (by omega) (by omega) (by omega) (by omega) r_W (show zG1 ((m 94 56) + (1 : Int32)) (m 94 57) ((ma_u m 106 v2.toNatClampNeg (1 : Int32)) 106) from by first | (exact G1_push r_G1 (by assumption) (by omega) (by decide) (by assumption)) | (exact G1_push r_G1 (by assumption) (by omega) (by decide) (by assumption)) | (exact G1_dark0 r_G1 (by decide)) | (exfalso; omega; done) | (exfalso; contradiction; done)) (show (m0 94 56).toInt ≤ ((m 94 56) + (1 : Int32)).toInt from by omega) (show (m 94 57).toInt = (m0 94 57).toInt + l2.toInt + 1 from by omega) (show (3101 - (m 94 57).toInt).toNat < n2 from by omega) r_RB r_QI r_US3 (show qSI ((ma_u m 106 v2.toNatClampNeg (1 : Int32)) 106) ((ma_u m 115 (m 94 56).toNatClampNeg v2) 115) (m 99) (m 100) (m 94 57) ((m 94 56) + (1 : Int32)) aa ((m 100) l3.toNatClampNeg).toNatClampNeg (l4 + (1 : Int32)) (nn.toInt - l2.toInt - 1).toNat (l2.toInt + 1) nn.toInt.toNat from by first | (exact SI_push r_SI r_RB (by omega) (by omega) r_US3 (by omega) (by omega) p0_m1 (by omega) (by assumption)) | (exfalso; omega; done) | (exfalso; contradiction; done))
        · skip
          have g41 := i_ne h28
          have b42 := i_bd l1
          have b43 := i_bd l2
          first | have e44 : (l4 + (1 : Int32)).toInt = l4.toInt + (1) := i_addk rfl (by omega) (by omega) | have b45 := i_bd (l4 + (1 : Int32))
          exact IH (61 - (l4 + (1 : Int32)).toInt).toNat (by omega) _ (l1) (l2) (l3) ((l4 + (1 : Int32))) rfl (zF_zov hF ws_192_222) hV_m1 (by omega) (by omega) (by omega) (by omega) (by omega) (by omega) r_W r_G1 (show (m0 94 56).toInt ≤ (m 94 56).toInt from by omega) (show (m 94 57).toInt = (m0 94 57).toInt + l2.toInt + 1 from by omega) (show (3101 - (m 94 57).toInt).toNat < n2 from by omega) r_RB r_QI r_US3 (show qSI (m 106) (m 115) (m 99) (m 100) (m 94 57) (m 94 56) aa ((m 100) l3.toNatClampNeg).toNatClampNeg (l4 + (1 : Int32)) (nn.toInt - l2.toInt - 1).toNat (l2.toInt + 1) nn.toInt.toNat from by first | (exact SI_skip r_SI r_RB (by omega) (by omega) r_US3 (by omega) (by omega) p0_m1 (Or.inl (by omega))) | (exact SI_skip r_SI r_RB (by omega) (by omega) r_US3 (by omega) (by omega) p0_m1 (Or.inr (by assumption))) | (exfalso; omega; done) | (exfalso; contradiction; done))
theorem lp_222r_2 {X : Nat × (Nat → Int32)} {P : Option ma_V → (Nat → Nat → Int32) → Prop} {aa : Nat→Nat→Int32} {nn : Int32} {m0 : Nat → Nat → Int32} (h0 : zV m0) (K : ∀ v m', zF wr_222 m0 m' → zV m' → (zG1 (m' 94 56) (m' 94 57) (m' 106)) → ((m0 94 56).toInt ≤ (m' 94 56).toInt) → ((m0 94 57).toInt ≤ (m' 94 57).toInt ∧ ((m' 94 56).toInt ≤ (m' 94 57).toInt ∨ (m0 94 57).toInt + nn.toInt ≤ (m' 94 57).toInt)) → (qRB (m' 99) (m' 100) (m' 98) (m' 101) (m' 102) (m' 103) (m' 107) (m' 108) (m' 109) (m' 111) (m' 112) (m' 113) (m' 114) (m' 94 55) (m' 94 46) (m' 94 11) (m' 94 12) (m' 94 62) (m' 94 17) (m' 94 9) (aSp nn.toInt.toNat aa)) → (qI (aSp nn.toInt.toNat aa)) → (qMQ (m' 106) (m' 115) (m' 94 57) (m' 94 56) (m' 99) (m' 100) (aSp nn.toInt.toNat aa)) → (qEq v.toInt (aSn nn.toInt.toNat aa : Int)) → P (some (.inl v)) m') : ∀ (n : Nat) (m : Nat → Nat → Int32) (l1 : Int32) (l2 : Int32), (3101 - (m 94 57).toInt).toNat = n → zF wr_222 m0 m → zV m → (0 ≤ l2.toInt) → (l1.toInt = nn.toInt) → (l2.toInt ≤ nn.toInt) → (zW (m 94 7) (m 98) (m 101) (m 102) (m 108)) → (zG1 (m 94 56) (m 94 57) (m 106)) → ((m0 94 56).toInt ≤ (m 94 56).toInt) → ((m 94 57).toInt = (m0 94 57).toInt + l2.toInt) → (qRB (m 99) (m 100) (m 98) (m 101) (m 102) (m 103) (m 107) (m 108) (m 109) (m 111) (m 112) (m 113) (m 114) (m 94 55) (m 94 46) (m 94 11) (m 94 12) (m 94 62) (m 94 17) (m 94 9) aa) → (qI aa) → (qSO (m 106) (m 115) (m 99) (m 100) (m 94 57) (m 94 56) aa (nn.toInt - l2.toInt).toNat l2.toInt nn.toInt.toNat) → zm X 2 44 222 2 [(0, .inr (.inr (some 94))), (1, .inl l1), (2, .inl l2)] m P := by
  intro n
  induction n using Nat.strongRecOn with
  | _ n IH =>
    intro m l1 l2 hmu hF hV hi0 hi1 hi2 r_W r_G1 hi5 hi6 r_RB r_QI r_SO
    refine g_222_2 l1 l2 ?_
    have f1 : 0 ≤ (m0 94 56).toInt ∧ (m0 94 56).toInt ≤ 3100 := rs_94_56 (m := m0) h0
    have f2 : 0 ≤ (m 94 56).toInt ∧ (m 94 56).toInt ≤ 3100 := rs_94_56 (m := m) hV
    have f3 : 0 ≤ (m 94 57).toInt ∧ (m 94 57).toInt ≤ 3100 := rs_94_57 (m := m) hV
    have f4 : 0 ≤ (m0 94 57).toInt ∧ (m0 94 57).toInt ≤ 3100 := rs_94_57 (m := m0) h0
    have b5 := i_bd l1
    have b6 := i_bd l2
    refine zd (fun (h7 : l1 ≤ l2) => ?_) (fun (h7 : ¬ l1 ≤ l2) => ?_)
    · skip
      have g8 := i_le h7
      exact K (l2) _ hF hV r_G1 (show (m0 94 56).toInt ≤ (m 94 56).toInt from by omega) (show (m0 94 57).toInt ≤ (m 94 57).toInt ∧ ((m 94 56).toInt ≤ (m 94 57).toInt ∨ (m0 94 57).toInt + nn.toInt ≤ (m 94 57).toInt) from by omega) (show qRB (m 99) (m 100) (m 98) (m 101) (m 102) (m 103) (m 107) (m 108) (m 109) (m 111) (m 112) (m 113) (m 114) (m 94 55) (m 94 46) (m 94 11) (m 94 12) (m 94 62) (m 94 17) (m 94 9) (aSp nn.toInt.toNat aa) from by first | (exact RB_of r_RB (SO_end r_SO (Or.inl (by omega))).2.1) | (exact RB_of r_RB (SO_end r_SO (Or.inr (by omega))).2.1) | (exfalso; omega; done) | (exfalso; contradiction; done)) (show qI (aSp nn.toInt.toNat aa) from by first | (exact qI_of r_QI (SO_end r_SO (Or.inl (by omega))).2.1) | (exact qI_of r_QI (SO_end r_SO (Or.inr (by omega))).2.1) | (exfalso; omega; done) | (exfalso; contradiction; done)) (show qMQ (m 106) (m 115) (m 94 57) (m 94 56) (m 99) (m 100) (aSp nn.toInt.toNat aa) from by first | (exact (SO_end r_SO (Or.inl (by omega))).1) | (exact (SO_end r_SO (Or.inr (by omega))).1) | (exfalso; omega; done) | (exfalso; contradiction; done)) (show qEq l2.toInt (aSn nn.toInt.toNat aa : Int) from by first | (exact (SO_end r_SO (Or.inl (by omega))).2.2) | (exact (SO_end r_SO (Or.inr (by omega))).2.2) | (exfalso; omega; done) | (exfalso; contradiction; done))
    · skip
      have g9 := i_nle h7
      refine zd (fun (h10 : (m 94 56) ≤ (m 94 57)) => ?_) (fun (h10 : ¬ (m 94 56) ≤ (m 94 57)) => ?_)
      · skip
        have g11 := i_le h10
        exact K (l2) _ hF hV r_G1 (show (m0 94 56).toInt ≤ (m 94 56).toInt from by omega) (show (m0 94 57).toInt ≤ (m 94 57).toInt ∧ ((m 94 56).toInt ≤ (m 94 57).toInt ∨ (m0 94 57).toInt + nn.toInt ≤ (m 94 57).toInt) from by omega) (show qRB (m 99) (m 100) (m 98) (m 101) (m 102) (m 103) (m 107) (m 108) (m 109) (m 111) (m 112) (m 113) (m 114) (m 94 55) (m 94 46) (m 94 11) (m 94 12) (m 94 62) (m 94 17) (m 94 9) (aSp nn.toInt.toNat aa) from by first | (exact RB_of r_RB (SO_end r_SO (Or.inl (by omega))).2.1) | (exact RB_of r_RB (SO_end r_SO (Or.inr (by omega))).2.1) | (exfalso; omega; done) | (exfalso; contradiction; done)) (show qI (aSp nn.toInt.toNat aa) from by first | (exact qI_of r_QI (SO_end r_SO (Or.inl (by omega))).2.1) | (exact qI_of r_QI (SO_end r_SO (Or.inr (by omega))).2.1) | (exfalso; omega; done) | (exfalso; contradiction; done)) (show qMQ (m 106) (m 115) (m 94 57) (m 94 56) (m 99) (m 100) (aSp nn.toInt.toNat aa) from by first | (exact (SO_end r_SO (Or.inl (by omega))).1) | (exact (SO_end r_SO (Or.inr (by omega))).1) | (exfalso; omega; done) | (exfalso; contradiction; done)) (show qEq l2.toInt (aSn nn.toInt.toNat aa : Int) from by first | (exact (SO_end r_SO (Or.inl (by omega))).2.2) | (exact (SO_end r_SO (Or.inr (by omega))).2.2) | (exfalso; omega; done) | (exfalso; contradiction; done))
      · skip
        have g12 := i_nle h10
        try have gk := G1_room r_G1 (by assumption) (by omega)
        have hg13 : (0 ≤ (m 94 57) ∧ (m 94 57).toNatClampNeg < 3100) := i_ix (by omega) (by omega)
        refine ⟨hg13, ?_⟩
        first | have f14 : 0 ≤ (m 115 (m 94 57).toNatClampNeg).toInt ∧ (m 115 (m 94 57).toNatClampNeg).toInt ≤ 3099 := ra_115 (m := m) hV (k := (m 94 57).toNatClampNeg) (i_ix (n := 3100) (by omega) (by omega)).2 | have b15 := i_bd (m 115 (m 94 57).toNatClampNeg)
        have hg16 : (0 ≤ (m 115 (m 94 57).toNatClampNeg) ∧ (m 115 (m 94 57).toNatClampNeg).toNatClampNeg < 3100) := i_ix (by omega) (by omega)
        refine ⟨hg16, ?_⟩
        first | have e18 : ((m 94 57) + (1 : Int32)).toInt = (m 94 57).toInt + (1) := i_addk rfl (by omega) (by omega) | have b19 := i_bd ((m 94 57) + (1 : Int32))
        have hV17 : zV (ma_u m 94 57 ((m 94 57) + (1 : Int32))) := us_94_57 hV (by omega) (by omega)
        have hV20 : zV (ma_u (ma_u m 94 57 ((m 94 57) + (1 : Int32))) 106 (m 115 (m 94 57).toNatClampNeg).toNatClampNeg (2 : Int32)) := ua_106 hV17
        have li21 : (0 : Int32).toInt = 0 := rfl
        exact lp_222r_48 (nn := nn) h0 K (fun _ _ _ z1 z2 z3 y0 y1 y2 y3 y4 y5 y6 y7 y8 y9 => IH _ z1 _ _ _ rfl z2 z3 y0 y1 y2 y3 y4 y5 y6 y7 y8 y9) _ _ (l1) (l2) ((m 115 (m 94 57).toNatClampNeg)) ((0 : Int32)) rfl (zF_u (zF_u hF rfl) rfl) hV20 (by omega) (by omega) (by omega) (by omega) (by omega) (by omega) r_W (show zG1 (m 94 56) ((m 94 57) + (1 : Int32)) ((ma_u m 106 (m 115 (m 94 57).toNatClampNeg).toNatClampNeg (2 : Int32)) 106) from by first | (exact G1_dark r_G1 (by decide) (by omega)) | (exact G1_push r_G1 (by assumption) (by omega) (by decide) (by assumption)) | (exact G1_dark0 r_G1 (by decide)) | (exfalso; omega; done) | (exfalso; contradiction; done)) (show (m0 94 56).toInt ≤ (m 94 56).toInt from by omega) (show ((m 94 57) + (1 : Int32)).toInt = (m0 94 57).toInt + l2.toInt + 1 from by omega) (show (3101 - ((m 94 57) + (1 : Int32)).toInt).toNat < n from by omega) r_RB r_QI (show (m 99) (m 115 (m 94 57).toNatClampNeg).toNatClampNeg ≠ 0 from by first | (exact SI_us r_SO (by omega) (by omega)) | (exfalso; omega; done) | (exfalso; contradiction; done)) (show qSI ((ma_u m 106 (m 115 (m 94 57).toNatClampNeg).toNatClampNeg (2 : Int32)) 106) (m 115) (m 99) (m 100) ((m 94 57) + (1 : Int32)) (m 94 56) aa ((m 100) (m 115 (m 94 57).toNatClampNeg).toNatClampNeg).toNatClampNeg (0 : Int32) (nn.toInt - l2.toInt - 1).toNat (l2.toInt + 1) nn.toInt.toNat from by first | (exact SO_go r_SO r_RB.1 (by omega) (by omega) (by omega) rfl rfl) | (exfalso; omega; done) | (exfalso; contradiction; done))
theorem sp_222r {X : Nat × (Nat → Int32)} {P : Option ma_V → (Nat → Nat → Int32) → Prop} {aa : Nat→Nat→Int32} {m : Nat → Nat → Int32} (nn : Int32) (hV : zV m) (hpre0 : 0 ≤ nn.toInt) (r_W : zW (m 94 7) (m 98) (m 101) (m 102) (m 108)) (r_G1 : zG1 (m 94 56) (m 94 57) (m 106)) (r_MQ : qMQ (m 106) (m 115) (m 94 57) (m 94 56) (m 99) (m 100) aa) (r_RB : qRB (m 99) (m 100) (m 98) (m 101) (m 102) (m 103) (m 107) (m 108) (m 109) (m 111) (m 112) (m 113) (m 114) (m 94 55) (m 94 46) (m 94 11) (m 94 12) (m 94 62) (m 94 17) (m 94 9) aa) (r_QI : qI aa) (KZ : ∀ v m', zV (zov wr_222 m m') → (zG1 (m' 94 56) (m' 94 57) (m' 106)) → ((m 94 56).toInt ≤ (m' 94 56).toInt) → ((m 94 57).toInt ≤ (m' 94 57).toInt ∧ ((m' 94 56).toInt ≤ (m' 94 57).toInt ∨ (m 94 57).toInt + nn.toInt ≤ (m' 94 57).toInt)) → (qRB (m 99) (m 100) (m 98) (m 101) (m 102) (m 103) (m 107) (m 108) (m 109) (m 111) (m 112) (m 113) (m 114) (m 94 55) (m 94 46) (m 94 11) (m 94 12) (m 94 62) (m 94 17) (m 94 9) (aSp nn.toInt.toNat aa)) → (qI (aSp nn.toInt.toNat aa)) → (qMQ (m' 106) (m' 115) (m' 94 57) (m' 94 56) (m 99) (m 100) (aSp nn.toInt.toNat aa)) → (qEq v.toInt (aSn nn.toInt.toNat aa : Int)) → P (some (.inl v)) (zov wr_222 m m')) : zm X 2 44 222 0 [(0, .inr (.inr (some 94))), (1, .inl nn)] m P := by
  have K : ∀ v m', zF wr_222 m m' → zV m' → (zG1 (m' 94 56) (m' 94 57) (m' 106)) → ((m 94 56).toInt ≤ (m' 94 56).toInt) → ((m 94 57).toInt ≤ (m' 94 57).toInt ∧ ((m' 94 56).toInt ≤ (m' 94 57).toInt ∨ (m 94 57).toInt + nn.toInt ≤ (m' 94 57).toInt)) → (qRB (m' 99) (m' 100) (m' 98) (m' 101) (m' 102) (m' 103) (m' 107) (m' 108) (m' 109) (m' 111) (m' 112) (m' 113) (m' 114) (m' 94 55) (m' 94 46) (m' 94 11) (m' 94 12) (m' 94 62) (m' 94 17) (m' 94 9) (aSp nn.toInt.toNat aa)) → (qI (aSp nn.toInt.toNat aa)) → (qMQ (m' 106) (m' 115) (m' 94 57) (m' 94 56) (m' 99) (m' 100) (aSp nn.toInt.toNat aa)) → (qEq v.toInt (aSn nn.toInt.toNat aa : Int)) → P (some (.inl v)) m' := by
    intro v m' hf z q0 q1 q2 q3 q4 q5 q6
    have e := zov_eq hf
    rw [e] at z ⊢
    try rw [e] at q0
    try rw [e] at q1
    try rw [e] at q2
    try rw [e] at q3
    try rw [e] at q4
    try rw [e] at q5
    try rw [e] at q6
    exact KZ v m' z q0 q1 q2 q3 q4 q5 q6
  refine g_222_0 nn ?_
  have b1 := i_bd nn
  have li2 : (0 : Int32).toInt = 0 := rfl
  have f3 : 0 ≤ (m 94 56).toInt ∧ (m 94 56).toInt ≤ 3100 := rs_94_56 (m := m) hV
  have f4 : 0 ≤ (m 94 57).toInt ∧ (m 94 57).toInt ≤ 3100 := rs_94_57 (m := m) hV
  exact lp_222r_2 (nn := nn) hV K _ _ (nn) ((0 : Int32)) rfl zF_rfl hV (by omega) (by omega) (by omega) r_W r_G1 (show (m 94 56).toInt ≤ (m 94 56).toInt from by omega) (show (m 94 57).toInt = (m 94 57).toInt + (0 : Int32).toInt from by omega) r_RB r_QI (show qSO (m 106) (m 115) (m 99) (m 100) (m 94 57) (m 94 56) aa (nn.toInt - (0 : Int32).toInt).toNat (0 : Int32).toInt nn.toInt.toNat from by first | (exact SO_0 r_MQ (by omega) rfl) | (exfalso; omega; done) | (exfalso; contradiction; done))
