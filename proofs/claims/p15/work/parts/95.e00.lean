/-! the reference: texts (written by wip/tools/gen94n.py) -/
theorem lp_173n_46 {X : Nat × (Nat → Int32)} {P : Option ma_V → (Nat → Nat → Int32) → Prop} {m0 : Nat → Nat → Int32} (h0 : zV m0) (K : ∀ v m', zF wr_173 m0 m' → zV m' → (v = 0 ∨ v = 1) → ((m' 94 67).toInt ≤ (m' 94 4).toInt) → ((m' 94 68).toInt + (m' 94 69).toInt = (m' 94 67).toInt) → ((v.toInt = 1 ∧ 1 ≤ (m' 94 69).toInt) ∨ (v.toInt = 0 ∧ (m' 94 69).toInt = 0)) → ((m' 94 68).toInt = tk true (m' 96) (m' 94 4).toInt (m0 94 67).toInt) → ((m' 94 67).toInt = tk false (m' 96) (m' 94 4).toInt (m' 94 68).toInt) → P (some (.inl v)) m') : ∀ (n : Nat) (m : Nat → Nat → Int32) , ((m 94 4).toInt - (m 94 67).toInt).toNat = n → zF wr_173 m0 m → zV m → ((m 94 67).toInt ≤ (m 94 4).toInt) → ((m 94 68).toInt ≤ (m 94 67).toInt) → ((m 94 68).toInt = tk true (m 96) (m 94 4).toInt (m0 94 67).toInt) → (tk false (m 96) (m 94 4).toInt (m 94 67).toInt = tk false (m 96) (m 94 4).toInt (m 94 68).toInt) → zm X 0 0 173 46 [(0, .inr (.inr (some 94)))] m P := by
  intro n
  induction n using Nat.strongRecOn with
  | _ n IH =>
    intro m  hmu hF hV hi0 hi1 r_TS r_TB
    refine g_173_46  ?_
    have f1 : 0 ≤ (m 94 67).toInt ∧ (m 94 67).toInt ≤ 100 := rs_94_67 (m := m) hV
    have f2 : 0 ≤ (m 94 4).toInt ∧ (m 94 4).toInt ≤ 100 := rs_94_4 (m := m) hV
    have f3 : 0 ≤ (m 94 68).toInt ∧ (m 94 68).toInt ≤ 100 := rs_94_68 (m := m) hV
    refine zd (fun (h4 : (m 94 4) ≤ (m 94 67)) => ?_) (fun (h4 : ¬ (m 94 4) ≤ (m 94 67)) => ?_)
    · skip
      have g5 := i_le h4
      first | have e6 : ((m 94 67) - (m 94 68)).toInt = (m 94 67).toInt - (m 94 68).toInt := i_sub (by omega) (by omega) | have b7 := i_bd ((m 94 67) - (m 94 68))
      have li8 : (0 : Int32).toInt = 0 := rfl
      refine zd (fun (h9 : ((m 94 67) - (m 94 68)) ≤ (0 : Int32)) => ?_) (fun (h9 : ¬ ((m 94 67) - (m 94 68)) ≤ (0 : Int32)) => ?_)
      · skip
        have g10 := i_le h9
        have hV11 : zV (ma_u m 94 69 ((m 94 67) - (m 94 68))) := us_94_69 hV (by omega) (by omega)
        exact K ((0 : Int32)) _ (zF_u hF rfl) hV11 (by decide) (show (m 94 67).toInt ≤ (m 94 4).toInt from by omega) (show (m 94 68).toInt + ((m 94 67) - (m 94 68)).toInt = (m 94 67).toInt from by omega) (show ((0 : Int32).toInt = 1 ∧ 1 ≤ ((m 94 67) - (m 94 68)).toInt) ∨ ((0 : Int32).toInt = 0 ∧ ((m 94 67) - (m 94 68)).toInt = 0) from by omega) (show (m 94 68).toInt = tk true (m 96) (m 94 4).toInt (m0 94 67).toInt from by first | (exact r_TS) | (exfalso; omega; done) | (exfalso; contradiction; done)) (show (m 94 67).toInt = tk false (m 96) (m 94 4).toInt (m 94 68).toInt from by first | (exact ((tk_e (by omega)).symm.trans r_TB)) | (exact ((tk_w0 (x := (m 96 (m 94 67).toNatClampNeg)) rfl (by assumption)).symm.trans r_TB)) | (exfalso; omega; done) | (exfalso; contradiction; done))
      · skip
        have g12 := i_nle h9
        have hV13 : zV (ma_u m 94 69 ((m 94 67) - (m 94 68))) := us_94_69 hV (by omega) (by omega)
        have li14 : (1 : Int32).toInt = 1 := rfl
        exact K ((1 : Int32)) _ (zF_u hF rfl) hV13 (by decide) (show (m 94 67).toInt ≤ (m 94 4).toInt from by omega) (show (m 94 68).toInt + ((m 94 67) - (m 94 68)).toInt = (m 94 67).toInt from by omega) (show ((1 : Int32).toInt = 1 ∧ 1 ≤ ((m 94 67) - (m 94 68)).toInt) ∨ ((1 : Int32).toInt = 0 ∧ ((m 94 67) - (m 94 68)).toInt = 0) from by omega) (show (m 94 68).toInt = tk true (m 96) (m 94 4).toInt (m0 94 67).toInt from by first | (exact r_TS) | (exfalso; omega; done) | (exfalso; contradiction; done)) (show (m 94 67).toInt = tk false (m 96) (m 94 4).toInt (m 94 68).toInt from by first | (exact ((tk_e (by omega)).symm.trans r_TB)) | (exact ((tk_w0 (x := (m 96 (m 94 67).toNatClampNeg)) rfl (by assumption)).symm.trans r_TB)) | (exfalso; omega; done) | (exfalso; contradiction; done))
    · skip
      have g15 := i_nle h4
      have hg16 : (0 ≤ (m 94 67) ∧ (m 94 67).toNatClampNeg < 100) := i_ix (by omega) (by omega)
      refine ⟨hg16, ?_⟩
      have b17 := i_bd (m 96 (m 94 67).toNatClampNeg)
      have li18 : (32 : Int32).toInt = 32 := rfl
      refine zd (fun (h19 : (m 96 (m 94 67).toNatClampNeg) = (32 : Int32)) => ?_) (fun (h19 : ¬ (m 96 (m 94 67).toNatClampNeg) = (32 : Int32)) => ?_)
      · skip
        have g20 := i_eq h19
        first | have e21 : ((m 94 67) - (m 94 68)).toInt = (m 94 67).toInt - (m 94 68).toInt := i_sub (by omega) (by omega) | have b22 := i_bd ((m 94 67) - (m 94 68))
        have li23 : (0 : Int32).toInt = 0 := rfl
        refine zd (fun (h24 : ((m 94 67) - (m 94 68)) ≤ (0 : Int32)) => ?_) (fun (h24 : ¬ ((m 94 67) - (m 94 68)) ≤ (0 : Int32)) => ?_)
        · skip
          have g25 := i_le h24
          have hV26 : zV (ma_u m 94 69 ((m 94 67) - (m 94 68))) := us_94_69 hV (by omega) (by omega)
          exact K ((0 : Int32)) _ (zF_u hF rfl) hV26 (by decide) (show (m 94 67).toInt ≤ (m 94 4).toInt from by omega) (show (m 94 68).toInt + ((m 94 67) - (m 94 68)).toInt = (m 94 67).toInt from by omega) (show ((0 : Int32).toInt = 1 ∧ 1 ≤ ((m 94 67) - (m 94 68)).toInt) ∨ ((0 : Int32).toInt = 0 ∧ ((m 94 67) - (m 94 68)).toInt = 0) from by omega) (show (m 94 68).toInt = tk true (m 96) (m 94 4).toInt (m0 94 67).toInt from by first | (exact r_TS) | (exfalso; omega; done) | (exfalso; contradiction; done)) (show (m 94 67).toInt = tk false (m 96) (m 94 4).toInt (m 94 68).toInt from by first | (exact ((tk_e (by omega)).symm.trans r_TB)) | (exact ((tk_w0 (x := (m 96 (m 94 67).toNatClampNeg)) rfl (by assumption)).symm.trans r_TB)) | (exfalso; omega; done) | (exfalso; contradiction; done))
        · skip
          have g27 := i_nle h24
          have hV28 : zV (ma_u m 94 69 ((m 94 67) - (m 94 68))) := us_94_69 hV (by omega) (by omega)
          have li29 : (1 : Int32).toInt = 1 := rfl
          exact K ((1 : Int32)) _ (zF_u hF rfl) hV28 (by decide) (show (m 94 67).toInt ≤ (m 94 4).toInt from by omega) (show (m 94 68).toInt + ((m 94 67) - (m 94 68)).toInt = (m 94 67).toInt from by omega) (show ((1 : Int32).toInt = 1 ∧ 1 ≤ ((m 94 67) - (m 94 68)).toInt) ∨ ((1 : Int32).toInt = 0 ∧ ((m 94 67) - (m 94 68)).toInt = 0) from by omega) (show (m 94 68).toInt = tk true (m 96) (m 94 4).toInt (m0 94 67).toInt from by first | (exact r_TS) | (exfalso; omega; done) | (exfalso; contradiction; done)) (show (m 94 67).toInt = tk false (m 96) (m 94 4).toInt (m 94 68).toInt from by first | (exact ((tk_e (by omega)).symm.trans r_TB)) | (exact ((tk_w0 (x := (m 96 (m 94 67).toNatClampNeg)) rfl (by assumption)).symm.trans r_TB)) | (exfalso; omega; done) | (exfalso; contradiction; done))
      · skip
        have g30 := i_ne h19
        first | have e32 : ((m 94 67) + (1 : Int32)).toInt = (m 94 67).toInt + (1) := i_addk rfl (by omega) (by omega) | have b33 := i_bd ((m 94 67) + (1 : Int32))
        have hV31 : zV (ma_u m 94 67 ((m 94 67) + (1 : Int32))) := us_94_67 hV (by omega) (by omega)
        exact IH ((m 94 4).toInt - ((m 94 67) + (1 : Int32)).toInt).toNat (by omega) _  rfl (zF_u hF rfl) hV31 (show ((m 94 67) + (1 : Int32)).toInt ≤ (m 94 4).toInt from by omega) (show (m 94 68).toInt ≤ ((m 94 67) + (1 : Int32)).toInt from by omega) r_TS (show tk false (m 96) (m 94 4).toInt ((m 94 67) + (1 : Int32)).toInt = tk false (m 96) (m 94 4).toInt (m 94 68).toInt from by first | (exact rfl) | (exact (tk_w1 (p := (m 94 67).toInt) (x := (m 96 (m 94 67).toNatClampNeg)) (by omega) rfl (by assumption) (by omega)).symm.trans r_TB) | (exfalso; omega; done) | (exfalso; contradiction; done))
theorem lp_173n_0 {X : Nat × (Nat → Int32)} {P : Option ma_V → (Nat → Nat → Int32) → Prop} {m0 : Nat → Nat → Int32} (h0 : zV m0) (K : ∀ v m', zF wr_173 m0 m' → zV m' → (v = 0 ∨ v = 1) → ((m' 94 67).toInt ≤ (m' 94 4).toInt) → ((m' 94 68).toInt + (m' 94 69).toInt = (m' 94 67).toInt) → ((v.toInt = 1 ∧ 1 ≤ (m' 94 69).toInt) ∨ (v.toInt = 0 ∧ (m' 94 69).toInt = 0)) → ((m' 94 68).toInt = tk true (m' 96) (m' 94 4).toInt (m0 94 67).toInt) → ((m' 94 67).toInt = tk false (m' 96) (m' 94 4).toInt (m' 94 68).toInt) → P (some (.inl v)) m') : ∀ (n : Nat) (m : Nat → Nat → Int32) , ((m 94 4).toInt - (m 94 67).toInt).toNat = n → zF wr_173 m0 m → zV m → ((m 94 67).toInt ≤ (m 94 4).toInt) → (tk true (m 96) (m 94 4).toInt (m 94 67).toInt = tk true (m 96) (m 94 4).toInt (m0 94 67).toInt) → zm X 0 0 173 0 [(0, .inr (.inr (some 94)))] m P := by
  intro n
  induction n using Nat.strongRecOn with
  | _ n IH =>
    intro m  hmu hF hV hi0 r_TA
    refine g_173_0  ?_
    have f1 : 0 ≤ (m 94 67).toInt ∧ (m 94 67).toInt ≤ 100 := rs_94_67 (m := m) hV
    have f2 : 0 ≤ (m 94 4).toInt ∧ (m 94 4).toInt ≤ 100 := rs_94_4 (m := m) hV
    refine zd (fun (h3 : (m 94 4) ≤ (m 94 67)) => ?_) (fun (h3 : ¬ (m 94 4) ≤ (m 94 67)) => ?_)
    · skip
      have g4 := i_le h3
      have hV5 : zV (ma_u m 94 68 (m 94 67)) := us_94_68 hV (by omega) (by omega)
      exact lp_173n_46 h0 K _ _  rfl (zF_u hF rfl) hV5 (show (m 94 67).toInt ≤ (m 94 4).toInt from by omega) (show (m 94 67).toInt ≤ (m 94 67).toInt from by omega) (show (m 94 67).toInt = tk true (m 96) (m 94 4).toInt (m0 94 67).toInt from by first | (exact ((tk_e (by omega)).symm.trans r_TA)) | (exact ((tk_b0 (x := (m 96 (m 94 67).toNatClampNeg)) rfl (by assumption)).symm.trans r_TA)) | (exfalso; omega; done) | (exfalso; contradiction; done)) (show tk false (m 96) (m 94 4).toInt (m 94 67).toInt = tk false (m 96) (m 94 4).toInt (m 94 67).toInt from by first | (exact rfl) | (exfalso; omega; done) | (exfalso; contradiction; done))
    · skip
      have g6 := i_nle h3
      have hg7 : (0 ≤ (m 94 67) ∧ (m 94 67).toNatClampNeg < 100) := i_ix (by omega) (by omega)
      refine ⟨hg7, ?_⟩
      have b8 := i_bd (m 96 (m 94 67).toNatClampNeg)
      have li9 : (32 : Int32).toInt = 32 := rfl
      refine zd (fun (h10 : (m 96 (m 94 67).toNatClampNeg) = (32 : Int32)) => ?_) (fun (h10 : ¬ (m 96 (m 94 67).toNatClampNeg) = (32 : Int32)) => ?_)
      · skip
        have g11 := i_eq h10
        first | have e13 : ((m 94 67) + (1 : Int32)).toInt = (m 94 67).toInt + (1) := i_addk rfl (by omega) (by omega) | have b14 := i_bd ((m 94 67) + (1 : Int32))
        have hV12 : zV (ma_u m 94 67 ((m 94 67) + (1 : Int32))) := us_94_67 hV (by omega) (by omega)
        exact IH ((m 94 4).toInt - ((m 94 67) + (1 : Int32)).toInt).toNat (by omega) _  rfl (zF_u hF rfl) hV12 (show ((m 94 67) + (1 : Int32)).toInt ≤ (m 94 4).toInt from by omega) (show tk true (m 96) (m 94 4).toInt ((m 94 67) + (1 : Int32)).toInt = tk true (m 96) (m 94 4).toInt (m0 94 67).toInt from by first | (exact rfl) | (exact (tk_b1 (p := (m 94 67).toInt) (x := (m 96 (m 94 67).toNatClampNeg)) (by omega) rfl (by assumption) (by omega)).symm.trans r_TA) | (exfalso; omega; done) | (exfalso; contradiction; done))
      · skip
        have g15 := i_ne h10
        have hV16 : zV (ma_u m 94 68 (m 94 67)) := us_94_68 hV (by omega) (by omega)
        exact lp_173n_46 h0 K _ _  rfl (zF_u hF rfl) hV16 (show (m 94 67).toInt ≤ (m 94 4).toInt from by omega) (show (m 94 67).toInt ≤ (m 94 67).toInt from by omega) (show (m 94 67).toInt = tk true (m 96) (m 94 4).toInt (m0 94 67).toInt from by first | (exact ((tk_e (by omega)).symm.trans r_TA)) | (exact ((tk_b0 (x := (m 96 (m 94 67).toNatClampNeg)) rfl (by assumption)).symm.trans r_TA)) | (exfalso; omega; done) | (exfalso; contradiction; done)) (show tk false (m 96) (m 94 4).toInt (m 94 67).toInt = tk false (m 96) (m 94 4).toInt (m 94 67).toInt from by first | (exact rfl) | (exfalso; omega; done) | (exfalso; contradiction; done))
theorem sp_173n {X : Nat × (Nat → Int32)} {P : Option ma_V → (Nat → Nat → Int32) → Prop} {m : Nat → Nat → Int32}  (hV : zV m) (hpre0 : (m 94 67).toInt ≤ (m 94 4).toInt) (KZ : ∀ v m', zV (zov wr_173 m m') → (v = 0 ∨ v = 1) → ((m' 94 67).toInt ≤ (m 94 4).toInt) → ((m' 94 68).toInt + (m' 94 69).toInt = (m' 94 67).toInt) → ((v.toInt = 1 ∧ 1 ≤ (m' 94 69).toInt) ∨ (v.toInt = 0 ∧ (m' 94 69).toInt = 0)) → ((m' 94 68).toInt = tk true (m 96) (m 94 4).toInt (m 94 67).toInt) → ((m' 94 67).toInt = tk false (m 96) (m 94 4).toInt (m' 94 68).toInt) → P (some (.inl v)) (zov wr_173 m m')) : zm X 0 0 173 0 [(0, .inr (.inr (some 94)))] m P := by
  have K : ∀ v m', zF wr_173 m m' → zV m' → (v = 0 ∨ v = 1) → ((m' 94 67).toInt ≤ (m' 94 4).toInt) → ((m' 94 68).toInt + (m' 94 69).toInt = (m' 94 67).toInt) → ((v.toInt = 1 ∧ 1 ≤ (m' 94 69).toInt) ∨ (v.toInt = 0 ∧ (m' 94 69).toInt = 0)) → ((m' 94 68).toInt = tk true (m' 96) (m' 94 4).toInt (m 94 67).toInt) → ((m' 94 67).toInt = tk false (m' 96) (m' 94 4).toInt (m' 94 68).toInt) → P (some (.inl v)) m' := by
    intro v m' hf z q0 q1 q2 q3 q4 q5
    have e := zov_eq hf
    rw [e] at z ⊢
    try rw [e] at q0
    try rw [e] at q1
    try rw [e] at q2
    try rw [e] at q3
    try rw [e] at q4
    try rw [e] at q5
    exact KZ v m' z q0 q1 q2 q3 q4 q5
  have f1 : 0 ≤ (m 94 67).toInt ∧ (m 94 67).toInt ≤ 100 := rs_94_67 (m := m) hV
  have f2 : 0 ≤ (m 94 4).toInt ∧ (m 94 4).toInt ≤ 100 := rs_94_4 (m := m) hV
  exact lp_173n_0 hV K _ _  rfl zF_rfl hV (show (m 94 67).toInt ≤ (m 94 4).toInt from by omega) (show tk true (m 96) (m 94 4).toInt (m 94 67).toInt = tk true (m 96) (m 94 4).toInt (m 94 67).toInt from by first | (exact rfl) | (exfalso; omega; done) | (exfalso; contradiction; done))
