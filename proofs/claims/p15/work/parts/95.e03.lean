/-! the reference: texts (written by wip/tools/gen94n.py) -/
theorem sp_178n {X : Nat × (Nat → Int32)} {P : Option ma_V → (Nat → Nat → Int32) → Prop} {m : Nat → Nat → Int32}  (hV : zV m) (hpre0 : (m 94 67).toInt ≤ (m 94 4).toInt) (KZ : ∀ v m', zV (zov wr_178 m m') → (v = 0 ∨ v = 1) → ((m' 94 67).toInt ≤ (m 94 4).toInt) → ((m' 94 68).toInt + (m' 94 69).toInt = (m' 94 67).toInt) → ((m' 94 68).toInt = tk true (m 96) (m 94 4).toInt (m 94 67).toInt) → ((m' 94 67).toInt = tk false (m 96) (m 94 4).toInt (m' 94 68).toInt) → (zNU v (m' 94 21).toInt (zNum (m 96) (m' 94 68).toInt (m' 94 67).toInt 16 1500) (m' 94 70).toInt (m' 94 68).toInt) → (v.toInt = 1 → 16 ≤ (m' 94 21).toInt) → P (some (.inl v)) (zov wr_178 m m')) : zm X 2 47 178 0 [(0, .inr (.inr (some 94)))] m P := by
  have K : ∀ v m', zF wr_178 m m' → zV m' → (v = 0 ∨ v = 1) → ((m' 94 67).toInt ≤ (m' 94 4).toInt) → ((m' 94 68).toInt + (m' 94 69).toInt = (m' 94 67).toInt) → ((m' 94 68).toInt = tk true (m' 96) (m' 94 4).toInt (m 94 67).toInt) → ((m' 94 67).toInt = tk false (m' 96) (m' 94 4).toInt (m' 94 68).toInt) → (zNU v (m' 94 21).toInt (zNum (m' 96) (m' 94 68).toInt (m' 94 67).toInt 16 1500) (m' 94 70).toInt (m' 94 68).toInt) → (v.toInt = 1 → 16 ≤ (m' 94 21).toInt) → P (some (.inl v)) m' := by
    intro v m' hf z q0 q1 q2 q3 q4 q5 q6
    have e := zov_eq hf
    rw [e] at z ⊢
    try rw [e] at q0
    try rw [e] at q1
    try rw [e] at q2
    try rw [e] at q3
    try rw [e] at q4
    try rw [e] at q5
    try rw [e] at q6
    exact KZ v m' z q0 q1 q2 q3 q4 q5 q6
  refine g_178_0  ?_
  have f1 : 0 ≤ (m 94 67).toInt ∧ (m 94 67).toInt ≤ 100 := rs_94_67 (m := m) hV
  have f2 : 0 ≤ (m 94 4).toInt ∧ (m 94 4).toInt ≤ 100 := rs_94_4 (m := m) hV
  have li3 : (16 : Int32).toInt = 16 := rfl
  have li4 : (1500 : Int32).toInt = 1500 := rfl
  refine sp_177n ((16 : Int32)) ((1500 : Int32)) hV (show (m 94 67).toInt ≤ (m 94 4).toInt from by omega) (fun v2 m1 hV_m1 hb_m1 p0_m1 p1_m1 p2_m1 p3_m1 p4_m1 p5_m1 p6_m1 => zmi_n ?_)
  have p0_m1 : (m1 94 67).toInt ≤ (m 94 4).toInt := p0_m1
  have p1_m1 : (m1 94 68).toInt + (m1 94 69).toInt ≤ 100 := p1_m1
  have p2_m1 : v2.toInt = 1 → (16 : Int32).toInt ≤ (m1 94 71).toInt ∧ (m1 94 71).toInt ≤ (1500 : Int32).toInt := p2_m1
  have p3_m1 : (m1 94 68).toInt + (m1 94 69).toInt = (m1 94 67).toInt := p3_m1
  have p4_m1 : (m1 94 68).toInt = tk true (m 96) (m 94 4).toInt (m 94 67).toInt := p4_m1
  have p5_m1 : (m1 94 67).toInt = tk false (m 96) (m 94 4).toInt (m1 94 68).toInt := p5_m1
  have p6_m1 : zNU v2 (m1 94 71).toInt (zNum (m 96) (m1 94 68).toInt (m1 94 67).toInt (16 : Int32).toInt (1500 : Int32).toInt) (m1 94 70).toInt (m1 94 68).toInt := p6_m1
  have f5 : 0 ≤ (m1 94 67).toInt ∧ (m1 94 67).toInt ≤ 100 := rs_94_67 (m := (zov wr_177 m m1)) hV_m1
  have f6 : 0 ≤ (m1 94 68).toInt ∧ (m1 94 68).toInt ≤ 100 := rs_94_68 (m := (zov wr_177 m m1)) hV_m1
  have f7 : 0 ≤ (m1 94 69).toInt ∧ (m1 94 69).toInt ≤ 100 := rs_94_69 (m := (zov wr_177 m m1)) hV_m1
  have b8 := i_bd (m1 94 71)
  have f9 := i_01 hb_m1
  have li10 : (0 : Int32).toInt = 0 := rfl
  refine zd (fun (h11 : v2 = (0 : Int32)) => ?_) (fun (h11 : ¬ v2 = (0 : Int32)) => ?_)
  · skip
    have g12 := i_eq h11
    have f13 : 0 ≤ (m 94 21).toInt ∧ (m 94 21).toInt ≤ 1500 := rs_94_21 (m := m) hV
    exact K ((0 : Int32)) _ (zF_zov zF_rfl ws_177_178) hV_m1 (by decide) (show (m1 94 67).toInt ≤ (m 94 4).toInt from by omega) (show (m1 94 68).toInt + (m1 94 69).toInt = (m1 94 67).toInt from by omega) p4_m1 p5_m1 (show zNU (0 : Int32) (m 94 21).toInt (zNum (m 96) (m1 94 68).toInt (m1 94 67).toInt 16 1500) (m1 94 70).toInt (m1 94 68).toInt from by first | (exact Or.inl ⟨by omega, NU_ok p6_m1 (by omega)⟩) | (exact Or.inr ⟨by omega, NU_no p6_m1 (by omega), NU_br p6_m1 (by omega)⟩) | (exfalso; omega; done) | (exfalso; contradiction; done)) (show (0 : Int32).toInt = 1 → 16 ≤ (m 94 21).toInt from by omega)
  · skip
    have g14 := i_ne h11
    have hV15 : zV (ma_u (zov wr_177 m m1) 94 21 (m1 94 71)) := us_94_21 hV_m1 (by omega) (by omega)
    have li16 : (1 : Int32).toInt = 1 := rfl
    exact K ((1 : Int32)) _ (zF_u (zF_zov zF_rfl ws_177_178) rfl) hV15 (by decide) (show (m1 94 67).toInt ≤ (m 94 4).toInt from by omega) (show (m1 94 68).toInt + (m1 94 69).toInt = (m1 94 67).toInt from by omega) p4_m1 p5_m1 (show zNU (1 : Int32) (m1 94 71).toInt (zNum (m 96) (m1 94 68).toInt (m1 94 67).toInt 16 1500) (m1 94 70).toInt (m1 94 68).toInt from by first | (exact Or.inl ⟨by omega, NU_ok p6_m1 (by omega)⟩) | (exact Or.inr ⟨by omega, NU_no p6_m1 (by omega), NU_br p6_m1 (by omega)⟩) | (exfalso; omega; done) | (exfalso; contradiction; done)) (show (1 : Int32).toInt = 1 → 16 ≤ (m1 94 71).toInt from by omega)
