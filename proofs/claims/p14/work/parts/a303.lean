/-! from 95.y01 -/
/-! the reference opens a heap (written by wip/tools/gen15w.py) -/
set_option maxHeartbeats 8000000 in
theorem lp_172qm_516 {X : Nat × (Nat → Int32)} {P : Option ma_V → (Nat → Nat → Int32) → Prop} {m0 : Nat → Nat → Int32} (h0 : zV m0) (K : ∀ v m₉, zF wr_172 m0 m₉ → zV m₉ → (v = 0 ∨ v = 1) → (0 ≤ (m₉ 94 27).toInt) → (v.toInt = 0 ∨ (0 ≤ (m₉ 94 20).toInt ∧ ((m₉ 94 20).toInt ≠ 3 ∨ (4 ≤ (m₉ 94 26).toInt ∧ 16 ≤ (m₉ 94 23).toInt ∧ 16 ≤ (m₉ 94 24).toInt)) ∧ ((m₉ 94 20).toInt = 3 ∨ 16 ≤ (m₉ 94 21).toInt) ∧ ((m₉ 94 20).toInt ≠ 6 ∨ (16 ≤ (m₉ 94 28).toInt ∧ 4 * (m₉ 94 28).toInt ≤ (m₉ 94 21).toInt)))) → (zRPr v (m₉ 94 70).toInt (zAns (m₉ 96) (m₉ 94 4).toInt) (zJ5 (zAns (m₉ 96) (m₉ 94 4).toInt) (m₉ 94 20).toInt (m₉ 94 23).toInt (m₉ 94 24).toInt (m₉ 94 21).toInt (m₉ 94 28).toInt)) → (v.toInt ≠ 0 → ((m₉ 94 20).toInt = qPo (m₉ 96) (m₉ 94 4).toInt ∧ ((m₉ 94 20).toInt = 5 → qV (m₉ 96) (m₉ 94 4).toInt (m₉ 94 21).toInt (m₉ 94 22).toInt (m₉ 94 27).toInt (m₉ 94 30)) ∧ (((m₉ 94 20).toInt = 0 ∨ (m₉ 94 20).toInt = 4) → (m₉ 94 21).toInt = zVal (m₉ 96) (m₉ 94 4).toInt 0 1 ∧ (m₉ 94 22).toInt = zVal (m₉ 96) (m₉ 94 4).toInt 6 2)) ∧ (qT1 (m₉ 94 20).toInt (m₉ 94 21).toInt (m₉ 96) (m₉ 94 4).toInt ∧ qT3 (m₉ 94 20).toInt (m₉ 94 23).toInt (m₉ 94 24).toInt (m₉ 94 25).toInt (m₉ 94 26).toInt (m₉ 96) (m₉ 94 4).toInt ∧ qT6 (m₉ 94 20).toInt (m₉ 94 21).toInt (m₉ 94 28).toInt (m₉ 94 29).toInt (m₉ 96) (m₉ 94 4).toInt)) → P (some (.inl v)) m₉) : ∀ (n : Nat) (m : Nat → Nat → Int32) , ((0 : Int)).toNat = n → zF wr_172 m0 m → zV m → (0 ≤ (m 94 27).toInt) → ((m 94 67).toInt ≤ (m 94 4).toInt) → (0 ≤ (m 94 20).toInt ∧ ((m 94 20).toInt ≠ 3 ∨ (4 ≤ (m 94 26).toInt ∧ 16 ≤ (m 94 23).toInt ∧ 16 ≤ (m 94 24).toInt)) ∧ ((m 94 20).toInt = 3 ∨ 16 ≤ (m 94 21).toInt)) → (((m 94 20).toInt ≠ 6 ∨ (16 ≤ (m 94 28).toInt ∧ 4 * (m 94 28).toInt ≤ (m 94 21).toInt))) → (zJ4 (m 96) (m 94 4).toInt (m 94 20).toInt (m 94 67).toInt (m 94 23).toInt (m 94 24).toInt (m 94 21).toInt (m 94 28).toInt) → ((m 94 20).toInt = qPo (m 96) (m 94 4).toInt) → ((m 94 20).toInt = 5 → qV (m 96) (m 94 4).toInt (m 94 21).toInt (m 94 22).toInt (m 94 27).toInt (m 94 30)) → (((m 94 20).toInt = 0 ∨ (m 94 20).toInt = 4) → (m 94 21).toInt = zVal (m 96) (m 94 4).toInt 0 1 ∧ (m 94 22).toInt = zVal (m 96) (m 94 4).toInt 6 2) → (qT1 (m 94 20).toInt (m 94 21).toInt (m 96) (m 94 4).toInt) → (qT3 (m 94 20).toInt (m 94 23).toInt (m 94 24).toInt (m 94 25).toInt (m 94 26).toInt (m 96) (m 94 4).toInt) → (qT6 (m 94 20).toInt (m 94 21).toInt (m 94 28).toInt (m 94 29).toInt (m 96) (m 94 4).toInt) → zm X 3 70 172 516 [(0, .inr (.inr (some 94)))] m P := by
  intro n
  induction n using Nat.strongRecOn with
  | _ n IH =>
    intro m  hmu hF hV hi0 hi1 hi2 hi3 r_J4 r_KP r_Q3 r_Q2k r_M1 r_M3 r_M6
    refine g_172_516  ?_
    have b1 := i_bd (m 94 27)
    have f2 : 0 ≤ (m 94 67).toInt ∧ (m 94 67).toInt ≤ 100 := rs_94_67 (m := m) hV
    have f3 : 0 ≤ (m 94 4).toInt ∧ (m 94 4).toInt ≤ 100 := rs_94_4 (m := m) hV
    have f4 : -1 ≤ (m 94 20).toInt ∧ (m 94 20).toInt ≤ 6 := rs_94_20 (m := m) hV
    have f5 : 0 ≤ (m 94 26).toInt ∧ (m 94 26).toInt ≤ 64 := rs_94_26 (m := m) hV
    have f6 : 0 ≤ (m 94 23).toInt ∧ (m 94 23).toInt ≤ 1500 := rs_94_23 (m := m) hV
    have f7 : 0 ≤ (m 94 24).toInt ∧ (m 94 24).toInt ≤ 1500 := rs_94_24 (m := m) hV
    have f8 : 0 ≤ (m 94 21).toInt ∧ (m 94 21).toInt ≤ 1500 := rs_94_21 (m := m) hV
    have f9 : 0 ≤ (m 94 28).toInt ∧ (m 94 28).toInt ≤ 256 := rs_94_28 (m := m) hV
    refine sp_173n  hV (show (m 94 67).toInt ≤ (m 94 4).toInt from by omega) (fun v2 m1 hV_m1 hb_m1 p0_m1 p1_m1 p2_m1 p3_m1 p4_m1 => zmi_n ?_)
    have p0_m1 : (m1 94 67).toInt ≤ (m 94 4).toInt := p0_m1
    have p1_m1 : (m1 94 68).toInt + (m1 94 69).toInt = (m1 94 67).toInt := p1_m1
    have p2_m1 : (v2.toInt = 1 ∧ 1 ≤ (m1 94 69).toInt) ∨ (v2.toInt = 0 ∧ (m1 94 69).toInt = 0) := p2_m1
    have p3_m1 : (m1 94 68).toInt = tk true (m 96) (m 94 4).toInt (m 94 67).toInt := p3_m1
    have p4_m1 : (m1 94 67).toInt = tk false (m 96) (m 94 4).toInt (m1 94 68).toInt := p4_m1
    have f10 : 0 ≤ (m1 94 67).toInt ∧ (m1 94 67).toInt ≤ 100 := rs_94_67 (m := (zov wr_173 m m1)) hV_m1
    have f11 : 0 ≤ (m1 94 68).toInt ∧ (m1 94 68).toInt ≤ 100 := rs_94_68 (m := (zov wr_173 m m1)) hV_m1
    have f12 : 0 ≤ (m1 94 69).toInt ∧ (m1 94 69).toInt ≤ 100 := rs_94_69 (m := (zov wr_173 m m1)) hV_m1
    have f13 := i_01 hb_m1
    have li14 : (0 : Int32).toInt = 0 := rfl
    refine zd (fun (h15 : v2 = (0 : Int32)) => ?_) (fun (h15 : ¬ v2 = (0 : Int32)) => ?_)
    · skip
      have g16 := i_eq h15
      have li17 : (1 : Int32).toInt = 1 := rfl
      exact K ((1 : Int32)) _ (zF_zov hF ws_173_172) hV_m1 (by decide) (show 0 ≤ (m 94 27).toInt from by omega) (show (1 : Int32).toInt = 0 ∨ (0 ≤ (m 94 20).toInt ∧ ((m 94 20).toInt ≠ 3 ∨ (4 ≤ (m 94 26).toInt ∧ 16 ≤ (m 94 23).toInt ∧ 16 ≤ (m 94 24).toInt)) ∧ ((m 94 20).toInt = 3 ∨ 16 ≤ (m 94 21).toInt) ∧ ((m 94 20).toInt ≠ 6 ∨ (16 ≤ (m 94 28).toInt ∧ 4 * (m 94 28).toInt ≤ (m 94 21).toInt))) from by omega) (show zRPr (1 : Int32) (m 94 70).toInt (zAns (m 96) (m 94 4).toInt) (zJ5 (zAns (m 96) (m 94 4).toInt) (m 94 20).toInt (m 94 23).toInt (m 94 24).toInt (m 94 21).toInt (m 94 28).toInt) from by first | (exact Or.inr ⟨by omega, J45_o r_J4 p3_m1 p4_m1 (by omega)⟩) | (exfalso; omega; done) | (exfalso; contradiction; done)) (show (1 : Int32).toInt ≠ 0 → ((m 94 20).toInt = qPo (m 96) (m 94 4).toInt ∧ ((m 94 20).toInt = 5 → qV (m 96) (m 94 4).toInt (m 94 21).toInt (m 94 22).toInt (m 94 27).toInt (m 94 30)) ∧ (((m 94 20).toInt = 0 ∨ (m 94 20).toInt = 4) → (m 94 21).toInt = zVal (m 96) (m 94 4).toInt 0 1 ∧ (m 94 22).toInt = zVal (m 96) (m 94 4).toInt 6 2)) ∧ (qT1 (m 94 20).toInt (m 94 21).toInt (m 96) (m 94 4).toInt ∧ qT3 (m 94 20).toInt (m 94 23).toInt (m 94 24).toInt (m 94 25).toInt (m 94 26).toInt (m 96) (m 94 4).toInt ∧ qT6 (m 94 20).toInt (m 94 21).toInt (m 94 28).toInt (m 94 29).toInt (m 96) (m 94 4).toInt) from by first | (exact fun _ => ⟨⟨r_KP, r_Q3, r_Q2k⟩, r_M1, r_M3, r_M6⟩) | (intro w; exfalso; omega; done) | (exfalso; omega; done) | (exfalso; contradiction; done))
    · skip
      have g18 := i_ne h15
      have hV19 : zV (ma_u (zov wr_173 m m1) 94 70 (m1 94 68)) := us_94_70 hV_m1 (by omega) (by omega)
      exact K ((0 : Int32)) _ (zF_u (zF_zov hF ws_173_172) rfl) hV19 (by decide) (show 0 ≤ (m 94 27).toInt from by omega) (show (0 : Int32).toInt = 0 ∨ (0 ≤ (m 94 20).toInt ∧ ((m 94 20).toInt ≠ 3 ∨ (4 ≤ (m 94 26).toInt ∧ 16 ≤ (m 94 23).toInt ∧ 16 ≤ (m 94 24).toInt)) ∧ ((m 94 20).toInt = 3 ∨ 16 ≤ (m 94 21).toInt) ∧ ((m 94 20).toInt ≠ 6 ∨ (16 ≤ (m 94 28).toInt ∧ 4 * (m 94 28).toInt ≤ (m 94 21).toInt))) from by omega) (show zRPr (0 : Int32) (m1 94 68).toInt (zAns (m 96) (m 94 4).toInt) (zJ5 (zAns (m 96) (m 94 4).toInt) (m 94 20).toInt (m 94 23).toInt (m 94 24).toInt (m 94 21).toInt (m 94 28).toInt) from by first | (exact Or.inl ⟨by omega, by have q := J45_b r_J4 p3_m1 p4_m1 (by omega); omega⟩) | (exfalso; omega; done) | (exfalso; contradiction; done)) (show (0 : Int32).toInt ≠ 0 → ((m 94 20).toInt = qPo (m 96) (m 94 4).toInt ∧ ((m 94 20).toInt = 5 → qV (m 96) (m 94 4).toInt (m 94 21).toInt (m 94 22).toInt (m 94 27).toInt (m 94 30)) ∧ (((m 94 20).toInt = 0 ∨ (m 94 20).toInt = 4) → (m 94 21).toInt = zVal (m 96) (m 94 4).toInt 0 1 ∧ (m 94 22).toInt = zVal (m 96) (m 94 4).toInt 6 2)) ∧ (qT1 (m 94 20).toInt (m 94 21).toInt (m 96) (m 94 4).toInt ∧ qT3 (m 94 20).toInt (m 94 23).toInt (m 94 24).toInt (m 94 25).toInt (m 94 26).toInt (m 96) (m 94 4).toInt ∧ qT6 (m 94 20).toInt (m 94 21).toInt (m 94 28).toInt (m 94 29).toInt (m 96) (m 94 4).toInt) from by first | (exact fun _ => ⟨⟨r_KP, r_Q3, r_Q2k⟩, r_M1, r_M3, r_M6⟩) | (intro w; exfalso; omega; done) | (exfalso; omega; done) | (exfalso; contradiction; done))
set_option maxHeartbeats 8000000 in
theorem lp_172qm_443 {X : Nat × (Nat → Int32)} {P : Option ma_V → (Nat → Nat → Int32) → Prop} {m0 : Nat → Nat → Int32} (h0 : zV m0) (K : ∀ v m₉, zF wr_172 m0 m₉ → zV m₉ → (v = 0 ∨ v = 1) → (0 ≤ (m₉ 94 27).toInt) → (v.toInt = 0 ∨ (0 ≤ (m₉ 94 20).toInt ∧ ((m₉ 94 20).toInt ≠ 3 ∨ (4 ≤ (m₉ 94 26).toInt ∧ 16 ≤ (m₉ 94 23).toInt ∧ 16 ≤ (m₉ 94 24).toInt)) ∧ ((m₉ 94 20).toInt = 3 ∨ 16 ≤ (m₉ 94 21).toInt) ∧ ((m₉ 94 20).toInt ≠ 6 ∨ (16 ≤ (m₉ 94 28).toInt ∧ 4 * (m₉ 94 28).toInt ≤ (m₉ 94 21).toInt)))) → (zRPr v (m₉ 94 70).toInt (zAns (m₉ 96) (m₉ 94 4).toInt) (zJ5 (zAns (m₉ 96) (m₉ 94 4).toInt) (m₉ 94 20).toInt (m₉ 94 23).toInt (m₉ 94 24).toInt (m₉ 94 21).toInt (m₉ 94 28).toInt)) → (v.toInt ≠ 0 → ((m₉ 94 20).toInt = qPo (m₉ 96) (m₉ 94 4).toInt ∧ ((m₉ 94 20).toInt = 5 → qV (m₉ 96) (m₉ 94 4).toInt (m₉ 94 21).toInt (m₉ 94 22).toInt (m₉ 94 27).toInt (m₉ 94 30)) ∧ (((m₉ 94 20).toInt = 0 ∨ (m₉ 94 20).toInt = 4) → (m₉ 94 21).toInt = zVal (m₉ 96) (m₉ 94 4).toInt 0 1 ∧ (m₉ 94 22).toInt = zVal (m₉ 96) (m₉ 94 4).toInt 6 2)) ∧ (qT1 (m₉ 94 20).toInt (m₉ 94 21).toInt (m₉ 96) (m₉ 94 4).toInt ∧ qT3 (m₉ 94 20).toInt (m₉ 94 23).toInt (m₉ 94 24).toInt (m₉ 94 25).toInt (m₉ 94 26).toInt (m₉ 96) (m₉ 94 4).toInt ∧ qT6 (m₉ 94 20).toInt (m₉ 94 21).toInt (m₉ 94 28).toInt (m₉ 94 29).toInt (m₉ 96) (m₉ 94 4).toInt)) → P (some (.inl v)) m₉) : ∀ (n : Nat) (m : Nat → Nat → Int32) , ((0 : Int)).toNat = n → zF wr_172 m0 m → zV m → (0 ≤ (m 94 27).toInt) → ((m 94 67).toInt ≤ (m 94 4).toInt) → (0 ≤ (m 94 20).toInt ∧ ((m 94 20).toInt ≠ 3 ∨ (4 ≤ (m 94 26).toInt ∧ 16 ≤ (m 94 23).toInt ∧ 16 ≤ (m 94 24).toInt)) ∧ ((m 94 20).toInt = 3 ∨ 16 ≤ (m 94 21).toInt)) → (zJ3 (m 96) (m 94 4).toInt (m 94 20).toInt (m 94 67).toInt (m 94 23).toInt (m 94 24).toInt (m 94 21).toInt) → ((m 94 20).toInt = qPo (m 96) (m 94 4).toInt) → ((m 94 20).toInt = 5 → qV (m 96) (m 94 4).toInt (m 94 21).toInt (m 94 22).toInt (m 94 27).toInt (m 94 30)) → (((m 94 20).toInt = 0 ∨ (m 94 20).toInt = 4) → (m 94 21).toInt = zVal (m 96) (m 94 4).toInt 0 1 ∧ (m 94 22).toInt = zVal (m 96) (m 94 4).toInt 6 2) → (qT1 (m 94 20).toInt (m 94 21).toInt (m 96) (m 94 4).toInt) → (qT3 (m 94 20).toInt (m 94 23).toInt (m 94 24).toInt (m 94 25).toInt (m 94 26).toInt (m 96) (m 94 4).toInt) → (qTa (m 94 20).toInt (m 94 21).toInt (m 94 67).toInt (m 96) (m 94 4).toInt) → zm X 3 70 172 443 [(0, .inr (.inr (some 94)))] m P := by
  intro n
  induction n using Nat.strongRecOn with
  | _ n IH =>
    intro m  hmu hF hV hi0 hi1 hi2 r_J3 r_KP r_Q3 r_Q2k r_M1 r_M3 r_Ma
    refine g_172_443  ?_
    have b1 := i_bd (m 94 27)
    have f2 : 0 ≤ (m 94 67).toInt ∧ (m 94 67).toInt ≤ 100 := rs_94_67 (m := m) hV
    have f3 : 0 ≤ (m 94 4).toInt ∧ (m 94 4).toInt ≤ 100 := rs_94_4 (m := m) hV
    have f4 : -1 ≤ (m 94 20).toInt ∧ (m 94 20).toInt ≤ 6 := rs_94_20 (m := m) hV
    have f5 : 0 ≤ (m 94 26).toInt ∧ (m 94 26).toInt ≤ 64 := rs_94_26 (m := m) hV
    have f6 : 0 ≤ (m 94 23).toInt ∧ (m 94 23).toInt ≤ 1500 := rs_94_23 (m := m) hV
    have f7 : 0 ≤ (m 94 24).toInt ∧ (m 94 24).toInt ≤ 1500 := rs_94_24 (m := m) hV
    have f8 : 0 ≤ (m 94 21).toInt ∧ (m 94 21).toInt ≤ 1500 := rs_94_21 (m := m) hV
    have li9 : (6 : Int32).toInt = 6 := rfl
    refine zd (fun (h10 : (m 94 20) = (6 : Int32)) => ?_) (fun (h10 : ¬ (m 94 20) = (6 : Int32)) => ?_)
    · skip
      have g11 := i_eq h10
      have li12 : (16 : Int32).toInt = 16 := rfl
      have li13 : (256 : Int32).toInt = 256 := rfl
      refine sp_177n ((16 : Int32)) ((256 : Int32)) hV (show (m 94 67).toInt ≤ (m 94 4).toInt from by omega) (fun v2 m1 hV_m1 hb_m1 p0_m1 p1_m1 p2_m1 p3_m1 p4_m1 p5_m1 p6_m1 => zmi_n ?_)
      have p0_m1 : (m1 94 67).toInt ≤ (m 94 4).toInt := p0_m1
      have p1_m1 : (m1 94 68).toInt + (m1 94 69).toInt ≤ 100 := p1_m1
      have p2_m1 : v2.toInt = 1 → (16 : Int32).toInt ≤ (m1 94 71).toInt ∧ (m1 94 71).toInt ≤ (256 : Int32).toInt := p2_m1
      have p3_m1 : (m1 94 68).toInt + (m1 94 69).toInt = (m1 94 67).toInt := p3_m1
      have p4_m1 : (m1 94 68).toInt = tk true (m 96) (m 94 4).toInt (m 94 67).toInt := p4_m1
      have p5_m1 : (m1 94 67).toInt = tk false (m 96) (m 94 4).toInt (m1 94 68).toInt := p5_m1
      have p6_m1 : zNU v2 (m1 94 71).toInt (zNum (m 96) (m1 94 68).toInt (m1 94 67).toInt (16 : Int32).toInt (256 : Int32).toInt) (m1 94 70).toInt (m1 94 68).toInt := p6_m1
      have f14 : 0 ≤ (m1 94 67).toInt ∧ (m1 94 67).toInt ≤ 100 := rs_94_67 (m := (zov wr_177 m m1)) hV_m1
      have f15 : 0 ≤ (m1 94 68).toInt ∧ (m1 94 68).toInt ≤ 100 := rs_94_68 (m := (zov wr_177 m m1)) hV_m1
      have f16 : 0 ≤ (m1 94 69).toInt ∧ (m1 94 69).toInt ≤ 100 := rs_94_69 (m := (zov wr_177 m m1)) hV_m1
      have b17 := i_bd (m1 94 71)
      have f18 := i_01 hb_m1
      have li19 : (0 : Int32).toInt = 0 := rfl
      refine zd (fun (h20 : v2 = (0 : Int32)) => ?_) (fun (h20 : ¬ v2 = (0 : Int32)) => ?_)
      · skip
        have g21 := i_eq h20
        have f22 : 0 ≤ (m 94 28).toInt ∧ (m 94 28).toInt ≤ 256 := rs_94_28 (m := m) hV
        exact K ((0 : Int32)) _ (zF_zov hF ws_177_172) hV_m1 (by decide) (show 0 ≤ (m 94 27).toInt from by omega) (show (0 : Int32).toInt = 0 ∨ (0 ≤ (m 94 20).toInt ∧ ((m 94 20).toInt ≠ 3 ∨ (4 ≤ (m 94 26).toInt ∧ 16 ≤ (m 94 23).toInt ∧ 16 ≤ (m 94 24).toInt)) ∧ ((m 94 20).toInt = 3 ∨ 16 ≤ (m 94 21).toInt) ∧ ((m 94 20).toInt ≠ 6 ∨ (16 ≤ (m 94 28).toInt ∧ 4 * (m 94 28).toInt ≤ (m 94 21).toInt))) from by omega) (show zRPr (0 : Int32) (m1 94 70).toInt (zAns (m 96) (m 94 4).toInt) (zJ5 (zAns (m 96) (m 94 4).toInt) (m 94 20).toInt (m 94 23).toInt (m 94 24).toInt (m 94 21).toInt (m 94 28).toInt) from by first | (exact Or.inl ⟨by omega, by have q := J34_1 r_J3 (by omega) p4_m1 p5_m1 (zNum_z0 (NU_no p6_m1 (by omega))); have y := (NU_br p6_m1 (by omega)); omega⟩) | (exfalso; omega; done) | (exfalso; contradiction; done)) (show (0 : Int32).toInt ≠ 0 → ((m 94 20).toInt = qPo (m 96) (m 94 4).toInt ∧ ((m 94 20).toInt = 5 → qV (m 96) (m 94 4).toInt (m 94 21).toInt (m 94 22).toInt (m 94 27).toInt (m 94 30)) ∧ (((m 94 20).toInt = 0 ∨ (m 94 20).toInt = 4) → (m 94 21).toInt = zVal (m 96) (m 94 4).toInt 0 1 ∧ (m 94 22).toInt = zVal (m 96) (m 94 4).toInt 6 2)) ∧ (qT1 (m 94 20).toInt (m 94 21).toInt (m 96) (m 94 4).toInt ∧ qT3 (m 94 20).toInt (m 94 23).toInt (m 94 24).toInt (m 94 25).toInt (m 94 26).toInt (m 96) (m 94 4).toInt ∧ qT6 (m 94 20).toInt (m 94 21).toInt (m 94 28).toInt (m 94 29).toInt (m 96) (m 94 4).toInt) from by first | (intro w; exfalso; omega; done) | (exfalso; omega; done) | (exfalso; contradiction; done))
      · skip
        have g23 := i_ne h20
        have li24 : (4 : Int32).toInt = 4 := rfl
        first | have e25 : ((4 : Int32) * (m1 94 71)).toInt = 4 * (m1 94 71).toInt := i_mulk2 rfl (by omega) (by omega) | have b26 := i_bd ((4 : Int32) * (m1 94 71))
        refine zd (fun (h27 : ((4 : Int32) * (m1 94 71)) ≤ (m 94 21)) => ?_) (fun (h27 : ¬ ((4 : Int32) * (m1 94 71)) ≤ (m 94 21)) => ?_)
        · skip
          have g28 := i_le h27
          have li29 : (100 : Int32).toInt = 100 := rfl
          have hV30 : zV (ma_u (zov wr_177 m m1) 94 28 (m1 94 71)) := us_94_28 hV_m1 (by omega) (by omega)
          refine sp_177n ((0 : Int32)) ((100 : Int32)) hV30 (show (m1 94 67).toInt ≤ (m 94 4).toInt from by omega) (fun v4 m3 hV_m3 hb_m3 p0_m3 p1_m3 p2_m3 p3_m3 p4_m3 p5_m3 p6_m3 => zmi_n ?_)
          have p0_m3 : (m3 94 67).toInt ≤ (m 94 4).toInt := p0_m3
          have p1_m3 : (m3 94 68).toInt + (m3 94 69).toInt ≤ 100 := p1_m3
          have p2_m3 : v4.toInt = 1 → (0 : Int32).toInt ≤ (m3 94 71).toInt ∧ (m3 94 71).toInt ≤ (100 : Int32).toInt := p2_m3
          have p3_m3 : (m3 94 68).toInt + (m3 94 69).toInt = (m3 94 67).toInt := p3_m3
          have p4_m3 : (m3 94 68).toInt = tk true (m 96) (m 94 4).toInt (m1 94 67).toInt := p4_m3
          have p5_m3 : (m3 94 67).toInt = tk false (m 96) (m 94 4).toInt (m3 94 68).toInt := p5_m3
          have p6_m3 : zNU v4 (m3 94 71).toInt (zNum (m 96) (m3 94 68).toInt (m3 94 67).toInt (0 : Int32).toInt (100 : Int32).toInt) (m3 94 70).toInt (m3 94 68).toInt := p6_m3
          have f31 : 0 ≤ (m3 94 67).toInt ∧ (m3 94 67).toInt ≤ 100 := rs_94_67 (m := (zov wr_177 (ma_u (zov wr_177 m m1) 94 28 (m1 94 71)) m3)) hV_m3
          have f32 : 0 ≤ (m3 94 68).toInt ∧ (m3 94 68).toInt ≤ 100 := rs_94_68 (m := (zov wr_177 (ma_u (zov wr_177 m m1) 94 28 (m1 94 71)) m3)) hV_m3
          have f33 : 0 ≤ (m3 94 69).toInt ∧ (m3 94 69).toInt ≤ 100 := rs_94_69 (m := (zov wr_177 (ma_u (zov wr_177 m m1) 94 28 (m1 94 71)) m3)) hV_m3
          have b34 := i_bd (m3 94 71)
          have f35 := i_01 hb_m3
          refine zd (fun (h36 : v4 = (0 : Int32)) => ?_) (fun (h36 : ¬ v4 = (0 : Int32)) => ?_)
          · skip
            have g37 := i_eq h36
            exact K ((0 : Int32)) _ (zF_zov (zF_u (zF_zov hF ws_177_172) rfl) ws_177_172) hV_m3 (by decide) (show 0 ≤ (m 94 27).toInt from by omega) (show (0 : Int32).toInt = 0 ∨ (0 ≤ (m 94 20).toInt ∧ ((m 94 20).toInt ≠ 3 ∨ (4 ≤ (m 94 26).toInt ∧ 16 ≤ (m 94 23).toInt ∧ 16 ≤ (m 94 24).toInt)) ∧ ((m 94 20).toInt = 3 ∨ 16 ≤ (m 94 21).toInt) ∧ ((m 94 20).toInt ≠ 6 ∨ (16 ≤ (m1 94 71).toInt ∧ 4 * (m1 94 71).toInt ≤ (m 94 21).toInt))) from by omega) (show zRPr (0 : Int32) (m3 94 70).toInt (zAns (m 96) (m 94 4).toInt) (zJ5 (zAns (m 96) (m 94 4).toInt) (m 94 20).toInt (m 94 23).toInt (m 94 24).toInt (m 94 21).toInt (m1 94 71).toInt) from by first | (exact Or.inl ⟨by omega, by have q := J34_3 (J34_2 r_J3 (by omega) p4_m1 p5_m1 (zNum_z2 (NU_ok p6_m1 (by omega)).symm (by omega) (by omega) (by omega)).symm (by omega)) p4_m3 p5_m3 (NU_no p6_m3 (by omega)); have y := (NU_br p6_m3 (by omega)); omega⟩) | (exfalso; omega; done) | (exfalso; contradiction; done)) (show (0 : Int32).toInt ≠ 0 → ((m 94 20).toInt = qPo (m 96) (m 94 4).toInt ∧ ((m 94 20).toInt = 5 → qV (m 96) (m 94 4).toInt (m 94 21).toInt (m 94 22).toInt (m 94 27).toInt (m 94 30)) ∧ (((m 94 20).toInt = 0 ∨ (m 94 20).toInt = 4) → (m 94 21).toInt = zVal (m 96) (m 94 4).toInt 0 1 ∧ (m 94 22).toInt = zVal (m 96) (m 94 4).toInt 6 2)) ∧ (qT1 (m 94 20).toInt (m 94 21).toInt (m 96) (m 94 4).toInt ∧ qT3 (m 94 20).toInt (m 94 23).toInt (m 94 24).toInt (m 94 25).toInt (m 94 26).toInt (m 96) (m 94 4).toInt ∧ qT6 (m 94 20).toInt (m 94 21).toInt (m1 94 71).toInt (m 94 29).toInt (m 96) (m 94 4).toInt) from by first | (intro w; exfalso; omega; done) | (exfalso; omega; done) | (exfalso; contradiction; done))
          · skip
            have g38 := i_ne h36
            have hV39 : zV (ma_u (zov wr_177 (ma_u (zov wr_177 m m1) 94 28 (m1 94 71)) m3) 94 29 (m3 94 71)) := uf_94_29 hV_m3
            exact lp_172qm_516 h0 K _ _  rfl (zF_u (zF_zov (zF_u (zF_zov hF ws_177_172) rfl) ws_177_172) rfl) hV39 (show 0 ≤ (m 94 27).toInt from by omega) (show (m3 94 67).toInt ≤ (m 94 4).toInt from by omega) (show 0 ≤ (m 94 20).toInt ∧ ((m 94 20).toInt ≠ 3 ∨ (4 ≤ (m 94 26).toInt ∧ 16 ≤ (m 94 23).toInt ∧ 16 ≤ (m 94 24).toInt)) ∧ ((m 94 20).toInt = 3 ∨ 16 ≤ (m 94 21).toInt) from by omega) (show ((m 94 20).toInt ≠ 6 ∨ (16 ≤ (m1 94 71).toInt ∧ 4 * (m1 94 71).toInt ≤ (m 94 21).toInt)) from by omega) (show zJ4 (m 96) (m 94 4).toInt (m 94 20).toInt (m3 94 67).toInt (m 94 23).toInt (m 94 24).toInt (m 94 21).toInt (m1 94 71).toInt from by first | (exact J34_4 (J34_2 r_J3 (by omega) p4_m1 p5_m1 (zNum_z2 (NU_ok p6_m1 (by omega)).symm (by omega) (by omega) (by omega)).symm (by omega)) (by omega) p4_m3 p5_m3 (NU_ok p6_m3 (by omega)) (by omega)) | (exfalso; omega; done) | (exfalso; contradiction; done)) r_KP r_Q3 r_Q2k r_M1 r_M3 (show qT6 (m 94 20).toInt (m 94 21).toInt (m1 94 71).toInt (m3 94 71).toInt (m 96) (m 94 4).toInt from by first | (unfold qT6; intro w; have q1 := r_Ma w; have a2 : (m1 94 68).toInt = zts (m 96) (m 94 4).toInt 2 := zt_s p4_m1 rfl q1.2; have b2 : (m1 94 67).toInt = zte (m 96) (m 94 4).toInt 2 := zt_e p5_m1 a2; have a3 : (m3 94 68).toInt = zts (m 96) (m 94 4).toInt 3 := zt_s p4_m3 rfl b2; have b3 : (m3 94 67).toInt = zte (m 96) (m 94 4).toInt 3 := zt_e p5_m3 a3; refine ⟨q1.1, ?_, (show (m3 94 71).toInt = zNum (m 96) (m3 94 68).toInt (m3 94 67).toInt 0 100 from (NU_ok p6_m3 (by omega))).trans (by rw [a3, b3]; rfl)⟩; have zz := (zNum_z2 (a := (m 94 21).toInt) (NU_ok p6_m1 (by omega)).symm (by omega) (by omega) (by omega)); unfold zV4; rw [← a2, ← b2, ← q1.1]; exact zz.symm; done) | (exfalso; omega; done) | (exfalso; contradiction; done))
        · skip
          have g40 := i_nle h27
          have hV41 : zV (ma_u (zov wr_177 m m1) 94 28 (m1 94 71)) := us_94_28 hV_m1 (by omega) (by omega)
          have hV42 : zV (ma_u (ma_u (zov wr_177 m m1) 94 28 (m1 94 71)) 94 70 (m1 94 68)) := us_94_70 hV41 (by omega) (by omega)
          exact K ((0 : Int32)) _ (zF_u (zF_u (zF_zov hF ws_177_172) rfl) rfl) hV42 (by decide) (show 0 ≤ (m 94 27).toInt from by omega) (show (0 : Int32).toInt = 0 ∨ (0 ≤ (m 94 20).toInt ∧ ((m 94 20).toInt ≠ 3 ∨ (4 ≤ (m 94 26).toInt ∧ 16 ≤ (m 94 23).toInt ∧ 16 ≤ (m 94 24).toInt)) ∧ ((m 94 20).toInt = 3 ∨ 16 ≤ (m 94 21).toInt) ∧ ((m 94 20).toInt ≠ 6 ∨ (16 ≤ (m1 94 71).toInt ∧ 4 * (m1 94 71).toInt ≤ (m 94 21).toInt))) from by omega) (show zRPr (0 : Int32) (m1 94 68).toInt (zAns (m 96) (m 94 4).toInt) (zJ5 (zAns (m 96) (m 94 4).toInt) (m 94 20).toInt (m 94 23).toInt (m 94 24).toInt (m 94 21).toInt (m1 94 71).toInt) from by first | (exact Or.inl ⟨by omega, by have q := J34_1 r_J3 (by omega) p4_m1 p5_m1 (zNum_z1 (NU_ok p6_m1 (by omega)).symm (by omega) (by omega)); omega⟩) | (exfalso; omega; done) | (exfalso; contradiction; done)) (show (0 : Int32).toInt ≠ 0 → ((m 94 20).toInt = qPo (m 96) (m 94 4).toInt ∧ ((m 94 20).toInt = 5 → qV (m 96) (m 94 4).toInt (m 94 21).toInt (m 94 22).toInt (m 94 27).toInt (m 94 30)) ∧ (((m 94 20).toInt = 0 ∨ (m 94 20).toInt = 4) → (m 94 21).toInt = zVal (m 96) (m 94 4).toInt 0 1 ∧ (m 94 22).toInt = zVal (m 96) (m 94 4).toInt 6 2)) ∧ (qT1 (m 94 20).toInt (m 94 21).toInt (m 96) (m 94 4).toInt ∧ qT3 (m 94 20).toInt (m 94 23).toInt (m 94 24).toInt (m 94 25).toInt (m 94 26).toInt (m 96) (m 94 4).toInt ∧ qT6 (m 94 20).toInt (m 94 21).toInt (m1 94 71).toInt (m 94 29).toInt (m 96) (m 94 4).toInt) from by first | (intro w; exfalso; omega; done) | (exfalso; omega; done) | (exfalso; contradiction; done))
    · skip
      have g43 := i_ne h10
      have f44 : 0 ≤ (m 94 28).toInt ∧ (m 94 28).toInt ≤ 256 := rs_94_28 (m := m) hV
      exact lp_172qm_516 h0 K _ _  rfl hF hV (show 0 ≤ (m 94 27).toInt from by omega) (show (m 94 67).toInt ≤ (m 94 4).toInt from by omega) (show 0 ≤ (m 94 20).toInt ∧ ((m 94 20).toInt ≠ 3 ∨ (4 ≤ (m 94 26).toInt ∧ 16 ≤ (m 94 23).toInt ∧ 16 ≤ (m 94 24).toInt)) ∧ ((m 94 20).toInt = 3 ∨ 16 ≤ (m 94 21).toInt) from by omega) (show ((m 94 20).toInt ≠ 6 ∨ (16 ≤ (m 94 28).toInt ∧ 4 * (m 94 28).toInt ≤ (m 94 21).toInt)) from by omega) (show zJ4 (m 96) (m 94 4).toInt (m 94 20).toInt (m 94 67).toInt (m 94 23).toInt (m 94 24).toInt (m 94 21).toInt (m 94 28).toInt from by first | (exact J34_n r_J3 (by omega)) | (exfalso; omega; done) | (exfalso; contradiction; done)) r_KP r_Q3 r_Q2k r_M1 r_M3 (show qT6 (m 94 20).toInt (m 94 21).toInt (m 94 28).toInt (m 94 29).toInt (m 96) (m 94 4).toInt from by first | (unfold qT6; intro w; exfalso; omega; done) | (exfalso; omega; done) | (exfalso; contradiction; done))
set_option maxHeartbeats 8000000 in
theorem lp_172qm_343 {X : Nat × (Nat → Int32)} {P : Option ma_V → (Nat → Nat → Int32) → Prop} {m0 : Nat → Nat → Int32} (h0 : zV m0) (K : ∀ v m₉, zF wr_172 m0 m₉ → zV m₉ → (v = 0 ∨ v = 1) → (0 ≤ (m₉ 94 27).toInt) → (v.toInt = 0 ∨ (0 ≤ (m₉ 94 20).toInt ∧ ((m₉ 94 20).toInt ≠ 3 ∨ (4 ≤ (m₉ 94 26).toInt ∧ 16 ≤ (m₉ 94 23).toInt ∧ 16 ≤ (m₉ 94 24).toInt)) ∧ ((m₉ 94 20).toInt = 3 ∨ 16 ≤ (m₉ 94 21).toInt) ∧ ((m₉ 94 20).toInt ≠ 6 ∨ (16 ≤ (m₉ 94 28).toInt ∧ 4 * (m₉ 94 28).toInt ≤ (m₉ 94 21).toInt)))) → (zRPr v (m₉ 94 70).toInt (zAns (m₉ 96) (m₉ 94 4).toInt) (zJ5 (zAns (m₉ 96) (m₉ 94 4).toInt) (m₉ 94 20).toInt (m₉ 94 23).toInt (m₉ 94 24).toInt (m₉ 94 21).toInt (m₉ 94 28).toInt)) → (v.toInt ≠ 0 → ((m₉ 94 20).toInt = qPo (m₉ 96) (m₉ 94 4).toInt ∧ ((m₉ 94 20).toInt = 5 → qV (m₉ 96) (m₉ 94 4).toInt (m₉ 94 21).toInt (m₉ 94 22).toInt (m₉ 94 27).toInt (m₉ 94 30)) ∧ (((m₉ 94 20).toInt = 0 ∨ (m₉ 94 20).toInt = 4) → (m₉ 94 21).toInt = zVal (m₉ 96) (m₉ 94 4).toInt 0 1 ∧ (m₉ 94 22).toInt = zVal (m₉ 96) (m₉ 94 4).toInt 6 2)) ∧ (qT1 (m₉ 94 20).toInt (m₉ 94 21).toInt (m₉ 96) (m₉ 94 4).toInt ∧ qT3 (m₉ 94 20).toInt (m₉ 94 23).toInt (m₉ 94 24).toInt (m₉ 94 25).toInt (m₉ 94 26).toInt (m₉ 96) (m₉ 94 4).toInt ∧ qT6 (m₉ 94 20).toInt (m₉ 94 21).toInt (m₉ 94 28).toInt (m₉ 94 29).toInt (m₉ 96) (m₉ 94 4).toInt)) → P (some (.inl v)) m₉) : ∀ (n : Nat) (m : Nat → Nat → Int32) , ((0 : Int)).toNat = n → zF wr_172 m0 m → zV m → (0 ≤ (m 94 27).toInt) → ((m 94 67).toInt ≤ (m 94 4).toInt) → (0 ≤ (m 94 20).toInt ∧ ((m 94 20).toInt ≠ 3 ∨ (4 ≤ (m 94 26).toInt ∧ 16 ≤ (m 94 23).toInt ∧ 16 ≤ (m 94 24).toInt)) ∧ ((m 94 20).toInt = 3 ∨ 16 ≤ (m 94 21).toInt)) → (zJ2 (m 96) (m 94 4).toInt (m 94 20).toInt (m 94 67).toInt (m 94 23).toInt (m 94 24).toInt (m 94 21).toInt) → ((m 94 20).toInt = qPo (m 96) (m 94 4).toInt) → (((m 94 20).toInt = 0 ∨ (m 94 20).toInt = 4 ∨ (m 94 20).toInt = 5) → (m 94 21).toInt = zVal (m 96) (m 94 4).toInt 0 1 ∧ (m 94 22).toInt = zVal (m 96) (m 94 4).toInt 6 2 ∧ (m 94 67).toInt = zte (m 96) (m 94 4).toInt 2) → (qT1 (m 94 20).toInt (m 94 21).toInt (m 96) (m 94 4).toInt) → (qT3 (m 94 20).toInt (m 94 23).toInt (m 94 24).toInt (m 94 25).toInt (m 94 26).toInt (m 96) (m 94 4).toInt) → (qTa (m 94 20).toInt (m 94 21).toInt (m 94 67).toInt (m 96) (m 94 4).toInt) → zm X 3 70 172 343 [(0, .inr (.inr (some 94)))] m P := by
  intro n
  induction n using Nat.strongRecOn with
  | _ n IH =>
    intro m  hmu hF hV hi0 hi1 hi2 r_J2 r_KP r_Q2 r_M1 r_M3 r_Ma
    refine g_172_343  ?_
    have b1 := i_bd (m 94 27)
    have f2 : 0 ≤ (m 94 67).toInt ∧ (m 94 67).toInt ≤ 100 := rs_94_67 (m := m) hV
    have f3 : 0 ≤ (m 94 4).toInt ∧ (m 94 4).toInt ≤ 100 := rs_94_4 (m := m) hV
    have f4 : -1 ≤ (m 94 20).toInt ∧ (m 94 20).toInt ≤ 6 := rs_94_20 (m := m) hV
    have f5 : 0 ≤ (m 94 26).toInt ∧ (m 94 26).toInt ≤ 64 := rs_94_26 (m := m) hV
    have f6 : 0 ≤ (m 94 23).toInt ∧ (m 94 23).toInt ≤ 1500 := rs_94_23 (m := m) hV
    have f7 : 0 ≤ (m 94 24).toInt ∧ (m 94 24).toInt ≤ 1500 := rs_94_24 (m := m) hV
    have f8 : 0 ≤ (m 94 21).toInt ∧ (m 94 21).toInt ≤ 1500 := rs_94_21 (m := m) hV
    have li9 : (5 : Int32).toInt = 5 := rfl
    refine zd (fun (h10 : (m 94 20) = (5 : Int32)) => ?_) (fun (h10 : ¬ (m 94 20) = (5 : Int32)) => ?_)
    · skip
      have g11 := i_eq h10
      have li12 : (1 : Int32).toInt = 1 := rfl
      have li13 : (50 : Int32).toInt = 50 := rfl
      refine sp_177n ((1 : Int32)) ((50 : Int32)) hV (show (m 94 67).toInt ≤ (m 94 4).toInt from by omega) (fun v2 m1 hV_m1 hb_m1 p0_m1 p1_m1 p2_m1 p3_m1 p4_m1 p5_m1 p6_m1 => zmi_n ?_)
      have p0_m1 : (m1 94 67).toInt ≤ (m 94 4).toInt := p0_m1
      have p1_m1 : (m1 94 68).toInt + (m1 94 69).toInt ≤ 100 := p1_m1
      have p2_m1 : v2.toInt = 1 → (1 : Int32).toInt ≤ (m1 94 71).toInt ∧ (m1 94 71).toInt ≤ (50 : Int32).toInt := p2_m1
      have p3_m1 : (m1 94 68).toInt + (m1 94 69).toInt = (m1 94 67).toInt := p3_m1
      have p4_m1 : (m1 94 68).toInt = tk true (m 96) (m 94 4).toInt (m 94 67).toInt := p4_m1
      have p5_m1 : (m1 94 67).toInt = tk false (m 96) (m 94 4).toInt (m1 94 68).toInt := p5_m1
      have p6_m1 : zNU v2 (m1 94 71).toInt (zNum (m 96) (m1 94 68).toInt (m1 94 67).toInt (1 : Int32).toInt (50 : Int32).toInt) (m1 94 70).toInt (m1 94 68).toInt := p6_m1
      have f14 : 0 ≤ (m1 94 67).toInt ∧ (m1 94 67).toInt ≤ 100 := rs_94_67 (m := (zov wr_177 m m1)) hV_m1
      have f15 : 0 ≤ (m1 94 68).toInt ∧ (m1 94 68).toInt ≤ 100 := rs_94_68 (m := (zov wr_177 m m1)) hV_m1
      have f16 : 0 ≤ (m1 94 69).toInt ∧ (m1 94 69).toInt ≤ 100 := rs_94_69 (m := (zov wr_177 m m1)) hV_m1
      have b17 := i_bd (m1 94 71)
      have f18 := i_01 hb_m1
      have li19 : (0 : Int32).toInt = 0 := rfl
      refine zd (fun (h20 : v2 = (0 : Int32)) => ?_) (fun (h20 : ¬ v2 = (0 : Int32)) => ?_)
      · skip
        have g21 := i_eq h20
        have f22 : 0 ≤ (m 94 28).toInt ∧ (m 94 28).toInt ≤ 256 := rs_94_28 (m := m) hV
        exact K ((0 : Int32)) _ (zF_zov hF ws_177_172) hV_m1 (by decide) (show 0 ≤ (m 94 27).toInt from by omega) (show (0 : Int32).toInt = 0 ∨ (0 ≤ (m 94 20).toInt ∧ ((m 94 20).toInt ≠ 3 ∨ (4 ≤ (m 94 26).toInt ∧ 16 ≤ (m 94 23).toInt ∧ 16 ≤ (m 94 24).toInt)) ∧ ((m 94 20).toInt = 3 ∨ 16 ≤ (m 94 21).toInt) ∧ ((m 94 20).toInt ≠ 6 ∨ (16 ≤ (m 94 28).toInt ∧ 4 * (m 94 28).toInt ≤ (m 94 21).toInt))) from by omega) (show zRPr (0 : Int32) (m1 94 70).toInt (zAns (m 96) (m 94 4).toInt) (zJ5 (zAns (m 96) (m 94 4).toInt) (m 94 20).toInt (m 94 23).toInt (m 94 24).toInt (m 94 21).toInt (m 94 28).toInt) from by first | (exact Or.inl ⟨by omega, by have q := J23_1 r_J2 (by omega) p4_m1 p5_m1 (NU_no p6_m1 (by omega)); have y := (NU_br p6_m1 (by omega)); omega⟩) | (exfalso; omega; done) | (exfalso; contradiction; done)) (show (0 : Int32).toInt ≠ 0 → ((m 94 20).toInt = qPo (m 96) (m 94 4).toInt ∧ ((m 94 20).toInt = 5 → qV (m 96) (m 94 4).toInt (m 94 21).toInt (m 94 22).toInt (m 94 27).toInt (m 94 30)) ∧ (((m 94 20).toInt = 0 ∨ (m 94 20).toInt = 4) → (m 94 21).toInt = zVal (m 96) (m 94 4).toInt 0 1 ∧ (m 94 22).toInt = zVal (m 96) (m 94 4).toInt 6 2)) ∧ (qT1 (m 94 20).toInt (m 94 21).toInt (m 96) (m 94 4).toInt ∧ qT3 (m 94 20).toInt (m 94 23).toInt (m 94 24).toInt (m 94 25).toInt (m 94 26).toInt (m 96) (m 94 4).toInt ∧ qT6 (m 94 20).toInt (m 94 21).toInt (m 94 28).toInt (m 94 29).toInt (m 96) (m 94 4).toInt) from by first | (intro w; exfalso; omega; done) | (exfalso; omega; done) | (exfalso; contradiction; done))
      · skip
        have g23 := i_ne h20
        have hV24 : zV (ma_u (zov wr_177 m m1) 94 27 (m1 94 71)) := uf_94_27 hV_m1
        refine sp_173n  hV24 (show (m1 94 67).toInt ≤ (m 94 4).toInt from by omega) (fun v4 m3 hV_m3 hb_m3 p0_m3 p1_m3 p2_m3 p3_m3 p4_m3 => zmi_n ?_)
        have p0_m3 : (m3 94 67).toInt ≤ (m 94 4).toInt := p0_m3
        have p1_m3 : (m3 94 68).toInt + (m3 94 69).toInt = (m3 94 67).toInt := p1_m3
        have p2_m3 : (v4.toInt = 1 ∧ 1 ≤ (m3 94 69).toInt) ∨ (v4.toInt = 0 ∧ (m3 94 69).toInt = 0) := p2_m3
        have p3_m3 : (m3 94 68).toInt = tk true (m 96) (m 94 4).toInt (m1 94 67).toInt := p3_m3
        have p4_m3 : (m3 94 67).toInt = tk false (m 96) (m 94 4).toInt (m3 94 68).toInt := p4_m3
        have f25 : 0 ≤ (m3 94 67).toInt ∧ (m3 94 67).toInt ≤ 100 := rs_94_67 (m := (zov wr_173 (ma_u (zov wr_177 m m1) 94 27 (m1 94 71)) m3)) hV_m3
        have f26 : 0 ≤ (m3 94 68).toInt ∧ (m3 94 68).toInt ≤ 100 := rs_94_68 (m := (zov wr_173 (ma_u (zov wr_177 m m1) 94 27 (m1 94 71)) m3)) hV_m3
        have f27 : 0 ≤ (m3 94 69).toInt ∧ (m3 94 69).toInt ≤ 100 := rs_94_69 (m := (zov wr_173 (ma_u (zov wr_177 m m1) 94 27 (m1 94 71)) m3)) hV_m3
        have f28 := i_01 hb_m3
        refine zd (fun (h29 : v4 = (0 : Int32)) => ?_) (fun (h29 : ¬ v4 = (0 : Int32)) => ?_)
        · skip
          have g30 := i_eq h29
          have hV31 : zV (ma_u (zov wr_173 (ma_u (zov wr_177 m m1) 94 27 (m1 94 71)) m3) 94 70 (m 94 4)) := us_94_70 hV_m3 (by omega) (by omega)
          have f32 : 0 ≤ (m 94 28).toInt ∧ (m 94 28).toInt ≤ 256 := rs_94_28 (m := m) hV
          exact K ((0 : Int32)) _ (zF_u (zF_zov (zF_u (zF_zov hF ws_177_172) rfl) ws_173_172) rfl) hV31 (by decide) (show 0 ≤ (m1 94 71).toInt from by omega) (show (0 : Int32).toInt = 0 ∨ (0 ≤ (m 94 20).toInt ∧ ((m 94 20).toInt ≠ 3 ∨ (4 ≤ (m 94 26).toInt ∧ 16 ≤ (m 94 23).toInt ∧ 16 ≤ (m 94 24).toInt)) ∧ ((m 94 20).toInt = 3 ∨ 16 ≤ (m 94 21).toInt) ∧ ((m 94 20).toInt ≠ 6 ∨ (16 ≤ (m 94 28).toInt ∧ 4 * (m 94 28).toInt ≤ (m 94 21).toInt))) from by omega) (show zRPr (0 : Int32) (m 94 4).toInt (zAns (m 96) (m 94 4).toInt) (zJ5 (zAns (m 96) (m 94 4).toInt) (m 94 20).toInt (m 94 23).toInt (m 94 24).toInt (m 94 21).toInt (m 94 28).toInt) from by first | (exact Or.inl ⟨by omega, by have zs := tk_end (by omega) p3_m3 p4_m3 (by omega); have q := J23_3 (J23_2 r_J2 (by omega) p4_m1 p5_m1 (NU_ok p6_m1 (by omega)) (by omega)) p3_m3 p4_m3 (zBar_0 (z := (m3 94 69).toInt) (by omega)) (by omega); omega⟩) | (exfalso; omega; done) | (exfalso; contradiction; done)) (show (0 : Int32).toInt ≠ 0 → ((m 94 20).toInt = qPo (m 96) (m 94 4).toInt ∧ ((m 94 20).toInt = 5 → qV (m 96) (m 94 4).toInt (m 94 21).toInt (m 94 22).toInt (m1 94 71).toInt (m 94 30)) ∧ (((m 94 20).toInt = 0 ∨ (m 94 20).toInt = 4) → (m 94 21).toInt = zVal (m 96) (m 94 4).toInt 0 1 ∧ (m 94 22).toInt = zVal (m 96) (m 94 4).toInt 6 2)) ∧ (qT1 (m 94 20).toInt (m 94 21).toInt (m 96) (m 94 4).toInt ∧ qT3 (m 94 20).toInt (m 94 23).toInt (m 94 24).toInt (m 94 25).toInt (m 94 26).toInt (m 96) (m 94 4).toInt ∧ qT6 (m 94 20).toInt (m 94 21).toInt (m 94 28).toInt (m 94 29).toInt (m 96) (m 94 4).toInt) from by first | (intro w; exfalso; omega; done) | (exfalso; omega; done) | (exfalso; contradiction; done))
        · skip
          have g33 := i_ne h29
          have li34 : (112 : Int32).toInt = 112 := rfl
          have li35 : (105 : Int32).toInt = 105 := rfl
          have li36 : (99 : Int32).toInt = 99 := rfl
          have li37 : (116 : Int32).toInt = 116 := rfl
          have li38 : (117 : Int32).toInt = 117 := rfl
          have li39 : (114 : Int32).toInt = 114 := rfl
          have li40 : (101 : Int32).toInt = 101 := rfl
          refine sp_175n ((112 : Int32)) ((105 : Int32)) ((99 : Int32)) ((116 : Int32)) ((117 : Int32)) ((114 : Int32)) ((101 : Int32)) hV_m3 (show (m3 94 68).toInt + (m3 94 69).toInt ≤ 100 from by omega) (fun v6 m5 hV_m5 hb_m5 p0_m5 => zmi_n ?_)
          have p0_m5 : zZW v6 (zwd (m 96) (m3 94 68) (m3 94 69).toInt (112 : Int32) (105 : Int32) (99 : Int32) (116 : Int32) (117 : Int32) (114 : Int32) (101 : Int32)) := p0_m5
          have f41 := i_01 hb_m5
          have hg42 : (v6 = 0 ∨ v6 = 1) := (i_bool (by omega) (by omega))
          refine ⟨hg42, ?_⟩
          refine zd (fun (h43 : v6 = (0 : Int32)) => ?_) (fun (h43 : ¬ v6 = (0 : Int32)) => ?_)
          · skip
            have g44 := i_eq h43
            have li45 : (110 : Int32).toInt = 110 := rfl
            have li46 : (119 : Int32).toInt = 119 := rfl
            have li47 : (115 : Int32).toInt = 115 := rfl
            have hV48 : zV (ma_u (zov wr_175 (zov wr_173 (ma_u (zov wr_177 m m1) 94 27 (m1 94 71)) m3) m5) 94 30 v6) := us_94_30 hV_m5 (by omega) (by omega)
            refine sp_175n ((110 : Int32)) ((101 : Int32)) ((119 : Int32)) ((115 : Int32)) ((0 : Int32)) ((0 : Int32)) ((0 : Int32)) hV48 (show (m3 94 68).toInt + (m3 94 69).toInt ≤ 100 from by omega) (fun v8 m7 hV_m7 hb_m7 p0_m7 => zmi_n ?_)
            have p0_m7 : zZW v8 (zwd (m 96) (m3 94 68) (m3 94 69).toInt (110 : Int32) (101 : Int32) (119 : Int32) (115 : Int32) (0 : Int32) (0 : Int32) (0 : Int32)) := p0_m7
            have f49 := i_01 hb_m7
            refine zd (fun (h50 : v8 = (0 : Int32)) => ?_) (fun (h50 : ¬ v8 = (0 : Int32)) => ?_)
            · skip
              have g51 := i_eq h50
              have hV52 : zV (ma_u (zov wr_175 (ma_u (zov wr_175 (zov wr_173 (ma_u (zov wr_177 m m1) 94 27 (m1 94 71)) m3) m5) 94 30 v6) m7) 94 70 (m3 94 68)) := us_94_70 hV_m7 (by omega) (by omega)
              have f53 : 0 ≤ (m 94 28).toInt ∧ (m 94 28).toInt ≤ 256 := rs_94_28 (m := m) hV
              exact K ((0 : Int32)) _ (zF_u (zF_zov (zF_u (zF_zov (zF_zov (zF_u (zF_zov hF ws_177_172) rfl) ws_173_172) ws_175_172) rfl) ws_175_172) rfl) hV52 (by decide) (show 0 ≤ (m1 94 71).toInt from by omega) (show (0 : Int32).toInt = 0 ∨ (0 ≤ (m 94 20).toInt ∧ ((m 94 20).toInt ≠ 3 ∨ (4 ≤ (m 94 26).toInt ∧ 16 ≤ (m 94 23).toInt ∧ 16 ≤ (m 94 24).toInt)) ∧ ((m 94 20).toInt = 3 ∨ 16 ≤ (m 94 21).toInt) ∧ ((m 94 20).toInt ≠ 6 ∨ (16 ≤ (m 94 28).toInt ∧ 4 * (m 94 28).toInt ≤ (m 94 21).toInt))) from by omega) (show zRPr (0 : Int32) (m3 94 68).toInt (zAns (m 96) (m 94 4).toInt) (zJ5 (zAns (m 96) (m 94 4).toInt) (m 94 20).toInt (m 94 23).toInt (m 94 24).toInt (m 94 21).toInt (m 94 28).toInt) from by first | (exact Or.inl ⟨by omega, by have q := J23_3 (z := (m3 94 69).toInt) (J23_2 r_J2 (by omega) p4_m1 p5_m1 (NU_ok p6_m1 (by omega)) (by omega)) p3_m3 p4_m3 (by (unfold zBar; rw [if_neg (zno p0_m5 (by assumption)), if_neg (zno p0_m7 (by assumption))])) (by omega); omega⟩) | (exfalso; omega; done) | (exfalso; contradiction; done)) (show (0 : Int32).toInt ≠ 0 → ((m 94 20).toInt = qPo (m 96) (m 94 4).toInt ∧ ((m 94 20).toInt = 5 → qV (m 96) (m 94 4).toInt (m 94 21).toInt (m 94 22).toInt (m1 94 71).toInt v6) ∧ (((m 94 20).toInt = 0 ∨ (m 94 20).toInt = 4) → (m 94 21).toInt = zVal (m 96) (m 94 4).toInt 0 1 ∧ (m 94 22).toInt = zVal (m 96) (m 94 4).toInt 6 2)) ∧ (qT1 (m 94 20).toInt (m 94 21).toInt (m 96) (m 94 4).toInt ∧ qT3 (m 94 20).toInt (m 94 23).toInt (m 94 24).toInt (m 94 25).toInt (m 94 26).toInt (m 96) (m 94 4).toInt ∧ qT6 (m 94 20).toInt (m 94 21).toInt (m 94 28).toInt (m 94 29).toInt (m 96) (m 94 4).toInt) from by first | (intro w; exfalso; omega; done) | (exfalso; omega; done) | (exfalso; contradiction; done))
            · skip
              have g54 := i_ne h50
              exact lp_172qm_443 h0 K _ _  rfl (zF_zov (zF_u (zF_zov (zF_zov (zF_u (zF_zov hF ws_177_172) rfl) ws_173_172) ws_175_172) rfl) ws_175_172) hV_m7 (show 0 ≤ (m1 94 71).toInt from by omega) (show (m3 94 67).toInt ≤ (m 94 4).toInt from by omega) (show 0 ≤ (m 94 20).toInt ∧ ((m 94 20).toInt ≠ 3 ∨ (4 ≤ (m 94 26).toInt ∧ 16 ≤ (m 94 23).toInt ∧ 16 ≤ (m 94 24).toInt)) ∧ ((m 94 20).toInt = 3 ∨ 16 ≤ (m 94 21).toInt) from by omega) (show zJ3 (m 96) (m 94 4).toInt (m 94 20).toInt (m3 94 67).toInt (m 94 23).toInt (m 94 24).toInt (m 94 21).toInt from by first | (exact J23_4 (x := 1) (z := (m3 94 69).toInt) (J23_2 r_J2 (by omega) p4_m1 p5_m1 (NU_ok p6_m1 (by omega)) (by omega)) (by omega) p3_m3 p4_m3 (by (unfold zBar; rw [if_neg (zno p0_m5 (by assumption)), if_pos (zyes p0_m7 (by assumption))])) (by omega) (by omega)) | (exfalso; omega; done) | (exfalso; contradiction; done)) r_KP (show (m 94 20).toInt = 5 → qV (m 96) (m 94 4).toInt (m 94 21).toInt (m 94 22).toInt (m1 94 71).toInt v6 from by first | (intro w; have q2 := r_Q2 (Or.inr (Or.inr w)); have a3 : (m1 94 68).toInt = zts (m 96) (m 94 4).toInt 3 := zt_s p4_m1 rfl q2.2.2; have b3 : (m1 94 67).toInt = zte (m 96) (m 94 4).toInt 3 := zt_e p5_m1 a3; have a4 : (m3 94 68).toInt = zts (m 96) (m 94 4).toInt 4 := zt_s p3_m3 rfl b3; have b4 : (m3 94 67).toInt = zte (m 96) (m 94 4).toInt 4 := zt_e p4_m3 a4; have zb : zVal (m 96) (m 94 4).toInt 7 4 = 1 := ((zPart_bz (a := 0) (e := (m3 94 67).toInt) (s := (m3 94 68)) (T := (m 96)) (show (1 : Int) = zBar (m 96) (m3 94 68) (m3 94 69).toInt from by (unfold zBar; rw [if_neg (zno p0_m5 (by assumption)), if_pos (zyes p0_m7 (by assumption))])) (by omega)).trans (by rw [a4, b4]; rfl)).symm; exact ⟨q2.1, q2.2.1, (show (m1 94 71).toInt = zNum (m 96) (m1 94 68).toInt (m1 94 67).toInt 1 50 from (NU_ok p6_m1 (by omega))).trans (by rw [a3, b3]; rfl), Or.inr ⟨by assumption, zb⟩, by omega⟩; done) | (exfalso; omega; done) | (exfalso; contradiction; done)) (show ((m 94 20).toInt = 0 ∨ (m 94 20).toInt = 4) → (m 94 21).toInt = zVal (m 96) (m 94 4).toInt 0 1 ∧ (m 94 22).toInt = zVal (m 96) (m 94 4).toInt 6 2 from by first | (intro w; exfalso; omega; done) | (exfalso; omega; done) | (exfalso; contradiction; done)) r_M1 r_M3 (show qTa (m 94 20).toInt (m 94 21).toInt (m3 94 67).toInt (m 96) (m 94 4).toInt from by first | (unfold qTa; intro w; exfalso; omega; done) | (exfalso; omega; done) | (exfalso; contradiction; done))
          · skip
            have g55 := i_ne h43
            have hV56 : zV (ma_u (zov wr_175 (zov wr_173 (ma_u (zov wr_177 m m1) 94 27 (m1 94 71)) m3) m5) 94 30 v6) := us_94_30 hV_m5 (by omega) (by omega)
            exact lp_172qm_443 h0 K _ _  rfl (zF_u (zF_zov (zF_zov (zF_u (zF_zov hF ws_177_172) rfl) ws_173_172) ws_175_172) rfl) hV56 (show 0 ≤ (m1 94 71).toInt from by omega) (show (m3 94 67).toInt ≤ (m 94 4).toInt from by omega) (show 0 ≤ (m 94 20).toInt ∧ ((m 94 20).toInt ≠ 3 ∨ (4 ≤ (m 94 26).toInt ∧ 16 ≤ (m 94 23).toInt ∧ 16 ≤ (m 94 24).toInt)) ∧ ((m 94 20).toInt = 3 ∨ 16 ≤ (m 94 21).toInt) from by omega) (show zJ3 (m 96) (m 94 4).toInt (m 94 20).toInt (m3 94 67).toInt (m 94 23).toInt (m 94 24).toInt (m 94 21).toInt from by first | (exact J23_4 (x := 0) (z := (m3 94 69).toInt) (J23_2 r_J2 (by omega) p4_m1 p5_m1 (NU_ok p6_m1 (by omega)) (by omega)) (by omega) p3_m3 p4_m3 (by (unfold zBar; rw [if_pos (zyes p0_m5 (by assumption))])) (by omega) (by omega)) | (exfalso; omega; done) | (exfalso; contradiction; done)) r_KP (show (m 94 20).toInt = 5 → qV (m 96) (m 94 4).toInt (m 94 21).toInt (m 94 22).toInt (m1 94 71).toInt v6 from by first | (intro w; have q2 := r_Q2 (Or.inr (Or.inr w)); have a3 : (m1 94 68).toInt = zts (m 96) (m 94 4).toInt 3 := zt_s p4_m1 rfl q2.2.2; have b3 : (m1 94 67).toInt = zte (m 96) (m 94 4).toInt 3 := zt_e p5_m1 a3; have a4 : (m3 94 68).toInt = zts (m 96) (m 94 4).toInt 4 := zt_s p3_m3 rfl b3; have b4 : (m3 94 67).toInt = zte (m 96) (m 94 4).toInt 4 := zt_e p4_m3 a4; have zb : zVal (m 96) (m 94 4).toInt 7 4 = 0 := ((zPart_bz (a := 0) (e := (m3 94 67).toInt) (s := (m3 94 68)) (T := (m 96)) (show (0 : Int) = zBar (m 96) (m3 94 68) (m3 94 69).toInt from by (unfold zBar; rw [if_pos (zyes p0_m5 (by assumption))])) (by omega)).trans (by rw [a4, b4]; rfl)).symm; exact ⟨q2.1, q2.2.1, (show (m1 94 71).toInt = zNum (m 96) (m1 94 68).toInt (m1 94 67).toInt 1 50 from (NU_ok p6_m1 (by omega))).trans (by rw [a3, b3]; rfl), Or.inl ⟨by assumption, zb⟩, by omega⟩; done) | (exfalso; omega; done) | (exfalso; contradiction; done)) (show ((m 94 20).toInt = 0 ∨ (m 94 20).toInt = 4) → (m 94 21).toInt = zVal (m 96) (m 94 4).toInt 0 1 ∧ (m 94 22).toInt = zVal (m 96) (m 94 4).toInt 6 2 from by first | (intro w; exfalso; omega; done) | (exfalso; omega; done) | (exfalso; contradiction; done)) r_M1 r_M3 (show qTa (m 94 20).toInt (m 94 21).toInt (m3 94 67).toInt (m 96) (m 94 4).toInt from by first | (unfold qTa; intro w; exfalso; omega; done) | (exfalso; omega; done) | (exfalso; contradiction; done))
    · skip
      have g57 := i_ne h10
      exact lp_172qm_443 h0 K _ _  rfl hF hV (show 0 ≤ (m 94 27).toInt from by omega) (show (m 94 67).toInt ≤ (m 94 4).toInt from by omega) (show 0 ≤ (m 94 20).toInt ∧ ((m 94 20).toInt ≠ 3 ∨ (4 ≤ (m 94 26).toInt ∧ 16 ≤ (m 94 23).toInt ∧ 16 ≤ (m 94 24).toInt)) ∧ ((m 94 20).toInt = 3 ∨ 16 ≤ (m 94 21).toInt) from by omega) (show zJ3 (m 96) (m 94 4).toInt (m 94 20).toInt (m 94 67).toInt (m 94 23).toInt (m 94 24).toInt (m 94 21).toInt from by first | (exact J23_n r_J2 (by omega)) | (exfalso; omega; done) | (exfalso; contradiction; done)) r_KP (show (m 94 20).toInt = 5 → qV (m 96) (m 94 4).toInt (m 94 21).toInt (m 94 22).toInt (m 94 27).toInt (m 94 30) from by first | (intro w; exfalso; omega; done) | (exfalso; omega; done) | (exfalso; contradiction; done)) (show ((m 94 20).toInt = 0 ∨ (m 94 20).toInt = 4) → (m 94 21).toInt = zVal (m 96) (m 94 4).toInt 0 1 ∧ (m 94 22).toInt = zVal (m 96) (m 94 4).toInt 6 2 from by first | (intro w; have q2 := r_Q2 (w.elim Or.inl (fun z => Or.inr (Or.inl z))); exact ⟨q2.1, q2.2.1⟩; done) | (exfalso; omega; done) | (exfalso; contradiction; done)) r_M1 r_M3 r_Ma
set_option maxHeartbeats 8000000 in
theorem lp_172qm_311 {X : Nat × (Nat → Int32)} {P : Option ma_V → (Nat → Nat → Int32) → Prop} {m0 : Nat → Nat → Int32} (h0 : zV m0) (K : ∀ v m₉, zF wr_172 m0 m₉ → zV m₉ → (v = 0 ∨ v = 1) → (0 ≤ (m₉ 94 27).toInt) → (v.toInt = 0 ∨ (0 ≤ (m₉ 94 20).toInt ∧ ((m₉ 94 20).toInt ≠ 3 ∨ (4 ≤ (m₉ 94 26).toInt ∧ 16 ≤ (m₉ 94 23).toInt ∧ 16 ≤ (m₉ 94 24).toInt)) ∧ ((m₉ 94 20).toInt = 3 ∨ 16 ≤ (m₉ 94 21).toInt) ∧ ((m₉ 94 20).toInt ≠ 6 ∨ (16 ≤ (m₉ 94 28).toInt ∧ 4 * (m₉ 94 28).toInt ≤ (m₉ 94 21).toInt)))) → (zRPr v (m₉ 94 70).toInt (zAns (m₉ 96) (m₉ 94 4).toInt) (zJ5 (zAns (m₉ 96) (m₉ 94 4).toInt) (m₉ 94 20).toInt (m₉ 94 23).toInt (m₉ 94 24).toInt (m₉ 94 21).toInt (m₉ 94 28).toInt)) → (v.toInt ≠ 0 → ((m₉ 94 20).toInt = qPo (m₉ 96) (m₉ 94 4).toInt ∧ ((m₉ 94 20).toInt = 5 → qV (m₉ 96) (m₉ 94 4).toInt (m₉ 94 21).toInt (m₉ 94 22).toInt (m₉ 94 27).toInt (m₉ 94 30)) ∧ (((m₉ 94 20).toInt = 0 ∨ (m₉ 94 20).toInt = 4) → (m₉ 94 21).toInt = zVal (m₉ 96) (m₉ 94 4).toInt 0 1 ∧ (m₉ 94 22).toInt = zVal (m₉ 96) (m₉ 94 4).toInt 6 2)) ∧ (qT1 (m₉ 94 20).toInt (m₉ 94 21).toInt (m₉ 96) (m₉ 94 4).toInt ∧ qT3 (m₉ 94 20).toInt (m₉ 94 23).toInt (m₉ 94 24).toInt (m₉ 94 25).toInt (m₉ 94 26).toInt (m₉ 96) (m₉ 94 4).toInt ∧ qT6 (m₉ 94 20).toInt (m₉ 94 21).toInt (m₉ 94 28).toInt (m₉ 94 29).toInt (m₉ 96) (m₉ 94 4).toInt)) → P (some (.inl v)) m₉) : ∀ (n : Nat) (m : Nat → Nat → Int32) , ((0 : Int)).toNat = n → zF wr_172 m0 m → zV m → (0 ≤ (m 94 27).toInt) → ((m 94 67).toInt ≤ (m 94 4).toInt) → (0 ≤ (m 94 20).toInt ∧ ((m 94 20).toInt ≠ 3 ∨ (4 ≤ (m 94 26).toInt ∧ 16 ≤ (m 94 23).toInt ∧ 16 ≤ (m 94 24).toInt)) ∧ ((m 94 20).toInt = 3 ∨ 16 ≤ (m 94 21).toInt)) → (zJ1 (m 96) (m 94 4).toInt (m 94 20).toInt (m 94 67).toInt (m 94 23).toInt (m 94 24).toInt (m 94 21).toInt) → ((m 94 20).toInt = qPo (m 96) (m 94 4).toInt) → (((m 94 20).toInt = 0 ∨ (m 94 20).toInt = 4 ∨ (m 94 20).toInt = 5) → (m 94 21).toInt = zVal (m 96) (m 94 4).toInt 0 1 ∧ (m 94 67).toInt = zte (m 96) (m 94 4).toInt 1) → (qT1 (m 94 20).toInt (m 94 21).toInt (m 96) (m 94 4).toInt) → (qT3 (m 94 20).toInt (m 94 23).toInt (m 94 24).toInt (m 94 25).toInt (m 94 26).toInt (m 96) (m 94 4).toInt) → (qTa (m 94 20).toInt (m 94 21).toInt (m 94 67).toInt (m 96) (m 94 4).toInt) → zm X 3 70 172 311 [(0, .inr (.inr (some 94)))] m P := by
  intro n
  induction n using Nat.strongRecOn with
  | _ n IH =>
    intro m  hmu hF hV hi0 hi1 hi2 r_J1 r_KP r_Q1 r_M1 r_M3 r_Ma
    refine g_172_311  ?_
    have b1 := i_bd (m 94 27)
    have f2 : 0 ≤ (m 94 67).toInt ∧ (m 94 67).toInt ≤ 100 := rs_94_67 (m := m) hV
    have f3 : 0 ≤ (m 94 4).toInt ∧ (m 94 4).toInt ≤ 100 := rs_94_4 (m := m) hV
    have f4 : -1 ≤ (m 94 20).toInt ∧ (m 94 20).toInt ≤ 6 := rs_94_20 (m := m) hV
    have f5 : 0 ≤ (m 94 26).toInt ∧ (m 94 26).toInt ≤ 64 := rs_94_26 (m := m) hV
    have f6 : 0 ≤ (m 94 23).toInt ∧ (m 94 23).toInt ≤ 1500 := rs_94_23 (m := m) hV
    have f7 : 0 ≤ (m 94 24).toInt ∧ (m 94 24).toInt ≤ 1500 := rs_94_24 (m := m) hV
    have f8 : 0 ≤ (m 94 21).toInt ∧ (m 94 21).toInt ≤ 1500 := rs_94_21 (m := m) hV
    have li9 : (0 : Int32).toInt = 0 := rfl
    refine zd (fun (h10 : (m 94 20) = (0 : Int32)) => ?_) (fun (h10 : ¬ (m 94 20) = (0 : Int32)) => ?_)
    · skip
      have g11 := i_eq h10
      refine sp_179n  hV (show (m 94 67).toInt ≤ (m 94 4).toInt from by omega) (fun v2 m1 hV_m1 hb_m1 p0_m1 p1_m1 p2_m1 p3_m1 p4_m1 => zmi_n ?_)
      have p0_m1 : (m1 94 67).toInt ≤ (m 94 4).toInt := p0_m1
      have p1_m1 : (m1 94 68).toInt + (m1 94 69).toInt = (m1 94 67).toInt := p1_m1
      have p2_m1 : (m1 94 68).toInt = tk true (m 96) (m 94 4).toInt (m 94 67).toInt := p2_m1
      have p3_m1 : (m1 94 67).toInt = tk false (m 96) (m 94 4).toInt (m1 94 68).toInt := p3_m1
      have p4_m1 : zFO v2 (m1 94 22).toInt (zForm (m 96) (m1 94 68) (m1 94 69).toInt) (m1 94 70).toInt (m1 94 68).toInt := p4_m1
      have f12 : 0 ≤ (m1 94 67).toInt ∧ (m1 94 67).toInt ≤ 100 := rs_94_67 (m := (zov wr_179 m m1)) hV_m1
      have f13 : 0 ≤ (m1 94 68).toInt ∧ (m1 94 68).toInt ≤ 100 := rs_94_68 (m := (zov wr_179 m m1)) hV_m1
      have f14 : 0 ≤ (m1 94 69).toInt ∧ (m1 94 69).toInt ≤ 100 := rs_94_69 (m := (zov wr_179 m m1)) hV_m1
      have f15 := i_01 hb_m1
      refine zd (fun (h16 : v2 = (0 : Int32)) => ?_) (fun (h16 : ¬ v2 = (0 : Int32)) => ?_)
      · skip
        have g17 := i_eq h16
        have f18 : 0 ≤ (m 94 28).toInt ∧ (m 94 28).toInt ≤ 256 := rs_94_28 (m := m) hV
        exact K ((0 : Int32)) _ (zF_zov hF ws_179_172) hV_m1 (by decide) (show 0 ≤ (m 94 27).toInt from by omega) (show (0 : Int32).toInt = 0 ∨ (0 ≤ (m 94 20).toInt ∧ ((m 94 20).toInt ≠ 3 ∨ (4 ≤ (m 94 26).toInt ∧ 16 ≤ (m 94 23).toInt ∧ 16 ≤ (m 94 24).toInt)) ∧ ((m 94 20).toInt = 3 ∨ 16 ≤ (m 94 21).toInt) ∧ ((m 94 20).toInt ≠ 6 ∨ (16 ≤ (m 94 28).toInt ∧ 4 * (m 94 28).toInt ≤ (m 94 21).toInt))) from by omega) (show zRPr (0 : Int32) (m1 94 70).toInt (zAns (m 96) (m 94 4).toInt) (zJ5 (zAns (m 96) (m 94 4).toInt) (m 94 20).toInt (m 94 23).toInt (m 94 24).toInt (m 94 21).toInt (m 94 28).toInt) from by first | (exact Or.inl ⟨by omega, by have q := J12_b r_J1 (by omega) p2_m1 p3_m1 (FO_no p4_m1 (by omega)) (by omega); have y := (FO_br p4_m1 (by omega)); omega⟩) | (exfalso; omega; done) | (exfalso; contradiction; done)) (show (0 : Int32).toInt ≠ 0 → ((m 94 20).toInt = qPo (m 96) (m 94 4).toInt ∧ ((m 94 20).toInt = 5 → qV (m 96) (m 94 4).toInt (m 94 21).toInt (m1 94 22).toInt (m 94 27).toInt (m 94 30)) ∧ (((m 94 20).toInt = 0 ∨ (m 94 20).toInt = 4) → (m 94 21).toInt = zVal (m 96) (m 94 4).toInt 0 1 ∧ (m1 94 22).toInt = zVal (m 96) (m 94 4).toInt 6 2)) ∧ (qT1 (m 94 20).toInt (m 94 21).toInt (m 96) (m 94 4).toInt ∧ qT3 (m 94 20).toInt (m 94 23).toInt (m 94 24).toInt (m 94 25).toInt (m 94 26).toInt (m 96) (m 94 4).toInt ∧ qT6 (m 94 20).toInt (m 94 21).toInt (m 94 28).toInt (m 94 29).toInt (m 96) (m 94 4).toInt) from by first | (intro w; exfalso; omega; done) | (exfalso; omega; done) | (exfalso; contradiction; done))
      · skip
        have g19 := i_ne h16
        exact lp_172qm_343 h0 K _ _  rfl (zF_zov hF ws_179_172) hV_m1 (show 0 ≤ (m 94 27).toInt from by omega) (show (m1 94 67).toInt ≤ (m 94 4).toInt from by omega) (show 0 ≤ (m 94 20).toInt ∧ ((m 94 20).toInt ≠ 3 ∨ (4 ≤ (m 94 26).toInt ∧ 16 ≤ (m 94 23).toInt ∧ 16 ≤ (m 94 24).toInt)) ∧ ((m 94 20).toInt = 3 ∨ 16 ≤ (m 94 21).toInt) from by omega) (show zJ2 (m 96) (m 94 4).toInt (m 94 20).toInt (m1 94 67).toInt (m 94 23).toInt (m 94 24).toInt (m 94 21).toInt from by first | (exact J12_f r_J1 (by omega) p2_m1 p3_m1 (FO_ok p4_m1 (by omega)).1 (by omega) (by have y := (FO_ok p4_m1 (by omega)).2; omega)) | (exfalso; omega; done) | (exfalso; contradiction; done)) r_KP (show ((m 94 20).toInt = 0 ∨ (m 94 20).toInt = 4 ∨ (m 94 20).toInt = 5) → (m 94 21).toInt = zVal (m 96) (m 94 4).toInt 0 1 ∧ (m1 94 22).toInt = zVal (m 96) (m 94 4).toInt 6 2 ∧ (m1 94 67).toInt = zte (m 96) (m 94 4).toInt 2 from by first | (intro w; have q1 := r_Q1 w; have a2 : (m1 94 68).toInt = zts (m 96) (m 94 4).toInt 2 := zt_s p2_m1 rfl q1.2; have b2 : (m1 94 67).toInt = zte (m 96) (m 94 4).toInt 2 := zt_e p3_m1 a2; exact ⟨q1.1, (zPart_fz (a := 0) (e := (m1 94 67).toInt) (FO_ok p4_m1 (by omega)).1 (by omega)).trans (by rw [a2, b2]; rfl), b2⟩; done) | (exfalso; omega; done) | (exfalso; contradiction; done)) r_M1 r_M3 (show qTa (m 94 20).toInt (m 94 21).toInt (m1 94 67).toInt (m 96) (m 94 4).toInt from by first | (unfold qTa; intro w; exfalso; omega; done) | (exfalso; omega; done) | (exfalso; contradiction; done))
    · skip
      have g20 := i_ne h10
      have li21 : (4 : Int32).toInt = 4 := rfl
      refine zd (fun (h22 : (m 94 20) = (4 : Int32)) => ?_) (fun (h22 : ¬ (m 94 20) = (4 : Int32)) => ?_)
      · skip
        have g23 := i_eq h22
        refine sp_179n  hV (show (m 94 67).toInt ≤ (m 94 4).toInt from by omega) (fun v4 m3 hV_m3 hb_m3 p0_m3 p1_m3 p2_m3 p3_m3 p4_m3 => zmi_n ?_)
        have p0_m3 : (m3 94 67).toInt ≤ (m 94 4).toInt := p0_m3
        have p1_m3 : (m3 94 68).toInt + (m3 94 69).toInt = (m3 94 67).toInt := p1_m3
        have p2_m3 : (m3 94 68).toInt = tk true (m 96) (m 94 4).toInt (m 94 67).toInt := p2_m3
        have p3_m3 : (m3 94 67).toInt = tk false (m 96) (m 94 4).toInt (m3 94 68).toInt := p3_m3
        have p4_m3 : zFO v4 (m3 94 22).toInt (zForm (m 96) (m3 94 68) (m3 94 69).toInt) (m3 94 70).toInt (m3 94 68).toInt := p4_m3
        have f24 : 0 ≤ (m3 94 67).toInt ∧ (m3 94 67).toInt ≤ 100 := rs_94_67 (m := (zov wr_179 m m3)) hV_m3
        have f25 : 0 ≤ (m3 94 68).toInt ∧ (m3 94 68).toInt ≤ 100 := rs_94_68 (m := (zov wr_179 m m3)) hV_m3
        have f26 : 0 ≤ (m3 94 69).toInt ∧ (m3 94 69).toInt ≤ 100 := rs_94_69 (m := (zov wr_179 m m3)) hV_m3
        have f27 := i_01 hb_m3
        refine zd (fun (h28 : v4 = (0 : Int32)) => ?_) (fun (h28 : ¬ v4 = (0 : Int32)) => ?_)
        · skip
          have g29 := i_eq h28
          have f30 : 0 ≤ (m 94 28).toInt ∧ (m 94 28).toInt ≤ 256 := rs_94_28 (m := m) hV
          exact K ((0 : Int32)) _ (zF_zov hF ws_179_172) hV_m3 (by decide) (show 0 ≤ (m 94 27).toInt from by omega) (show (0 : Int32).toInt = 0 ∨ (0 ≤ (m 94 20).toInt ∧ ((m 94 20).toInt ≠ 3 ∨ (4 ≤ (m 94 26).toInt ∧ 16 ≤ (m 94 23).toInt ∧ 16 ≤ (m 94 24).toInt)) ∧ ((m 94 20).toInt = 3 ∨ 16 ≤ (m 94 21).toInt) ∧ ((m 94 20).toInt ≠ 6 ∨ (16 ≤ (m 94 28).toInt ∧ 4 * (m 94 28).toInt ≤ (m 94 21).toInt))) from by omega) (show zRPr (0 : Int32) (m3 94 70).toInt (zAns (m 96) (m 94 4).toInt) (zJ5 (zAns (m 96) (m 94 4).toInt) (m 94 20).toInt (m 94 23).toInt (m 94 24).toInt (m 94 21).toInt (m 94 28).toInt) from by first | (exact Or.inl ⟨by omega, by have q := J12_b r_J1 (by omega) p2_m3 p3_m3 (FO_no p4_m3 (by omega)) (by omega); have y := (FO_br p4_m3 (by omega)); omega⟩) | (exfalso; omega; done) | (exfalso; contradiction; done)) (show (0 : Int32).toInt ≠ 0 → ((m 94 20).toInt = qPo (m 96) (m 94 4).toInt ∧ ((m 94 20).toInt = 5 → qV (m 96) (m 94 4).toInt (m 94 21).toInt (m3 94 22).toInt (m 94 27).toInt (m 94 30)) ∧ (((m 94 20).toInt = 0 ∨ (m 94 20).toInt = 4) → (m 94 21).toInt = zVal (m 96) (m 94 4).toInt 0 1 ∧ (m3 94 22).toInt = zVal (m 96) (m 94 4).toInt 6 2)) ∧ (qT1 (m 94 20).toInt (m 94 21).toInt (m 96) (m 94 4).toInt ∧ qT3 (m 94 20).toInt (m 94 23).toInt (m 94 24).toInt (m 94 25).toInt (m 94 26).toInt (m 96) (m 94 4).toInt ∧ qT6 (m 94 20).toInt (m 94 21).toInt (m 94 28).toInt (m 94 29).toInt (m 96) (m 94 4).toInt) from by first | (intro w; exfalso; omega; done) | (exfalso; omega; done) | (exfalso; contradiction; done))
        · skip
          have g31 := i_ne h28
          exact lp_172qm_343 h0 K _ _  rfl (zF_zov hF ws_179_172) hV_m3 (show 0 ≤ (m 94 27).toInt from by omega) (show (m3 94 67).toInt ≤ (m 94 4).toInt from by omega) (show 0 ≤ (m 94 20).toInt ∧ ((m 94 20).toInt ≠ 3 ∨ (4 ≤ (m 94 26).toInt ∧ 16 ≤ (m 94 23).toInt ∧ 16 ≤ (m 94 24).toInt)) ∧ ((m 94 20).toInt = 3 ∨ 16 ≤ (m 94 21).toInt) from by omega) (show zJ2 (m 96) (m 94 4).toInt (m 94 20).toInt (m3 94 67).toInt (m 94 23).toInt (m 94 24).toInt (m 94 21).toInt from by first | (exact J12_f r_J1 (by omega) p2_m3 p3_m3 (FO_ok p4_m3 (by omega)).1 (by omega) (by have y := (FO_ok p4_m3 (by omega)).2; omega)) | (exfalso; omega; done) | (exfalso; contradiction; done)) r_KP (show ((m 94 20).toInt = 0 ∨ (m 94 20).toInt = 4 ∨ (m 94 20).toInt = 5) → (m 94 21).toInt = zVal (m 96) (m 94 4).toInt 0 1 ∧ (m3 94 22).toInt = zVal (m 96) (m 94 4).toInt 6 2 ∧ (m3 94 67).toInt = zte (m 96) (m 94 4).toInt 2 from by first | (intro w; have q1 := r_Q1 w; have a2 : (m3 94 68).toInt = zts (m 96) (m 94 4).toInt 2 := zt_s p2_m3 rfl q1.2; have b2 : (m3 94 67).toInt = zte (m 96) (m 94 4).toInt 2 := zt_e p3_m3 a2; exact ⟨q1.1, (zPart_fz (a := 0) (e := (m3 94 67).toInt) (FO_ok p4_m3 (by omega)).1 (by omega)).trans (by rw [a2, b2]; rfl), b2⟩; done) | (exfalso; omega; done) | (exfalso; contradiction; done)) r_M1 r_M3 (show qTa (m 94 20).toInt (m 94 21).toInt (m3 94 67).toInt (m 96) (m 94 4).toInt from by first | (unfold qTa; intro w; exfalso; omega; done) | (exfalso; omega; done) | (exfalso; contradiction; done))
      · skip
        have g32 := i_ne h22
        have li33 : (5 : Int32).toInt = 5 := rfl
        refine zd (fun (h34 : (m 94 20) = (5 : Int32)) => ?_) (fun (h34 : ¬ (m 94 20) = (5 : Int32)) => ?_)
        · skip
          have g35 := i_eq h34
          refine sp_179n  hV (show (m 94 67).toInt ≤ (m 94 4).toInt from by omega) (fun v6 m5 hV_m5 hb_m5 p0_m5 p1_m5 p2_m5 p3_m5 p4_m5 => zmi_n ?_)
          have p0_m5 : (m5 94 67).toInt ≤ (m 94 4).toInt := p0_m5
          have p1_m5 : (m5 94 68).toInt + (m5 94 69).toInt = (m5 94 67).toInt := p1_m5
          have p2_m5 : (m5 94 68).toInt = tk true (m 96) (m 94 4).toInt (m 94 67).toInt := p2_m5
          have p3_m5 : (m5 94 67).toInt = tk false (m 96) (m 94 4).toInt (m5 94 68).toInt := p3_m5
          have p4_m5 : zFO v6 (m5 94 22).toInt (zForm (m 96) (m5 94 68) (m5 94 69).toInt) (m5 94 70).toInt (m5 94 68).toInt := p4_m5
          have f36 : 0 ≤ (m5 94 67).toInt ∧ (m5 94 67).toInt ≤ 100 := rs_94_67 (m := (zov wr_179 m m5)) hV_m5
          have f37 : 0 ≤ (m5 94 68).toInt ∧ (m5 94 68).toInt ≤ 100 := rs_94_68 (m := (zov wr_179 m m5)) hV_m5
          have f38 : 0 ≤ (m5 94 69).toInt ∧ (m5 94 69).toInt ≤ 100 := rs_94_69 (m := (zov wr_179 m m5)) hV_m5
          have f39 := i_01 hb_m5
          refine zd (fun (h40 : v6 = (0 : Int32)) => ?_) (fun (h40 : ¬ v6 = (0 : Int32)) => ?_)
          · skip
            have g41 := i_eq h40
            have f42 : 0 ≤ (m 94 28).toInt ∧ (m 94 28).toInt ≤ 256 := rs_94_28 (m := m) hV
            exact K ((0 : Int32)) _ (zF_zov hF ws_179_172) hV_m5 (by decide) (show 0 ≤ (m 94 27).toInt from by omega) (show (0 : Int32).toInt = 0 ∨ (0 ≤ (m 94 20).toInt ∧ ((m 94 20).toInt ≠ 3 ∨ (4 ≤ (m 94 26).toInt ∧ 16 ≤ (m 94 23).toInt ∧ 16 ≤ (m 94 24).toInt)) ∧ ((m 94 20).toInt = 3 ∨ 16 ≤ (m 94 21).toInt) ∧ ((m 94 20).toInt ≠ 6 ∨ (16 ≤ (m 94 28).toInt ∧ 4 * (m 94 28).toInt ≤ (m 94 21).toInt))) from by omega) (show zRPr (0 : Int32) (m5 94 70).toInt (zAns (m 96) (m 94 4).toInt) (zJ5 (zAns (m 96) (m 94 4).toInt) (m 94 20).toInt (m 94 23).toInt (m 94 24).toInt (m 94 21).toInt (m 94 28).toInt) from by first | (exact Or.inl ⟨by omega, by have q := J12_b r_J1 (by omega) p2_m5 p3_m5 (FO_no p4_m5 (by omega)) (by omega); have y := (FO_br p4_m5 (by omega)); omega⟩) | (exfalso; omega; done) | (exfalso; contradiction; done)) (show (0 : Int32).toInt ≠ 0 → ((m 94 20).toInt = qPo (m 96) (m 94 4).toInt ∧ ((m 94 20).toInt = 5 → qV (m 96) (m 94 4).toInt (m 94 21).toInt (m5 94 22).toInt (m 94 27).toInt (m 94 30)) ∧ (((m 94 20).toInt = 0 ∨ (m 94 20).toInt = 4) → (m 94 21).toInt = zVal (m 96) (m 94 4).toInt 0 1 ∧ (m5 94 22).toInt = zVal (m 96) (m 94 4).toInt 6 2)) ∧ (qT1 (m 94 20).toInt (m 94 21).toInt (m 96) (m 94 4).toInt ∧ qT3 (m 94 20).toInt (m 94 23).toInt (m 94 24).toInt (m 94 25).toInt (m 94 26).toInt (m 96) (m 94 4).toInt ∧ qT6 (m 94 20).toInt (m 94 21).toInt (m 94 28).toInt (m 94 29).toInt (m 96) (m 94 4).toInt) from by first | (intro w; exfalso; omega; done) | (exfalso; omega; done) | (exfalso; contradiction; done))
          · skip
            have g43 := i_ne h40
            exact lp_172qm_343 h0 K _ _  rfl (zF_zov hF ws_179_172) hV_m5 (show 0 ≤ (m 94 27).toInt from by omega) (show (m5 94 67).toInt ≤ (m 94 4).toInt from by omega) (show 0 ≤ (m 94 20).toInt ∧ ((m 94 20).toInt ≠ 3 ∨ (4 ≤ (m 94 26).toInt ∧ 16 ≤ (m 94 23).toInt ∧ 16 ≤ (m 94 24).toInt)) ∧ ((m 94 20).toInt = 3 ∨ 16 ≤ (m 94 21).toInt) from by omega) (show zJ2 (m 96) (m 94 4).toInt (m 94 20).toInt (m5 94 67).toInt (m 94 23).toInt (m 94 24).toInt (m 94 21).toInt from by first | (exact J12_f r_J1 (by omega) p2_m5 p3_m5 (FO_ok p4_m5 (by omega)).1 (by omega) (by have y := (FO_ok p4_m5 (by omega)).2; omega)) | (exfalso; omega; done) | (exfalso; contradiction; done)) r_KP (show ((m 94 20).toInt = 0 ∨ (m 94 20).toInt = 4 ∨ (m 94 20).toInt = 5) → (m 94 21).toInt = zVal (m 96) (m 94 4).toInt 0 1 ∧ (m5 94 22).toInt = zVal (m 96) (m 94 4).toInt 6 2 ∧ (m5 94 67).toInt = zte (m 96) (m 94 4).toInt 2 from by first | (intro w; have q1 := r_Q1 w; have a2 : (m5 94 68).toInt = zts (m 96) (m 94 4).toInt 2 := zt_s p2_m5 rfl q1.2; have b2 : (m5 94 67).toInt = zte (m 96) (m 94 4).toInt 2 := zt_e p3_m5 a2; exact ⟨q1.1, (zPart_fz (a := 0) (e := (m5 94 67).toInt) (FO_ok p4_m5 (by omega)).1 (by omega)).trans (by rw [a2, b2]; rfl), b2⟩; done) | (exfalso; omega; done) | (exfalso; contradiction; done)) r_M1 r_M3 (show qTa (m 94 20).toInt (m 94 21).toInt (m5 94 67).toInt (m 96) (m 94 4).toInt from by first | (unfold qTa; intro w; exfalso; omega; done) | (exfalso; omega; done) | (exfalso; contradiction; done))
        · skip
          have g44 := i_ne h34
          exact lp_172qm_343 h0 K _ _  rfl hF hV (show 0 ≤ (m 94 27).toInt from by omega) (show (m 94 67).toInt ≤ (m 94 4).toInt from by omega) (show 0 ≤ (m 94 20).toInt ∧ ((m 94 20).toInt ≠ 3 ∨ (4 ≤ (m 94 26).toInt ∧ 16 ≤ (m 94 23).toInt ∧ 16 ≤ (m 94 24).toInt)) ∧ ((m 94 20).toInt = 3 ∨ 16 ≤ (m 94 21).toInt) from by omega) (show zJ2 (m 96) (m 94 4).toInt (m 94 20).toInt (m 94 67).toInt (m 94 23).toInt (m 94 24).toInt (m 94 21).toInt from by first | (exact J12_n r_J1 (by omega) (by omega) (by omega)) | (exfalso; omega; done) | (exfalso; contradiction; done)) r_KP (show ((m 94 20).toInt = 0 ∨ (m 94 20).toInt = 4 ∨ (m 94 20).toInt = 5) → (m 94 21).toInt = zVal (m 96) (m 94 4).toInt 0 1 ∧ (m 94 22).toInt = zVal (m 96) (m 94 4).toInt 6 2 ∧ (m 94 67).toInt = zte (m 96) (m 94 4).toInt 2 from by first | (intro w; exfalso; omega; done) | (exfalso; omega; done) | (exfalso; contradiction; done)) r_M1 r_M3 r_Ma
set_option maxHeartbeats 8000000 in
theorem lp_172qm_191 {X : Nat × (Nat → Int32)} {P : Option ma_V → (Nat → Nat → Int32) → Prop} {m0 : Nat → Nat → Int32} (h0 : zV m0) (K : ∀ v m₉, zF wr_172 m0 m₉ → zV m₉ → (v = 0 ∨ v = 1) → (0 ≤ (m₉ 94 27).toInt) → (v.toInt = 0 ∨ (0 ≤ (m₉ 94 20).toInt ∧ ((m₉ 94 20).toInt ≠ 3 ∨ (4 ≤ (m₉ 94 26).toInt ∧ 16 ≤ (m₉ 94 23).toInt ∧ 16 ≤ (m₉ 94 24).toInt)) ∧ ((m₉ 94 20).toInt = 3 ∨ 16 ≤ (m₉ 94 21).toInt) ∧ ((m₉ 94 20).toInt ≠ 6 ∨ (16 ≤ (m₉ 94 28).toInt ∧ 4 * (m₉ 94 28).toInt ≤ (m₉ 94 21).toInt)))) → (zRPr v (m₉ 94 70).toInt (zAns (m₉ 96) (m₉ 94 4).toInt) (zJ5 (zAns (m₉ 96) (m₉ 94 4).toInt) (m₉ 94 20).toInt (m₉ 94 23).toInt (m₉ 94 24).toInt (m₉ 94 21).toInt (m₉ 94 28).toInt)) → (v.toInt ≠ 0 → ((m₉ 94 20).toInt = qPo (m₉ 96) (m₉ 94 4).toInt ∧ ((m₉ 94 20).toInt = 5 → qV (m₉ 96) (m₉ 94 4).toInt (m₉ 94 21).toInt (m₉ 94 22).toInt (m₉ 94 27).toInt (m₉ 94 30)) ∧ (((m₉ 94 20).toInt = 0 ∨ (m₉ 94 20).toInt = 4) → (m₉ 94 21).toInt = zVal (m₉ 96) (m₉ 94 4).toInt 0 1 ∧ (m₉ 94 22).toInt = zVal (m₉ 96) (m₉ 94 4).toInt 6 2)) ∧ (qT1 (m₉ 94 20).toInt (m₉ 94 21).toInt (m₉ 96) (m₉ 94 4).toInt ∧ qT3 (m₉ 94 20).toInt (m₉ 94 23).toInt (m₉ 94 24).toInt (m₉ 94 25).toInt (m₉ 94 26).toInt (m₉ 96) (m₉ 94 4).toInt ∧ qT6 (m₉ 94 20).toInt (m₉ 94 21).toInt (m₉ 94 28).toInt (m₉ 94 29).toInt (m₉ 96) (m₉ 94 4).toInt)) → P (some (.inl v)) m₉) : ∀ (n : Nat) (m : Nat → Nat → Int32) , ((0 : Int)).toNat = n → zF wr_172 m0 m → zV m → (0 ≤ (m 94 27).toInt) → ((m 94 67).toInt ≤ (m 94 4).toInt) → ((m 94 68).toInt + (m 94 69).toInt = (m 94 67).toInt) → (-1 ≤ (m 94 20).toInt ∧ (m 94 20).toInt ≤ 6) → ((m 94 68).toInt = tk true (m 96) (m 94 4).toInt 0) → ((m 94 67).toInt = tk false (m 96) (m 94 4).toInt (m 94 68).toInt) → ((m 94 20).toInt = zPol (m 96) (m 94 68) (m 94 69).toInt) → zm X 3 70 172 191 [(0, .inr (.inr (some 94)))] m P := by
  intro n
  induction n using Nat.strongRecOn with
  | _ n IH =>
    intro m  hmu hF hV hi0 hi1 hi2 hi3 r_J0a r_J0b r_J0c
    refine g_172_191  ?_
    have b1 := i_bd (m 94 27)
    have f2 : 0 ≤ (m 94 67).toInt ∧ (m 94 67).toInt ≤ 100 := rs_94_67 (m := m) hV
    have f3 : 0 ≤ (m 94 4).toInt ∧ (m 94 4).toInt ≤ 100 := rs_94_4 (m := m) hV
    have f4 : 0 ≤ (m 94 68).toInt ∧ (m 94 68).toInt ≤ 100 := rs_94_68 (m := m) hV
    have f5 : 0 ≤ (m 94 69).toInt ∧ (m 94 69).toInt ≤ 100 := rs_94_69 (m := m) hV
    have f6 : -1 ≤ (m 94 20).toInt ∧ (m 94 20).toInt ≤ 6 := rs_94_20 (m := m) hV
    have li7 : (0 : Int32).toInt = 0 := rfl
    refine zd (fun (h8 : (0 : Int32) ≤ (m 94 20)) => ?_) (fun (h8 : ¬ (0 : Int32) ≤ (m 94 20)) => ?_)
    · skip
      have g9 := i_le h8
      have li10 : (3 : Int32).toInt = 3 := rfl
      refine zd (fun (h11 : (m 94 20) = (3 : Int32)) => ?_) (fun (h11 : ¬ (m 94 20) = (3 : Int32)) => ?_)
      · skip
        have g12 := i_eq h11
        have li13 : (16 : Int32).toInt = 16 := rfl
        have li14 : (1500 : Int32).toInt = 1500 := rfl
        refine sp_177n ((16 : Int32)) ((1500 : Int32)) hV (show (m 94 67).toInt ≤ (m 94 4).toInt from by omega) (fun v4 m3 hV_m3 hb_m3 p0_m3 p1_m3 p2_m3 p3_m3 p4_m3 p5_m3 p6_m3 => zmi_n ?_)
        have p0_m3 : (m3 94 67).toInt ≤ (m 94 4).toInt := p0_m3
        have p1_m3 : (m3 94 68).toInt + (m3 94 69).toInt ≤ 100 := p1_m3
        have p2_m3 : v4.toInt = 1 → (16 : Int32).toInt ≤ (m3 94 71).toInt ∧ (m3 94 71).toInt ≤ (1500 : Int32).toInt := p2_m3
        have p3_m3 : (m3 94 68).toInt + (m3 94 69).toInt = (m3 94 67).toInt := p3_m3
        have p4_m3 : (m3 94 68).toInt = tk true (m 96) (m 94 4).toInt (m 94 67).toInt := p4_m3
        have p5_m3 : (m3 94 67).toInt = tk false (m 96) (m 94 4).toInt (m3 94 68).toInt := p5_m3
        have p6_m3 : zNU v4 (m3 94 71).toInt (zNum (m 96) (m3 94 68).toInt (m3 94 67).toInt (16 : Int32).toInt (1500 : Int32).toInt) (m3 94 70).toInt (m3 94 68).toInt := p6_m3
        have f15 : 0 ≤ (m3 94 67).toInt ∧ (m3 94 67).toInt ≤ 100 := rs_94_67 (m := (zov wr_177 m m3)) hV_m3
        have f16 : 0 ≤ (m3 94 68).toInt ∧ (m3 94 68).toInt ≤ 100 := rs_94_68 (m := (zov wr_177 m m3)) hV_m3
        have f17 : 0 ≤ (m3 94 69).toInt ∧ (m3 94 69).toInt ≤ 100 := rs_94_69 (m := (zov wr_177 m m3)) hV_m3
        have b18 := i_bd (m3 94 71)
        have f19 := i_01 hb_m3
        refine zd (fun (h20 : v4 = (0 : Int32)) => ?_) (fun (h20 : ¬ v4 = (0 : Int32)) => ?_)
        · skip
          have g21 := i_eq h20
          have f22 : 0 ≤ (m 94 26).toInt ∧ (m 94 26).toInt ≤ 64 := rs_94_26 (m := m) hV
          have f23 : 0 ≤ (m 94 23).toInt ∧ (m 94 23).toInt ≤ 1500 := rs_94_23 (m := m) hV
          have f24 : 0 ≤ (m 94 24).toInt ∧ (m 94 24).toInt ≤ 1500 := rs_94_24 (m := m) hV
          have f25 : 0 ≤ (m 94 21).toInt ∧ (m 94 21).toInt ≤ 1500 := rs_94_21 (m := m) hV
          have f26 : 0 ≤ (m 94 28).toInt ∧ (m 94 28).toInt ≤ 256 := rs_94_28 (m := m) hV
          exact K ((0 : Int32)) _ (zF_zov hF ws_177_172) hV_m3 (by decide) (show 0 ≤ (m 94 27).toInt from by omega) (show (0 : Int32).toInt = 0 ∨ (0 ≤ (m 94 20).toInt ∧ ((m 94 20).toInt ≠ 3 ∨ (4 ≤ (m 94 26).toInt ∧ 16 ≤ (m 94 23).toInt ∧ 16 ≤ (m 94 24).toInt)) ∧ ((m 94 20).toInt = 3 ∨ 16 ≤ (m 94 21).toInt) ∧ ((m 94 20).toInt ≠ 6 ∨ (16 ≤ (m 94 28).toInt ∧ 4 * (m 94 28).toInt ≤ (m 94 21).toInt))) from by omega) (show zRPr (0 : Int32) (m3 94 70).toInt (zAns (m 96) (m 94 4).toInt) (zJ5 (zAns (m 96) (m 94 4).toInt) (m 94 20).toInt (m 94 23).toInt (m 94 24).toInt (m 94 21).toInt (m 94 28).toInt) from by first | (have q := (zAns_goz r_J0a r_J0b r_J0c (by omega) (by omega)); rw [show zPts (m 94 20).toInt = [0, 0, 1, 2] from by rw [show (m 94 20).toInt = 3 from by omega]; rfl] at q; have q2 := q.trans (zRun_badp (s := (m3 94 68)) (e := (m3 94 67).toInt) p4_m3 rfl p5_m3 (show zNum (m 96) (m3 94 68).toInt (m3 94 67).toInt 16 1500 = zPart _ _ _ _ _ from rfl) (NU_no p6_m3 (by omega))); exact Or.inl ⟨by omega, by have y := (NU_br p6_m3 (by omega)); omega⟩; done) | (exfalso; omega; done) | (exfalso; contradiction; done)) (show (0 : Int32).toInt ≠ 0 → ((m 94 20).toInt = qPo (m 96) (m 94 4).toInt ∧ ((m 94 20).toInt = 5 → qV (m 96) (m 94 4).toInt (m 94 21).toInt (m 94 22).toInt (m 94 27).toInt (m 94 30)) ∧ (((m 94 20).toInt = 0 ∨ (m 94 20).toInt = 4) → (m 94 21).toInt = zVal (m 96) (m 94 4).toInt 0 1 ∧ (m 94 22).toInt = zVal (m 96) (m 94 4).toInt 6 2)) ∧ (qT1 (m 94 20).toInt (m 94 21).toInt (m 96) (m 94 4).toInt ∧ qT3 (m 94 20).toInt (m 94 23).toInt (m 94 24).toInt (m 94 25).toInt (m 94 26).toInt (m 96) (m 94 4).toInt ∧ qT6 (m 94 20).toInt (m 94 21).toInt (m 94 28).toInt (m 94 29).toInt (m 96) (m 94 4).toInt) from by first | (intro w; exfalso; omega; done) | (exfalso; omega; done) | (exfalso; contradiction; done))
        · skip
          have g27 := i_ne h20
          have hV28 : zV (ma_u (zov wr_177 m m3) 94 23 (m3 94 71)) := us_94_23 hV_m3 (by omega) (by omega)
          refine sp_177n ((16 : Int32)) ((1500 : Int32)) hV28 (show (m3 94 67).toInt ≤ (m 94 4).toInt from by omega) (fun v6 m5 hV_m5 hb_m5 p0_m5 p1_m5 p2_m5 p3_m5 p4_m5 p5_m5 p6_m5 => zmi_n ?_)
          have p0_m5 : (m5 94 67).toInt ≤ (m 94 4).toInt := p0_m5
          have p1_m5 : (m5 94 68).toInt + (m5 94 69).toInt ≤ 100 := p1_m5
          have p2_m5 : v6.toInt = 1 → (16 : Int32).toInt ≤ (m5 94 71).toInt ∧ (m5 94 71).toInt ≤ (1500 : Int32).toInt := p2_m5
          have p3_m5 : (m5 94 68).toInt + (m5 94 69).toInt = (m5 94 67).toInt := p3_m5
          have p4_m5 : (m5 94 68).toInt = tk true (m 96) (m 94 4).toInt (m3 94 67).toInt := p4_m5
          have p5_m5 : (m5 94 67).toInt = tk false (m 96) (m 94 4).toInt (m5 94 68).toInt := p5_m5
          have p6_m5 : zNU v6 (m5 94 71).toInt (zNum (m 96) (m5 94 68).toInt (m5 94 67).toInt (16 : Int32).toInt (1500 : Int32).toInt) (m5 94 70).toInt (m5 94 68).toInt := p6_m5
          have f29 : 0 ≤ (m5 94 67).toInt ∧ (m5 94 67).toInt ≤ 100 := rs_94_67 (m := (zov wr_177 (ma_u (zov wr_177 m m3) 94 23 (m3 94 71)) m5)) hV_m5
          have f30 : 0 ≤ (m5 94 68).toInt ∧ (m5 94 68).toInt ≤ 100 := rs_94_68 (m := (zov wr_177 (ma_u (zov wr_177 m m3) 94 23 (m3 94 71)) m5)) hV_m5
          have f31 : 0 ≤ (m5 94 69).toInt ∧ (m5 94 69).toInt ≤ 100 := rs_94_69 (m := (zov wr_177 (ma_u (zov wr_177 m m3) 94 23 (m3 94 71)) m5)) hV_m5
          have b32 := i_bd (m5 94 71)
          have f33 := i_01 hb_m5
          refine zd (fun (h34 : v6 = (0 : Int32)) => ?_) (fun (h34 : ¬ v6 = (0 : Int32)) => ?_)
          · skip
            have g35 := i_eq h34
            have f36 : 0 ≤ (m 94 26).toInt ∧ (m 94 26).toInt ≤ 64 := rs_94_26 (m := m) hV
            have f37 : 0 ≤ (m 94 24).toInt ∧ (m 94 24).toInt ≤ 1500 := rs_94_24 (m := m) hV
            have f38 : 0 ≤ (m 94 21).toInt ∧ (m 94 21).toInt ≤ 1500 := rs_94_21 (m := m) hV
            have f39 : 0 ≤ (m 94 28).toInt ∧ (m 94 28).toInt ≤ 256 := rs_94_28 (m := m) hV
            exact K ((0 : Int32)) _ (zF_zov (zF_u (zF_zov hF ws_177_172) rfl) ws_177_172) hV_m5 (by decide) (show 0 ≤ (m 94 27).toInt from by omega) (show (0 : Int32).toInt = 0 ∨ (0 ≤ (m 94 20).toInt ∧ ((m 94 20).toInt ≠ 3 ∨ (4 ≤ (m 94 26).toInt ∧ 16 ≤ (m3 94 71).toInt ∧ 16 ≤ (m 94 24).toInt)) ∧ ((m 94 20).toInt = 3 ∨ 16 ≤ (m 94 21).toInt) ∧ ((m 94 20).toInt ≠ 6 ∨ (16 ≤ (m 94 28).toInt ∧ 4 * (m 94 28).toInt ≤ (m 94 21).toInt))) from by omega) (show zRPr (0 : Int32) (m5 94 70).toInt (zAns (m 96) (m 94 4).toInt) (zJ5 (zAns (m 96) (m 94 4).toInt) (m 94 20).toInt (m3 94 71).toInt (m 94 24).toInt (m 94 21).toInt (m 94 28).toInt) from by first | (have q := (zAns_goz r_J0a r_J0b r_J0c (by omega) (by omega)); rw [show zPts (m 94 20).toInt = [0, 0, 1, 2] from by rw [show (m 94 20).toInt = 3 from by omega]; rfl] at q; replace q := q.trans (zRun_ok0 (s := (m3 94 68)) (e := (m3 94 67).toInt) (x := (m3 94 71).toInt) p4_m3 rfl p5_m3 (show (m3 94 71).toInt = zNum (m 96) (m3 94 68).toInt (m3 94 67).toInt 16 1500 from (NU_ok p6_m3 (by omega))) (by omega)); have q2 := q.trans (zRun_badp (s := (m5 94 68)) (e := (m5 94 67).toInt) p4_m5 rfl p5_m5 (show zNum (m 96) (m5 94 68).toInt (m5 94 67).toInt 16 1500 = zPart _ _ _ _ _ from rfl) (NU_no p6_m5 (by omega))); exact Or.inl ⟨by omega, by have y := (NU_br p6_m5 (by omega)); omega⟩; done) | (exfalso; omega; done) | (exfalso; contradiction; done)) (show (0 : Int32).toInt ≠ 0 → ((m 94 20).toInt = qPo (m 96) (m 94 4).toInt ∧ ((m 94 20).toInt = 5 → qV (m 96) (m 94 4).toInt (m 94 21).toInt (m 94 22).toInt (m 94 27).toInt (m 94 30)) ∧ (((m 94 20).toInt = 0 ∨ (m 94 20).toInt = 4) → (m 94 21).toInt = zVal (m 96) (m 94 4).toInt 0 1 ∧ (m 94 22).toInt = zVal (m 96) (m 94 4).toInt 6 2)) ∧ (qT1 (m 94 20).toInt (m 94 21).toInt (m 96) (m 94 4).toInt ∧ qT3 (m 94 20).toInt (m3 94 71).toInt (m 94 24).toInt (m 94 25).toInt (m 94 26).toInt (m 96) (m 94 4).toInt ∧ qT6 (m 94 20).toInt (m 94 21).toInt (m 94 28).toInt (m 94 29).toInt (m 96) (m 94 4).toInt) from by first | (intro w; exfalso; omega; done) | (exfalso; omega; done) | (exfalso; contradiction; done))
          · skip
            have g40 := i_ne h34
            have li41 : (1 : Int32).toInt = 1 := rfl
            have li42 : (7 : Int32).toInt = 7 := rfl
            have hV43 : zV (ma_u (zov wr_177 (ma_u (zov wr_177 m m3) 94 23 (m3 94 71)) m5) 94 24 (m5 94 71)) := us_94_24 hV_m5 (by omega) (by omega)
            refine sp_177n ((1 : Int32)) ((7 : Int32)) hV43 (show (m5 94 67).toInt ≤ (m 94 4).toInt from by omega) (fun v8 m7 hV_m7 hb_m7 p0_m7 p1_m7 p2_m7 p3_m7 p4_m7 p5_m7 p6_m7 => zmi_n ?_)
            have p0_m7 : (m7 94 67).toInt ≤ (m 94 4).toInt := p0_m7
            have p1_m7 : (m7 94 68).toInt + (m7 94 69).toInt ≤ 100 := p1_m7
            have p2_m7 : v8.toInt = 1 → (1 : Int32).toInt ≤ (m7 94 71).toInt ∧ (m7 94 71).toInt ≤ (7 : Int32).toInt := p2_m7
            have p3_m7 : (m7 94 68).toInt + (m7 94 69).toInt = (m7 94 67).toInt := p3_m7
            have p4_m7 : (m7 94 68).toInt = tk true (m 96) (m 94 4).toInt (m5 94 67).toInt := p4_m7
            have p5_m7 : (m7 94 67).toInt = tk false (m 96) (m 94 4).toInt (m7 94 68).toInt := p5_m7
            have p6_m7 : zNU v8 (m7 94 71).toInt (zNum (m 96) (m7 94 68).toInt (m7 94 67).toInt (1 : Int32).toInt (7 : Int32).toInt) (m7 94 70).toInt (m7 94 68).toInt := p6_m7
            have f44 : 0 ≤ (m7 94 67).toInt ∧ (m7 94 67).toInt ≤ 100 := rs_94_67 (m := (zov wr_177 (ma_u (zov wr_177 (ma_u (zov wr_177 m m3) 94 23 (m3 94 71)) m5) 94 24 (m5 94 71)) m7)) hV_m7
            have f45 : 0 ≤ (m7 94 68).toInt ∧ (m7 94 68).toInt ≤ 100 := rs_94_68 (m := (zov wr_177 (ma_u (zov wr_177 (ma_u (zov wr_177 m m3) 94 23 (m3 94 71)) m5) 94 24 (m5 94 71)) m7)) hV_m7
            have f46 : 0 ≤ (m7 94 69).toInt ∧ (m7 94 69).toInt ≤ 100 := rs_94_69 (m := (zov wr_177 (ma_u (zov wr_177 (ma_u (zov wr_177 m m3) 94 23 (m3 94 71)) m5) 94 24 (m5 94 71)) m7)) hV_m7
            have b47 := i_bd (m7 94 71)
            have f48 := i_01 hb_m7
            refine zd (fun (h49 : v8 = (0 : Int32)) => ?_) (fun (h49 : ¬ v8 = (0 : Int32)) => ?_)
            · skip
              have g50 := i_eq h49
              have f51 : 0 ≤ (m 94 26).toInt ∧ (m 94 26).toInt ≤ 64 := rs_94_26 (m := m) hV
              have f52 : 0 ≤ (m 94 21).toInt ∧ (m 94 21).toInt ≤ 1500 := rs_94_21 (m := m) hV
              have f53 : 0 ≤ (m 94 28).toInt ∧ (m 94 28).toInt ≤ 256 := rs_94_28 (m := m) hV
              exact K ((0 : Int32)) _ (zF_zov (zF_u (zF_zov (zF_u (zF_zov hF ws_177_172) rfl) ws_177_172) rfl) ws_177_172) hV_m7 (by decide) (show 0 ≤ (m 94 27).toInt from by omega) (show (0 : Int32).toInt = 0 ∨ (0 ≤ (m 94 20).toInt ∧ ((m 94 20).toInt ≠ 3 ∨ (4 ≤ (m 94 26).toInt ∧ 16 ≤ (m3 94 71).toInt ∧ 16 ≤ (m5 94 71).toInt)) ∧ ((m 94 20).toInt = 3 ∨ 16 ≤ (m 94 21).toInt) ∧ ((m 94 20).toInt ≠ 6 ∨ (16 ≤ (m 94 28).toInt ∧ 4 * (m 94 28).toInt ≤ (m 94 21).toInt))) from by omega) (show zRPr (0 : Int32) (m7 94 70).toInt (zAns (m 96) (m 94 4).toInt) (zJ5 (zAns (m 96) (m 94 4).toInt) (m 94 20).toInt (m3 94 71).toInt (m5 94 71).toInt (m 94 21).toInt (m 94 28).toInt) from by first | (have q := (zAns_goz r_J0a r_J0b r_J0c (by omega) (by omega)); rw [show zPts (m 94 20).toInt = [0, 0, 1, 2] from by rw [show (m 94 20).toInt = 3 from by omega]; rfl] at q; replace q := q.trans (zRun_ok0 (s := (m3 94 68)) (e := (m3 94 67).toInt) (x := (m3 94 71).toInt) p4_m3 rfl p5_m3 (show (m3 94 71).toInt = zNum (m 96) (m3 94 68).toInt (m3 94 67).toInt 16 1500 from (NU_ok p6_m3 (by omega))) (by omega)); replace q := q.trans (zRun_ok1 (s := (m5 94 68)) (e := (m5 94 67).toInt) (x := (m5 94 71).toInt) p4_m5 rfl p5_m5 (show (m5 94 71).toInt = zNum (m 96) (m5 94 68).toInt (m5 94 67).toInt 16 1500 from (NU_ok p6_m5 (by omega))) (by omega) (by omega)); have q2 := q.trans (zRun_badp (s := (m7 94 68)) (e := (m7 94 67).toInt) p4_m7 rfl p5_m7 (show zNum (m 96) (m7 94 68).toInt (m7 94 67).toInt 1 7 = zPart _ _ _ _ _ from rfl) (NU_no p6_m7 (by omega))); exact Or.inl ⟨by omega, by have y := (NU_br p6_m7 (by omega)); omega⟩; done) | (exfalso; omega; done) | (exfalso; contradiction; done)) (show (0 : Int32).toInt ≠ 0 → ((m 94 20).toInt = qPo (m 96) (m 94 4).toInt ∧ ((m 94 20).toInt = 5 → qV (m 96) (m 94 4).toInt (m 94 21).toInt (m 94 22).toInt (m 94 27).toInt (m 94 30)) ∧ (((m 94 20).toInt = 0 ∨ (m 94 20).toInt = 4) → (m 94 21).toInt = zVal (m 96) (m 94 4).toInt 0 1 ∧ (m 94 22).toInt = zVal (m 96) (m 94 4).toInt 6 2)) ∧ (qT1 (m 94 20).toInt (m 94 21).toInt (m 96) (m 94 4).toInt ∧ qT3 (m 94 20).toInt (m3 94 71).toInt (m5 94 71).toInt (m 94 25).toInt (m 94 26).toInt (m 96) (m 94 4).toInt ∧ qT6 (m 94 20).toInt (m 94 21).toInt (m 94 28).toInt (m 94 29).toInt (m 96) (m 94 4).toInt) from by first | (intro w; exfalso; omega; done) | (exfalso; omega; done) | (exfalso; contradiction; done))
            · skip
              have g54 := i_ne h49
              have li55 : (4 : Int32).toInt = 4 := rfl
              have li56 : (64 : Int32).toInt = 64 := rfl
              have hV57 : zV (ma_u (zov wr_177 (ma_u (zov wr_177 (ma_u (zov wr_177 m m3) 94 23 (m3 94 71)) m5) 94 24 (m5 94 71)) m7) 94 25 (m7 94 71)) := uf_94_25 hV_m7
              refine sp_177n ((4 : Int32)) ((64 : Int32)) hV57 (show (m7 94 67).toInt ≤ (m 94 4).toInt from by omega) (fun v10 m9 hV_m9 hb_m9 p0_m9 p1_m9 p2_m9 p3_m9 p4_m9 p5_m9 p6_m9 => zmi_n ?_)
              have p0_m9 : (m9 94 67).toInt ≤ (m 94 4).toInt := p0_m9
              have p1_m9 : (m9 94 68).toInt + (m9 94 69).toInt ≤ 100 := p1_m9
              have p2_m9 : v10.toInt = 1 → (4 : Int32).toInt ≤ (m9 94 71).toInt ∧ (m9 94 71).toInt ≤ (64 : Int32).toInt := p2_m9
              have p3_m9 : (m9 94 68).toInt + (m9 94 69).toInt = (m9 94 67).toInt := p3_m9
              have p4_m9 : (m9 94 68).toInt = tk true (m 96) (m 94 4).toInt (m7 94 67).toInt := p4_m9
              have p5_m9 : (m9 94 67).toInt = tk false (m 96) (m 94 4).toInt (m9 94 68).toInt := p5_m9
              have p6_m9 : zNU v10 (m9 94 71).toInt (zNum (m 96) (m9 94 68).toInt (m9 94 67).toInt (4 : Int32).toInt (64 : Int32).toInt) (m9 94 70).toInt (m9 94 68).toInt := p6_m9
              have f58 : 0 ≤ (m9 94 67).toInt ∧ (m9 94 67).toInt ≤ 100 := rs_94_67 (m := (zov wr_177 (ma_u (zov wr_177 (ma_u (zov wr_177 (ma_u (zov wr_177 m m3) 94 23 (m3 94 71)) m5) 94 24 (m5 94 71)) m7) 94 25 (m7 94 71)) m9)) hV_m9
              have f59 : 0 ≤ (m9 94 68).toInt ∧ (m9 94 68).toInt ≤ 100 := rs_94_68 (m := (zov wr_177 (ma_u (zov wr_177 (ma_u (zov wr_177 (ma_u (zov wr_177 m m3) 94 23 (m3 94 71)) m5) 94 24 (m5 94 71)) m7) 94 25 (m7 94 71)) m9)) hV_m9
              have f60 : 0 ≤ (m9 94 69).toInt ∧ (m9 94 69).toInt ≤ 100 := rs_94_69 (m := (zov wr_177 (ma_u (zov wr_177 (ma_u (zov wr_177 (ma_u (zov wr_177 m m3) 94 23 (m3 94 71)) m5) 94 24 (m5 94 71)) m7) 94 25 (m7 94 71)) m9)) hV_m9
              have b61 := i_bd (m9 94 71)
              have f62 := i_01 hb_m9
              refine zd (fun (h63 : v10 = (0 : Int32)) => ?_) (fun (h63 : ¬ v10 = (0 : Int32)) => ?_)
              · skip
                have g64 := i_eq h63
                have f65 : 0 ≤ (m 94 26).toInt ∧ (m 94 26).toInt ≤ 64 := rs_94_26 (m := m) hV
                have f66 : 0 ≤ (m 94 21).toInt ∧ (m 94 21).toInt ≤ 1500 := rs_94_21 (m := m) hV
                have f67 : 0 ≤ (m 94 28).toInt ∧ (m 94 28).toInt ≤ 256 := rs_94_28 (m := m) hV
                exact K ((0 : Int32)) _ (zF_zov (zF_u (zF_zov (zF_u (zF_zov (zF_u (zF_zov hF ws_177_172) rfl) ws_177_172) rfl) ws_177_172) rfl) ws_177_172) hV_m9 (by decide) (show 0 ≤ (m 94 27).toInt from by omega) (show (0 : Int32).toInt = 0 ∨ (0 ≤ (m 94 20).toInt ∧ ((m 94 20).toInt ≠ 3 ∨ (4 ≤ (m 94 26).toInt ∧ 16 ≤ (m3 94 71).toInt ∧ 16 ≤ (m5 94 71).toInt)) ∧ ((m 94 20).toInt = 3 ∨ 16 ≤ (m 94 21).toInt) ∧ ((m 94 20).toInt ≠ 6 ∨ (16 ≤ (m 94 28).toInt ∧ 4 * (m 94 28).toInt ≤ (m 94 21).toInt))) from by omega) (show zRPr (0 : Int32) (m9 94 70).toInt (zAns (m 96) (m 94 4).toInt) (zJ5 (zAns (m 96) (m 94 4).toInt) (m 94 20).toInt (m3 94 71).toInt (m5 94 71).toInt (m 94 21).toInt (m 94 28).toInt) from by first | (have q := (zAns_goz r_J0a r_J0b r_J0c (by omega) (by omega)); rw [show zPts (m 94 20).toInt = [0, 0, 1, 2] from by rw [show (m 94 20).toInt = 3 from by omega]; rfl] at q; replace q := q.trans (zRun_ok0 (s := (m3 94 68)) (e := (m3 94 67).toInt) (x := (m3 94 71).toInt) p4_m3 rfl p5_m3 (show (m3 94 71).toInt = zNum (m 96) (m3 94 68).toInt (m3 94 67).toInt 16 1500 from (NU_ok p6_m3 (by omega))) (by omega)); replace q := q.trans (zRun_ok1 (s := (m5 94 68)) (e := (m5 94 67).toInt) (x := (m5 94 71).toInt) p4_m5 rfl p5_m5 (show (m5 94 71).toInt = zNum (m 96) (m5 94 68).toInt (m5 94 67).toInt 16 1500 from (NU_ok p6_m5 (by omega))) (by omega) (by omega)); replace q := q.trans (zRun_okn (s := (m7 94 68)) (e := (m7 94 67).toInt) (x := (m7 94 71).toInt) p4_m7 rfl p5_m7 (show (m7 94 71).toInt = zNum (m 96) (m7 94 68).toInt (m7 94 67).toInt 1 7 from (NU_ok p6_m7 (by omega))) (by omega) (by omega)); have q2 := q.trans (zRun_badp (s := (m9 94 68)) (e := (m9 94 67).toInt) p4_m9 rfl p5_m9 (show zNum (m 96) (m9 94 68).toInt (m9 94 67).toInt 4 64 = zPart _ _ _ _ _ from rfl) (NU_no p6_m9 (by omega))); exact Or.inl ⟨by omega, by have y := (NU_br p6_m9 (by omega)); omega⟩; done) | (exfalso; omega; done) | (exfalso; contradiction; done)) (show (0 : Int32).toInt ≠ 0 → ((m 94 20).toInt = qPo (m 96) (m 94 4).toInt ∧ ((m 94 20).toInt = 5 → qV (m 96) (m 94 4).toInt (m 94 21).toInt (m 94 22).toInt (m 94 27).toInt (m 94 30)) ∧ (((m 94 20).toInt = 0 ∨ (m 94 20).toInt = 4) → (m 94 21).toInt = zVal (m 96) (m 94 4).toInt 0 1 ∧ (m 94 22).toInt = zVal (m 96) (m 94 4).toInt 6 2)) ∧ (qT1 (m 94 20).toInt (m 94 21).toInt (m 96) (m 94 4).toInt ∧ qT3 (m 94 20).toInt (m3 94 71).toInt (m5 94 71).toInt (m7 94 71).toInt (m 94 26).toInt (m 96) (m 94 4).toInt ∧ qT6 (m 94 20).toInt (m 94 21).toInt (m 94 28).toInt (m 94 29).toInt (m 96) (m 94 4).toInt) from by first | (intro w; exfalso; omega; done) | (exfalso; omega; done) | (exfalso; contradiction; done))
              · skip
                have g68 := i_ne h63
                have hV69 : zV (ma_u (zov wr_177 (ma_u (zov wr_177 (ma_u (zov wr_177 (ma_u (zov wr_177 m m3) 94 23 (m3 94 71)) m5) 94 24 (m5 94 71)) m7) 94 25 (m7 94 71)) m9) 94 26 (m9 94 71)) := us_94_26 hV_m9 (by omega) (by omega)
                have f70 : 0 ≤ (m 94 21).toInt ∧ (m 94 21).toInt ≤ 1500 := rs_94_21 (m := m) hV
                exact lp_172qm_311 h0 K _ _  rfl (zF_u (zF_zov (zF_u (zF_zov (zF_u (zF_zov (zF_u (zF_zov hF ws_177_172) rfl) ws_177_172) rfl) ws_177_172) rfl) ws_177_172) rfl) hV69 (show 0 ≤ (m 94 27).toInt from by omega) (show (m9 94 67).toInt ≤ (m 94 4).toInt from by omega) (show 0 ≤ (m 94 20).toInt ∧ ((m 94 20).toInt ≠ 3 ∨ (4 ≤ (m9 94 71).toInt ∧ 16 ≤ (m3 94 71).toInt ∧ 16 ≤ (m5 94 71).toInt)) ∧ ((m 94 20).toInt = 3 ∨ 16 ≤ (m 94 21).toInt) from by omega) (show zJ1 (m 96) (m 94 4).toInt (m 94 20).toInt (m9 94 67).toInt (m3 94 71).toInt (m5 94 71).toInt (m 94 21).toInt from by first | (have q := (zAns_goz r_J0a r_J0b r_J0c (by omega) (by omega)); rw [show zPts (m 94 20).toInt = [0, 0, 1, 2] from by rw [show (m 94 20).toInt = 3 from by omega]; rfl] at q; replace q := q.trans (zRun_ok0 (s := (m3 94 68)) (e := (m3 94 67).toInt) (x := (m3 94 71).toInt) p4_m3 rfl p5_m3 (show (m3 94 71).toInt = zNum (m 96) (m3 94 68).toInt (m3 94 67).toInt 16 1500 from (NU_ok p6_m3 (by omega))) (by omega)); replace q := q.trans (zRun_ok1 (s := (m5 94 68)) (e := (m5 94 67).toInt) (x := (m5 94 71).toInt) p4_m5 rfl p5_m5 (show (m5 94 71).toInt = zNum (m 96) (m5 94 68).toInt (m5 94 67).toInt 16 1500 from (NU_ok p6_m5 (by omega))) (by omega) (by omega)); replace q := q.trans (zRun_okn (s := (m7 94 68)) (e := (m7 94 67).toInt) (x := (m7 94 71).toInt) p4_m7 rfl p5_m7 (show (m7 94 71).toInt = zNum (m 96) (m7 94 68).toInt (m7 94 67).toInt 1 7 from (NU_ok p6_m7 (by omega))) (by omega) (by omega)); replace q := q.trans (zRun_okn (s := (m9 94 68)) (e := (m9 94 67).toInt) (x := (m9 94 71).toInt) p4_m9 rfl p5_m9 (show (m9 94 71).toInt = zNum (m 96) (m9 94 68).toInt (m9 94 67).toInt 4 64 from (NU_ok p6_m9 (by omega))) (by omega) (by omega)); exact Or.inl ⟨by omega, q⟩; done) | (exfalso; omega; done) | (exfalso; contradiction; done)) (show (m 94 20).toInt = qPo (m 96) (m 94 4).toInt from by first | (exact zt_pz r_J0a r_J0b r_J0c (by omega)) | (exfalso; omega; done) | (exfalso; contradiction; done)) (show ((m 94 20).toInt = 0 ∨ (m 94 20).toInt = 4 ∨ (m 94 20).toInt = 5) → (m 94 21).toInt = zVal (m 96) (m 94 4).toInt 0 1 ∧ (m9 94 67).toInt = zte (m 96) (m 94 4).toInt 1 from by first | (intro w; exfalso; omega; done) | (exfalso; omega; done) | (exfalso; contradiction; done)) (show qT1 (m 94 20).toInt (m 94 21).toInt (m 96) (m 94 4).toInt from by first | (unfold qT1; intro w; exfalso; omega; done) | (exfalso; omega; done) | (exfalso; contradiction; done)) (show qT3 (m 94 20).toInt (m3 94 71).toInt (m5 94 71).toInt (m7 94 71).toInt (m9 94 71).toInt (m 96) (m 94 4).toInt from by first | (unfold qT3; intro _; have b0 : (m 94 67).toInt = zte (m 96) (m 94 4).toInt 0 := zt_e r_J0b r_J0a; have a1 : (m3 94 68).toInt = zts (m 96) (m 94 4).toInt 1 := zt_s p4_m3 rfl b0; have b1 : (m3 94 67).toInt = zte (m 96) (m 94 4).toInt 1 := zt_e p5_m3 a1; have z1 : (m3 94 71).toInt = zVal (m 96) (m 94 4).toInt 0 1 := (show (m3 94 71).toInt = zNum (m 96) (m3 94 68).toInt (m3 94 67).toInt 16 1500 from (NU_ok p6_m3 (by omega))).trans (by rw [a1, b1]; rfl); have a2 : (m5 94 68).toInt = zts (m 96) (m 94 4).toInt 2 := zt_s p4_m5 rfl b1; have b2 : (m5 94 67).toInt = zte (m 96) (m 94 4).toInt 2 := zt_e p5_m5 a2; have z2 : (m5 94 71).toInt = zVal (m 96) (m 94 4).toInt 0 2 := (show (m5 94 71).toInt = zNum (m 96) (m5 94 68).toInt (m5 94 67).toInt 16 1500 from (NU_ok p6_m5 (by omega))).trans (by rw [a2, b2]; rfl); have a3 : (m7 94 68).toInt = zts (m 96) (m 94 4).toInt 3 := zt_s p4_m7 rfl b2; have b3 : (m7 94 67).toInt = zte (m 96) (m 94 4).toInt 3 := zt_e p5_m7 a3; have z3 : (m7 94 71).toInt = zVal (m 96) (m 94 4).toInt 1 3 := (show (m7 94 71).toInt = zNum (m 96) (m7 94 68).toInt (m7 94 67).toInt 1 7 from (NU_ok p6_m7 (by omega))).trans (by rw [a3, b3]; rfl); have a4 : (m9 94 68).toInt = zts (m 96) (m 94 4).toInt 4 := zt_s p4_m9 rfl b3; have b4 : (m9 94 67).toInt = zte (m 96) (m 94 4).toInt 4 := zt_e p5_m9 a4; have z4 : (m9 94 71).toInt = zVal (m 96) (m 94 4).toInt 2 4 := (show (m9 94 71).toInt = zNum (m 96) (m9 94 68).toInt (m9 94 67).toInt 4 64 from (NU_ok p6_m9 (by omega))).trans (by rw [a4, b4]; rfl); exact ⟨z1, z2, z3, z4⟩; done) | (exfalso; omega; done) | (exfalso; contradiction; done)) (show qTa (m 94 20).toInt (m 94 21).toInt (m9 94 67).toInt (m 96) (m 94 4).toInt from by first | (unfold qTa; intro w; exfalso; omega; done) | (exfalso; omega; done) | (exfalso; contradiction; done))
      · skip
        have g71 := i_ne h11
        refine sp_178n  hV (show (m 94 67).toInt ≤ (m 94 4).toInt from by omega) (fun v2 m1 hV_m1 hb_m1 p0_m1 p1_m1 p2_m1 p3_m1 p4_m1 p5_m1 => zmi_n ?_)
        have p0_m1 : (m1 94 67).toInt ≤ (m 94 4).toInt := p0_m1
        have p1_m1 : (m1 94 68).toInt + (m1 94 69).toInt = (m1 94 67).toInt := p1_m1
        have p2_m1 : (m1 94 68).toInt = tk true (m 96) (m 94 4).toInt (m 94 67).toInt := p2_m1
        have p3_m1 : (m1 94 67).toInt = tk false (m 96) (m 94 4).toInt (m1 94 68).toInt := p3_m1
        have p4_m1 : zNU v2 (m1 94 21).toInt (zNum (m 96) (m1 94 68).toInt (m1 94 67).toInt 16 1500) (m1 94 70).toInt (m1 94 68).toInt := p4_m1
        have p5_m1 : v2.toInt = 1 → 16 ≤ (m1 94 21).toInt := p5_m1
        have f72 : 0 ≤ (m1 94 67).toInt ∧ (m1 94 67).toInt ≤ 100 := rs_94_67 (m := (zov wr_178 m m1)) hV_m1
        have f73 : 0 ≤ (m1 94 68).toInt ∧ (m1 94 68).toInt ≤ 100 := rs_94_68 (m := (zov wr_178 m m1)) hV_m1
        have f74 : 0 ≤ (m1 94 69).toInt ∧ (m1 94 69).toInt ≤ 100 := rs_94_69 (m := (zov wr_178 m m1)) hV_m1
        have f75 : 0 ≤ (m1 94 21).toInt ∧ (m1 94 21).toInt ≤ 1500 := rs_94_21 (m := (zov wr_178 m m1)) hV_m1
        have f76 := i_01 hb_m1
        refine zd (fun (h77 : v2 = (0 : Int32)) => ?_) (fun (h77 : ¬ v2 = (0 : Int32)) => ?_)
        · skip
          have g78 := i_eq h77
          have f79 : 0 ≤ (m 94 26).toInt ∧ (m 94 26).toInt ≤ 64 := rs_94_26 (m := m) hV
          have f80 : 0 ≤ (m 94 23).toInt ∧ (m 94 23).toInt ≤ 1500 := rs_94_23 (m := m) hV
          have f81 : 0 ≤ (m 94 24).toInt ∧ (m 94 24).toInt ≤ 1500 := rs_94_24 (m := m) hV
          have f82 : 0 ≤ (m 94 28).toInt ∧ (m 94 28).toInt ≤ 256 := rs_94_28 (m := m) hV
          exact K ((0 : Int32)) _ (zF_zov hF ws_178_172) hV_m1 (by decide) (show 0 ≤ (m 94 27).toInt from by omega) (show (0 : Int32).toInt = 0 ∨ (0 ≤ (m 94 20).toInt ∧ ((m 94 20).toInt ≠ 3 ∨ (4 ≤ (m 94 26).toInt ∧ 16 ≤ (m 94 23).toInt ∧ 16 ≤ (m 94 24).toInt)) ∧ ((m 94 20).toInt = 3 ∨ 16 ≤ (m1 94 21).toInt) ∧ ((m 94 20).toInt ≠ 6 ∨ (16 ≤ (m 94 28).toInt ∧ 4 * (m 94 28).toInt ≤ (m1 94 21).toInt))) from by omega) (show zRPr (0 : Int32) (m1 94 70).toInt (zAns (m 96) (m 94 4).toInt) (zJ5 (zAns (m 96) (m 94 4).toInt) (m 94 20).toInt (m 94 23).toInt (m 94 24).toInt (m1 94 21).toInt (m 94 28).toInt) from by first | (exact Or.inl ⟨by omega, by have q := J1_rb (zAns_goz r_J0a r_J0b r_J0c (by omega) (by omega)) (by omega) (by omega) (by omega) p2_m1 p3_m1 (NU_no p4_m1 (by omega)); have y := (NU_br p4_m1 (by omega)); omega⟩) | (exfalso; omega; done) | (exfalso; contradiction; done)) (show (0 : Int32).toInt ≠ 0 → ((m 94 20).toInt = qPo (m 96) (m 94 4).toInt ∧ ((m 94 20).toInt = 5 → qV (m 96) (m 94 4).toInt (m1 94 21).toInt (m 94 22).toInt (m 94 27).toInt (m 94 30)) ∧ (((m 94 20).toInt = 0 ∨ (m 94 20).toInt = 4) → (m1 94 21).toInt = zVal (m 96) (m 94 4).toInt 0 1 ∧ (m 94 22).toInt = zVal (m 96) (m 94 4).toInt 6 2)) ∧ (qT1 (m 94 20).toInt (m1 94 21).toInt (m 96) (m 94 4).toInt ∧ qT3 (m 94 20).toInt (m 94 23).toInt (m 94 24).toInt (m 94 25).toInt (m 94 26).toInt (m 96) (m 94 4).toInt ∧ qT6 (m 94 20).toInt (m1 94 21).toInt (m 94 28).toInt (m 94 29).toInt (m 96) (m 94 4).toInt) from by first | (intro w; exfalso; omega; done) | (exfalso; omega; done) | (exfalso; contradiction; done))
        · skip
          have g83 := i_ne h77
          have f84 : 0 ≤ (m 94 26).toInt ∧ (m 94 26).toInt ≤ 64 := rs_94_26 (m := m) hV
          have f85 : 0 ≤ (m 94 23).toInt ∧ (m 94 23).toInt ≤ 1500 := rs_94_23 (m := m) hV
          have f86 : 0 ≤ (m 94 24).toInt ∧ (m 94 24).toInt ≤ 1500 := rs_94_24 (m := m) hV
          exact lp_172qm_311 h0 K _ _  rfl (zF_zov hF ws_178_172) hV_m1 (show 0 ≤ (m 94 27).toInt from by omega) (show (m1 94 67).toInt ≤ (m 94 4).toInt from by omega) (show 0 ≤ (m 94 20).toInt ∧ ((m 94 20).toInt ≠ 3 ∨ (4 ≤ (m 94 26).toInt ∧ 16 ≤ (m 94 23).toInt ∧ 16 ≤ (m 94 24).toInt)) ∧ ((m 94 20).toInt = 3 ∨ 16 ≤ (m1 94 21).toInt) from by omega) (show zJ1 (m 96) (m 94 4).toInt (m 94 20).toInt (m1 94 67).toInt (m 94 23).toInt (m 94 24).toInt (m1 94 21).toInt from by first | (exact J1_r (zAns_goz r_J0a r_J0b r_J0c (by omega) (by omega)) (by omega) (by omega) (by omega) p2_m1 p3_m1 (NU_ok p4_m1 (by omega)) (by omega)) | (exfalso; omega; done) | (exfalso; contradiction; done)) (show (m 94 20).toInt = qPo (m 96) (m 94 4).toInt from by first | (exact zt_pz r_J0a r_J0b r_J0c (by omega)) | (exfalso; omega; done) | (exfalso; contradiction; done)) (show ((m 94 20).toInt = 0 ∨ (m 94 20).toInt = 4 ∨ (m 94 20).toInt = 5) → (m1 94 21).toInt = zVal (m 96) (m 94 4).toInt 0 1 ∧ (m1 94 67).toInt = zte (m 96) (m 94 4).toInt 1 from by first | (intro _; have b0 : (m 94 67).toInt = zte (m 96) (m 94 4).toInt 0 := zt_e r_J0b r_J0a; have a1 : (m1 94 68).toInt = zts (m 96) (m 94 4).toInt 1 := zt_s p2_m1 rfl b0; have b1 : (m1 94 67).toInt = zte (m 96) (m 94 4).toInt 1 := zt_e p3_m1 a1; exact ⟨(show (m1 94 21).toInt = zNum (m 96) (m1 94 68).toInt (m1 94 67).toInt 16 1500 from NU_ok p4_m1 (by omega)).trans (by rw [a1, b1]; rfl), b1⟩; done) | (exfalso; omega; done) | (exfalso; contradiction; done)) (show qT1 (m 94 20).toInt (m1 94 21).toInt (m 96) (m 94 4).toInt from by first | (unfold qT1; intro _; have b0 : (m 94 67).toInt = zte (m 96) (m 94 4).toInt 0 := zt_e r_J0b r_J0a; have a1 : (m1 94 68).toInt = zts (m 96) (m 94 4).toInt 1 := zt_s p2_m1 rfl b0; have b1 : (m1 94 67).toInt = zte (m 96) (m 94 4).toInt 1 := zt_e p3_m1 a1; have z1 : (m1 94 21).toInt = zVal (m 96) (m 94 4).toInt 0 1 := (show (m1 94 21).toInt = zNum (m 96) (m1 94 68).toInt (m1 94 67).toInt 16 1500 from NU_ok p4_m1 (by omega)).trans (by rw [a1, b1]; rfl); exact z1; done) | (exfalso; omega; done) | (exfalso; contradiction; done)) (show qT3 (m 94 20).toInt (m 94 23).toInt (m 94 24).toInt (m 94 25).toInt (m 94 26).toInt (m 96) (m 94 4).toInt from by first | (unfold qT3; intro w; exfalso; omega; done) | (exfalso; omega; done) | (exfalso; contradiction; done)) (show qTa (m 94 20).toInt (m1 94 21).toInt (m1 94 67).toInt (m 96) (m 94 4).toInt from by first | (unfold qTa; intro _; have b0 : (m 94 67).toInt = zte (m 96) (m 94 4).toInt 0 := zt_e r_J0b r_J0a; have a1 : (m1 94 68).toInt = zts (m 96) (m 94 4).toInt 1 := zt_s p2_m1 rfl b0; have b1 : (m1 94 67).toInt = zte (m 96) (m 94 4).toInt 1 := zt_e p3_m1 a1; have z1 : (m1 94 21).toInt = zVal (m 96) (m 94 4).toInt 0 1 := (show (m1 94 21).toInt = zNum (m 96) (m1 94 68).toInt (m1 94 67).toInt 16 1500 from NU_ok p4_m1 (by omega)).trans (by rw [a1, b1]; rfl); exact ⟨z1, b1⟩; done) | (exfalso; omega; done) | (exfalso; contradiction; done))
    · skip
      have g87 := i_nle h8
      have hV88 : zV (ma_u m 94 70 (m 94 68)) := us_94_70 hV (by omega) (by omega)
      have f89 : 0 ≤ (m 94 26).toInt ∧ (m 94 26).toInt ≤ 64 := rs_94_26 (m := m) hV
      have f90 : 0 ≤ (m 94 23).toInt ∧ (m 94 23).toInt ≤ 1500 := rs_94_23 (m := m) hV
      have f91 : 0 ≤ (m 94 24).toInt ∧ (m 94 24).toInt ≤ 1500 := rs_94_24 (m := m) hV
      have f92 : 0 ≤ (m 94 21).toInt ∧ (m 94 21).toInt ≤ 1500 := rs_94_21 (m := m) hV
      have f93 : 0 ≤ (m 94 28).toInt ∧ (m 94 28).toInt ≤ 256 := rs_94_28 (m := m) hV
      exact K ((0 : Int32)) _ (zF_u hF rfl) hV88 (by decide) (show 0 ≤ (m 94 27).toInt from by omega) (show (0 : Int32).toInt = 0 ∨ (0 ≤ (m 94 20).toInt ∧ ((m 94 20).toInt ≠ 3 ∨ (4 ≤ (m 94 26).toInt ∧ 16 ≤ (m 94 23).toInt ∧ 16 ≤ (m 94 24).toInt)) ∧ ((m 94 20).toInt = 3 ∨ 16 ≤ (m 94 21).toInt) ∧ ((m 94 20).toInt ≠ 6 ∨ (16 ≤ (m 94 28).toInt ∧ 4 * (m 94 28).toInt ≤ (m 94 21).toInt))) from by omega) (show zRPr (0 : Int32) (m 94 68).toInt (zAns (m 96) (m 94 4).toInt) (zJ5 (zAns (m 96) (m 94 4).toInt) (m 94 20).toInt (m 94 23).toInt (m 94 24).toInt (m 94 21).toInt (m 94 28).toInt) from by first | (exact Or.inl ⟨by omega, by have q := zAns_badz r_J0a r_J0b r_J0c (by omega) (by omega); omega⟩) | (exfalso; omega; done) | (exfalso; contradiction; done)) (show (0 : Int32).toInt ≠ 0 → ((m 94 20).toInt = qPo (m 96) (m 94 4).toInt ∧ ((m 94 20).toInt = 5 → qV (m 96) (m 94 4).toInt (m 94 21).toInt (m 94 22).toInt (m 94 27).toInt (m 94 30)) ∧ (((m 94 20).toInt = 0 ∨ (m 94 20).toInt = 4) → (m 94 21).toInt = zVal (m 96) (m 94 4).toInt 0 1 ∧ (m 94 22).toInt = zVal (m 96) (m 94 4).toInt 6 2)) ∧ (qT1 (m 94 20).toInt (m 94 21).toInt (m 96) (m 94 4).toInt ∧ qT3 (m 94 20).toInt (m 94 23).toInt (m 94 24).toInt (m 94 25).toInt (m 94 26).toInt (m 96) (m 94 4).toInt ∧ qT6 (m 94 20).toInt (m 94 21).toInt (m 94 28).toInt (m 94 29).toInt (m 96) (m 94 4).toInt) from by first | (intro w; exfalso; omega; done) | (exfalso; omega; done) | (exfalso; contradiction; done))
set_option maxHeartbeats 8000000 in
theorem sp_172qm {X : Nat × (Nat → Int32)} {P : Option ma_V → (Nat → Nat → Int32) → Prop} {m : Nat → Nat → Int32}  (hV : zV m) (hpre0 : 0 ≤ (m 94 27).toInt) (KZ : ∀ v m₉, zV (zov wr_172 m m₉) → (v = 0 ∨ v = 1) → (0 ≤ (m₉ 94 27).toInt) → (v.toInt = 0 ∨ (0 ≤ (m₉ 94 20).toInt ∧ ((m₉ 94 20).toInt ≠ 3 ∨ (4 ≤ (m₉ 94 26).toInt ∧ 16 ≤ (m₉ 94 23).toInt ∧ 16 ≤ (m₉ 94 24).toInt)) ∧ ((m₉ 94 20).toInt = 3 ∨ 16 ≤ (m₉ 94 21).toInt) ∧ ((m₉ 94 20).toInt ≠ 6 ∨ (16 ≤ (m₉ 94 28).toInt ∧ 4 * (m₉ 94 28).toInt ≤ (m₉ 94 21).toInt)))) → (zRPr v (m₉ 94 70).toInt (zAns (m 96) (m 94 4).toInt) (zJ5 (zAns (m 96) (m 94 4).toInt) (m₉ 94 20).toInt (m₉ 94 23).toInt (m₉ 94 24).toInt (m₉ 94 21).toInt (m₉ 94 28).toInt)) → (v.toInt ≠ 0 → ((m₉ 94 20).toInt = qPo (m 96) (m 94 4).toInt ∧ ((m₉ 94 20).toInt = 5 → qV (m 96) (m 94 4).toInt (m₉ 94 21).toInt (m₉ 94 22).toInt (m₉ 94 27).toInt (m₉ 94 30)) ∧ (((m₉ 94 20).toInt = 0 ∨ (m₉ 94 20).toInt = 4) → (m₉ 94 21).toInt = zVal (m 96) (m 94 4).toInt 0 1 ∧ (m₉ 94 22).toInt = zVal (m 96) (m 94 4).toInt 6 2)) ∧ (qT1 (m₉ 94 20).toInt (m₉ 94 21).toInt (m 96) (m 94 4).toInt ∧ qT3 (m₉ 94 20).toInt (m₉ 94 23).toInt (m₉ 94 24).toInt (m₉ 94 25).toInt (m₉ 94 26).toInt (m 96) (m 94 4).toInt ∧ qT6 (m₉ 94 20).toInt (m₉ 94 21).toInt (m₉ 94 28).toInt (m₉ 94 29).toInt (m 96) (m 94 4).toInt)) → P (some (.inl v)) (zov wr_172 m m₉)) : zm X 3 70 172 0 [(0, .inr (.inr (some 94)))] m P := by
  have K : ∀ v m₉, zF wr_172 m m₉ → zV m₉ → (v = 0 ∨ v = 1) → (0 ≤ (m₉ 94 27).toInt) → (v.toInt = 0 ∨ (0 ≤ (m₉ 94 20).toInt ∧ ((m₉ 94 20).toInt ≠ 3 ∨ (4 ≤ (m₉ 94 26).toInt ∧ 16 ≤ (m₉ 94 23).toInt ∧ 16 ≤ (m₉ 94 24).toInt)) ∧ ((m₉ 94 20).toInt = 3 ∨ 16 ≤ (m₉ 94 21).toInt) ∧ ((m₉ 94 20).toInt ≠ 6 ∨ (16 ≤ (m₉ 94 28).toInt ∧ 4 * (m₉ 94 28).toInt ≤ (m₉ 94 21).toInt)))) → (zRPr v (m₉ 94 70).toInt (zAns (m₉ 96) (m₉ 94 4).toInt) (zJ5 (zAns (m₉ 96) (m₉ 94 4).toInt) (m₉ 94 20).toInt (m₉ 94 23).toInt (m₉ 94 24).toInt (m₉ 94 21).toInt (m₉ 94 28).toInt)) → (v.toInt ≠ 0 → ((m₉ 94 20).toInt = qPo (m₉ 96) (m₉ 94 4).toInt ∧ ((m₉ 94 20).toInt = 5 → qV (m₉ 96) (m₉ 94 4).toInt (m₉ 94 21).toInt (m₉ 94 22).toInt (m₉ 94 27).toInt (m₉ 94 30)) ∧ (((m₉ 94 20).toInt = 0 ∨ (m₉ 94 20).toInt = 4) → (m₉ 94 21).toInt = zVal (m₉ 96) (m₉ 94 4).toInt 0 1 ∧ (m₉ 94 22).toInt = zVal (m₉ 96) (m₉ 94 4).toInt 6 2)) ∧ (qT1 (m₉ 94 20).toInt (m₉ 94 21).toInt (m₉ 96) (m₉ 94 4).toInt ∧ qT3 (m₉ 94 20).toInt (m₉ 94 23).toInt (m₉ 94 24).toInt (m₉ 94 25).toInt (m₉ 94 26).toInt (m₉ 96) (m₉ 94 4).toInt ∧ qT6 (m₉ 94 20).toInt (m₉ 94 21).toInt (m₉ 94 28).toInt (m₉ 94 29).toInt (m₉ 96) (m₉ 94 4).toInt)) → P (some (.inl v)) m₉ := by
    intro v m₉ hf z q0 q1 q2 q3 q4
    have e := zov_eq hf
    rw [e] at z ⊢
    try rw [e] at q0
    try rw [e] at q1
    try rw [e] at q2
    try rw [e] at q3
    try rw [e] at q4
    exact KZ v m₉ z q0 q1 q2 q3 q4
  refine g_172_0  ?_
  have b1 := i_bd (m 94 27)
  have li3 : (0 : Int32).toInt = 0 := rfl
  have hV2 : zV (ma_u m 94 67 (0 : Int32)) := us_94_67 hV (by omega) (by omega)
  have f4 : 0 ≤ (m 94 4).toInt ∧ (m 94 4).toInt ≤ 100 := rs_94_4 (m := m) hV
  refine sp_173n  hV2 (show (0 : Int32).toInt ≤ (m 94 4).toInt from by omega) (fun v2 m1 hV_m1 hb_m1 p0_m1 p1_m1 p2_m1 p3_m1 p4_m1 => zmi_n ?_)
  have p0_m1 : (m1 94 67).toInt ≤ (m 94 4).toInt := p0_m1
  have p1_m1 : (m1 94 68).toInt + (m1 94 69).toInt = (m1 94 67).toInt := p1_m1
  have p2_m1 : (v2.toInt = 1 ∧ 1 ≤ (m1 94 69).toInt) ∨ (v2.toInt = 0 ∧ (m1 94 69).toInt = 0) := p2_m1
  have p3_m1 : (m1 94 68).toInt = tk true (m 96) (m 94 4).toInt (0 : Int32).toInt := p3_m1
  have p4_m1 : (m1 94 67).toInt = tk false (m 96) (m 94 4).toInt (m1 94 68).toInt := p4_m1
  have f5 : 0 ≤ (m1 94 67).toInt ∧ (m1 94 67).toInt ≤ 100 := rs_94_67 (m := (zov wr_173 (ma_u m 94 67 (0 : Int32)) m1)) hV_m1
  have f6 : 0 ≤ (m1 94 68).toInt ∧ (m1 94 68).toInt ≤ 100 := rs_94_68 (m := (zov wr_173 (ma_u m 94 67 (0 : Int32)) m1)) hV_m1
  have f7 : 0 ≤ (m1 94 69).toInt ∧ (m1 94 69).toInt ≤ 100 := rs_94_69 (m := (zov wr_173 (ma_u m 94 67 (0 : Int32)) m1)) hV_m1
  have f8 := i_01 hb_m1
  refine zd (fun (h9 : v2 = (0 : Int32)) => ?_) (fun (h9 : ¬ v2 = (0 : Int32)) => ?_)
  · skip
    have g10 := i_eq h9
    have hV11 : zV (ma_u (zov wr_173 (ma_u m 94 67 (0 : Int32)) m1) 94 70 (m 94 4)) := us_94_70 hV_m1 (by omega) (by omega)
    have f12 : -1 ≤ (m 94 20).toInt ∧ (m 94 20).toInt ≤ 6 := rs_94_20 (m := m) hV
    have f13 : 0 ≤ (m 94 26).toInt ∧ (m 94 26).toInt ≤ 64 := rs_94_26 (m := m) hV
    have f14 : 0 ≤ (m 94 23).toInt ∧ (m 94 23).toInt ≤ 1500 := rs_94_23 (m := m) hV
    have f15 : 0 ≤ (m 94 24).toInt ∧ (m 94 24).toInt ≤ 1500 := rs_94_24 (m := m) hV
    have f16 : 0 ≤ (m 94 21).toInt ∧ (m 94 21).toInt ≤ 1500 := rs_94_21 (m := m) hV
    have f17 : 0 ≤ (m 94 28).toInt ∧ (m 94 28).toInt ≤ 256 := rs_94_28 (m := m) hV
    exact K ((0 : Int32)) _ (zF_u (zF_zov (zF_u zF_rfl rfl) ws_173_172) rfl) hV11 (by decide) (show 0 ≤ (m 94 27).toInt from by omega) (show (0 : Int32).toInt = 0 ∨ (0 ≤ (m 94 20).toInt ∧ ((m 94 20).toInt ≠ 3 ∨ (4 ≤ (m 94 26).toInt ∧ 16 ≤ (m 94 23).toInt ∧ 16 ≤ (m 94 24).toInt)) ∧ ((m 94 20).toInt = 3 ∨ 16 ≤ (m 94 21).toInt) ∧ ((m 94 20).toInt ≠ 6 ∨ (16 ≤ (m 94 28).toInt ∧ 4 * (m 94 28).toInt ≤ (m 94 21).toInt))) from by omega) (show zRPr (0 : Int32) (m 94 4).toInt (zAns (m 96) (m 94 4).toInt) (zJ5 (zAns (m 96) (m 94 4).toInt) (m 94 20).toInt (m 94 23).toInt (m 94 24).toInt (m 94 21).toInt (m 94 28).toInt) from by first | (exact Or.inl ⟨by omega, by have zs := tk_end (by omega) p3_m1 p4_m1 (by omega); have q := zAns_badz (s := (m1 94 68)) (e := (m1 94 67).toInt) (z := (m1 94 69).toInt) p3_m1 p4_m1 rfl (by omega) (zPol_0 (by omega)); omega⟩) | (exfalso; omega; done) | (exfalso; contradiction; done)) (show (0 : Int32).toInt ≠ 0 → ((m 94 20).toInt = qPo (m 96) (m 94 4).toInt ∧ ((m 94 20).toInt = 5 → qV (m 96) (m 94 4).toInt (m 94 21).toInt (m 94 22).toInt (m 94 27).toInt (m 94 30)) ∧ (((m 94 20).toInt = 0 ∨ (m 94 20).toInt = 4) → (m 94 21).toInt = zVal (m 96) (m 94 4).toInt 0 1 ∧ (m 94 22).toInt = zVal (m 96) (m 94 4).toInt 6 2)) ∧ (qT1 (m 94 20).toInt (m 94 21).toInt (m 96) (m 94 4).toInt ∧ qT3 (m 94 20).toInt (m 94 23).toInt (m 94 24).toInt (m 94 25).toInt (m 94 26).toInt (m 96) (m 94 4).toInt ∧ qT6 (m 94 20).toInt (m 94 21).toInt (m 94 28).toInt (m 94 29).toInt (m 96) (m 94 4).toInt) from by first | (intro w; exfalso; omega; done) | (exfalso; omega; done) | (exfalso; contradiction; done))
  · skip
    have g18 := i_ne h9
    have li19 : (115 : Int32).toInt = 115 := rfl
    have li20 : (119 : Int32).toInt = 119 := rfl
    have li21 : (101 : Int32).toInt = 101 := rfl
    have li22 : (112 : Int32).toInt = 112 := rfl
    refine sp_175n ((115 : Int32)) ((119 : Int32)) ((101 : Int32)) ((101 : Int32)) ((112 : Int32)) ((0 : Int32)) ((0 : Int32)) hV_m1 (show (m1 94 68).toInt + (m1 94 69).toInt ≤ 100 from by omega) (fun v4 m3 hV_m3 hb_m3 p0_m3 => zmi_n ?_)
    have p0_m3 : zZW v4 (zwd (m 96) (m1 94 68) (m1 94 69).toInt (115 : Int32) (119 : Int32) (101 : Int32) (101 : Int32) (112 : Int32) (0 : Int32) (0 : Int32)) := p0_m3
    have f23 := i_01 hb_m3
    refine zd (fun (h24 : v4 = (0 : Int32)) => ?_) (fun (h24 : ¬ v4 = (0 : Int32)) => ?_)
    · skip
      have g25 := i_eq h24
      have li26 : (108 : Int32).toInt = 108 := rfl
      have li27 : (105 : Int32).toInt = 105 := rfl
      have li28 : (100 : Int32).toInt = 100 := rfl
      refine sp_175n ((115 : Int32)) ((108 : Int32)) ((105 : Int32)) ((100 : Int32)) ((101 : Int32)) ((0 : Int32)) ((0 : Int32)) hV_m3 (show (m1 94 68).toInt + (m1 94 69).toInt ≤ 100 from by omega) (fun v6 m5 hV_m5 hb_m5 p0_m5 => zmi_n ?_)
      have p0_m5 : zZW v6 (zwd (m 96) (m1 94 68) (m1 94 69).toInt (115 : Int32) (108 : Int32) (105 : Int32) (100 : Int32) (101 : Int32) (0 : Int32) (0 : Int32)) := p0_m5
      have f29 := i_01 hb_m5
      refine zd (fun (h30 : v6 = (0 : Int32)) => ?_) (fun (h30 : ¬ v6 = (0 : Int32)) => ?_)
      · skip
        have g31 := i_eq h30
        have li32 : (104 : Int32).toInt = 104 := rfl
        have li33 : (97 : Int32).toInt = 97 := rfl
        have li34 : (118 : Int32).toInt = 118 := rfl
        refine sp_175n ((104 : Int32)) ((97 : Int32)) ((108 : Int32)) ((118 : Int32)) ((101 : Int32)) ((115 : Int32)) ((0 : Int32)) hV_m5 (show (m1 94 68).toInt + (m1 94 69).toInt ≤ 100 from by omega) (fun v8 m7 hV_m7 hb_m7 p0_m7 => zmi_n ?_)
        have p0_m7 : zZW v8 (zwd (m 96) (m1 94 68) (m1 94 69).toInt (104 : Int32) (97 : Int32) (108 : Int32) (118 : Int32) (101 : Int32) (115 : Int32) (0 : Int32)) := p0_m7
        have f35 := i_01 hb_m7
        refine zd (fun (h36 : v8 = (0 : Int32)) => ?_) (fun (h36 : ¬ v8 = (0 : Int32)) => ?_)
        · skip
          have g37 := i_eq h36
          have li38 : (103 : Int32).toInt = 103 := rfl
          refine sp_175n ((97 : Int32)) ((103 : Int32)) ((101 : Int32)) ((115 : Int32)) ((0 : Int32)) ((0 : Int32)) ((0 : Int32)) hV_m7 (show (m1 94 68).toInt + (m1 94 69).toInt ≤ 100 from by omega) (fun v10 m9 hV_m9 hb_m9 p0_m9 => zmi_n ?_)
          have p0_m9 : zZW v10 (zwd (m 96) (m1 94 68) (m1 94 69).toInt (97 : Int32) (103 : Int32) (101 : Int32) (115 : Int32) (0 : Int32) (0 : Int32) (0 : Int32)) := p0_m9
          have f39 := i_01 hb_m9
          refine zd (fun (h40 : v10 = (0 : Int32)) => ?_) (fun (h40 : ¬ v10 = (0 : Int32)) => ?_)
          · skip
            have g41 := i_eq h40
            have li42 : (99 : Int32).toInt = 99 := rfl
            have li43 : (111 : Int32).toInt = 111 := rfl
            have li44 : (117 : Int32).toInt = 117 := rfl
            have li45 : (110 : Int32).toInt = 110 := rfl
            have li46 : (116 : Int32).toInt = 116 := rfl
            refine sp_175n ((99 : Int32)) ((111 : Int32)) ((117 : Int32)) ((110 : Int32)) ((116 : Int32)) ((115 : Int32)) ((0 : Int32)) hV_m9 (show (m1 94 68).toInt + (m1 94 69).toInt ≤ 100 from by omega) (fun v12 m11 hV_m11 hb_m11 p0_m11 => zmi_n ?_)
            have p0_m11 : zZW v12 (zwd (m 96) (m1 94 68) (m1 94 69).toInt (99 : Int32) (111 : Int32) (117 : Int32) (110 : Int32) (116 : Int32) (115 : Int32) (0 : Int32)) := p0_m11
            have f47 := i_01 hb_m11
            refine zd (fun (h48 : v12 = (0 : Int32)) => ?_) (fun (h48 : ¬ v12 = (0 : Int32)) => ?_)
            · skip
              have g49 := i_eq h48
              refine sp_175n ((115 : Int32)) ((116 : Int32)) ((101 : Int32)) ((112 : Int32)) ((115 : Int32)) ((0 : Int32)) ((0 : Int32)) hV_m11 (show (m1 94 68).toInt + (m1 94 69).toInt ≤ 100 from by omega) (fun v14 m13 hV_m13 hb_m13 p0_m13 => zmi_n ?_)
              have p0_m13 : zZW v14 (zwd (m 96) (m1 94 68) (m1 94 69).toInt (115 : Int32) (116 : Int32) (101 : Int32) (112 : Int32) (115 : Int32) (0 : Int32) (0 : Int32)) := p0_m13
              have f50 := i_01 hb_m13
              refine zd (fun (h51 : v14 = (0 : Int32)) => ?_) (fun (h51 : ¬ v14 = (0 : Int32)) => ?_)
              · skip
                have g52 := i_eq h51
                have li53 : (114 : Int32).toInt = 114 := rfl
                refine sp_175n ((114 : Int32)) ((101 : Int32)) ((103 : Int32)) ((105 : Int32)) ((111 : Int32)) ((110 : Int32)) ((115 : Int32)) hV_m13 (show (m1 94 68).toInt + (m1 94 69).toInt ≤ 100 from by omega) (fun v16 m15 hV_m15 hb_m15 p0_m15 => zmi_n ?_)
                have p0_m15 : zZW v16 (zwd (m 96) (m1 94 68) (m1 94 69).toInt (114 : Int32) (101 : Int32) (103 : Int32) (105 : Int32) (111 : Int32) (110 : Int32) (115 : Int32)) := p0_m15
                have f54 := i_01 hb_m15
                refine zd (fun (h55 : v16 = (0 : Int32)) => ?_) (fun (h55 : ¬ v16 = (0 : Int32)) => ?_)
                · skip
                  have g56 := i_eq h55
                  have li58 : (-1 : Int32).toInt = -1 := rfl
                  have hV57 : zV (ma_u (zov wr_175 (zov wr_175 (zov wr_175 (zov wr_175 (zov wr_175 (zov wr_175 (zov wr_175 (zov wr_173 (ma_u m 94 67 (0 : Int32)) m1) m3) m5) m7) m9) m11) m13) m15) 94 20 (-1 : Int32)) := us_94_20 hV_m15 (by omega) (by omega)
                  exact lp_172qm_191 hV K _ _  rfl (zF_u (zF_zov (zF_zov (zF_zov (zF_zov (zF_zov (zF_zov (zF_zov (zF_zov (zF_u zF_rfl rfl) ws_173_172) ws_175_172) ws_175_172) ws_175_172) ws_175_172) ws_175_172) ws_175_172) ws_175_172) rfl) hV57 (show 0 ≤ (m 94 27).toInt from by omega) (show (m1 94 67).toInt ≤ (m 94 4).toInt from by omega) (show (m1 94 68).toInt + (m1 94 69).toInt = (m1 94 67).toInt from by omega) (show -1 ≤ (-1 : Int32).toInt ∧ (-1 : Int32).toInt ≤ 6 from by omega) (show (m1 94 68).toInt = tk true (m 96) (m 94 4).toInt 0 from by first | (exact p3_m1) | (exfalso; omega; done) | (exfalso; contradiction; done)) (show (m1 94 67).toInt = tk false (m 96) (m 94 4).toInt (m1 94 68).toInt from by first | (exact p4_m1) | (exfalso; omega; done) | (exfalso; contradiction; done)) (show (-1 : Int32).toInt = zPol (m 96) (m1 94 68) (m1 94 69).toInt from by first | (unfold zPol; rw [if_neg (zno p0_m3 (by assumption)), if_neg (zno p0_m5 (by assumption)), if_neg (zno p0_m7 (by assumption)), if_neg (zno p0_m9 (by assumption)), if_neg (zno p0_m11 (by assumption)), if_neg (zno p0_m13 (by assumption)), if_neg (zno p0_m15 (by assumption))]; first | done | rfl; done) | (unfold zPol; rw [if_neg (zno p0_m3 (by assumption)), if_neg (zno p0_m5 (by assumption)), if_neg (zno p0_m7 (by assumption)), if_neg (zno p0_m9 (by assumption)), if_neg (zno p0_m11 (by assumption)), if_neg (zno p0_m13 (by assumption)), if_neg (zno p0_m15 (by assumption))]; done) | (exfalso; omega; done) | (exfalso; contradiction; done))
                · skip
                  have g59 := i_ne h55
                  have li61 : (6 : Int32).toInt = 6 := rfl
                  have hV60 : zV (ma_u (zov wr_175 (zov wr_175 (zov wr_175 (zov wr_175 (zov wr_175 (zov wr_175 (zov wr_175 (zov wr_173 (ma_u m 94 67 (0 : Int32)) m1) m3) m5) m7) m9) m11) m13) m15) 94 20 (6 : Int32)) := us_94_20 hV_m15 (by omega) (by omega)
                  exact lp_172qm_191 hV K _ _  rfl (zF_u (zF_zov (zF_zov (zF_zov (zF_zov (zF_zov (zF_zov (zF_zov (zF_zov (zF_u zF_rfl rfl) ws_173_172) ws_175_172) ws_175_172) ws_175_172) ws_175_172) ws_175_172) ws_175_172) ws_175_172) rfl) hV60 (show 0 ≤ (m 94 27).toInt from by omega) (show (m1 94 67).toInt ≤ (m 94 4).toInt from by omega) (show (m1 94 68).toInt + (m1 94 69).toInt = (m1 94 67).toInt from by omega) (show -1 ≤ (6 : Int32).toInt ∧ (6 : Int32).toInt ≤ 6 from by omega) (show (m1 94 68).toInt = tk true (m 96) (m 94 4).toInt 0 from by first | (exact p3_m1) | (exfalso; omega; done) | (exfalso; contradiction; done)) (show (m1 94 67).toInt = tk false (m 96) (m 94 4).toInt (m1 94 68).toInt from by first | (exact p4_m1) | (exfalso; omega; done) | (exfalso; contradiction; done)) (show (6 : Int32).toInt = zPol (m 96) (m1 94 68) (m1 94 69).toInt from by first | (unfold zPol; rw [if_neg (zno p0_m3 (by assumption)), if_neg (zno p0_m5 (by assumption)), if_neg (zno p0_m7 (by assumption)), if_neg (zno p0_m9 (by assumption)), if_neg (zno p0_m11 (by assumption)), if_neg (zno p0_m13 (by assumption)), if_pos (zyes p0_m15 (by assumption))]; first | done | rfl; done) | (unfold zPol; rw [if_neg (zno p0_m3 (by assumption)), if_neg (zno p0_m5 (by assumption)), if_neg (zno p0_m7 (by assumption)), if_neg (zno p0_m9 (by assumption)), if_neg (zno p0_m11 (by assumption)), if_neg (zno p0_m13 (by assumption)), if_pos (zyes p0_m15 (by assumption))]; done) | (exfalso; omega; done) | (exfalso; contradiction; done))
              · skip
                have g62 := i_ne h51
                have li64 : (5 : Int32).toInt = 5 := rfl
                have hV63 : zV (ma_u (zov wr_175 (zov wr_175 (zov wr_175 (zov wr_175 (zov wr_175 (zov wr_175 (zov wr_173 (ma_u m 94 67 (0 : Int32)) m1) m3) m5) m7) m9) m11) m13) 94 20 (5 : Int32)) := us_94_20 hV_m13 (by omega) (by omega)
                exact lp_172qm_191 hV K _ _  rfl (zF_u (zF_zov (zF_zov (zF_zov (zF_zov (zF_zov (zF_zov (zF_zov (zF_u zF_rfl rfl) ws_173_172) ws_175_172) ws_175_172) ws_175_172) ws_175_172) ws_175_172) ws_175_172) rfl) hV63 (show 0 ≤ (m 94 27).toInt from by omega) (show (m1 94 67).toInt ≤ (m 94 4).toInt from by omega) (show (m1 94 68).toInt + (m1 94 69).toInt = (m1 94 67).toInt from by omega) (show -1 ≤ (5 : Int32).toInt ∧ (5 : Int32).toInt ≤ 6 from by omega) (show (m1 94 68).toInt = tk true (m 96) (m 94 4).toInt 0 from by first | (exact p3_m1) | (exfalso; omega; done) | (exfalso; contradiction; done)) (show (m1 94 67).toInt = tk false (m 96) (m 94 4).toInt (m1 94 68).toInt from by first | (exact p4_m1) | (exfalso; omega; done) | (exfalso; contradiction; done)) (show (5 : Int32).toInt = zPol (m 96) (m1 94 68) (m1 94 69).toInt from by first | (unfold zPol; rw [if_neg (zno p0_m3 (by assumption)), if_neg (zno p0_m5 (by assumption)), if_neg (zno p0_m7 (by assumption)), if_neg (zno p0_m9 (by assumption)), if_neg (zno p0_m11 (by assumption)), if_pos (zyes p0_m13 (by assumption))]; first | done | rfl; done) | (unfold zPol; rw [if_neg (zno p0_m3 (by assumption)), if_neg (zno p0_m5 (by assumption)), if_neg (zno p0_m7 (by assumption)), if_neg (zno p0_m9 (by assumption)), if_neg (zno p0_m11 (by assumption)), if_pos (zyes p0_m13 (by assumption))]; done) | (exfalso; omega; done) | (exfalso; contradiction; done))
            · skip
              have g65 := i_ne h48
              have li67 : (4 : Int32).toInt = 4 := rfl
              have hV66 : zV (ma_u (zov wr_175 (zov wr_175 (zov wr_175 (zov wr_175 (zov wr_175 (zov wr_173 (ma_u m 94 67 (0 : Int32)) m1) m3) m5) m7) m9) m11) 94 20 (4 : Int32)) := us_94_20 hV_m11 (by omega) (by omega)
              exact lp_172qm_191 hV K _ _  rfl (zF_u (zF_zov (zF_zov (zF_zov (zF_zov (zF_zov (zF_zov (zF_u zF_rfl rfl) ws_173_172) ws_175_172) ws_175_172) ws_175_172) ws_175_172) ws_175_172) rfl) hV66 (show 0 ≤ (m 94 27).toInt from by omega) (show (m1 94 67).toInt ≤ (m 94 4).toInt from by omega) (show (m1 94 68).toInt + (m1 94 69).toInt = (m1 94 67).toInt from by omega) (show -1 ≤ (4 : Int32).toInt ∧ (4 : Int32).toInt ≤ 6 from by omega) (show (m1 94 68).toInt = tk true (m 96) (m 94 4).toInt 0 from by first | (exact p3_m1) | (exfalso; omega; done) | (exfalso; contradiction; done)) (show (m1 94 67).toInt = tk false (m 96) (m 94 4).toInt (m1 94 68).toInt from by first | (exact p4_m1) | (exfalso; omega; done) | (exfalso; contradiction; done)) (show (4 : Int32).toInt = zPol (m 96) (m1 94 68) (m1 94 69).toInt from by first | (unfold zPol; rw [if_neg (zno p0_m3 (by assumption)), if_neg (zno p0_m5 (by assumption)), if_neg (zno p0_m7 (by assumption)), if_neg (zno p0_m9 (by assumption)), if_pos (zyes p0_m11 (by assumption))]; first | done | rfl; done) | (unfold zPol; rw [if_neg (zno p0_m3 (by assumption)), if_neg (zno p0_m5 (by assumption)), if_neg (zno p0_m7 (by assumption)), if_neg (zno p0_m9 (by assumption)), if_pos (zyes p0_m11 (by assumption))]; done) | (exfalso; omega; done) | (exfalso; contradiction; done))
          · skip
            have g68 := i_ne h40
            have li70 : (3 : Int32).toInt = 3 := rfl
            have hV69 : zV (ma_u (zov wr_175 (zov wr_175 (zov wr_175 (zov wr_175 (zov wr_173 (ma_u m 94 67 (0 : Int32)) m1) m3) m5) m7) m9) 94 20 (3 : Int32)) := us_94_20 hV_m9 (by omega) (by omega)
            exact lp_172qm_191 hV K _ _  rfl (zF_u (zF_zov (zF_zov (zF_zov (zF_zov (zF_zov (zF_u zF_rfl rfl) ws_173_172) ws_175_172) ws_175_172) ws_175_172) ws_175_172) rfl) hV69 (show 0 ≤ (m 94 27).toInt from by omega) (show (m1 94 67).toInt ≤ (m 94 4).toInt from by omega) (show (m1 94 68).toInt + (m1 94 69).toInt = (m1 94 67).toInt from by omega) (show -1 ≤ (3 : Int32).toInt ∧ (3 : Int32).toInt ≤ 6 from by omega) (show (m1 94 68).toInt = tk true (m 96) (m 94 4).toInt 0 from by first | (exact p3_m1) | (exfalso; omega; done) | (exfalso; contradiction; done)) (show (m1 94 67).toInt = tk false (m 96) (m 94 4).toInt (m1 94 68).toInt from by first | (exact p4_m1) | (exfalso; omega; done) | (exfalso; contradiction; done)) (show (3 : Int32).toInt = zPol (m 96) (m1 94 68) (m1 94 69).toInt from by first | (unfold zPol; rw [if_neg (zno p0_m3 (by assumption)), if_neg (zno p0_m5 (by assumption)), if_neg (zno p0_m7 (by assumption)), if_pos (zyes p0_m9 (by assumption))]; first | done | rfl; done) | (unfold zPol; rw [if_neg (zno p0_m3 (by assumption)), if_neg (zno p0_m5 (by assumption)), if_neg (zno p0_m7 (by assumption)), if_pos (zyes p0_m9 (by assumption))]; done) | (exfalso; omega; done) | (exfalso; contradiction; done))
        · skip
          have g71 := i_ne h36
          have li73 : (2 : Int32).toInt = 2 := rfl
          have hV72 : zV (ma_u (zov wr_175 (zov wr_175 (zov wr_175 (zov wr_173 (ma_u m 94 67 (0 : Int32)) m1) m3) m5) m7) 94 20 (2 : Int32)) := us_94_20 hV_m7 (by omega) (by omega)
          exact lp_172qm_191 hV K _ _  rfl (zF_u (zF_zov (zF_zov (zF_zov (zF_zov (zF_u zF_rfl rfl) ws_173_172) ws_175_172) ws_175_172) ws_175_172) rfl) hV72 (show 0 ≤ (m 94 27).toInt from by omega) (show (m1 94 67).toInt ≤ (m 94 4).toInt from by omega) (show (m1 94 68).toInt + (m1 94 69).toInt = (m1 94 67).toInt from by omega) (show -1 ≤ (2 : Int32).toInt ∧ (2 : Int32).toInt ≤ 6 from by omega) (show (m1 94 68).toInt = tk true (m 96) (m 94 4).toInt 0 from by first | (exact p3_m1) | (exfalso; omega; done) | (exfalso; contradiction; done)) (show (m1 94 67).toInt = tk false (m 96) (m 94 4).toInt (m1 94 68).toInt from by first | (exact p4_m1) | (exfalso; omega; done) | (exfalso; contradiction; done)) (show (2 : Int32).toInt = zPol (m 96) (m1 94 68) (m1 94 69).toInt from by first | (unfold zPol; rw [if_neg (zno p0_m3 (by assumption)), if_neg (zno p0_m5 (by assumption)), if_pos (zyes p0_m7 (by assumption))]; first | done | rfl; done) | (unfold zPol; rw [if_neg (zno p0_m3 (by assumption)), if_neg (zno p0_m5 (by assumption)), if_pos (zyes p0_m7 (by assumption))]; done) | (exfalso; omega; done) | (exfalso; contradiction; done))
      · skip
        have g74 := i_ne h30
        have li76 : (1 : Int32).toInt = 1 := rfl
        have hV75 : zV (ma_u (zov wr_175 (zov wr_175 (zov wr_173 (ma_u m 94 67 (0 : Int32)) m1) m3) m5) 94 20 (1 : Int32)) := us_94_20 hV_m5 (by omega) (by omega)
        exact lp_172qm_191 hV K _ _  rfl (zF_u (zF_zov (zF_zov (zF_zov (zF_u zF_rfl rfl) ws_173_172) ws_175_172) ws_175_172) rfl) hV75 (show 0 ≤ (m 94 27).toInt from by omega) (show (m1 94 67).toInt ≤ (m 94 4).toInt from by omega) (show (m1 94 68).toInt + (m1 94 69).toInt = (m1 94 67).toInt from by omega) (show -1 ≤ (1 : Int32).toInt ∧ (1 : Int32).toInt ≤ 6 from by omega) (show (m1 94 68).toInt = tk true (m 96) (m 94 4).toInt 0 from by first | (exact p3_m1) | (exfalso; omega; done) | (exfalso; contradiction; done)) (show (m1 94 67).toInt = tk false (m 96) (m 94 4).toInt (m1 94 68).toInt from by first | (exact p4_m1) | (exfalso; omega; done) | (exfalso; contradiction; done)) (show (1 : Int32).toInt = zPol (m 96) (m1 94 68) (m1 94 69).toInt from by first | (unfold zPol; rw [if_neg (zno p0_m3 (by assumption)), if_pos (zyes p0_m5 (by assumption))]; first | done | rfl; done) | (unfold zPol; rw [if_neg (zno p0_m3 (by assumption)), if_pos (zyes p0_m5 (by assumption))]; done) | (exfalso; omega; done) | (exfalso; contradiction; done))
    · skip
      have g77 := i_ne h24
      have hV78 : zV (ma_u (zov wr_175 (zov wr_173 (ma_u m 94 67 (0 : Int32)) m1) m3) 94 20 (0 : Int32)) := us_94_20 hV_m3 (by omega) (by omega)
      exact lp_172qm_191 hV K _ _  rfl (zF_u (zF_zov (zF_zov (zF_u zF_rfl rfl) ws_173_172) ws_175_172) rfl) hV78 (show 0 ≤ (m 94 27).toInt from by omega) (show (m1 94 67).toInt ≤ (m 94 4).toInt from by omega) (show (m1 94 68).toInt + (m1 94 69).toInt = (m1 94 67).toInt from by omega) (show -1 ≤ (0 : Int32).toInt ∧ (0 : Int32).toInt ≤ 6 from by omega) (show (m1 94 68).toInt = tk true (m 96) (m 94 4).toInt 0 from by first | (exact p3_m1) | (exfalso; omega; done) | (exfalso; contradiction; done)) (show (m1 94 67).toInt = tk false (m 96) (m 94 4).toInt (m1 94 68).toInt from by first | (exact p4_m1) | (exfalso; omega; done) | (exfalso; contradiction; done)) (show (0 : Int32).toInt = zPol (m 96) (m1 94 68) (m1 94 69).toInt from by first | (unfold zPol; rw [if_pos (zyes p0_m3 (by assumption))]; first | done | rfl; done) | (unfold zPol; rw [if_pos (zyes p0_m3 (by assumption))]; done) | (exfalso; omega; done) | (exfalso; contradiction; done))

