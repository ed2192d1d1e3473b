/-! the reference: texts (written by wip/tools/gen94n.py) -/
set_option maxHeartbeats 8000000 in
theorem lp_172n_516 {X : Nat × (Nat → Int32)} {P : Option ma_V → (Nat → Nat → Int32) → Prop} {m0 : Nat → Nat → Int32} (h0 : zV m0) (K : ∀ v m', zF wr_172 m0 m' → zV m' → (v = 0 ∨ v = 1) → (v.toInt = 0 ∨ (0 ≤ (m' 94 20).toInt ∧ ((m' 94 20).toInt ≠ 3 ∨ (4 ≤ (m' 94 26).toInt ∧ 16 ≤ (m' 94 23).toInt ∧ 16 ≤ (m' 94 24).toInt)) ∧ ((m' 94 20).toInt = 3 ∨ 16 ≤ (m' 94 21).toInt) ∧ ((m' 94 20).toInt ≠ 6 ∨ (16 ≤ (m' 94 28).toInt ∧ 4 * (m' 94 28).toInt ≤ (m' 94 21).toInt)))) → (zRPr v (m' 94 70).toInt (zAns (m' 96) (m' 94 4).toInt) (zJ5 (zAns (m' 96) (m' 94 4).toInt) (m' 94 20).toInt (m' 94 23).toInt (m' 94 24).toInt (m' 94 21).toInt (m' 94 28).toInt)) → P (some (.inl v)) m') : ∀ (n : Nat) (m : Nat → Nat → Int32) , ((0 : Int)).toNat = n → zF wr_172 m0 m → zV m → ((m 94 67).toInt ≤ (m 94 4).toInt) → (0 ≤ (m 94 20).toInt ∧ ((m 94 20).toInt ≠ 3 ∨ (4 ≤ (m 94 26).toInt ∧ 16 ≤ (m 94 23).toInt ∧ 16 ≤ (m 94 24).toInt)) ∧ ((m 94 20).toInt = 3 ∨ 16 ≤ (m 94 21).toInt)) → (((m 94 20).toInt ≠ 6 ∨ (16 ≤ (m 94 28).toInt ∧ 4 * (m 94 28).toInt ≤ (m 94 21).toInt))) → (zJ4 (m 96) (m 94 4).toInt (m 94 20).toInt (m 94 67).toInt (m 94 23).toInt (m 94 24).toInt (m 94 21).toInt (m 94 28).toInt) → zm X 3 70 172 516 [(0, .inr (.inr (some 94)))] m P := by
  intro n
  induction n using Nat.strongRecOn with
  | _ n IH =>
    intro m  hmu hF hV hi0 hi1 hi2 r_J4
    refine g_172_516  ?_
    have f1 : 0 ≤ (m 94 67).toInt ∧ (m 94 67).toInt ≤ 100 := rs_94_67 (m := m) hV
    have f2 : 0 ≤ (m 94 4).toInt ∧ (m 94 4).toInt ≤ 100 := rs_94_4 (m := m) hV
    have f3 : -1 ≤ (m 94 20).toInt ∧ (m 94 20).toInt ≤ 6 := rs_94_20 (m := m) hV
    have f4 : 0 ≤ (m 94 26).toInt ∧ (m 94 26).toInt ≤ 64 := rs_94_26 (m := m) hV
    have f5 : 0 ≤ (m 94 23).toInt ∧ (m 94 23).toInt ≤ 1500 := rs_94_23 (m := m) hV
    have f6 : 0 ≤ (m 94 24).toInt ∧ (m 94 24).toInt ≤ 1500 := rs_94_24 (m := m) hV
    have f7 : 0 ≤ (m 94 21).toInt ∧ (m 94 21).toInt ≤ 1500 := rs_94_21 (m := m) hV
    have f8 : 0 ≤ (m 94 28).toInt ∧ (m 94 28).toInt ≤ 256 := rs_94_28 (m := m) hV
    refine sp_173n  hV (show (m 94 67).toInt ≤ (m 94 4).toInt from by omega) (fun v2 m1 hV_m1 hb_m1 p0_m1 p1_m1 p2_m1 p3_m1 p4_m1 => zmi_n ?_)
    have p0_m1 : (m1 94 67).toInt ≤ (m 94 4).toInt := p0_m1
    have p1_m1 : (m1 94 68).toInt + (m1 94 69).toInt = (m1 94 67).toInt := p1_m1
    have p2_m1 : (v2.toInt = 1 ∧ 1 ≤ (m1 94 69).toInt) ∨ (v2.toInt = 0 ∧ (m1 94 69).toInt = 0) := p2_m1
    have p3_m1 : (m1 94 68).toInt = tk true (m 96) (m 94 4).toInt (m 94 67).toInt := p3_m1
    have p4_m1 : (m1 94 67).toInt = tk false (m 96) (m 94 4).toInt (m1 94 68).toInt := p4_m1
    have f9 : 0 ≤ (m1 94 67).toInt ∧ (m1 94 67).toInt ≤ 100 := rs_94_67 (m := (zov wr_173 m m1)) hV_m1
    have f10 : 0 ≤ (m1 94 68).toInt ∧ (m1 94 68).toInt ≤ 100 := rs_94_68 (m := (zov wr_173 m m1)) hV_m1
    have f11 : 0 ≤ (m1 94 69).toInt ∧ (m1 94 69).toInt ≤ 100 := rs_94_69 (m := (zov wr_173 m m1)) hV_m1
    have f12 := i_01 hb_m1
    have li13 : (0 : Int32).toInt = 0 := rfl
    refine zd (fun (h14 : v2 = (0 : Int32)) => ?_) (fun (h14 : ¬ v2 = (0 : Int32)) => ?_)
    · skip
      have g15 := i_eq h14
      have li16 : (1 : Int32).toInt = 1 := rfl
      exact K ((1 : Int32)) _ (zF_zov hF ws_173_172) hV_m1 (by decide) (show (1 : Int32).toInt = 0 ∨ (0 ≤ (m 94 20).toInt ∧ ((m 94 20).toInt ≠ 3 ∨ (4 ≤ (m 94 26).toInt ∧ 16 ≤ (m 94 23).toInt ∧ 16 ≤ (m 94 24).toInt)) ∧ ((m 94 20).toInt = 3 ∨ 16 ≤ (m 94 21).toInt) ∧ ((m 94 20).toInt ≠ 6 ∨ (16 ≤ (m 94 28).toInt ∧ 4 * (m 94 28).toInt ≤ (m 94 21).toInt))) from by omega) (show zRPr (1 : Int32) (m 94 70).toInt (zAns (m 96) (m 94 4).toInt) (zJ5 (zAns (m 96) (m 94 4).toInt) (m 94 20).toInt (m 94 23).toInt (m 94 24).toInt (m 94 21).toInt (m 94 28).toInt) from by first | (exact Or.inr ⟨by omega, J45_o r_J4 p3_m1 p4_m1 (by omega)⟩) | (exfalso; omega; done) | (exfalso; contradiction; done))
    · skip
      have g17 := i_ne h14
      have hV18 : zV (ma_u (zov wr_173 m m1) 94 70 (m1 94 68)) := us_94_70 hV_m1 (by omega) (by omega)
      exact K ((0 : Int32)) _ (zF_u (zF_zov hF ws_173_172) rfl) hV18 (by decide) (show (0 : Int32).toInt = 0 ∨ (0 ≤ (m 94 20).toInt ∧ ((m 94 20).toInt ≠ 3 ∨ (4 ≤ (m 94 26).toInt ∧ 16 ≤ (m 94 23).toInt ∧ 16 ≤ (m 94 24).toInt)) ∧ ((m 94 20).toInt = 3 ∨ 16 ≤ (m 94 21).toInt) ∧ ((m 94 20).toInt ≠ 6 ∨ (16 ≤ (m 94 28).toInt ∧ 4 * (m 94 28).toInt ≤ (m 94 21).toInt))) from by omega) (show zRPr (0 : Int32) (m1 94 68).toInt (zAns (m 96) (m 94 4).toInt) (zJ5 (zAns (m 96) (m 94 4).toInt) (m 94 20).toInt (m 94 23).toInt (m 94 24).toInt (m 94 21).toInt (m 94 28).toInt) from by first | (exact Or.inl ⟨by omega, by have q := J45_b r_J4 p3_m1 p4_m1 (by omega); omega⟩) | (exfalso; omega; done) | (exfalso; contradiction; done))
set_option maxHeartbeats 8000000 in
theorem lp_172n_443 {X : Nat × (Nat → Int32)} {P : Option ma_V → (Nat → Nat → Int32) → Prop} {m0 : Nat → Nat → Int32} (h0 : zV m0) (K : ∀ v m', zF wr_172 m0 m' → zV m' → (v = 0 ∨ v = 1) → (v.toInt = 0 ∨ (0 ≤ (m' 94 20).toInt ∧ ((m' 94 20).toInt ≠ 3 ∨ (4 ≤ (m' 94 26).toInt ∧ 16 ≤ (m' 94 23).toInt ∧ 16 ≤ (m' 94 24).toInt)) ∧ ((m' 94 20).toInt = 3 ∨ 16 ≤ (m' 94 21).toInt) ∧ ((m' 94 20).toInt ≠ 6 ∨ (16 ≤ (m' 94 28).toInt ∧ 4 * (m' 94 28).toInt ≤ (m' 94 21).toInt)))) → (zRPr v (m' 94 70).toInt (zAns (m' 96) (m' 94 4).toInt) (zJ5 (zAns (m' 96) (m' 94 4).toInt) (m' 94 20).toInt (m' 94 23).toInt (m' 94 24).toInt (m' 94 21).toInt (m' 94 28).toInt)) → P (some (.inl v)) m') : ∀ (n : Nat) (m : Nat → Nat → Int32) , ((0 : Int)).toNat = n → zF wr_172 m0 m → zV m → ((m 94 67).toInt ≤ (m 94 4).toInt) → (0 ≤ (m 94 20).toInt ∧ ((m 94 20).toInt ≠ 3 ∨ (4 ≤ (m 94 26).toInt ∧ 16 ≤ (m 94 23).toInt ∧ 16 ≤ (m 94 24).toInt)) ∧ ((m 94 20).toInt = 3 ∨ 16 ≤ (m 94 21).toInt)) → (zJ3 (m 96) (m 94 4).toInt (m 94 20).toInt (m 94 67).toInt (m 94 23).toInt (m 94 24).toInt (m 94 21).toInt) → zm X 3 70 172 443 [(0, .inr (.inr (some 94)))] m P := by
  intro n
  induction n using Nat.strongRecOn with
  | _ n IH =>
    intro m  hmu hF hV hi0 hi1 r_J3
    refine g_172_443  ?_
    have f1 : 0 ≤ (m 94 67).toInt ∧ (m 94 67).toInt ≤ 100 := rs_94_67 (m := m) hV
    have f2 : 0 ≤ (m 94 4).toInt ∧ (m 94 4).toInt ≤ 100 := rs_94_4 (m := m) hV
    have f3 : -1 ≤ (m 94 20).toInt ∧ (m 94 20).toInt ≤ 6 := rs_94_20 (m := m) hV
    have f4 : 0 ≤ (m 94 26).toInt ∧ (m 94 26).toInt ≤ 64 := rs_94_26 (m := m) hV
    have f5 : 0 ≤ (m 94 23).toInt ∧ (m 94 23).toInt ≤ 1500 := rs_94_23 (m := m) hV
    have f6 : 0 ≤ (m 94 24).toInt ∧ (m 94 24).toInt ≤ 1500 := rs_94_24 (m := m) hV
    have f7 : 0 ≤ (m 94 21).toInt ∧ (m 94 21).toInt ≤ 1500 := rs_94_21 (m := m) hV
    have li8 : (6 : Int32).toInt = 6 := rfl
    refine zd (fun (h9 : (m 94 20) = (6 : Int32)) => ?_) (fun (h9 : ¬ (m 94 20) = (6 : Int32)) => ?_)
    · skip
      have g10 := i_eq h9
      have li11 : (16 : Int32).toInt = 16 := rfl
      have li12 : (256 : Int32).toInt = 256 := rfl
      refine sp_177n ((16 : Int32)) ((256 : Int32)) hV (show (m 94 67).toInt ≤ (m 94 4).toInt from by omega) (fun v2 m1 hV_m1 hb_m1 p0_m1 p1_m1 p2_m1 p3_m1 p4_m1 p5_m1 p6_m1 => zmi_n ?_)
      have p0_m1 : (m1 94 67).toInt ≤ (m 94 4).toInt := p0_m1
      have p1_m1 : (m1 94 68).toInt + (m1 94 69).toInt ≤ 100 := p1_m1
      have p2_m1 : v2.toInt = 1 → (16 : Int32).toInt ≤ (m1 94 71).toInt ∧ (m1 94 71).toInt ≤ (256 : Int32).toInt := p2_m1
      have p3_m1 : (m1 94 68).toInt + (m1 94 69).toInt = (m1 94 67).toInt := p3_m1
      have p4_m1 : (m1 94 68).toInt = tk true (m 96) (m 94 4).toInt (m 94 67).toInt := p4_m1
      have p5_m1 : (m1 94 67).toInt = tk false (m 96) (m 94 4).toInt (m1 94 68).toInt := p5_m1
      have p6_m1 : zNU v2 (m1 94 71).toInt (zNum (m 96) (m1 94 68).toInt (m1 94 67).toInt (16 : Int32).toInt (256 : Int32).toInt) (m1 94 70).toInt (m1 94 68).toInt := p6_m1
      have f13 : 0 ≤ (m1 94 67).toInt ∧ (m1 94 67).toInt ≤ 100 := rs_94_67 (m := (zov wr_177 m m1)) hV_m1
      have f14 : 0 ≤ (m1 94 68).toInt ∧ (m1 94 68).toInt ≤ 100 := rs_94_68 (m := (zov wr_177 m m1)) hV_m1
      have f15 : 0 ≤ (m1 94 69).toInt ∧ (m1 94 69).toInt ≤ 100 := rs_94_69 (m := (zov wr_177 m m1)) hV_m1
      have b16 := i_bd (m1 94 71)
      have f17 := i_01 hb_m1
      have li18 : (0 : Int32).toInt = 0 := rfl
      refine zd (fun (h19 : v2 = (0 : Int32)) => ?_) (fun (h19 : ¬ v2 = (0 : Int32)) => ?_)
      · skip
        have g20 := i_eq h19
        have f21 : 0 ≤ (m 94 28).toInt ∧ (m 94 28).toInt ≤ 256 := rs_94_28 (m := m) hV
        exact K ((0 : Int32)) _ (zF_zov hF ws_177_172) hV_m1 (by decide) (show (0 : Int32).toInt = 0 ∨ (0 ≤ (m 94 20).toInt ∧ ((m 94 20).toInt ≠ 3 ∨ (4 ≤ (m 94 26).toInt ∧ 16 ≤ (m 94 23).toInt ∧ 16 ≤ (m 94 24).toInt)) ∧ ((m 94 20).toInt = 3 ∨ 16 ≤ (m 94 21).toInt) ∧ ((m 94 20).toInt ≠ 6 ∨ (16 ≤ (m 94 28).toInt ∧ 4 * (m 94 28).toInt ≤ (m 94 21).toInt))) from by omega) (show zRPr (0 : Int32) (m1 94 70).toInt (zAns (m 96) (m 94 4).toInt) (zJ5 (zAns (m 96) (m 94 4).toInt) (m 94 20).toInt (m 94 23).toInt (m 94 24).toInt (m 94 21).toInt (m 94 28).toInt) from by first | (exact Or.inl ⟨by omega, by have q := J34_1 r_J3 (by omega) p4_m1 p5_m1 (zNum_z0 (NU_no p6_m1 (by omega))); have y := (NU_br p6_m1 (by omega)); omega⟩) | (exfalso; omega; done) | (exfalso; contradiction; done))
      · skip
        have g22 := i_ne h19
        have li23 : (4 : Int32).toInt = 4 := rfl
        first | have e24 : ((4 : Int32) * (m1 94 71)).toInt = 4 * (m1 94 71).toInt := i_mulk2 rfl (by omega) (by omega) | have b25 := i_bd ((4 : Int32) * (m1 94 71))
        refine zd (fun (h26 : ((4 : Int32) * (m1 94 71)) ≤ (m 94 21)) => ?_) (fun (h26 : ¬ ((4 : Int32) * (m1 94 71)) ≤ (m 94 21)) => ?_)
        · skip
          have g27 := i_le h26
          have li28 : (100 : Int32).toInt = 100 := rfl
          have hV29 : zV (ma_u (zov wr_177 m m1) 94 28 (m1 94 71)) := us_94_28 hV_m1 (by omega) (by omega)
          refine sp_177n ((0 : Int32)) ((100 : Int32)) hV29 (show (m1 94 67).toInt ≤ (m 94 4).toInt from by omega) (fun v4 m3 hV_m3 hb_m3 p0_m3 p1_m3 p2_m3 p3_m3 p4_m3 p5_m3 p6_m3 => zmi_n ?_)
          have p0_m3 : (m3 94 67).toInt ≤ (m 94 4).toInt := p0_m3
          have p1_m3 : (m3 94 68).toInt + (m3 94 69).toInt ≤ 100 := p1_m3
          have p2_m3 : v4.toInt = 1 → (0 : Int32).toInt ≤ (m3 94 71).toInt ∧ (m3 94 71).toInt ≤ (100 : Int32).toInt := p2_m3
          have p3_m3 : (m3 94 68).toInt + (m3 94 69).toInt = (m3 94 67).toInt := p3_m3
          have p4_m3 : (m3 94 68).toInt = tk true (m 96) (m 94 4).toInt (m1 94 67).toInt := p4_m3
          have p5_m3 : (m3 94 67).toInt = tk false (m 96) (m 94 4).toInt (m3 94 68).toInt := p5_m3
          have p6_m3 : zNU v4 (m3 94 71).toInt (zNum (m 96) (m3 94 68).toInt (m3 94 67).toInt (0 : Int32).toInt (100 : Int32).toInt) (m3 94 70).toInt (m3 94 68).toInt := p6_m3
          have f30 : 0 ≤ (m3 94 67).toInt ∧ (m3 94 67).toInt ≤ 100 := rs_94_67 (m := (zov wr_177 (ma_u (zov wr_177 m m1) 94 28 (m1 94 71)) m3)) hV_m3
          have f31 : 0 ≤ (m3 94 68).toInt ∧ (m3 94 68).toInt ≤ 100 := rs_94_68 (m := (zov wr_177 (ma_u (zov wr_177 m m1) 94 28 (m1 94 71)) m3)) hV_m3
          have f32 : 0 ≤ (m3 94 69).toInt ∧ (m3 94 69).toInt ≤ 100 := rs_94_69 (m := (zov wr_177 (ma_u (zov wr_177 m m1) 94 28 (m1 94 71)) m3)) hV_m3
          have b33 := i_bd (m3 94 71)
          have f34 := i_01 hb_m3
          refine zd (fun (h35 : v4 = (0 : Int32)) => ?_) (fun (h35 : ¬ v4 = (0 : Int32)) => ?_)
          · skip
            have g36 := i_eq h35
            exact K ((0 : Int32)) _ (zF_zov (zF_u (zF_zov hF ws_177_172) rfl) ws_177_172) hV_m3 (by decide) (show (0 : Int32).toInt = 0 ∨ (0 ≤ (m 94 20).toInt ∧ ((m 94 20).toInt ≠ 3 ∨ (4 ≤ (m 94 26).toInt ∧ 16 ≤ (m 94 23).toInt ∧ 16 ≤ (m 94 24).toInt)) ∧ ((m 94 20).toInt = 3 ∨ 16 ≤ (m 94 21).toInt) ∧ ((m 94 20).toInt ≠ 6 ∨ (16 ≤ (m1 94 71).toInt ∧ 4 * (m1 94 71).toInt ≤ (m 94 21).toInt))) from by omega) (show zRPr (0 : Int32) (m3 94 70).toInt (zAns (m 96) (m 94 4).toInt) (zJ5 (zAns (m 96) (m 94 4).toInt) (m 94 20).toInt (m 94 23).toInt (m 94 24).toInt (m 94 21).toInt (m1 94 71).toInt) from by first | (exact Or.inl ⟨by omega, by have q := J34_3 (J34_2 r_J3 (by omega) p4_m1 p5_m1 (zNum_z2 (NU_ok p6_m1 (by omega)).symm (by omega) (by omega) (by omega)).symm (by omega)) p4_m3 p5_m3 (NU_no p6_m3 (by omega)); have y := (NU_br p6_m3 (by omega)); omega⟩) | (exfalso; omega; done) | (exfalso; contradiction; done))
          · skip
            have g37 := i_ne h35
            have hV38 : zV (ma_u (zov wr_177 (ma_u (zov wr_177 m m1) 94 28 (m1 94 71)) m3) 94 29 (m3 94 71)) := uf_94_29 hV_m3
            exact lp_172n_516 h0 K _ _  rfl (zF_u (zF_zov (zF_u (zF_zov hF ws_177_172) rfl) ws_177_172) rfl) hV38 (show (m3 94 67).toInt ≤ (m 94 4).toInt from by omega) (show 0 ≤ (m 94 20).toInt ∧ ((m 94 20).toInt ≠ 3 ∨ (4 ≤ (m 94 26).toInt ∧ 16 ≤ (m 94 23).toInt ∧ 16 ≤ (m 94 24).toInt)) ∧ ((m 94 20).toInt = 3 ∨ 16 ≤ (m 94 21).toInt) from by omega) (show ((m 94 20).toInt ≠ 6 ∨ (16 ≤ (m1 94 71).toInt ∧ 4 * (m1 94 71).toInt ≤ (m 94 21).toInt)) from by omega) (show zJ4 (m 96) (m 94 4).toInt (m 94 20).toInt (m3 94 67).toInt (m 94 23).toInt (m 94 24).toInt (m 94 21).toInt (m1 94 71).toInt from by first | (exact J34_4 (J34_2 r_J3 (by omega) p4_m1 p5_m1 (zNum_z2 (NU_ok p6_m1 (by omega)).symm (by omega) (by omega) (by omega)).symm (by omega)) (by omega) p4_m3 p5_m3 (NU_ok p6_m3 (by omega)) (by omega)) | (exfalso; omega; done) | (exfalso; contradiction; done))
        · skip
          have g39 := i_nle h26
          have hV40 : zV (ma_u (zov wr_177 m m1) 94 28 (m1 94 71)) := us_94_28 hV_m1 (by omega) (by omega)
          have hV41 : zV (ma_u (ma_u (zov wr_177 m m1) 94 28 (m1 94 71)) 94 70 (m1 94 68)) := us_94_70 hV40 (by omega) (by omega)
          exact K ((0 : Int32)) _ (zF_u (zF_u (zF_zov hF ws_177_172) rfl) rfl) hV41 (by decide) (show (0 : Int32).toInt = 0 ∨ (0 ≤ (m 94 20).toInt ∧ ((m 94 20).toInt ≠ 3 ∨ (4 ≤ (m 94 26).toInt ∧ 16 ≤ (m 94 23).toInt ∧ 16 ≤ (m 94 24).toInt)) ∧ ((m 94 20).toInt = 3 ∨ 16 ≤ (m 94 21).toInt) ∧ ((m 94 20).toInt ≠ 6 ∨ (16 ≤ (m1 94 71).toInt ∧ 4 * (m1 94 71).toInt ≤ (m 94 21).toInt))) from by omega) (show zRPr (0 : Int32) (m1 94 68).toInt (zAns (m 96) (m 94 4).toInt) (zJ5 (zAns (m 96) (m 94 4).toInt) (m 94 20).toInt (m 94 23).toInt (m 94 24).toInt (m 94 21).toInt (m1 94 71).toInt) from by first | (exact Or.inl ⟨by omega, by have q := J34_1 r_J3 (by omega) p4_m1 p5_m1 (zNum_z1 (NU_ok p6_m1 (by omega)).symm (by omega) (by omega)); omega⟩) | (exfalso; omega; done) | (exfalso; contradiction; done))
    · skip
      have g42 := i_ne h9
      have f43 : 0 ≤ (m 94 28).toInt ∧ (m 94 28).toInt ≤ 256 := rs_94_28 (m := m) hV
      exact lp_172n_516 h0 K _ _  rfl hF hV (show (m 94 67).toInt ≤ (m 94 4).toInt from by omega) (show 0 ≤ (m 94 20).toInt ∧ ((m 94 20).toInt ≠ 3 ∨ (4 ≤ (m 94 26).toInt ∧ 16 ≤ (m 94 23).toInt ∧ 16 ≤ (m 94 24).toInt)) ∧ ((m 94 20).toInt = 3 ∨ 16 ≤ (m 94 21).toInt) from by omega) (show ((m 94 20).toInt ≠ 6 ∨ (16 ≤ (m 94 28).toInt ∧ 4 * (m 94 28).toInt ≤ (m 94 21).toInt)) from by omega) (show zJ4 (m 96) (m 94 4).toInt (m 94 20).toInt (m 94 67).toInt (m 94 23).toInt (m 94 24).toInt (m 94 21).toInt (m 94 28).toInt from by first | (exact J34_n r_J3 (by omega)) | (exfalso; omega; done) | (exfalso; contradiction; done))
set_option maxHeartbeats 8000000 in
theorem lp_172n_343 {X : Nat × (Nat → Int32)} {P : Option ma_V → (Nat → Nat → Int32) → Prop} {m0 : Nat → Nat → Int32} (h0 : zV m0) (K : ∀ v m', zF wr_172 m0 m' → zV m' → (v = 0 ∨ v = 1) → (v.toInt = 0 ∨ (0 ≤ (m' 94 20).toInt ∧ ((m' 94 20).toInt ≠ 3 ∨ (4 ≤ (m' 94 26).toInt ∧ 16 ≤ (m' 94 23).toInt ∧ 16 ≤ (m' 94 24).toInt)) ∧ ((m' 94 20).toInt = 3 ∨ 16 ≤ (m' 94 21).toInt) ∧ ((m' 94 20).toInt ≠ 6 ∨ (16 ≤ (m' 94 28).toInt ∧ 4 * (m' 94 28).toInt ≤ (m' 94 21).toInt)))) → (zRPr v (m' 94 70).toInt (zAns (m' 96) (m' 94 4).toInt) (zJ5 (zAns (m' 96) (m' 94 4).toInt) (m' 94 20).toInt (m' 94 23).toInt (m' 94 24).toInt (m' 94 21).toInt (m' 94 28).toInt)) → P (some (.inl v)) m') : ∀ (n : Nat) (m : Nat → Nat → Int32) , ((0 : Int)).toNat = n → zF wr_172 m0 m → zV m → ((m 94 67).toInt ≤ (m 94 4).toInt) → (0 ≤ (m 94 20).toInt ∧ ((m 94 20).toInt ≠ 3 ∨ (4 ≤ (m 94 26).toInt ∧ 16 ≤ (m 94 23).toInt ∧ 16 ≤ (m 94 24).toInt)) ∧ ((m 94 20).toInt = 3 ∨ 16 ≤ (m 94 21).toInt)) → (zJ2 (m 96) (m 94 4).toInt (m 94 20).toInt (m 94 67).toInt (m 94 23).toInt (m 94 24).toInt (m 94 21).toInt) → zm X 3 70 172 343 [(0, .inr (.inr (some 94)))] m P := by
  intro n
  induction n using Nat.strongRecOn with
  | _ n IH =>
    intro m  hmu hF hV hi0 hi1 r_J2
    refine g_172_343  ?_
    have f1 : 0 ≤ (m 94 67).toInt ∧ (m 94 67).toInt ≤ 100 := rs_94_67 (m := m) hV
    have f2 : 0 ≤ (m 94 4).toInt ∧ (m 94 4).toInt ≤ 100 := rs_94_4 (m := m) hV
    have f3 : -1 ≤ (m 94 20).toInt ∧ (m 94 20).toInt ≤ 6 := rs_94_20 (m := m) hV
    have f4 : 0 ≤ (m 94 26).toInt ∧ (m 94 26).toInt ≤ 64 := rs_94_26 (m := m) hV
    have f5 : 0 ≤ (m 94 23).toInt ∧ (m 94 23).toInt ≤ 1500 := rs_94_23 (m := m) hV
    have f6 : 0 ≤ (m 94 24).toInt ∧ (m 94 24).toInt ≤ 1500 := rs_94_24 (m := m) hV
    have f7 : 0 ≤ (m 94 21).toInt ∧ (m 94 21).toInt ≤ 1500 := rs_94_21 (m := m) hV
    have li8 : (5 : Int32).toInt = 5 := rfl
    refine zd (fun (h9 : (m 94 20) = (5 : Int32)) => ?_) (fun (h9 : ¬ (m 94 20) = (5 : Int32)) => ?_)
    · skip
      have g10 := i_eq h9
      have li11 : (1 : Int32).toInt = 1 := rfl
      have li12 : (50 : Int32).toInt = 50 := rfl
      refine sp_177n ((1 : Int32)) ((50 : Int32)) hV (show (m 94 67).toInt ≤ (m 94 4).toInt from by omega) (fun v2 m1 hV_m1 hb_m1 p0_m1 p1_m1 p2_m1 p3_m1 p4_m1 p5_m1 p6_m1 => zmi_n ?_)
      have p0_m1 : (m1 94 67).toInt ≤ (m 94 4).toInt := p0_m1
      have p1_m1 : (m1 94 68).toInt + (m1 94 69).toInt ≤ 100 := p1_m1
      have p2_m1 : v2.toInt = 1 → (1 : Int32).toInt ≤ (m1 94 71).toInt ∧ (m1 94 71).toInt ≤ (50 : Int32).toInt := p2_m1
      have p3_m1 : (m1 94 68).toInt + (m1 94 69).toInt = (m1 94 67).toInt := p3_m1
      have p4_m1 : (m1 94 68).toInt = tk true (m 96) (m 94 4).toInt (m 94 67).toInt := p4_m1
      have p5_m1 : (m1 94 67).toInt = tk false (m 96) (m 94 4).toInt (m1 94 68).toInt := p5_m1
      have p6_m1 : zNU v2 (m1 94 71).toInt (zNum (m 96) (m1 94 68).toInt (m1 94 67).toInt (1 : Int32).toInt (50 : Int32).toInt) (m1 94 70).toInt (m1 94 68).toInt := p6_m1
      have f13 : 0 ≤ (m1 94 67).toInt ∧ (m1 94 67).toInt ≤ 100 := rs_94_67 (m := (zov wr_177 m m1)) hV_m1
      have f14 : 0 ≤ (m1 94 68).toInt ∧ (m1 94 68).toInt ≤ 100 := rs_94_68 (m := (zov wr_177 m m1)) hV_m1
      have f15 : 0 ≤ (m1 94 69).toInt ∧ (m1 94 69).toInt ≤ 100 := rs_94_69 (m := (zov wr_177 m m1)) hV_m1
      have b16 := i_bd (m1 94 71)
      have f17 := i_01 hb_m1
      have li18 : (0 : Int32).toInt = 0 := rfl
      refine zd (fun (h19 : v2 = (0 : Int32)) => ?_) (fun (h19 : ¬ v2 = (0 : Int32)) => ?_)
      · skip
        have g20 := i_eq h19
        have f21 : 0 ≤ (m 94 28).toInt ∧ (m 94 28).toInt ≤ 256 := rs_94_28 (m := m) hV
        exact K ((0 : Int32)) _ (zF_zov hF ws_177_172) hV_m1 (by decide) (show (0 : Int32).toInt = 0 ∨ (0 ≤ (m 94 20).toInt ∧ ((m 94 20).toInt ≠ 3 ∨ (4 ≤ (m 94 26).toInt ∧ 16 ≤ (m 94 23).toInt ∧ 16 ≤ (m 94 24).toInt)) ∧ ((m 94 20).toInt = 3 ∨ 16 ≤ (m 94 21).toInt) ∧ ((m 94 20).toInt ≠ 6 ∨ (16 ≤ (m 94 28).toInt ∧ 4 * (m 94 28).toInt ≤ (m 94 21).toInt))) from by omega) (show zRPr (0 : Int32) (m1 94 70).toInt (zAns (m 96) (m 94 4).toInt) (zJ5 (zAns (m 96) (m 94 4).toInt) (m 94 20).toInt (m 94 23).toInt (m 94 24).toInt (m 94 21).toInt (m 94 28).toInt) from by first | (exact Or.inl ⟨by omega, by have q := J23_1 r_J2 (by omega) p4_m1 p5_m1 (NU_no p6_m1 (by omega)); have y := (NU_br p6_m1 (by omega)); omega⟩) | (exfalso; omega; done) | (exfalso; contradiction; done))
      · skip
        have g22 := i_ne h19
        have hV23 : zV (ma_u (zov wr_177 m m1) 94 27 (m1 94 71)) := uf_94_27 hV_m1
        refine sp_173n  hV23 (show (m1 94 67).toInt ≤ (m 94 4).toInt from by omega) (fun v4 m3 hV_m3 hb_m3 p0_m3 p1_m3 p2_m3 p3_m3 p4_m3 => zmi_n ?_)
        have p0_m3 : (m3 94 67).toInt ≤ (m 94 4).toInt := p0_m3
        have p1_m3 : (m3 94 68).toInt + (m3 94 69).toInt = (m3 94 67).toInt := p1_m3
        have p2_m3 : (v4.toInt = 1 ∧ 1 ≤ (m3 94 69).toInt) ∨ (v4.toInt = 0 ∧ (m3 94 69).toInt = 0) := p2_m3
        have p3_m3 : (m3 94 68).toInt = tk true (m 96) (m 94 4).toInt (m1 94 67).toInt := p3_m3
        have p4_m3 : (m3 94 67).toInt = tk false (m 96) (m 94 4).toInt (m3 94 68).toInt := p4_m3
        have f24 : 0 ≤ (m3 94 67).toInt ∧ (m3 94 67).toInt ≤ 100 := rs_94_67 (m := (zov wr_173 (ma_u (zov wr_177 m m1) 94 27 (m1 94 71)) m3)) hV_m3
        have f25 : 0 ≤ (m3 94 68).toInt ∧ (m3 94 68).toInt ≤ 100 := rs_94_68 (m := (zov wr_173 (ma_u (zov wr_177 m m1) 94 27 (m1 94 71)) m3)) hV_m3
        have f26 : 0 ≤ (m3 94 69).toInt ∧ (m3 94 69).toInt ≤ 100 := rs_94_69 (m := (zov wr_173 (ma_u (zov wr_177 m m1) 94 27 (m1 94 71)) m3)) hV_m3
        have f27 := i_01 hb_m3
        refine zd (fun (h28 : v4 = (0 : Int32)) => ?_) (fun (h28 : ¬ v4 = (0 : Int32)) => ?_)
        · skip
          have g29 := i_eq h28
          have hV30 : zV (ma_u (zov wr_173 (ma_u (zov wr_177 m m1) 94 27 (m1 94 71)) m3) 94 70 (m 94 4)) := us_94_70 hV_m3 (by omega) (by omega)
          have f31 : 0 ≤ (m 94 28).toInt ∧ (m 94 28).toInt ≤ 256 := rs_94_28 (m := m) hV
          exact K ((0 : Int32)) _ (zF_u (zF_zov (zF_u (zF_zov hF ws_177_172) rfl) ws_173_172) rfl) hV30 (by decide) (show (0 : Int32).toInt = 0 ∨ (0 ≤ (m 94 20).toInt ∧ ((m 94 20).toInt ≠ 3 ∨ (4 ≤ (m 94 26).toInt ∧ 16 ≤ (m 94 23).toInt ∧ 16 ≤ (m 94 24).toInt)) ∧ ((m 94 20).toInt = 3 ∨ 16 ≤ (m 94 21).toInt) ∧ ((m 94 20).toInt ≠ 6 ∨ (16 ≤ (m 94 28).toInt ∧ 4 * (m 94 28).toInt ≤ (m 94 21).toInt))) from by omega) (show zRPr (0 : Int32) (m 94 4).toInt (zAns (m 96) (m 94 4).toInt) (zJ5 (zAns (m 96) (m 94 4).toInt) (m 94 20).toInt (m 94 23).toInt (m 94 24).toInt (m 94 21).toInt (m 94 28).toInt) from by first | (exact Or.inl ⟨by omega, by have zs := tk_end (by omega) p3_m3 p4_m3 (by omega); have q := J23_3 (J23_2 r_J2 (by omega) p4_m1 p5_m1 (NU_ok p6_m1 (by omega)) (by omega)) p3_m3 p4_m3 (zBar_0 (z := (m3 94 69).toInt) (by omega)) (by omega); omega⟩) | (exfalso; omega; done) | (exfalso; contradiction; done))
        · skip
          have g32 := i_ne h28
          have li33 : (112 : Int32).toInt = 112 := rfl
          have li34 : (105 : Int32).toInt = 105 := rfl
          have li35 : (99 : Int32).toInt = 99 := rfl
          have li36 : (116 : Int32).toInt = 116 := rfl
          have li37 : (117 : Int32).toInt = 117 := rfl
          have li38 : (114 : Int32).toInt = 114 := rfl
          have li39 : (101 : Int32).toInt = 101 := rfl
          refine sp_175n ((112 : Int32)) ((105 : Int32)) ((99 : Int32)) ((116 : Int32)) ((117 : Int32)) ((114 : Int32)) ((101 : Int32)) hV_m3 (show (m3 94 68).toInt + (m3 94 69).toInt ≤ 100 from by omega) (fun v6 m5 hV_m5 hb_m5 p0_m5 => zmi_n ?_)
          have p0_m5 : zZW v6 (zwd (m 96) (m3 94 68) (m3 94 69).toInt (112 : Int32) (105 : Int32) (99 : Int32) (116 : Int32) (117 : Int32) (114 : Int32) (101 : Int32)) := p0_m5
          have f40 := i_01 hb_m5
          have hg41 : (v6 = 0 ∨ v6 = 1) := (i_bool (by omega) (by omega))
          refine ⟨hg41, ?_⟩
          refine zd (fun (h42 : v6 = (0 : Int32)) => ?_) (fun (h42 : ¬ v6 = (0 : Int32)) => ?_)
          · skip
            have g43 := i_eq h42
            have li44 : (110 : Int32).toInt = 110 := rfl
            have li45 : (119 : Int32).toInt = 119 := rfl
            have li46 : (115 : Int32).toInt = 115 := rfl
            have hV47 : zV (ma_u (zov wr_175 (zov wr_173 (ma_u (zov wr_177 m m1) 94 27 (m1 94 71)) m3) m5) 94 30 v6) := us_94_30 hV_m5 (by omega) (by omega)
            refine sp_175n ((110 : Int32)) ((101 : Int32)) ((119 : Int32)) ((115 : Int32)) ((0 : Int32)) ((0 : Int32)) ((0 : Int32)) hV47 (show (m3 94 68).toInt + (m3 94 69).toInt ≤ 100 from by omega) (fun v8 m7 hV_m7 hb_m7 p0_m7 => zmi_n ?_)
            have p0_m7 : zZW v8 (zwd (m 96) (m3 94 68) (m3 94 69).toInt (110 : Int32) (101 : Int32) (119 : Int32) (115 : Int32) (0 : Int32) (0 : Int32) (0 : Int32)) := p0_m7
            have f48 := i_01 hb_m7
            refine zd (fun (h49 : v8 = (0 : Int32)) => ?_) (fun (h49 : ¬ v8 = (0 : Int32)) => ?_)
            · skip
              have g50 := i_eq h49
              have hV51 : zV (ma_u (zov wr_175 (ma_u (zov wr_175 (zov wr_173 (ma_u (zov wr_177 m m1) 94 27 (m1 94 71)) m3) m5) 94 30 v6) m7) 94 70 (m3 94 68)) := us_94_70 hV_m7 (by omega) (by omega)
              have f52 : 0 ≤ (m 94 28).toInt ∧ (m 94 28).toInt ≤ 256 := rs_94_28 (m := m) hV
              exact K ((0 : Int32)) _ (zF_u (zF_zov (zF_u (zF_zov (zF_zov (zF_u (zF_zov hF ws_177_172) rfl) ws_173_172) ws_175_172) rfl) ws_175_172) rfl) hV51 (by decide) (show (0 : Int32).toInt = 0 ∨ (0 ≤ (m 94 20).toInt ∧ ((m 94 20).toInt ≠ 3 ∨ (4 ≤ (m 94 26).toInt ∧ 16 ≤ (m 94 23).toInt ∧ 16 ≤ (m 94 24).toInt)) ∧ ((m 94 20).toInt = 3 ∨ 16 ≤ (m 94 21).toInt) ∧ ((m 94 20).toInt ≠ 6 ∨ (16 ≤ (m 94 28).toInt ∧ 4 * (m 94 28).toInt ≤ (m 94 21).toInt))) from by omega) (show zRPr (0 : Int32) (m3 94 68).toInt (zAns (m 96) (m 94 4).toInt) (zJ5 (zAns (m 96) (m 94 4).toInt) (m 94 20).toInt (m 94 23).toInt (m 94 24).toInt (m 94 21).toInt (m 94 28).toInt) from by first | (exact Or.inl ⟨by omega, by have q := J23_3 (z := (m3 94 69).toInt) (J23_2 r_J2 (by omega) p4_m1 p5_m1 (NU_ok p6_m1 (by omega)) (by omega)) p3_m3 p4_m3 (by (unfold zBar; rw [if_neg (zno p0_m5 (by assumption)), if_neg (zno p0_m7 (by assumption))])) (by omega); omega⟩) | (exfalso; omega; done) | (exfalso; contradiction; done))
            · skip
              have g53 := i_ne h49
              exact lp_172n_443 h0 K _ _  rfl (zF_zov (zF_u (zF_zov (zF_zov (zF_u (zF_zov hF ws_177_172) rfl) ws_173_172) ws_175_172) rfl) ws_175_172) hV_m7 (show (m3 94 67).toInt ≤ (m 94 4).toInt from by omega) (show 0 ≤ (m 94 20).toInt ∧ ((m 94 20).toInt ≠ 3 ∨ (4 ≤ (m 94 26).toInt ∧ 16 ≤ (m 94 23).toInt ∧ 16 ≤ (m 94 24).toInt)) ∧ ((m 94 20).toInt = 3 ∨ 16 ≤ (m 94 21).toInt) from by omega) (show zJ3 (m 96) (m 94 4).toInt (m 94 20).toInt (m3 94 67).toInt (m 94 23).toInt (m 94 24).toInt (m 94 21).toInt from by first | (exact J23_4 (x := 1) (z := (m3 94 69).toInt) (J23_2 r_J2 (by omega) p4_m1 p5_m1 (NU_ok p6_m1 (by omega)) (by omega)) (by omega) p3_m3 p4_m3 (by (unfold zBar; rw [if_neg (zno p0_m5 (by assumption)), if_pos (zyes p0_m7 (by assumption))])) (by omega) (by omega)) | (exfalso; omega; done) | (exfalso; contradiction; done))
          · skip
            have g54 := i_ne h42
            have hV55 : zV (ma_u (zov wr_175 (zov wr_173 (ma_u (zov wr_177 m m1) 94 27 (m1 94 71)) m3) m5) 94 30 v6) := us_94_30 hV_m5 (by omega) (by omega)
            exact lp_172n_443 h0 K _ _  rfl (zF_u (zF_zov (zF_zov (zF_u (zF_zov hF ws_177_172) rfl) ws_173_172) ws_175_172) rfl) hV55 (show (m3 94 67).toInt ≤ (m 94 4).toInt from by omega) (show 0 ≤ (m 94 20).toInt ∧ ((m 94 20).toInt ≠ 3 ∨ (4 ≤ (m 94 26).toInt ∧ 16 ≤ (m 94 23).toInt ∧ 16 ≤ (m 94 24).toInt)) ∧ ((m 94 20).toInt = 3 ∨ 16 ≤ (m 94 21).toInt) from by omega) (show zJ3 (m 96) (m 94 4).toInt (m 94 20).toInt (m3 94 67).toInt (m 94 23).toInt (m 94 24).toInt (m 94 21).toInt from by first | (exact J23_4 (x := 0) (z := (m3 94 69).toInt) (J23_2 r_J2 (by omega) p4_m1 p5_m1 (NU_ok p6_m1 (by omega)) (by omega)) (by omega) p3_m3 p4_m3 (by (unfold zBar; rw [if_pos (zyes p0_m5 (by assumption))])) (by omega) (by omega)) | (exfalso; omega; done) | (exfalso; contradiction; done))
    · skip
      have g56 := i_ne h9
      exact lp_172n_443 h0 K _ _  rfl hF hV (show (m 94 67).toInt ≤ (m 94 4).toInt from by omega) (show 0 ≤ (m 94 20).toInt ∧ ((m 94 20).toInt ≠ 3 ∨ (4 ≤ (m 94 26).toInt ∧ 16 ≤ (m 94 23).toInt ∧ 16 ≤ (m 94 24).toInt)) ∧ ((m 94 20).toInt = 3 ∨ 16 ≤ (m 94 21).toInt) from by omega) (show zJ3 (m 96) (m 94 4).toInt (m 94 20).toInt (m 94 67).toInt (m 94 23).toInt (m 94 24).toInt (m 94 21).toInt from by first | (exact J23_n r_J2 (by omega)) | (exfalso; omega; done) | (exfalso; contradiction; done))
set_option maxHeartbeats 8000000 in
theorem lp_172n_311 {X : Nat × (Nat → Int32)} {P : Option ma_V → (Nat → Nat → Int32) → Prop} {m0 : Nat → Nat → Int32} (h0 : zV m0) (K : ∀ v m', zF wr_172 m0 m' → zV m' → (v = 0 ∨ v = 1) → (v.toInt = 0 ∨ (0 ≤ (m' 94 20).toInt ∧ ((m' 94 20).toInt ≠ 3 ∨ (4 ≤ (m' 94 26).toInt ∧ 16 ≤ (m' 94 23).toInt ∧ 16 ≤ (m' 94 24).toInt)) ∧ ((m' 94 20).toInt = 3 ∨ 16 ≤ (m' 94 21).toInt) ∧ ((m' 94 20).toInt ≠ 6 ∨ (16 ≤ (m' 94 28).toInt ∧ 4 * (m' 94 28).toInt ≤ (m' 94 21).toInt)))) → (zRPr v (m' 94 70).toInt (zAns (m' 96) (m' 94 4).toInt) (zJ5 (zAns (m' 96) (m' 94 4).toInt) (m' 94 20).toInt (m' 94 23).toInt (m' 94 24).toInt (m' 94 21).toInt (m' 94 28).toInt)) → P (some (.inl v)) m') : ∀ (n : Nat) (m : Nat → Nat → Int32) , ((0 : Int)).toNat = n → zF wr_172 m0 m → zV m → ((m 94 67).toInt ≤ (m 94 4).toInt) → (0 ≤ (m 94 20).toInt ∧ ((m 94 20).toInt ≠ 3 ∨ (4 ≤ (m 94 26).toInt ∧ 16 ≤ (m 94 23).toInt ∧ 16 ≤ (m 94 24).toInt)) ∧ ((m 94 20).toInt = 3 ∨ 16 ≤ (m 94 21).toInt)) → (zJ1 (m 96) (m 94 4).toInt (m 94 20).toInt (m 94 67).toInt (m 94 23).toInt (m 94 24).toInt (m 94 21).toInt) → zm X 3 70 172 311 [(0, .inr (.inr (some 94)))] m P := by
  intro n
  induction n using Nat.strongRecOn with
  | _ n IH =>
    intro m  hmu hF hV hi0 hi1 r_J1
    refine g_172_311  ?_
    have f1 : 0 ≤ (m 94 67).toInt ∧ (m 94 67).toInt ≤ 100 := rs_94_67 (m := m) hV
    have f2 : 0 ≤ (m 94 4).toInt ∧ (m 94 4).toInt ≤ 100 := rs_94_4 (m := m) hV
    have f3 : -1 ≤ (m 94 20).toInt ∧ (m 94 20).toInt ≤ 6 := rs_94_20 (m := m) hV
    have f4 : 0 ≤ (m 94 26).toInt ∧ (m 94 26).toInt ≤ 64 := rs_94_26 (m := m) hV
    have f5 : 0 ≤ (m 94 23).toInt ∧ (m 94 23).toInt ≤ 1500 := rs_94_23 (m := m) hV
    have f6 : 0 ≤ (m 94 24).toInt ∧ (m 94 24).toInt ≤ 1500 := rs_94_24 (m := m) hV
    have f7 : 0 ≤ (m 94 21).toInt ∧ (m 94 21).toInt ≤ 1500 := rs_94_21 (m := m) hV
    have li8 : (0 : Int32).toInt = 0 := rfl
    refine zd (fun (h9 : (m 94 20) = (0 : Int32)) => ?_) (fun (h9 : ¬ (m 94 20) = (0 : Int32)) => ?_)
    · skip
      have g10 := i_eq h9
      refine sp_179n  hV (show (m 94 67).toInt ≤ (m 94 4).toInt from by omega) (fun v2 m1 hV_m1 hb_m1 p0_m1 p1_m1 p2_m1 p3_m1 p4_m1 => zmi_n ?_)
      have p0_m1 : (m1 94 67).toInt ≤ (m 94 4).toInt := p0_m1
      have p1_m1 : (m1 94 68).toInt + (m1 94 69).toInt = (m1 94 67).toInt := p1_m1
      have p2_m1 : (m1 94 68).toInt = tk true (m 96) (m 94 4).toInt (m 94 67).toInt := p2_m1
      have p3_m1 : (m1 94 67).toInt = tk false (m 96) (m 94 4).toInt (m1 94 68).toInt := p3_m1
      have p4_m1 : zFO v2 (m1 94 22).toInt (zForm (m 96) (m1 94 68) (m1 94 69).toInt) (m1 94 70).toInt (m1 94 68).toInt := p4_m1
      have f11 : 0 ≤ (m1 94 67).toInt ∧ (m1 94 67).toInt ≤ 100 := rs_94_67 (m := (zov wr_179 m m1)) hV_m1
      have f12 : 0 ≤ (m1 94 68).toInt ∧ (m1 94 68).toInt ≤ 100 := rs_94_68 (m := (zov wr_179 m m1)) hV_m1
      have f13 : 0 ≤ (m1 94 69).toInt ∧ (m1 94 69).toInt ≤ 100 := rs_94_69 (m := (zov wr_179 m m1)) hV_m1
      have f14 := i_01 hb_m1
      refine zd (fun (h15 : v2 = (0 : Int32)) => ?_) (fun (h15 : ¬ v2 = (0 : Int32)) => ?_)
      · skip
        have g16 := i_eq h15
        have f17 : 0 ≤ (m 94 28).toInt ∧ (m 94 28).toInt ≤ 256 := rs_94_28 (m := m) hV
        exact K ((0 : Int32)) _ (zF_zov hF ws_179_172) hV_m1 (by decide) (show (0 : Int32).toInt = 0 ∨ (0 ≤ (m 94 20).toInt ∧ ((m 94 20).toInt ≠ 3 ∨ (4 ≤ (m 94 26).toInt ∧ 16 ≤ (m 94 23).toInt ∧ 16 ≤ (m 94 24).toInt)) ∧ ((m 94 20).toInt = 3 ∨ 16 ≤ (m 94 21).toInt) ∧ ((m 94 20).toInt ≠ 6 ∨ (16 ≤ (m 94 28).toInt ∧ 4 * (m 94 28).toInt ≤ (m 94 21).toInt))) from by omega) (show zRPr (0 : Int32) (m1 94 70).toInt (zAns (m 96) (m 94 4).toInt) (zJ5 (zAns (m 96) (m 94 4).toInt) (m 94 20).toInt (m 94 23).toInt (m 94 24).toInt (m 94 21).toInt (m 94 28).toInt) from by first | (exact Or.inl ⟨by omega, by have q := J12_b r_J1 (by omega) p2_m1 p3_m1 (FO_no p4_m1 (by omega)) (by omega); have y := (FO_br p4_m1 (by omega)); omega⟩) | (exfalso; omega; done) | (exfalso; contradiction; done))
      · skip
        have g18 := i_ne h15
        exact lp_172n_343 h0 K _ _  rfl (zF_zov hF ws_179_172) hV_m1 (show (m1 94 67).toInt ≤ (m 94 4).toInt from by omega) (show 0 ≤ (m 94 20).toInt ∧ ((m 94 20).toInt ≠ 3 ∨ (4 ≤ (m 94 26).toInt ∧ 16 ≤ (m 94 23).toInt ∧ 16 ≤ (m 94 24).toInt)) ∧ ((m 94 20).toInt = 3 ∨ 16 ≤ (m 94 21).toInt) from by omega) (show zJ2 (m 96) (m 94 4).toInt (m 94 20).toInt (m1 94 67).toInt (m 94 23).toInt (m 94 24).toInt (m 94 21).toInt from by first | (exact J12_f r_J1 (by omega) p2_m1 p3_m1 (FO_ok p4_m1 (by omega)).1 (by omega) (by have y := (FO_ok p4_m1 (by omega)).2; omega)) | (exfalso; omega; done) | (exfalso; contradiction; done))
    · skip
      have g19 := i_ne h9
      have li20 : (4 : Int32).toInt = 4 := rfl
      refine zd (fun (h21 : (m 94 20) = (4 : Int32)) => ?_) (fun (h21 : ¬ (m 94 20) = (4 : Int32)) => ?_)
      · skip
        have g22 := i_eq h21
        refine sp_179n  hV (show (m 94 67).toInt ≤ (m 94 4).toInt from by omega) (fun v4 m3 hV_m3 hb_m3 p0_m3 p1_m3 p2_m3 p3_m3 p4_m3 => zmi_n ?_)
        have p0_m3 : (m3 94 67).toInt ≤ (m 94 4).toInt := p0_m3
        have p1_m3 : (m3 94 68).toInt + (m3 94 69).toInt = (m3 94 67).toInt := p1_m3
        have p2_m3 : (m3 94 68).toInt = tk true (m 96) (m 94 4).toInt (m 94 67).toInt := p2_m3
        have p3_m3 : (m3 94 67).toInt = tk false (m 96) (m 94 4).toInt (m3 94 68).toInt := p3_m3
        have p4_m3 : zFO v4 (m3 94 22).toInt (zForm (m 96) (m3 94 68) (m3 94 69).toInt) (m3 94 70).toInt (m3 94 68).toInt := p4_m3
        have f23 : 0 ≤ (m3 94 67).toInt ∧ (m3 94 67).toInt ≤ 100 := rs_94_67 (m := (zov wr_179 m m3)) hV_m3
        have f24 : 0 ≤ (m3 94 68).toInt ∧ (m3 94 68).toInt ≤ 100 := rs_94_68 (m := (zov wr_179 m m3)) hV_m3
        have f25 : 0 ≤ (m3 94 69).toInt ∧ (m3 94 69).toInt ≤ 100 := rs_94_69 (m := (zov wr_179 m m3)) hV_m3
        have f26 := i_01 hb_m3
        refine zd (fun (h27 : v4 = (0 : Int32)) => ?_) (fun (h27 : ¬ v4 = (0 : Int32)) => ?_)
        · skip
          have g28 := i_eq h27
          have f29 : 0 ≤ (m 94 28).toInt ∧ (m 94 28).toInt ≤ 256 := rs_94_28 (m := m) hV
          exact K ((0 : Int32)) _ (zF_zov hF ws_179_172) hV_m3 (by decide) (show (0 : Int32).toInt = 0 ∨ (0 ≤ (m 94 20).toInt ∧ ((m 94 20).toInt ≠ 3 ∨ (4 ≤ (m 94 26).toInt ∧ 16 ≤ (m 94 23).toInt ∧ 16 ≤ (m 94 24).toInt)) ∧ ((m 94 20).toInt = 3 ∨ 16 ≤ (m 94 21).toInt) ∧ ((m 94 20).toInt ≠ 6 ∨ (16 ≤ (m 94 28).toInt ∧ 4 * (m 94 28).toInt ≤ (m 94 21).toInt))) from by omega) (show zRPr (0 : Int32) (m3 94 70).toInt (zAns (m 96) (m 94 4).toInt) (zJ5 (zAns (m 96) (m 94 4).toInt) (m 94 20).toInt (m 94 23).toInt (m 94 24).toInt (m 94 21).toInt (m 94 28).toInt) from by first | (exact Or.inl ⟨by omega, by have q := J12_b r_J1 (by omega) p2_m3 p3_m3 (FO_no p4_m3 (by omega)) (by omega); have y := (FO_br p4_m3 (by omega)); omega⟩) | (exfalso; omega; done) | (exfalso; contradiction; done))
        · skip
          have g30 := i_ne h27
          exact lp_172n_343 h0 K _ _  rfl (zF_zov hF ws_179_172) hV_m3 (show (m3 94 67).toInt ≤ (m 94 4).toInt from by omega) (show 0 ≤ (m 94 20).toInt ∧ ((m 94 20).toInt ≠ 3 ∨ (4 ≤ (m 94 26).toInt ∧ 16 ≤ (m 94 23).toInt ∧ 16 ≤ (m 94 24).toInt)) ∧ ((m 94 20).toInt = 3 ∨ 16 ≤ (m 94 21).toInt) from by omega) (show zJ2 (m 96) (m 94 4).toInt (m 94 20).toInt (m3 94 67).toInt (m 94 23).toInt (m 94 24).toInt (m 94 21).toInt from by first | (exact J12_f r_J1 (by omega) p2_m3 p3_m3 (FO_ok p4_m3 (by omega)).1 (by omega) (by have y := (FO_ok p4_m3 (by omega)).2; omega)) | (exfalso; omega; done) | (exfalso; contradiction; done))
      · skip
        have g31 := i_ne h21
        have li32 : (5 : Int32).toInt = 5 := rfl
        refine zd (fun (h33 : (m 94 20) = (5 : Int32)) => ?_) (fun (h33 : ¬ (m 94 20) = (5 : Int32)) => ?_)
        · skip
          have g34 := i_eq h33
          refine sp_179n  hV (show (m 94 67).toInt ≤ (m 94 4).toInt from by omega) (fun v6 m5 hV_m5 hb_m5 p0_m5 p1_m5 p2_m5 p3_m5 p4_m5 => zmi_n ?_)
          have p0_m5 : (m5 94 67).toInt ≤ (m 94 4).toInt := p0_m5
          have p1_m5 : (m5 94 68).toInt + (m5 94 69).toInt = (m5 94 67).toInt := p1_m5
          have p2_m5 : (m5 94 68).toInt = tk true (m 96) (m 94 4).toInt (m 94 67).toInt := p2_m5
          have p3_m5 : (m5 94 67).toInt = tk false (m 96) (m 94 4).toInt (m5 94 68).toInt := p3_m5
          have p4_m5 : zFO v6 (m5 94 22).toInt (zForm (m 96) (m5 94 68) (m5 94 69).toInt) (m5 94 70).toInt (m5 94 68).toInt := p4_m5
          have f35 : 0 ≤ (m5 94 67).toInt ∧ (m5 94 67).toInt ≤ 100 := rs_94_67 (m := (zov wr_179 m m5)) hV_m5
          have f36 : 0 ≤ (m5 94 68).toInt ∧ (m5 94 68).toInt ≤ 100 := rs_94_68 (m := (zov wr_179 m m5)) hV_m5
          have f37 : 0 ≤ (m5 94 69).toInt ∧ (m5 94 69).toInt ≤ 100 := rs_94_69 (m := (zov wr_179 m m5)) hV_m5
          have f38 := i_01 hb_m5
          refine zd (fun (h39 : v6 = (0 : Int32)) => ?_) (fun (h39 : ¬ v6 = (0 : Int32)) => ?_)
          · skip
            have g40 := i_eq h39
            have f41 : 0 ≤ (m 94 28).toInt ∧ (m 94 28).toInt ≤ 256 := rs_94_28 (m := m) hV
            exact K ((0 : Int32)) _ (zF_zov hF ws_179_172) hV_m5 (by decide) (show (0 : Int32).toInt = 0 ∨ (0 ≤ (m 94 20).toInt ∧ ((m 94 20).toInt ≠ 3 ∨ (4 ≤ (m 94 26).toInt ∧ 16 ≤ (m 94 23).toInt ∧ 16 ≤ (m 94 24).toInt)) ∧ ((m 94 20).toInt = 3 ∨ 16 ≤ (m 94 21).toInt) ∧ ((m 94 20).toInt ≠ 6 ∨ (16 ≤ (m 94 28).toInt ∧ 4 * (m 94 28).toInt ≤ (m 94 21).toInt))) from by omega) (show zRPr (0 : Int32) (m5 94 70).toInt (zAns (m 96) (m 94 4).toInt) (zJ5 (zAns (m 96) (m 94 4).toInt) (m 94 20).toInt (m 94 23).toInt (m 94 24).toInt (m 94 21).toInt (m 94 28).toInt) from by first | (exact Or.inl ⟨by omega, by have q := J12_b r_J1 (by omega) p2_m5 p3_m5 (FO_no p4_m5 (by omega)) (by omega); have y := (FO_br p4_m5 (by omega)); omega⟩) | (exfalso; omega; done) | (exfalso; contradiction; done))
          · skip
            have g42 := i_ne h39
            exact lp_172n_343 h0 K _ _  rfl (zF_zov hF ws_179_172) hV_m5 (show (m5 94 67).toInt ≤ (m 94 4).toInt from by omega) (show 0 ≤ (m 94 20).toInt ∧ ((m 94 20).toInt ≠ 3 ∨ (4 ≤ (m 94 26).toInt ∧ 16 ≤ (m 94 23).toInt ∧ 16 ≤ (m 94 24).toInt)) ∧ ((m 94 20).toInt = 3 ∨ 16 ≤ (m 94 21).toInt) from by omega) (show zJ2 (m 96) (m 94 4).toInt (m 94 20).toInt (m5 94 67).toInt (m 94 23).toInt (m 94 24).toInt (m 94 21).toInt from by first | (exact J12_f r_J1 (by omega) p2_m5 p3_m5 (FO_ok p4_m5 (by omega)).1 (by omega) (by have y := (FO_ok p4_m5 (by omega)).2; omega)) | (exfalso; omega; done) | (exfalso; contradiction; done))
        · skip
          have g43 := i_ne h33
          exact lp_172n_343 h0 K _ _  rfl hF hV (show (m 94 67).toInt ≤ (m 94 4).toInt from by omega) (show 0 ≤ (m 94 20).toInt ∧ ((m 94 20).toInt ≠ 3 ∨ (4 ≤ (m 94 26).toInt ∧ 16 ≤ (m 94 23).toInt ∧ 16 ≤ (m 94 24).toInt)) ∧ ((m 94 20).toInt = 3 ∨ 16 ≤ (m 94 21).toInt) from by omega) (show zJ2 (m 96) (m 94 4).toInt (m 94 20).toInt (m 94 67).toInt (m 94 23).toInt (m 94 24).toInt (m 94 21).toInt from by first | (exact J12_n r_J1 (by omega) (by omega) (by omega)) | (exfalso; omega; done) | (exfalso; contradiction; done))
set_option maxHeartbeats 8000000 in
theorem lp_172n_191 {X : Nat × (Nat → Int32)} {P : Option ma_V → (Nat → Nat → Int32) → Prop} {m0 : Nat → Nat → Int32} (h0 : zV m0) (K : ∀ v m', zF wr_172 m0 m' → zV m' → (v = 0 ∨ v = 1) → (v.toInt = 0 ∨ (0 ≤ (m' 94 20).toInt ∧ ((m' 94 20).toInt ≠ 3 ∨ (4 ≤ (m' 94 26).toInt ∧ 16 ≤ (m' 94 23).toInt ∧ 16 ≤ (m' 94 24).toInt)) ∧ ((m' 94 20).toInt = 3 ∨ 16 ≤ (m' 94 21).toInt) ∧ ((m' 94 20).toInt ≠ 6 ∨ (16 ≤ (m' 94 28).toInt ∧ 4 * (m' 94 28).toInt ≤ (m' 94 21).toInt)))) → (zRPr v (m' 94 70).toInt (zAns (m' 96) (m' 94 4).toInt) (zJ5 (zAns (m' 96) (m' 94 4).toInt) (m' 94 20).toInt (m' 94 23).toInt (m' 94 24).toInt (m' 94 21).toInt (m' 94 28).toInt)) → P (some (.inl v)) m') : ∀ (n : Nat) (m : Nat → Nat → Int32) , ((0 : Int)).toNat = n → zF wr_172 m0 m → zV m → ((m 94 67).toInt ≤ (m 94 4).toInt) → ((m 94 68).toInt + (m 94 69).toInt = (m 94 67).toInt) → (-1 ≤ (m 94 20).toInt ∧ (m 94 20).toInt ≤ 6) → ((m 94 68).toInt = tk true (m 96) (m 94 4).toInt 0) → ((m 94 67).toInt = tk false (m 96) (m 94 4).toInt (m 94 68).toInt) → ((m 94 20).toInt = zPol (m 96) (m 94 68) (m 94 69).toInt) → zm X 3 70 172 191 [(0, .inr (.inr (some 94)))] m P := by
  intro n
  induction n using Nat.strongRecOn with
  | _ n IH =>
    intro m  hmu hF hV hi0 hi1 hi2 r_J0a r_J0b r_J0c
    refine g_172_191  ?_
    have f1 : 0 ≤ (m 94 67).toInt ∧ (m 94 67).toInt ≤ 100 := rs_94_67 (m := m) hV
    have f2 : 0 ≤ (m 94 4).toInt ∧ (m 94 4).toInt ≤ 100 := rs_94_4 (m := m) hV
    have f3 : 0 ≤ (m 94 68).toInt ∧ (m 94 68).toInt ≤ 100 := rs_94_68 (m := m) hV
    have f4 : 0 ≤ (m 94 69).toInt ∧ (m 94 69).toInt ≤ 100 := rs_94_69 (m := m) hV
    have f5 : -1 ≤ (m 94 20).toInt ∧ (m 94 20).toInt ≤ 6 := rs_94_20 (m := m) hV
    have li6 : (0 : Int32).toInt = 0 := rfl
    refine zd (fun (h7 : (0 : Int32) ≤ (m 94 20)) => ?_) (fun (h7 : ¬ (0 : Int32) ≤ (m 94 20)) => ?_)
    · skip
      have g8 := i_le h7
      have li9 : (3 : Int32).toInt = 3 := rfl
      refine zd (fun (h10 : (m 94 20) = (3 : Int32)) => ?_) (fun (h10 : ¬ (m 94 20) = (3 : Int32)) => ?_)
      · skip
        have g11 := i_eq h10
        have li12 : (16 : Int32).toInt = 16 := rfl
        have li13 : (1500 : Int32).toInt = 1500 := rfl
        refine sp_177n ((16 : Int32)) ((1500 : Int32)) hV (show (m 94 67).toInt ≤ (m 94 4).toInt from by omega) (fun v4 m3 hV_m3 hb_m3 p0_m3 p1_m3 p2_m3 p3_m3 p4_m3 p5_m3 p6_m3 => zmi_n ?_)
        have p0_m3 : (m3 94 67).toInt ≤ (m 94 4).toInt := p0_m3
        have p1_m3 : (m3 94 68).toInt + (m3 94 69).toInt ≤ 100 := p1_m3
        have p2_m3 : v4.toInt = 1 → (16 : Int32).toInt ≤ (m3 94 71).toInt ∧ (m3 94 71).toInt ≤ (1500 : Int32).toInt := p2_m3
        have p3_m3 : (m3 94 68).toInt + (m3 94 69).toInt = (m3 94 67).toInt := p3_m3
        have p4_m3 : (m3 94 68).toInt = tk true (m 96) (m 94 4).toInt (m 94 67).toInt := p4_m3
        have p5_m3 : (m3 94 67).toInt = tk false (m 96) (m 94 4).toInt (m3 94 68).toInt := p5_m3
        have p6_m3 : zNU v4 (m3 94 71).toInt (zNum (m 96) (m3 94 68).toInt (m3 94 67).toInt (16 : Int32).toInt (1500 : Int32).toInt) (m3 94 70).toInt (m3 94 68).toInt := p6_m3
        have f14 : 0 ≤ (m3 94 67).toInt ∧ (m3 94 67).toInt ≤ 100 := rs_94_67 (m := (zov wr_177 m m3)) hV_m3
        have f15 : 0 ≤ (m3 94 68).toInt ∧ (m3 94 68).toInt ≤ 100 := rs_94_68 (m := (zov wr_177 m m3)) hV_m3
        have f16 : 0 ≤ (m3 94 69).toInt ∧ (m3 94 69).toInt ≤ 100 := rs_94_69 (m := (zov wr_177 m m3)) hV_m3
        have b17 := i_bd (m3 94 71)
        have f18 := i_01 hb_m3
        refine zd (fun (h19 : v4 = (0 : Int32)) => ?_) (fun (h19 : ¬ v4 = (0 : Int32)) => ?_)
        · skip
          have g20 := i_eq h19
          have f21 : 0 ≤ (m 94 26).toInt ∧ (m 94 26).toInt ≤ 64 := rs_94_26 (m := m) hV
          have f22 : 0 ≤ (m 94 23).toInt ∧ (m 94 23).toInt ≤ 1500 := rs_94_23 (m := m) hV
          have f23 : 0 ≤ (m 94 24).toInt ∧ (m 94 24).toInt ≤ 1500 := rs_94_24 (m := m) hV
          have f24 : 0 ≤ (m 94 21).toInt ∧ (m 94 21).toInt ≤ 1500 := rs_94_21 (m := m) hV
          have f25 : 0 ≤ (m 94 28).toInt ∧ (m 94 28).toInt ≤ 256 := rs_94_28 (m := m) hV
          exact K ((0 : Int32)) _ (zF_zov hF ws_177_172) hV_m3 (by decide) (show (0 : Int32).toInt = 0 ∨ (0 ≤ (m 94 20).toInt ∧ ((m 94 20).toInt ≠ 3 ∨ (4 ≤ (m 94 26).toInt ∧ 16 ≤ (m 94 23).toInt ∧ 16 ≤ (m 94 24).toInt)) ∧ ((m 94 20).toInt = 3 ∨ 16 ≤ (m 94 21).toInt) ∧ ((m 94 20).toInt ≠ 6 ∨ (16 ≤ (m 94 28).toInt ∧ 4 * (m 94 28).toInt ≤ (m 94 21).toInt))) from by omega) (show zRPr (0 : Int32) (m3 94 70).toInt (zAns (m 96) (m 94 4).toInt) (zJ5 (zAns (m 96) (m 94 4).toInt) (m 94 20).toInt (m 94 23).toInt (m 94 24).toInt (m 94 21).toInt (m 94 28).toInt) from by first | (have q := (zAns_goz r_J0a r_J0b r_J0c (by omega) (by omega)); rw [show zPts (m 94 20).toInt = [0, 0, 1, 2] from by rw [show (m 94 20).toInt = 3 from by omega]; rfl] at q; have q2 := q.trans (zRun_badp (s := (m3 94 68)) (e := (m3 94 67).toInt) p4_m3 rfl p5_m3 (show zNum (m 96) (m3 94 68).toInt (m3 94 67).toInt 16 1500 = zPart _ _ _ _ _ from rfl) (NU_no p6_m3 (by omega))); exact Or.inl ⟨by omega, by have y := (NU_br p6_m3 (by omega)); omega⟩; done) | (exfalso; omega; done) | (exfalso; contradiction; done))
        · skip
          have g26 := i_ne h19
          have hV27 : zV (ma_u (zov wr_177 m m3) 94 23 (m3 94 71)) := us_94_23 hV_m3 (by omega) (by omega)
          refine sp_177n ((16 : Int32)) ((1500 : Int32)) hV27 (show (m3 94 67).toInt ≤ (m 94 4).toInt from by omega) (fun v6 m5 hV_m5 hb_m5 p0_m5 p1_m5 p2_m5 p3_m5 p4_m5 p5_m5 p6_m5 => zmi_n ?_)
          have p0_m5 : (m5 94 67).toInt ≤ (m 94 4).toInt := p0_m5
          have p1_m5 : (m5 94 68).toInt + (m5 94 69).toInt ≤ 100 := p1_m5
          have p2_m5 : v6.toInt = 1 → (16 : Int32).toInt ≤ (m5 94 71).toInt ∧ (m5 94 71).toInt ≤ (1500 : Int32).toInt := p2_m5
          have p3_m5 : (m5 94 68).toInt + (m5 94 69).toInt = (m5 94 67).toInt := p3_m5
          have p4_m5 : (m5 94 68).toInt = tk true (m 96) (m 94 4).toInt (m3 94 67).toInt := p4_m5
          have p5_m5 : (m5 94 67).toInt = tk false (m 96) (m 94 4).toInt (m5 94 68).toInt := p5_m5
          have p6_m5 : zNU v6 (m5 94 71).toInt (zNum (m 96) (m5 94 68).toInt (m5 94 67).toInt (16 : Int32).toInt (1500 : Int32).toInt) (m5 94 70).toInt (m5 94 68).toInt := p6_m5
          have f28 : 0 ≤ (m5 94 67).toInt ∧ (m5 94 67).toInt ≤ 100 := rs_94_67 (m := (zov wr_177 (ma_u (zov wr_177 m m3) 94 23 (m3 94 71)) m5)) hV_m5
          have f29 : 0 ≤ (m5 94 68).toInt ∧ (m5 94 68).toInt ≤ 100 := rs_94_68 (m := (zov wr_177 (ma_u (zov wr_177 m m3) 94 23 (m3 94 71)) m5)) hV_m5
          have f30 : 0 ≤ (m5 94 69).toInt ∧ (m5 94 69).toInt ≤ 100 := rs_94_69 (m := (zov wr_177 (ma_u (zov wr_177 m m3) 94 23 (m3 94 71)) m5)) hV_m5
          have b31 := i_bd (m5 94 71)
          have f32 := i_01 hb_m5
          refine zd (fun (h33 : v6 = (0 : Int32)) => ?_) (fun (h33 : ¬ v6 = (0 : Int32)) => ?_)
          · skip
            have g34 := i_eq h33
            have f35 : 0 ≤ (m 94 26).toInt ∧ (m 94 26).toInt ≤ 64 := rs_94_26 (m := m) hV
            have f36 : 0 ≤ (m 94 24).toInt ∧ (m 94 24).toInt ≤ 1500 := rs_94_24 (m := m) hV
            have f37 : 0 ≤ (m 94 21).toInt ∧ (m 94 21).toInt ≤ 1500 := rs_94_21 (m := m) hV
            have f38 : 0 ≤ (m 94 28).toInt ∧ (m 94 28).toInt ≤ 256 := rs_94_28 (m := m) hV
            exact K ((0 : Int32)) _ (zF_zov (zF_u (zF_zov hF ws_177_172) rfl) ws_177_172) hV_m5 (by decide) (show (0 : Int32).toInt = 0 ∨ (0 ≤ (m 94 20).toInt ∧ ((m 94 20).toInt ≠ 3 ∨ (4 ≤ (m 94 26).toInt ∧ 16 ≤ (m3 94 71).toInt ∧ 16 ≤ (m 94 24).toInt)) ∧ ((m 94 20).toInt = 3 ∨ 16 ≤ (m 94 21).toInt) ∧ ((m 94 20).toInt ≠ 6 ∨ (16 ≤ (m 94 28).toInt ∧ 4 * (m 94 28).toInt ≤ (m 94 21).toInt))) from by omega) (show zRPr (0 : Int32) (m5 94 70).toInt (zAns (m 96) (m 94 4).toInt) (zJ5 (zAns (m 96) (m 94 4).toInt) (m 94 20).toInt (m3 94 71).toInt (m 94 24).toInt (m 94 21).toInt (m 94 28).toInt) from by first | (have q := (zAns_goz r_J0a r_J0b r_J0c (by omega) (by omega)); rw [show zPts (m 94 20).toInt = [0, 0, 1, 2] from by rw [show (m 94 20).toInt = 3 from by omega]; rfl] at q; replace q := q.trans (zRun_ok0 (s := (m3 94 68)) (e := (m3 94 67).toInt) (x := (m3 94 71).toInt) p4_m3 rfl p5_m3 (show (m3 94 71).toInt = zNum (m 96) (m3 94 68).toInt (m3 94 67).toInt 16 1500 from (NU_ok p6_m3 (by omega))) (by omega)); have q2 := q.trans (zRun_badp (s := (m5 94 68)) (e := (m5 94 67).toInt) p4_m5 rfl p5_m5 (show zNum (m 96) (m5 94 68).toInt (m5 94 67).toInt 16 1500 = zPart _ _ _ _ _ from rfl) (NU_no p6_m5 (by omega))); exact Or.inl ⟨by omega, by have y := (NU_br p6_m5 (by omega)); omega⟩; done) | (exfalso; omega; done) | (exfalso; contradiction; done))
          · skip
            have g39 := i_ne h33
            have li40 : (1 : Int32).toInt = 1 := rfl
            have li41 : (7 : Int32).toInt = 7 := rfl
            have hV42 : zV (ma_u (zov wr_177 (ma_u (zov wr_177 m m3) 94 23 (m3 94 71)) m5) 94 24 (m5 94 71)) := us_94_24 hV_m5 (by omega) (by omega)
            refine sp_177n ((1 : Int32)) ((7 : Int32)) hV42 (show (m5 94 67).toInt ≤ (m 94 4).toInt from by omega) (fun v8 m7 hV_m7 hb_m7 p0_m7 p1_m7 p2_m7 p3_m7 p4_m7 p5_m7 p6_m7 => zmi_n ?_)
            have p0_m7 : (m7 94 67).toInt ≤ (m 94 4).toInt := p0_m7
            have p1_m7 : (m7 94 68).toInt + (m7 94 69).toInt ≤ 100 := p1_m7
            have p2_m7 : v8.toInt = 1 → (1 : Int32).toInt ≤ (m7 94 71).toInt ∧ (m7 94 71).toInt ≤ (7 : Int32).toInt := p2_m7
            have p3_m7 : (m7 94 68).toInt + (m7 94 69).toInt = (m7 94 67).toInt := p3_m7
            have p4_m7 : (m7 94 68).toInt = tk true (m 96) (m 94 4).toInt (m5 94 67).toInt := p4_m7
            have p5_m7 : (m7 94 67).toInt = tk false (m 96) (m 94 4).toInt (m7 94 68).toInt := p5_m7
            have p6_m7 : zNU v8 (m7 94 71).toInt (zNum (m 96) (m7 94 68).toInt (m7 94 67).toInt (1 : Int32).toInt (7 : Int32).toInt) (m7 94 70).toInt (m7 94 68).toInt := p6_m7
            have f43 : 0 ≤ (m7 94 67).toInt ∧ (m7 94 67).toInt ≤ 100 := rs_94_67 (m := (zov wr_177 (ma_u (zov wr_177 (ma_u (zov wr_177 m m3) 94 23 (m3 94 71)) m5) 94 24 (m5 94 71)) m7)) hV_m7
            have f44 : 0 ≤ (m7 94 68).toInt ∧ (m7 94 68).toInt ≤ 100 := rs_94_68 (m := (zov wr_177 (ma_u (zov wr_177 (ma_u (zov wr_177 m m3) 94 23 (m3 94 71)) m5) 94 24 (m5 94 71)) m7)) hV_m7
            have f45 : 0 ≤ (m7 94 69).toInt ∧ (m7 94 69).toInt ≤ 100 := rs_94_69 (m := (zov wr_177 (ma_u (zov wr_177 (ma_u (zov wr_177 m m3) 94 23 (m3 94 71)) m5) 94 24 (m5 94 71)) m7)) hV_m7
            have b46 := i_bd (m7 94 71)
            have f47 := i_01 hb_m7
            refine zd (fun (h48 : v8 = (0 : Int32)) => ?_) (fun (h48 : ¬ v8 = (0 : Int32)) => ?_)
            · skip
              have g49 := i_eq h48
              have f50 : 0 ≤ (m 94 26).toInt ∧ (m 94 26).toInt ≤ 64 := rs_94_26 (m := m) hV
              have f51 : 0 ≤ (m 94 21).toInt ∧ (m 94 21).toInt ≤ 1500 := rs_94_21 (m := m) hV
              have f52 : 0 ≤ (m 94 28).toInt ∧ (m 94 28).toInt ≤ 256 := rs_94_28 (m := m) hV
              exact K ((0 : Int32)) _ (zF_zov (zF_u (zF_zov (zF_u (zF_zov hF ws_177_172) rfl) ws_177_172) rfl) ws_177_172) hV_m7 (by decide) (show (0 : Int32).toInt = 0 ∨ (0 ≤ (m 94 20).toInt ∧ ((m 94 20).toInt ≠ 3 ∨ (4 ≤ (m 94 26).toInt ∧ 16 ≤ (m3 94 71).toInt ∧ 16 ≤ (m5 94 71).toInt)) ∧ ((m 94 20).toInt = 3 ∨ 16 ≤ (m 94 21).toInt) ∧ ((m 94 20).toInt ≠ 6 ∨ (16 ≤ (m 94 28).toInt ∧ 4 * (m 94 28).toInt ≤ (m 94 21).toInt))) from by omega) (show zRPr (0 : Int32) (m7 94 70).toInt (zAns (m 96) (m 94 4).toInt) (zJ5 (zAns (m 96) (m 94 4).toInt) (m 94 20).toInt (m3 94 71).toInt (m5 94 71).toInt (m 94 21).toInt (m 94 28).toInt) from by first | (have q := (zAns_goz r_J0a r_J0b r_J0c (by omega) (by omega)); rw [show zPts (m 94 20).toInt = [0, 0, 1, 2] from by rw [show (m 94 20).toInt = 3 from by omega]; rfl] at q; replace q := q.trans (zRun_ok0 (s := (m3 94 68)) (e := (m3 94 67).toInt) (x := (m3 94 71).toInt) p4_m3 rfl p5_m3 (show (m3 94 71).toInt = zNum (m 96) (m3 94 68).toInt (m3 94 67).toInt 16 1500 from (NU_ok p6_m3 (by omega))) (by omega)); replace q := q.trans (zRun_ok1 (s := (m5 94 68)) (e := (m5 94 67).toInt) (x := (m5 94 71).toInt) p4_m5 rfl p5_m5 (show (m5 94 71).toInt = zNum (m 96) (m5 94 68).toInt (m5 94 67).toInt 16 1500 from (NU_ok p6_m5 (by omega))) (by omega) (by omega)); have q2 := q.trans (zRun_badp (s := (m7 94 68)) (e := (m7 94 67).toInt) p4_m7 rfl p5_m7 (show zNum (m 96) (m7 94 68).toInt (m7 94 67).toInt 1 7 = zPart _ _ _ _ _ from rfl) (NU_no p6_m7 (by omega))); exact Or.inl ⟨by omega, by have y := (NU_br p6_m7 (by omega)); omega⟩; done) | (exfalso; omega; done) | (exfalso; contradiction; done))
            · skip
              have g53 := i_ne h48
              have li54 : (4 : Int32).toInt = 4 := rfl
              have li55 : (64 : Int32).toInt = 64 := rfl
              have hV56 : zV (ma_u (zov wr_177 (ma_u (zov wr_177 (ma_u (zov wr_177 m m3) 94 23 (m3 94 71)) m5) 94 24 (m5 94 71)) m7) 94 25 (m7 94 71)) := uf_94_25 hV_m7
              refine sp_177n ((4 : Int32)) ((64 : Int32)) hV56 (show (m7 94 67).toInt ≤ (m 94 4).toInt from by omega) (fun v10 m9 hV_m9 hb_m9 p0_m9 p1_m9 p2_m9 p3_m9 p4_m9 p5_m9 p6_m9 => zmi_n ?_)
              have p0_m9 : (m9 94 67).toInt ≤ (m 94 4).toInt := p0_m9
              have p1_m9 : (m9 94 68).toInt + (m9 94 69).toInt ≤ 100 := p1_m9
              have p2_m9 : v10.toInt = 1 → (4 : Int32).toInt ≤ (m9 94 71).toInt ∧ (m9 94 71).toInt ≤ (64 : Int32).toInt := p2_m9
              have p3_m9 : (m9 94 68).toInt + (m9 94 69).toInt = (m9 94 67).toInt := p3_m9
              have p4_m9 : (m9 94 68).toInt = tk true (m 96) (m 94 4).toInt (m7 94 67).toInt := p4_m9
              have p5_m9 : (m9 94 67).toInt = tk false (m 96) (m 94 4).toInt (m9 94 68).toInt := p5_m9
              have p6_m9 : zNU v10 (m9 94 71).toInt (zNum (m 96) (m9 94 68).toInt (m9 94 67).toInt (4 : Int32).toInt (64 : Int32).toInt) (m9 94 70).toInt (m9 94 68).toInt := p6_m9
              have f57 : 0 ≤ (m9 94 67).toInt ∧ (m9 94 67).toInt ≤ 100 := rs_94_67 (m := (zov wr_177 (ma_u (zov wr_177 (ma_u (zov wr_177 (ma_u (zov wr_177 m m3) 94 23 (m3 94 71)) m5) 94 24 (m5 94 71)) m7) 94 25 (m7 94 71)) m9)) hV_m9
              have f58 : 0 ≤ (m9 94 68).toInt ∧ (m9 94 68).toInt ≤ 100 := rs_94_68 (m := (zov wr_177 (ma_u (zov wr_177 (ma_u (zov wr_177 (ma_u (zov wr_177 m m3) 94 23 (m3 94 71)) m5) 94 24 (m5 94 71)) m7) 94 25 (m7 94 71)) m9)) hV_m9
              have f59 : 0 ≤ (m9 94 69).toInt ∧ (m9 94 69).toInt ≤ 100 := rs_94_69 (m := (zov wr_177 (ma_u (zov wr_177 (ma_u (zov wr_177 (ma_u (zov wr_177 m m3) 94 23 (m3 94 71)) m5) 94 24 (m5 94 71)) m7) 94 25 (m7 94 71)) m9)) hV_m9
              have b60 := i_bd (m9 94 71)
              have f61 := i_01 hb_m9
              refine zd (fun (h62 : v10 = (0 : Int32)) => ?_) (fun (h62 : ¬ v10 = (0 : Int32)) => ?_)
              · skip
                have g63 := i_eq h62
                have f64 : 0 ≤ (m 94 26).toInt ∧ (m 94 26).toInt ≤ 64 := rs_94_26 (m := m) hV
                have f65 : 0 ≤ (m 94 21).toInt ∧ (m 94 21).toInt ≤ 1500 := rs_94_21 (m := m) hV
                have f66 : 0 ≤ (m 94 28).toInt ∧ (m 94 28).toInt ≤ 256 := rs_94_28 (m := m) hV
                exact K ((0 : Int32)) _ (zF_zov (zF_u (zF_zov (zF_u (zF_zov (zF_u (zF_zov hF ws_177_172) rfl) ws_177_172) rfl) ws_177_172) rfl) ws_177_172) hV_m9 (by decide) (show (0 : Int32).toInt = 0 ∨ (0 ≤ (m 94 20).toInt ∧ ((m 94 20).toInt ≠ 3 ∨ (4 ≤ (m 94 26).toInt ∧ 16 ≤ (m3 94 71).toInt ∧ 16 ≤ (m5 94 71).toInt)) ∧ ((m 94 20).toInt = 3 ∨ 16 ≤ (m 94 21).toInt) ∧ ((m 94 20).toInt ≠ 6 ∨ (16 ≤ (m 94 28).toInt ∧ 4 * (m 94 28).toInt ≤ (m 94 21).toInt))) from by omega) (show zRPr (0 : Int32) (m9 94 70).toInt (zAns (m 96) (m 94 4).toInt) (zJ5 (zAns (m 96) (m 94 4).toInt) (m 94 20).toInt (m3 94 71).toInt (m5 94 71).toInt (m 94 21).toInt (m 94 28).toInt) from by first | (have q := (zAns_goz r_J0a r_J0b r_J0c (by omega) (by omega)); rw [show zPts (m 94 20).toInt = [0, 0, 1, 2] from by rw [show (m 94 20).toInt = 3 from by omega]; rfl] at q; replace q := q.trans (zRun_ok0 (s := (m3 94 68)) (e := (m3 94 67).toInt) (x := (m3 94 71).toInt) p4_m3 rfl p5_m3 (show (m3 94 71).toInt = zNum (m 96) (m3 94 68).toInt (m3 94 67).toInt 16 1500 from (NU_ok p6_m3 (by omega))) (by omega)); replace q := q.trans (zRun_ok1 (s := (m5 94 68)) (e := (m5 94 67).toInt) (x := (m5 94 71).toInt) p4_m5 rfl p5_m5 (show (m5 94 71).toInt = zNum (m 96) (m5 94 68).toInt (m5 94 67).toInt 16 1500 from (NU_ok p6_m5 (by omega))) (by omega) (by omega)); replace q := q.trans (zRun_okn (s := (m7 94 68)) (e := (m7 94 67).toInt) (x := (m7 94 71).toInt) p4_m7 rfl p5_m7 (show (m7 94 71).toInt = zNum (m 96) (m7 94 68).toInt (m7 94 67).toInt 1 7 from (NU_ok p6_m7 (by omega))) (by omega) (by omega)); have q2 := q.trans (zRun_badp (s := (m9 94 68)) (e := (m9 94 67).toInt) p4_m9 rfl p5_m9 (show zNum (m 96) (m9 94 68).toInt (m9 94 67).toInt 4 64 = zPart _ _ _ _ _ from rfl) (NU_no p6_m9 (by omega))); exact Or.inl ⟨by omega, by have y := (NU_br p6_m9 (by omega)); omega⟩; done) | (exfalso; omega; done) | (exfalso; contradiction; done))
              · skip
                have g67 := i_ne h62
                have hV68 : zV (ma_u (zov wr_177 (ma_u (zov wr_177 (ma_u (zov wr_177 (ma_u (zov wr_177 m m3) 94 23 (m3 94 71)) m5) 94 24 (m5 94 71)) m7) 94 25 (m7 94 71)) m9) 94 26 (m9 94 71)) := us_94_26 hV_m9 (by omega) (by omega)
                have f69 : 0 ≤ (m 94 21).toInt ∧ (m 94 21).toInt ≤ 1500 := rs_94_21 (m := m) hV
                exact lp_172n_311 h0 K _ _  rfl (zF_u (zF_zov (zF_u (zF_zov (zF_u (zF_zov (zF_u (zF_zov hF ws_177_172) rfl) ws_177_172) rfl) ws_177_172) rfl) ws_177_172) rfl) hV68 (show (m9 94 67).toInt ≤ (m 94 4).toInt from by omega) (show 0 ≤ (m 94 20).toInt ∧ ((m 94 20).toInt ≠ 3 ∨ (4 ≤ (m9 94 71).toInt ∧ 16 ≤ (m3 94 71).toInt ∧ 16 ≤ (m5 94 71).toInt)) ∧ ((m 94 20).toInt = 3 ∨ 16 ≤ (m 94 21).toInt) from by omega) (show zJ1 (m 96) (m 94 4).toInt (m 94 20).toInt (m9 94 67).toInt (m3 94 71).toInt (m5 94 71).toInt (m 94 21).toInt from by first | (have q := (zAns_goz r_J0a r_J0b r_J0c (by omega) (by omega)); rw [show zPts (m 94 20).toInt = [0, 0, 1, 2] from by rw [show (m 94 20).toInt = 3 from by omega]; rfl] at q; replace q := q.trans (zRun_ok0 (s := (m3 94 68)) (e := (m3 94 67).toInt) (x := (m3 94 71).toInt) p4_m3 rfl p5_m3 (show (m3 94 71).toInt = zNum (m 96) (m3 94 68).toInt (m3 94 67).toInt 16 1500 from (NU_ok p6_m3 (by omega))) (by omega)); replace q := q.trans (zRun_ok1 (s := (m5 94 68)) (e := (m5 94 67).toInt) (x := (m5 94 71).toInt) p4_m5 rfl p5_m5 (show (m5 94 71).toInt = zNum (m 96) (m5 94 68).toInt (m5 94 67).toInt 16 1500 from (NU_ok p6_m5 (by omega))) (by omega) (by omega)); replace q := q.trans (zRun_okn (s := (m7 94 68)) (e := (m7 94 67).toInt) (x := (m7 94 71).toInt) p4_m7 rfl p5_m7 (show (m7 94 71).toInt = zNum (m 96) (m7 94 68).toInt (m7 94 67).toInt 1 7 from (NU_ok p6_m7 (by omega))) (by omega) (by omega)); replace q := q.trans (zRun_okn (s := (m9 94 68)) (e := (m9 94 67).toInt) (x := (m9 94 71).toInt) p4_m9 rfl p5_m9 (show (m9 94 71).toInt = zNum (m 96) (m9 94 68).toInt (m9 94 67).toInt 4 64 from (NU_ok p6_m9 (by omega))) (by omega) (by omega)); exact Or.inl ⟨by omega, q⟩; done) | (exfalso; omega; done) | (exfalso; contradiction; done))
      · skip
        have g70 := i_ne h10
        refine sp_178n  hV (show (m 94 67).toInt ≤ (m 94 4).toInt from by omega) (fun v2 m1 hV_m1 hb_m1 p0_m1 p1_m1 p2_m1 p3_m1 p4_m1 p5_m1 => zmi_n ?_)
        have p0_m1 : (m1 94 67).toInt ≤ (m 94 4).toInt := p0_m1
        have p1_m1 : (m1 94 68).toInt + (m1 94 69).toInt = (m1 94 67).toInt := p1_m1
        have p2_m1 : (m1 94 68).toInt = tk true (m 96) (m 94 4).toInt (m 94 67).toInt := p2_m1
        have p3_m1 : (m1 94 67).toInt = tk false (m 96) (m 94 4).toInt (m1 94 68).toInt := p3_m1
        have p4_m1 : zNU v2 (m1 94 21).toInt (zNum (m 96) (m1 94 68).toInt (m1 94 67).toInt 16 1500) (m1 94 70).toInt (m1 94 68).toInt := p4_m1
        have p5_m1 : v2.toInt = 1 → 16 ≤ (m1 94 21).toInt := p5_m1
        have f71 : 0 ≤ (m1 94 67).toInt ∧ (m1 94 67).toInt ≤ 100 := rs_94_67 (m := (zov wr_178 m m1)) hV_m1
        have f72 : 0 ≤ (m1 94 68).toInt ∧ (m1 94 68).toInt ≤ 100 := rs_94_68 (m := (zov wr_178 m m1)) hV_m1
        have f73 : 0 ≤ (m1 94 69).toInt ∧ (m1 94 69).toInt ≤ 100 := rs_94_69 (m := (zov wr_178 m m1)) hV_m1
        have f74 : 0 ≤ (m1 94 21).toInt ∧ (m1 94 21).toInt ≤ 1500 := rs_94_21 (m := (zov wr_178 m m1)) hV_m1
        have f75 := i_01 hb_m1
        refine zd (fun (h76 : v2 = (0 : Int32)) => ?_) (fun (h76 : ¬ v2 = (0 : Int32)) => ?_)
        · skip
          have g77 := i_eq h76
          have f78 : 0 ≤ (m 94 26).toInt ∧ (m 94 26).toInt ≤ 64 := rs_94_26 (m := m) hV
          have f79 : 0 ≤ (m 94 23).toInt ∧ (m 94 23).toInt ≤ 1500 := rs_94_23 (m := m) hV
          have f80 : 0 ≤ (m 94 24).toInt ∧ (m 94 24).toInt ≤ 1500 := rs_94_24 (m := m) hV
          have f81 : 0 ≤ (m 94 28).toInt ∧ (m 94 28).toInt ≤ 256 := rs_94_28 (m := m) hV
          exact K ((0 : Int32)) _ (zF_zov hF ws_178_172) hV_m1 (by decide) (show (0 : Int32).toInt = 0 ∨ (0 ≤ (m 94 20).toInt ∧ ((m 94 20).toInt ≠ 3 ∨ (4 ≤ (m 94 26).toInt ∧ 16 ≤ (m 94 23).toInt ∧ 16 ≤ (m 94 24).toInt)) ∧ ((m 94 20).toInt = 3 ∨ 16 ≤ (m1 94 21).toInt) ∧ ((m 94 20).toInt ≠ 6 ∨ (16 ≤ (m 94 28).toInt ∧ 4 * (m 94 28).toInt ≤ (m1 94 21).toInt))) from by omega) (show zRPr (0 : Int32) (m1 94 70).toInt (zAns (m 96) (m 94 4).toInt) (zJ5 (zAns (m 96) (m 94 4).toInt) (m 94 20).toInt (m 94 23).toInt (m 94 24).toInt (m1 94 21).toInt (m 94 28).toInt) from by first | (exact Or.inl ⟨by omega, by have q := J1_rb (zAns_goz r_J0a r_J0b r_J0c (by omega) (by omega)) (by omega) (by omega) (by omega) p2_m1 p3_m1 (NU_no p4_m1 (by omega)); have y := (NU_br p4_m1 (by omega)); omega⟩) | (exfalso; omega; done) | (exfalso; contradiction; done))
        · skip
          have g82 := i_ne h76
          have f83 : 0 ≤ (m 94 26).toInt ∧ (m 94 26).toInt ≤ 64 := rs_94_26 (m := m) hV
          have f84 : 0 ≤ (m 94 23).toInt ∧ (m 94 23).toInt ≤ 1500 := rs_94_23 (m := m) hV
          have f85 : 0 ≤ (m 94 24).toInt ∧ (m 94 24).toInt ≤ 1500 := rs_94_24 (m := m) hV
          exact lp_172n_311 h0 K _ _  rfl (zF_zov hF ws_178_172) hV_m1 (show (m1 94 67).toInt ≤ (m 94 4).toInt from by omega) (show 0 ≤ (m 94 20).toInt ∧ ((m 94 20).toInt ≠ 3 ∨ (4 ≤ (m 94 26).toInt ∧ 16 ≤ (m 94 23).toInt ∧ 16 ≤ (m 94 24).toInt)) ∧ ((m 94 20).toInt = 3 ∨ 16 ≤ (m1 94 21).toInt) from by omega) (show zJ1 (m 96) (m 94 4).toInt (m 94 20).toInt (m1 94 67).toInt (m 94 23).toInt (m 94 24).toInt (m1 94 21).toInt from by first | (exact J1_r (zAns_goz r_J0a r_J0b r_J0c (by omega) (by omega)) (by omega) (by omega) (by omega) p2_m1 p3_m1 (NU_ok p4_m1 (by omega)) (by omega)) | (exfalso; omega; done) | (exfalso; contradiction; done))
    · skip
      have g86 := i_nle h7
      have hV87 : zV (ma_u m 94 70 (m 94 68)) := us_94_70 hV (by omega) (by omega)
      have f88 : 0 ≤ (m 94 26).toInt ∧ (m 94 26).toInt ≤ 64 := rs_94_26 (m := m) hV
      have f89 : 0 ≤ (m 94 23).toInt ∧ (m 94 23).toInt ≤ 1500 := rs_94_23 (m := m) hV
      have f90 : 0 ≤ (m 94 24).toInt ∧ (m 94 24).toInt ≤ 1500 := rs_94_24 (m := m) hV
      have f91 : 0 ≤ (m 94 21).toInt ∧ (m 94 21).toInt ≤ 1500 := rs_94_21 (m := m) hV
      have f92 : 0 ≤ (m 94 28).toInt ∧ (m 94 28).toInt ≤ 256 := rs_94_28 (m := m) hV
      exact K ((0 : Int32)) _ (zF_u hF rfl) hV87 (by decide) (show (0 : Int32).toInt = 0 ∨ (0 ≤ (m 94 20).toInt ∧ ((m 94 20).toInt ≠ 3 ∨ (4 ≤ (m 94 26).toInt ∧ 16 ≤ (m 94 23).toInt ∧ 16 ≤ (m 94 24).toInt)) ∧ ((m 94 20).toInt = 3 ∨ 16 ≤ (m 94 21).toInt) ∧ ((m 94 20).toInt ≠ 6 ∨ (16 ≤ (m 94 28).toInt ∧ 4 * (m 94 28).toInt ≤ (m 94 21).toInt))) from by omega) (show zRPr (0 : Int32) (m 94 68).toInt (zAns (m 96) (m 94 4).toInt) (zJ5 (zAns (m 96) (m 94 4).toInt) (m 94 20).toInt (m 94 23).toInt (m 94 24).toInt (m 94 21).toInt (m 94 28).toInt) from by first | (exact Or.inl ⟨by omega, by have q := zAns_badz r_J0a r_J0b r_J0c (by omega) (by omega); omega⟩) | (exfalso; omega; done) | (exfalso; contradiction; done))
set_option maxHeartbeats 8000000 in
theorem sp_172n {X : Nat × (Nat → Int32)} {P : Option ma_V → (Nat → Nat → Int32) → Prop} {m : Nat → Nat → Int32}  (hV : zV m)  (KZ : ∀ v m', zV (zov wr_172 m m') → (v = 0 ∨ v = 1) → (v.toInt = 0 ∨ (0 ≤ (m' 94 20).toInt ∧ ((m' 94 20).toInt ≠ 3 ∨ (4 ≤ (m' 94 26).toInt ∧ 16 ≤ (m' 94 23).toInt ∧ 16 ≤ (m' 94 24).toInt)) ∧ ((m' 94 20).toInt = 3 ∨ 16 ≤ (m' 94 21).toInt) ∧ ((m' 94 20).toInt ≠ 6 ∨ (16 ≤ (m' 94 28).toInt ∧ 4 * (m' 94 28).toInt ≤ (m' 94 21).toInt)))) → (zRPr v (m' 94 70).toInt (zAns (m 96) (m 94 4).toInt) (zJ5 (zAns (m 96) (m 94 4).toInt) (m' 94 20).toInt (m' 94 23).toInt (m' 94 24).toInt (m' 94 21).toInt (m' 94 28).toInt)) → P (some (.inl v)) (zov wr_172 m m')) : zm X 3 70 172 0 [(0, .inr (.inr (some 94)))] m P := by
  have K : ∀ v m', zF wr_172 m m' → zV m' → (v = 0 ∨ v = 1) → (v.toInt = 0 ∨ (0 ≤ (m' 94 20).toInt ∧ ((m' 94 20).toInt ≠ 3 ∨ (4 ≤ (m' 94 26).toInt ∧ 16 ≤ (m' 94 23).toInt ∧ 16 ≤ (m' 94 24).toInt)) ∧ ((m' 94 20).toInt = 3 ∨ 16 ≤ (m' 94 21).toInt) ∧ ((m' 94 20).toInt ≠ 6 ∨ (16 ≤ (m' 94 28).toInt ∧ 4 * (m' 94 28).toInt ≤ (m' 94 21).toInt)))) → (zRPr v (m' 94 70).toInt (zAns (m' 96) (m' 94 4).toInt) (zJ5 (zAns (m' 96) (m' 94 4).toInt) (m' 94 20).toInt (m' 94 23).toInt (m' 94 24).toInt (m' 94 21).toInt (m' 94 28).toInt)) → P (some (.inl v)) m' := by
    intro v m' hf z q0 q1 q2
    have e := zov_eq hf
    rw [e] at z ⊢
    try rw [e] at q0
    try rw [e] at q1
    try rw [e] at q2
    exact KZ v m' z q0 q1 q2
  refine g_172_0  ?_
  have li2 : (0 : Int32).toInt = 0 := rfl
  have hV1 : zV (ma_u m 94 67 (0 : Int32)) := us_94_67 hV (by omega) (by omega)
  have f3 : 0 ≤ (m 94 4).toInt ∧ (m 94 4).toInt ≤ 100 := rs_94_4 (m := m) hV
  refine sp_173n  hV1 (show (0 : Int32).toInt ≤ (m 94 4).toInt from by omega) (fun v2 m1 hV_m1 hb_m1 p0_m1 p1_m1 p2_m1 p3_m1 p4_m1 => zmi_n ?_)
  have p0_m1 : (m1 94 67).toInt ≤ (m 94 4).toInt := p0_m1
  have p1_m1 : (m1 94 68).toInt + (m1 94 69).toInt = (m1 94 67).toInt := p1_m1
  have p2_m1 : (v2.toInt = 1 ∧ 1 ≤ (m1 94 69).toInt) ∨ (v2.toInt = 0 ∧ (m1 94 69).toInt = 0) := p2_m1
  have p3_m1 : (m1 94 68).toInt = tk true (m 96) (m 94 4).toInt (0 : Int32).toInt := p3_m1
  have p4_m1 : (m1 94 67).toInt = tk false (m 96) (m 94 4).toInt (m1 94 68).toInt := p4_m1
  have f4 : 0 ≤ (m1 94 67).toInt ∧ (m1 94 67).toInt ≤ 100 := rs_94_67 (m := (zov wr_173 (ma_u m 94 67 (0 : Int32)) m1)) hV_m1
  have f5 : 0 ≤ (m1 94 68).toInt ∧ (m1 94 68).toInt ≤ 100 := rs_94_68 (m := (zov wr_173 (ma_u m 94 67 (0 : Int32)) m1)) hV_m1
  have f6 : 0 ≤ (m1 94 69).toInt ∧ (m1 94 69).toInt ≤ 100 := rs_94_69 (m := (zov wr_173 (ma_u m 94 67 (0 : Int32)) m1)) hV_m1
  have f7 := i_01 hb_m1
  refine zd (fun (h8 : v2 = (0 : Int32)) => ?_) (fun (h8 : ¬ v2 = (0 : Int32)) => ?_)
  · skip
    have g9 := i_eq h8
    have hV10 : zV (ma_u (zov wr_173 (ma_u m 94 67 (0 : Int32)) m1) 94 70 (m 94 4)) := us_94_70 hV_m1 (by omega) (by omega)
    have f11 : -1 ≤ (m 94 20).toInt ∧ (m 94 20).toInt ≤ 6 := rs_94_20 (m := m) hV
    have f12 : 0 ≤ (m 94 26).toInt ∧ (m 94 26).toInt ≤ 64 := rs_94_26 (m := m) hV
    have f13 : 0 ≤ (m 94 23).toInt ∧ (m 94 23).toInt ≤ 1500 := rs_94_23 (m := m) hV
    have f14 : 0 ≤ (m 94 24).toInt ∧ (m 94 24).toInt ≤ 1500 := rs_94_24 (m := m) hV
    have f15 : 0 ≤ (m 94 21).toInt ∧ (m 94 21).toInt ≤ 1500 := rs_94_21 (m := m) hV
    have f16 : 0 ≤ (m 94 28).toInt ∧ (m 94 28).toInt ≤ 256 := rs_94_28 (m := m) hV
    exact K ((0 : Int32)) _ (zF_u (zF_zov (zF_u zF_rfl rfl) ws_173_172) rfl) hV10 (by decide) (show (0 : Int32).toInt = 0 ∨ (0 ≤ (m 94 20).toInt ∧ ((m 94 20).toInt ≠ 3 ∨ (4 ≤ (m 94 26).toInt ∧ 16 ≤ (m 94 23).toInt ∧ 16 ≤ (m 94 24).toInt)) ∧ ((m 94 20).toInt = 3 ∨ 16 ≤ (m 94 21).toInt) ∧ ((m 94 20).toInt ≠ 6 ∨ (16 ≤ (m 94 28).toInt ∧ 4 * (m 94 28).toInt ≤ (m 94 21).toInt))) from by omega) (show zRPr (0 : Int32) (m 94 4).toInt (zAns (m 96) (m 94 4).toInt) (zJ5 (zAns (m 96) (m 94 4).toInt) (m 94 20).toInt (m 94 23).toInt (m 94 24).toInt (m 94 21).toInt (m 94 28).toInt) from by first | (exact Or.inl ⟨by omega, by have zs := tk_end (by omega) p3_m1 p4_m1 (by omega); have q := zAns_badz (s := (m1 94 68)) (e := (m1 94 67).toInt) (z := (m1 94 69).toInt) p3_m1 p4_m1 rfl (by omega) (zPol_0 (by omega)); omega⟩) | (exfalso; omega; done) | (exfalso; contradiction; done))
  · skip
    have g17 := i_ne h8
    have li18 : (115 : Int32).toInt = 115 := rfl
    have li19 : (119 : Int32).toInt = 119 := rfl
    have li20 : (101 : Int32).toInt = 101 := rfl
    have li21 : (112 : Int32).toInt = 112 := rfl
    refine sp_175n ((115 : Int32)) ((119 : Int32)) ((101 : Int32)) ((101 : Int32)) ((112 : Int32)) ((0 : Int32)) ((0 : Int32)) hV_m1 (show (m1 94 68).toInt + (m1 94 69).toInt ≤ 100 from by omega) (fun v4 m3 hV_m3 hb_m3 p0_m3 => zmi_n ?_)
    have p0_m3 : zZW v4 (zwd (m 96) (m1 94 68) (m1 94 69).toInt (115 : Int32) (119 : Int32) (101 : Int32) (101 : Int32) (112 : Int32) (0 : Int32) (0 : Int32)) := p0_m3
    have f22 := i_01 hb_m3
    refine zd (fun (h23 : v4 = (0 : Int32)) => ?_) (fun (h23 : ¬ v4 = (0 : Int32)) => ?_)
    · skip
      have g24 := i_eq h23
      have li25 : (108 : Int32).toInt = 108 := rfl
      have li26 : (105 : Int32).toInt = 105 := rfl
      have li27 : (100 : Int32).toInt = 100 := rfl
      refine sp_175n ((115 : Int32)) ((108 : Int32)) ((105 : Int32)) ((100 : Int32)) ((101 : Int32)) ((0 : Int32)) ((0 : Int32)) hV_m3 (show (m1 94 68).toInt + (m1 94 69).toInt ≤ 100 from by omega) (fun v6 m5 hV_m5 hb_m5 p0_m5 => zmi_n ?_)
      have p0_m5 : zZW v6 (zwd (m 96) (m1 94 68) (m1 94 69).toInt (115 : Int32) (108 : Int32) (105 : Int32) (100 : Int32) (101 : Int32) (0 : Int32) (0 : Int32)) := p0_m5
      have f28 := i_01 hb_m5
      refine zd (fun (h29 : v6 = (0 : Int32)) => ?_) (fun (h29 : ¬ v6 = (0 : Int32)) => ?_)
      · skip
        have g30 := i_eq h29
        have li31 : (104 : Int32).toInt = 104 := rfl
        have li32 : (97 : Int32).toInt = 97 := rfl
        have li33 : (118 : Int32).toInt = 118 := rfl
        refine sp_175n ((104 : Int32)) ((97 : Int32)) ((108 : Int32)) ((118 : Int32)) ((101 : Int32)) ((115 : Int32)) ((0 : Int32)) hV_m5 (show (m1 94 68).toInt + (m1 94 69).toInt ≤ 100 from by omega) (fun v8 m7 hV_m7 hb_m7 p0_m7 => zmi_n ?_)
        have p0_m7 : zZW v8 (zwd (m 96) (m1 94 68) (m1 94 69).toInt (104 : Int32) (97 : Int32) (108 : Int32) (118 : Int32) (101 : Int32) (115 : Int32) (0 : Int32)) := p0_m7
        have f34 := i_01 hb_m7
        refine zd (fun (h35 : v8 = (0 : Int32)) => ?_) (fun (h35 : ¬ v8 = (0 : Int32)) => ?_)
        · skip
          have g36 := i_eq h35
          have li37 : (103 : Int32).toInt = 103 := rfl
          refine sp_175n ((97 : Int32)) ((103 : Int32)) ((101 : Int32)) ((115 : Int32)) ((0 : Int32)) ((0 : Int32)) ((0 : Int32)) hV_m7 (show (m1 94 68).toInt + (m1 94 69).toInt ≤ 100 from by omega) (fun v10 m9 hV_m9 hb_m9 p0_m9 => zmi_n ?_)
          have p0_m9 : zZW v10 (zwd (m 96) (m1 94 68) (m1 94 69).toInt (97 : Int32) (103 : Int32) (101 : Int32) (115 : Int32) (0 : Int32) (0 : Int32) (0 : Int32)) := p0_m9
          have f38 := i_01 hb_m9
          refine zd (fun (h39 : v10 = (0 : Int32)) => ?_) (fun (h39 : ¬ v10 = (0 : Int32)) => ?_)
          · skip
            have g40 := i_eq h39
            have li41 : (99 : Int32).toInt = 99 := rfl
            have li42 : (111 : Int32).toInt = 111 := rfl
            have li43 : (117 : Int32).toInt = 117 := rfl
            have li44 : (110 : Int32).toInt = 110 := rfl
            have li45 : (116 : Int32).toInt = 116 := rfl
            refine sp_175n ((99 : Int32)) ((111 : Int32)) ((117 : Int32)) ((110 : Int32)) ((116 : Int32)) ((115 : Int32)) ((0 : Int32)) hV_m9 (show (m1 94 68).toInt + (m1 94 69).toInt ≤ 100 from by omega) (fun v12 m11 hV_m11 hb_m11 p0_m11 => zmi_n ?_)
            have p0_m11 : zZW v12 (zwd (m 96) (m1 94 68) (m1 94 69).toInt (99 : Int32) (111 : Int32) (117 : Int32) (110 : Int32) (116 : Int32) (115 : Int32) (0 : Int32)) := p0_m11
            have f46 := i_01 hb_m11
            refine zd (fun (h47 : v12 = (0 : Int32)) => ?_) (fun (h47 : ¬ v12 = (0 : Int32)) => ?_)
            · skip
              have g48 := i_eq h47
              refine sp_175n ((115 : Int32)) ((116 : Int32)) ((101 : Int32)) ((112 : Int32)) ((115 : Int32)) ((0 : Int32)) ((0 : Int32)) hV_m11 (show (m1 94 68).toInt + (m1 94 69).toInt ≤ 100 from by omega) (fun v14 m13 hV_m13 hb_m13 p0_m13 => zmi_n ?_)
              have p0_m13 : zZW v14 (zwd (m 96) (m1 94 68) (m1 94 69).toInt (115 : Int32) (116 : Int32) (101 : Int32) (112 : Int32) (115 : Int32) (0 : Int32) (0 : Int32)) := p0_m13
              have f49 := i_01 hb_m13
              refine zd (fun (h50 : v14 = (0 : Int32)) => ?_) (fun (h50 : ¬ v14 = (0 : Int32)) => ?_)
              · skip
                have g51 := i_eq h50
                have li52 : (114 : Int32).toInt = 114 := rfl
                refine sp_175n ((114 : Int32)) ((101 : Int32)) ((103 : Int32)) ((105 : Int32)) ((111 : Int32)) ((110 : Int32)) ((115 : Int32)) hV_m13 (show (m1 94 68).toInt + (m1 94 69).toInt ≤ 100 from by omega) (fun v16 m15 hV_m15 hb_m15 p0_m15 => zmi_n ?_)
                have p0_m15 : zZW v16 (zwd (m 96) (m1 94 68) (m1 94 69).toInt (114 : Int32) (101 : Int32) (103 : Int32) (105 : Int32) (111 : Int32) (110 : Int32) (115 : Int32)) := p0_m15
                have f53 := i_01 hb_m15
                refine zd (fun (h54 : v16 = (0 : Int32)) => ?_) (fun (h54 : ¬ v16 = (0 : Int32)) => ?_)
                · skip
                  have g55 := i_eq h54
                  have li57 : (-1 : Int32).toInt = -1 := rfl
                  have hV56 : zV (ma_u (zov wr_175 (zov wr_175 (zov wr_175 (zov wr_175 (zov wr_175 (zov wr_175 (zov wr_175 (zov wr_173 (ma_u m 94 67 (0 : Int32)) m1) m3) m5) m7) m9) m11) m13) m15) 94 20 (-1 : Int32)) := us_94_20 hV_m15 (by omega) (by omega)
                  exact lp_172n_191 hV K _ _  rfl (zF_u (zF_zov (zF_zov (zF_zov (zF_zov (zF_zov (zF_zov (zF_zov (zF_zov (zF_u zF_rfl rfl) ws_173_172) ws_175_172) ws_175_172) ws_175_172) ws_175_172) ws_175_172) ws_175_172) ws_175_172) rfl) hV56 (show (m1 94 67).toInt ≤ (m 94 4).toInt from by omega) (show (m1 94 68).toInt + (m1 94 69).toInt = (m1 94 67).toInt from by omega) (show -1 ≤ (-1 : Int32).toInt ∧ (-1 : Int32).toInt ≤ 6 from by omega) (show (m1 94 68).toInt = tk true (m 96) (m 94 4).toInt 0 from by first | (exact p3_m1) | (exfalso; omega; done) | (exfalso; contradiction; done)) (show (m1 94 67).toInt = tk false (m 96) (m 94 4).toInt (m1 94 68).toInt from by first | (exact p4_m1) | (exfalso; omega; done) | (exfalso; contradiction; done)) (show (-1 : Int32).toInt = zPol (m 96) (m1 94 68) (m1 94 69).toInt from by first | (unfold zPol; rw [if_neg (zno p0_m3 (by assumption)), if_neg (zno p0_m5 (by assumption)), if_neg (zno p0_m7 (by assumption)), if_neg (zno p0_m9 (by assumption)), if_neg (zno p0_m11 (by assumption)), if_neg (zno p0_m13 (by assumption)), if_neg (zno p0_m15 (by assumption))]; first | done | rfl; done) | (unfold zPol; rw [if_neg (zno p0_m3 (by assumption)), if_neg (zno p0_m5 (by assumption)), if_neg (zno p0_m7 (by assumption)), if_neg (zno p0_m9 (by assumption)), if_neg (zno p0_m11 (by assumption)), if_neg (zno p0_m13 (by assumption)), if_neg (zno p0_m15 (by assumption))]; done) | (exfalso; omega; done) | (exfalso; contradiction; done))
                · skip
                  have g58 := i_ne h54
                  have li60 : (6 : Int32).toInt = 6 := rfl
                  have hV59 : zV (ma_u (zov wr_175 (zov wr_175 (zov wr_175 (zov wr_175 (zov wr_175 (zov wr_175 (zov wr_175 (zov wr_173 (ma_u m 94 67 (0 : Int32)) m1) m3) m5) m7) m9) m11) m13) m15) 94 20 (6 : Int32)) := us_94_20 hV_m15 (by omega) (by omega)
                  exact lp_172n_191 hV K _ _  rfl (zF_u (zF_zov (zF_zov (zF_zov (zF_zov (zF_zov (zF_zov (zF_zov (zF_zov (zF_u zF_rfl rfl) ws_173_172) ws_175_172) ws_175_172) ws_175_172) ws_175_172) ws_175_172) ws_175_172) ws_175_172) rfl) hV59 (show (m1 94 67).toInt ≤ (m 94 4).toInt from by omega) (show (m1 94 68).toInt + (m1 94 69).toInt = (m1 94 67).toInt from by omega) (show -1 ≤ (6 : Int32).toInt ∧ (6 : Int32).toInt ≤ 6 from by omega) (show (m1 94 68).toInt = tk true (m 96) (m 94 4).toInt 0 from by first | (exact p3_m1) | (exfalso; omega; done) | (exfalso; contradiction; done)) (show (m1 94 67).toInt = tk false (m 96) (m 94 4).toInt (m1 94 68).toInt from by first | (exact p4_m1) | (exfalso; omega; done) | (exfalso; contradiction; done)) (show (6 : Int32).toInt = zPol (m 96) (m1 94 68) (m1 94 69).toInt from by first | (unfold zPol; rw [if_neg (zno p0_m3 (by assumption)), if_neg (zno p0_m5 (by assumption)), if_neg (zno p0_m7 (by assumption)), if_neg (zno p0_m9 (by assumption)), if_neg (zno p0_m11 (by assumption)), if_neg (zno p0_m13 (by assumption)), if_pos (zyes p0_m15 (by assumption))]; first | done | rfl; done) | (unfold zPol; rw [if_neg (zno p0_m3 (by assumption)), if_neg (zno p0_m5 (by assumption)), if_neg (zno p0_m7 (by assumption)), if_neg (zno p0_m9 (by assumption)), if_neg (zno p0_m11 (by assumption)), if_neg (zno p0_m13 (by assumption)), if_pos (zyes p0_m15 (by assumption))]; done) | (exfalso; omega; done) | (exfalso; contradiction; done))
              · skip
                have g61 := i_ne h50
                have li63 : (5 : Int32).toInt = 5 := rfl
                have hV62 : zV (ma_u (zov wr_175 (zov wr_175 (zov wr_175 (zov wr_175 (zov wr_175 (zov wr_175 (zov wr_173 (ma_u m 94 67 (0 : Int32)) m1) m3) m5) m7) m9) m11) m13) 94 20 (5 : Int32)) := us_94_20 hV_m13 (by omega) (by omega)
                exact lp_172n_191 hV K _ _  rfl (zF_u (zF_zov (zF_zov (zF_zov (zF_zov (zF_zov (zF_zov (zF_zov (zF_u zF_rfl rfl) ws_173_172) ws_175_172) ws_175_172) ws_175_172) ws_175_172) ws_175_172) ws_175_172) rfl) hV62 (show (m1 94 67).toInt ≤ (m 94 4).toInt from by omega) (show (m1 94 68).toInt + (m1 94 69).toInt = (m1 94 67).toInt from by omega) (show -1 ≤ (5 : Int32).toInt ∧ (5 : Int32).toInt ≤ 6 from by omega) (show (m1 94 68).toInt = tk true (m 96) (m 94 4).toInt 0 from by first | (exact p3_m1) | (exfalso; omega; done) | (exfalso; contradiction; done)) (show (m1 94 67).toInt = tk false (m 96) (m 94 4).toInt (m1 94 68).toInt from by first | (exact p4_m1) | (exfalso; omega; done) | (exfalso; contradiction; done)) (show (5 : Int32).toInt = zPol (m 96) (m1 94 68) (m1 94 69).toInt from by first | (unfold zPol; rw [if_neg (zno p0_m3 (by assumption)), if_neg (zno p0_m5 (by assumption)), if_neg (zno p0_m7 (by assumption)), if_neg (zno p0_m9 (by assumption)), if_neg (zno p0_m11 (by assumption)), if_pos (zyes p0_m13 (by assumption))]; first | done | rfl; done) | (unfold zPol; rw [if_neg (zno p0_m3 (by assumption)), if_neg (zno p0_m5 (by assumption)), if_neg (zno p0_m7 (by assumption)), if_neg (zno p0_m9 (by assumption)), if_neg (zno p0_m11 (by assumption)), if_pos (zyes p0_m13 (by assumption))]; done) | (exfalso; omega; done) | (exfalso; contradiction; done))
            · skip
              have g64 := i_ne h47
              have li66 : (4 : Int32).toInt = 4 := rfl
              have hV65 : zV (ma_u (zov wr_175 (zov wr_175 (zov wr_175 (zov wr_175 (zov wr_175 (zov wr_173 (ma_u m 94 67 (0 : Int32)) m1) m3) m5) m7) m9) m11) 94 20 (4 : Int32)) := us_94_20 hV_m11 (by omega) (by omega)
              exact lp_172n_191 hV K _ _  rfl (zF_u (zF_zov (zF_zov (zF_zov (zF_zov (zF_zov (zF_zov (zF_u zF_rfl rfl) ws_173_172) ws_175_172) ws_175_172) ws_175_172) ws_175_172) ws_175_172) rfl) hV65 (show (m1 94 67).toInt ≤ (m 94 4).toInt from by omega) (show (m1 94 68).toInt + (m1 94 69).toInt = (m1 94 67).toInt from by omega) (show -1 ≤ (4 : Int32).toInt ∧ (4 : Int32).toInt ≤ 6 from by omega) (show (m1 94 68).toInt = tk true (m 96) (m 94 4).toInt 0 from by first | (exact p3_m1) | (exfalso; omega; done) | (exfalso; contradiction; done)) (show (m1 94 67).toInt = tk false (m 96) (m 94 4).toInt (m1 94 68).toInt from by first | (exact p4_m1) | (exfalso; omega; done) | (exfalso; contradiction; done)) (show (4 : Int32).toInt = zPol (m 96) (m1 94 68) (m1 94 69).toInt from by first | (unfold zPol; rw [if_neg (zno p0_m3 (by assumption)), if_neg (zno p0_m5 (by assumption)), if_neg (zno p0_m7 (by assumption)), if_neg (zno p0_m9 (by assumption)), if_pos (zyes p0_m11 (by assumption))]; first | done | rfl; done) | (unfold zPol; rw [if_neg (zno p0_m3 (by assumption)), if_neg (zno p0_m5 (by assumption)), if_neg (zno p0_m7 (by assumption)), if_neg (zno p0_m9 (by assumption)), if_pos (zyes p0_m11 (by assumption))]; done) | (exfalso; omega; done) | (exfalso; contradiction; done))
          · skip
            have g67 := i_ne h39
            have li69 : (3 : Int32).toInt = 3 := rfl
            have hV68 : zV (ma_u (zov wr_175 (zov wr_175 (zov wr_175 (zov wr_175 (zov wr_173 (ma_u m 94 67 (0 : Int32)) m1) m3) m5) m7) m9) 94 20 (3 : Int32)) := us_94_20 hV_m9 (by omega) (by omega)
            exact lp_172n_191 hV K _ _  rfl (zF_u (zF_zov (zF_zov (zF_zov (zF_zov (zF_zov (zF_u zF_rfl rfl) ws_173_172) ws_175_172) ws_175_172) ws_175_172) ws_175_172) rfl) hV68 (show (m1 94 67).toInt ≤ (m 94 4).toInt from by omega) (show (m1 94 68).toInt + (m1 94 69).toInt = (m1 94 67).toInt from by omega) (show -1 ≤ (3 : Int32).toInt ∧ (3 : Int32).toInt ≤ 6 from by omega) (show (m1 94 68).toInt = tk true (m 96) (m 94 4).toInt 0 from by first | (exact p3_m1) | (exfalso; omega; done) | (exfalso; contradiction; done)) (show (m1 94 67).toInt = tk false (m 96) (m 94 4).toInt (m1 94 68).toInt from by first | (exact p4_m1) | (exfalso; omega; done) | (exfalso; contradiction; done)) (show (3 : Int32).toInt = zPol (m 96) (m1 94 68) (m1 94 69).toInt from by first | (unfold zPol; rw [if_neg (zno p0_m3 (by assumption)), if_neg (zno p0_m5 (by assumption)), if_neg (zno p0_m7 (by assumption)), if_pos (zyes p0_m9 (by assumption))]; first | done | rfl; done) | (unfold zPol; rw [if_neg (zno p0_m3 (by assumption)), if_neg (zno p0_m5 (by assumption)), if_neg (zno p0_m7 (by assumption)), if_pos (zyes p0_m9 (by assumption))]; done) | (exfalso; omega; done) | (exfalso; contradiction; done))
        · skip
          have g70 := i_ne h35
          have li72 : (2 : Int32).toInt = 2 := rfl
          have hV71 : zV (ma_u (zov wr_175 (zov wr_175 (zov wr_175 (zov wr_173 (ma_u m 94 67 (0 : Int32)) m1) m3) m5) m7) 94 20 (2 : Int32)) := us_94_20 hV_m7 (by omega) (by omega)
          exact lp_172n_191 hV K _ _  rfl (zF_u (zF_zov (zF_zov (zF_zov (zF_zov (zF_u zF_rfl rfl) ws_173_172) ws_175_172) ws_175_172) ws_175_172) rfl) hV71 (show (m1 94 67).toInt ≤ (m 94 4).toInt from by omega) (show (m1 94 68).toInt + (m1 94 69).toInt = (m1 94 67).toInt from by omega) (show -1 ≤ (2 : Int32).toInt ∧ (2 : Int32).toInt ≤ 6 from by omega) (show (m1 94 68).toInt = tk true (m 96) (m 94 4).toInt 0 from by first | (exact p3_m1) | (exfalso; omega; done) | (exfalso; contradiction; done)) (show (m1 94 67).toInt = tk false (m 96) (m 94 4).toInt (m1 94 68).toInt from by first | (exact p4_m1) | (exfalso; omega; done) | (exfalso; contradiction; done)) (show (2 : Int32).toInt = zPol (m 96) (m1 94 68) (m1 94 69).toInt from by first | (unfold zPol; rw [if_neg (zno p0_m3 (by assumption)), if_neg (zno p0_m5 (by assumption)), if_pos (zyes p0_m7 (by assumption))]; first | done | rfl; done) | (unfold zPol; rw [if_neg (zno p0_m3 (by assumption)), if_neg (zno p0_m5 (by assumption)), if_pos (zyes p0_m7 (by assumption))]; done) | (exfalso; omega; done) | (exfalso; contradiction; done))
      · skip
        have g73 := i_ne h29
        have li75 : (1 : Int32).toInt = 1 := rfl
        have hV74 : zV (ma_u (zov wr_175 (zov wr_175 (zov wr_173 (ma_u m 94 67 (0 : Int32)) m1) m3) m5) 94 20 (1 : Int32)) := us_94_20 hV_m5 (by omega) (by omega)
        exact lp_172n_191 hV K _ _  rfl (zF_u (zF_zov (zF_zov (zF_zov (zF_u zF_rfl rfl) ws_173_172) ws_175_172) ws_175_172) rfl) hV74 (show (m1 94 67).toInt ≤ (m 94 4).toInt from by omega) (show (m1 94 68).toInt + (m1 94 69).toInt = (m1 94 67).toInt from by omega) (show -1 ≤ (1 : Int32).toInt ∧ (1 : Int32).toInt ≤ 6 from by omega) (show (m1 94 68).toInt = tk true (m 96) (m 94 4).toInt 0 from by first | (exact p3_m1) | (exfalso; omega; done) | (exfalso; contradiction; done)) (show (m1 94 67).toInt = tk false (m 96) (m 94 4).toInt (m1 94 68).toInt from by first | (exact p4_m1) | (exfalso; omega; done) | (exfalso; contradiction; done)) (show (1 : Int32).toInt = zPol (m 96) (m1 94 68) (m1 94 69).toInt from by first | (unfold zPol; rw [if_neg (zno p0_m3 (by assumption)), if_pos (zyes p0_m5 (by assumption))]; first | done | rfl; done) | (unfold zPol; rw [if_neg (zno p0_m3 (by assumption)), if_pos (zyes p0_m5 (by assumption))]; done) | (exfalso; omega; done) | (exfalso; contradiction; done))
    · skip
      have g76 := i_ne h23
      have hV77 : zV (ma_u (zov wr_175 (zov wr_173 (ma_u m 94 67 (0 : Int32)) m1) m3) 94 20 (0 : Int32)) := us_94_20 hV_m3 (by omega) (by omega)
      exact lp_172n_191 hV K _ _  rfl (zF_u (zF_zov (zF_zov (zF_u zF_rfl rfl) ws_173_172) ws_175_172) rfl) hV77 (show (m1 94 67).toInt ≤ (m 94 4).toInt from by omega) (show (m1 94 68).toInt + (m1 94 69).toInt = (m1 94 67).toInt from by omega) (show -1 ≤ (0 : Int32).toInt ∧ (0 : Int32).toInt ≤ 6 from by omega) (show (m1 94 68).toInt = tk true (m 96) (m 94 4).toInt 0 from by first | (exact p3_m1) | (exfalso; omega; done) | (exfalso; contradiction; done)) (show (m1 94 67).toInt = tk false (m 96) (m 94 4).toInt (m1 94 68).toInt from by first | (exact p4_m1) | (exfalso; omega; done) | (exfalso; contradiction; done)) (show (0 : Int32).toInt = zPol (m 96) (m1 94 68) (m1 94 69).toInt from by first | (unfold zPol; rw [if_pos (zyes p0_m3 (by assumption))]; first | done | rfl; done) | (unfold zPol; rw [if_pos (zyes p0_m3 (by assumption))]; done) | (exfalso; omega; done) | (exfalso; contradiction; done))
