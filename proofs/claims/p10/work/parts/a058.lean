/-! from 95.y05 -/
/-! the reference opens a heap (written by wip/tools/gen15w.py) -/
set_option maxHeartbeats 8000000 in
theorem lp_171ym_148 {X : Nat × (Nat → Int32)} {P : Option ma_V → (Nat → Nat → Int32) → Prop} {T : Nat} {m0 : Nat → Nat → Int32} (h0 : zV m0) (K : ∀ v m₉, zF wr_171 m0 m₉ → zV m₉ → (0 ≤ (m₉ 94 27).toInt) → (0 ≤ (m₉ 94 17).toInt) → (zW (m₉ 94 7) (m₉ 98) (m₉ 101) (m₉ 102) (m₉ 108)) → (zGW T (m₉ 94 55) (m₉ 109)) → ((m₉ 94 3).toInt = 0) → ((m₉ 94 8).toInt = 0 ∨ ((zGU T (m₉ 94 46) (m₉ 99)) ∧ (zOw (m₉ 99) (m₉ 103) (m₉ 111)) ∧ (zDX (m₉ 94 10) (m₉ 99) (m₉ 112) (m₉ 113) (m₉ 114) (m₉ 94 55) (m₉ 98) (m₉ 101) (m₉ 102) (m₉ 108)) ∧ (zGG (m₉ 94 58) (m₉ 94 56) (m₉ 94 57) (m₉ 106)) ∧ (zHA (m₉ 94 10) (m₉ 94 11) (m₉ 94 13) (m₉ 94 14) (m₉ 94 16) (m₉ 94 61) (m₉ 94 59) (m₉ 94 60) (m₉ 99) (m₉ 102) (m₉ 103) (m₉ 111) (m₉ 117) (m₉ 98) (m₉ 101) (m₉ 108)) ∧ (zRG (m₉ 94 10) (m₉ 94 18) (m₉ 94 64) (m₉ 94 63) (m₉ 99) (m₉ 103) (m₉ 102) (m₉ 116)) ∧ ((m₉ 94 58).toInt = 0 ∨ (m₉ 94 10).toInt = 5))) → (v.toInt = zAns (m0 95) (m0 94 3).toInt) → (((zAns (m0 95) (m0 94 3).toInt) < 0 ∧ (m₉ 98) = (m0 98) ∧ (m₉ 99) = (m0 99) ∧ (m₉ 100) = (m0 100) ∧ (m₉ 101) = (m0 101) ∧ (m₉ 102) = (m0 102) ∧ (m₉ 103) = (m0 103) ∧ (m₉ 104) = (m0 104) ∧ (m₉ 105) = (m0 105) ∧ (m₉ 106) = (m0 106) ∧ (m₉ 107) = (m0 107) ∧ (m₉ 108) = (m0 108) ∧ (m₉ 109) = (m0 109) ∧ (m₉ 110) = (m0 110) ∧ (m₉ 111) = (m0 111) ∧ (m₉ 112) = (m0 112) ∧ (m₉ 113) = (m0 113) ∧ (m₉ 114) = (m0 114) ∧ (m₉ 115) = (m0 115) ∧ (m₉ 116) = (m0 116) ∧ (m₉ 117) = (m0 117) ∧ (m₉ 94 8) = (m0 94 8) ∧ (m₉ 94 9) = (m0 94 9) ∧ (m₉ 94 10) = (m0 94 10) ∧ (m₉ 94 11) = (m0 94 11) ∧ (m₉ 94 12) = (m0 94 12) ∧ (m₉ 94 13) = (m0 94 13) ∧ (m₉ 94 14) = (m0 94 14) ∧ (m₉ 94 15) = (m0 94 15) ∧ (m₉ 94 16) = (m0 94 16) ∧ (m₉ 94 17) = (m0 94 17) ∧ (m₉ 94 18) = (m0 94 18) ∧ (m₉ 94 19) = (m0 94 19) ∧ (m₉ 94 45) = (m0 94 45) ∧ (m₉ 94 46) = (m0 94 46) ∧ (m₉ 94 55) = (m0 94 55) ∧ (m₉ 94 56) = (m0 94 56) ∧ (m₉ 94 57) = (m0 94 57) ∧ (m₉ 94 58) = (m0 94 58) ∧ (m₉ 94 59) = (m0 94 59) ∧ (m₉ 94 60) = (m0 94 60) ∧ (m₉ 94 61) = (m0 94 61) ∧ (m₉ 94 62) = (m0 94 62) ∧ (m₉ 94 63) = (m0 94 63) ∧ (m₉ 94 64) = (m0 94 64)) ∨ (0 ≤ (zAns (m0 95) (m0 94 3).toInt) ∧ (m₉ 94 10).toInt = qPo (m0 95) (m0 94 3).toInt ∧ (m₉ 94 8).toInt = 1 ∧ ((m₉ 94 10).toInt = 5 → qV (m0 95) (m0 94 3).toInt (m₉ 94 11).toInt (m₉ 94 12).toInt (m₉ 94 17).toInt (m₉ 94 9)) ∧ (((m₉ 94 10).toInt = 0 ∨ (m₉ 94 10).toInt = 4) → ((m₉ 94 11).toInt = zVal (m0 95) (m0 94 3).toInt 0 1 ∧ (m₉ 94 12).toInt = zVal (m0 95) (m0 94 3).toInt 6 2)) ∧ ((∀ s : Nat, s < 3100 → (m₉ 99) s = 0) ∧ (∀ s : Nat, (s : Int) < 16 → ((m₉ 112) s).toInt < 0) ∧ (∀ s : Nat, (s : Int) < 16 → ((m₉ 113) s).toInt < 0) ∧ (m₉ 94 45).toInt = 0 ∧ (m₉ 94 46).toInt = 0 ∧ (m₉ 94 55).toInt = 0 ∧ (m₉ 94 58).toInt = 0 ∧ (m₉ 94 62).toInt = 0) ∧ (qT1 (m₉ 94 10).toInt (m₉ 94 11).toInt (m0 95) (m0 94 3).toInt ∧ qT3 (m₉ 94 10).toInt (m₉ 94 13).toInt (m₉ 94 14).toInt (m₉ 94 15).toInt (m₉ 94 16).toInt (m0 95) (m0 94 3).toInt ∧ qT6 (m₉ 94 10).toInt (m₉ 94 11).toInt (m₉ 94 18).toInt (m₉ 94 19).toInt (m0 95) (m0 94 3).toInt) ∧ ((m₉ 94 60).toInt = 0 ∧ (m₉ 94 61).toInt = 0 ∧ (m₉ 94 63).toInt = 0 ∧ (((m₉ 94 10).toInt = 3 ∧ (m₉ 94 59).toInt = (m₉ 94 14).toInt) ∨ ((m₉ 94 10).toInt ≠ 3 ∧ (m₉ 94 59).toInt = 0))) ∧ ((m₉ 94 10).toInt = 6 → (m₉ 94 64) = (m₉ 94 11) / (m₉ 94 18)) ∧ (∀ s : Nat, s < 4600 → ((m₉ 111) s).toInt < 0) ∧ (∀ s : Nat, s < 128 → (m₉ 116) s = 0) ∧ (∀ s : Nat, s < 512 → (m₉ 117) s = 0))) → P (some (.inl v)) m₉) : ∀ (n : Nat) (m : Nat → Nat → Int32) , ((0 : Int)).toNat = n → zF wr_171 m0 m → zV m → (zW (m 94 7) (m 98) (m 101) (m 102) (m 108)) → (zGW T (m 94 55) (m 109)) → ((m 94 3).toInt = 0) → (0 ≤ (m 94 20).toInt ∧ ((m 94 20).toInt ≠ 3 ∨ (4 ≤ (m 94 26).toInt ∧ 16 ≤ (m 94 23).toInt ∧ 16 ≤ (m 94 24).toInt)) ∧ ((m 94 20).toInt = 3 ∨ 16 ≤ (m 94 21).toInt)) → (((m 94 20).toInt ≠ 6 ∨ (16 ≤ (m 94 28).toInt ∧ 4 * (m 94 28).toInt ≤ (m 94 21).toInt))) → (zJ5 (zAns (m0 95) (m0 94 3).toInt) (m 94 20).toInt (m 94 23).toInt (m 94 24).toInt (m 94 21).toInt (m 94 28).toInt) → ((m 94 20).toInt = qPo (m0 95) (m0 94 3).toInt ∧ ((m 94 20).toInt = 5 → qV (m0 95) (m0 94 3).toInt (m 94 21).toInt (m 94 22).toInt (m 94 27).toInt (m 94 30)) ∧ (((m 94 20).toInt = 0 ∨ (m 94 20).toInt = 4) → ((m 94 21).toInt = zVal (m0 95) (m0 94 3).toInt 0 1 ∧ (m 94 22).toInt = zVal (m0 95) (m0 94 3).toInt 6 2))) → ((qT1 (m 94 20).toInt (m 94 21).toInt (m0 95) (m0 94 3).toInt ∧ qT3 (m 94 20).toInt (m 94 23).toInt (m 94 24).toInt (m 94 25).toInt (m 94 26).toInt (m0 95) (m0 94 3).toInt ∧ qT6 (m 94 20).toInt (m 94 21).toInt (m 94 28).toInt (m 94 29).toInt (m0 95) (m0 94 3).toInt)) → (0 ≤ (m 94 27).toInt) → ((m 94 10).toInt = (m 94 20).toInt ∧ (m 94 11).toInt = (m 94 21).toInt ∧ (m 94 12).toInt = (m 94 22).toInt ∧ (m 94 13).toInt = (m 94 23).toInt ∧ (m 94 14).toInt = (m 94 24).toInt ∧ (m 94 15).toInt = (m 94 25).toInt ∧ (m 94 16).toInt = (m 94 26).toInt ∧ (m 94 17).toInt = (m 94 27).toInt ∧ (m 94 18).toInt = (m 94 28).toInt ∧ (m 94 19).toInt = (m 94 29).toInt) → ((m 94 9) = (m 94 30)) → zm X 4 90 171 148 [(0, .inr (.inr (some 94)))] m P := by
  intro n
  induction n using Nat.strongRecOn with
  | _ n IH =>
    intro m  hmu hF hV r_W r_GW hi2 hi3 hi4 r_JH r_JQ r_JM hi8 hi9 r_E9
    refine g_171_148  ?_
    have f1 : 0 ≤ (m 94 3).toInt ∧ (m 94 3).toInt ≤ 100 := rs_94_3 (m := m) hV
    have f2 : -1 ≤ (m 94 20).toInt ∧ (m 94 20).toInt ≤ 6 := rs_94_20 (m := m) hV
    have f3 : 0 ≤ (m 94 26).toInt ∧ (m 94 26).toInt ≤ 64 := rs_94_26 (m := m) hV
    have f4 : 0 ≤ (m 94 23).toInt ∧ (m 94 23).toInt ≤ 1500 := rs_94_23 (m := m) hV
    have f5 : 0 ≤ (m 94 24).toInt ∧ (m 94 24).toInt ≤ 1500 := rs_94_24 (m := m) hV
    have f6 : 0 ≤ (m 94 21).toInt ∧ (m 94 21).toInt ≤ 1500 := rs_94_21 (m := m) hV
    have f7 : 0 ≤ (m 94 28).toInt ∧ (m 94 28).toInt ≤ 256 := rs_94_28 (m := m) hV
    have b8 := i_bd (m 94 27)
    have f9 : 0 ≤ (m 94 10).toInt ∧ (m 94 10).toInt ≤ 6 := rs_94_10 (m := m) hV
    have f10 : 0 ≤ (m 94 11).toInt ∧ (m 94 11).toInt ≤ 1500 := rs_94_11 (m := m) hV
    have b11 := i_bd (m 94 12)
    have b12 := i_bd (m 94 22)
    have f13 : 0 ≤ (m 94 13).toInt ∧ (m 94 13).toInt ≤ 1500 := rs_94_13 (m := m) hV
    have f14 : 0 ≤ (m 94 14).toInt ∧ (m 94 14).toInt ≤ 1500 := rs_94_14 (m := m) hV
    have b15 := i_bd (m 94 15)
    have b16 := i_bd (m 94 25)
    have f17 : 0 ≤ (m 94 16).toInt ∧ (m 94 16).toInt ≤ 64 := rs_94_16 (m := m) hV
    have b18 := i_bd (m 94 17)
    have f19 : 0 ≤ (m 94 18).toInt ∧ (m 94 18).toInt ≤ 256 := rs_94_18 (m := m) hV
    have b20 := i_bd (m 94 19)
    have b21 := i_bd (m 94 29)
    refine sp_180qm  hV r_GW (show ((m 94 10).toInt ≠ 3 ∨ 4 ≤ (m 94 16).toInt) ∧ ((m 94 10).toInt ≠ 6 ∨ (16 ≤ (m 94 18).toInt ∧ 4 * (m 94 18).toInt ≤ (m 94 11).toInt)) ∧ (m 94 11).toInt ≤ 1500 ∧ 0 ≤ (m 94 13).toInt ∧ 0 ≤ (m 94 14).toInt ∧ 0 ≤ (m 94 11).toInt from by omega) (fun m1 hV_m1 p0_m1 p1_m1 p2_m1 p3_m1 p4_m1 p5_m1 p6_m1 p7_m1 p8_m1 p9_m1 p10_m1 p11_m1 p12_m1 p13_m1 p14_m1 p15_m1 p16_m1 p17_m1 p18_m1 => zmv_n ?_)
    have p0_m1 : zGW T (m1 94 55) (m 109) := p0_m1
    have p1_m1 : zGU T (m1 94 46) (m1 99) := p1_m1
    have p2_m1 : zOw (m1 99) (m 103) (m1 111) := p2_m1
    have p3_m1 : zDX (m 94 10) (m1 99) (m1 112) (m1 113) (m 114) (m1 94 55) (m 98) (m 101) (m 102) (m 108) := p3_m1
    have p4_m1 : zGG (m1 94 58) (m1 94 56) (m1 94 57) (m 106) := p4_m1
    have p5_m1 : zHA (m 94 10) (m 94 11) (m 94 13) (m 94 14) (m 94 16) (m1 94 61) (m1 94 59) (m1 94 60) (m1 99) (m 102) (m 103) (m1 111) (m1 117) (m 98) (m 101) (m 108) := p5_m1
    have p6_m1 : zRG (m 94 10) (m 94 18) (m1 94 64) (m1 94 63) (m1 99) (m 103) (m 102) (m1 116) := p6_m1
    have p7_m1 : (m1 94 58).toInt = 0 ∨ (m 94 10).toInt = 5 := p7_m1
    have p8_m1 : (m 94 10).toInt = 6 → (m1 94 64) = (m 94 11) / (m 94 18) := p8_m1
    have p9_m1 : ∀ s : Nat, s < 3100 → (m1 99) s = 0 := p9_m1
    have p10_m1 : ∀ s : Nat, s < 4600 → ((m1 111) s).toInt < 0 := p10_m1
    have p11_m1 : ∀ s : Nat, (s : Int) < 16 → ((m1 112) s).toInt < 0 := p11_m1
    have p12_m1 : ∀ s : Nat, (s : Int) < 16 → ((m1 113) s).toInt < 0 := p12_m1
    have p13_m1 : (m1 94 45).toInt = 0 ∧ (m1 94 46).toInt = 0 ∧ (m1 94 55).toInt = 0 ∧ (m1 94 58).toInt = 0 ∧ (m1 94 62).toInt = 0 := p13_m1
    have p14_m1 : (m1 94 8).toInt = 1 := p14_m1
    have p15_m1 : (m1 94 60).toInt = 0 ∧ (m1 94 61).toInt = 0 ∧ (m1 94 63).toInt = 0 := p15_m1
    have p16_m1 : ((m 94 10).toInt = 3 ∧ (m1 94 59).toInt = (m 94 14).toInt) ∨ ((m 94 10).toInt ≠ 3 ∧ (m1 94 59).toInt = 0) := p16_m1
    have p17_m1 : ∀ s : Nat, s < 128 → (m1 116) s = 0 := p17_m1
    have p18_m1 : ∀ s : Nat, s < 512 → (m1 117) s = 0 := p18_m1
    have f22 : 0 ≤ (m1 94 58).toInt ∧ (m1 94 58).toInt ≤ 1 := rs_94_58 (m := (zov wr_180 m m1)) hV_m1
    have b23 := i_bd (m1 94 45)
    have f24 : 0 ≤ (m1 94 46).toInt ∧ (m1 94 46).toInt ≤ 100000 := rs_94_46 (m := (zov wr_180 m m1)) hV_m1
    have f25 : 0 ≤ (m1 94 55).toInt ∧ (m1 94 55).toInt ≤ 3100 := rs_94_55 (m := (zov wr_180 m m1)) hV_m1
    have f26 : 0 ≤ (m1 94 62).toInt ∧ (m1 94 62).toInt ≤ 4600 := rs_94_62 (m := (zov wr_180 m m1)) hV_m1
    have f27 : 0 ≤ (m1 94 8).toInt ∧ (m1 94 8).toInt ≤ 1 := rs_94_8 (m := (zov wr_180 m m1)) hV_m1
    have f28 : 0 ≤ (m1 94 60).toInt ∧ (m1 94 60).toInt ≤ 1600 := rs_94_60 (m := (zov wr_180 m m1)) hV_m1
    have f29 : 0 ≤ (m1 94 61).toInt ∧ (m1 94 61).toInt ≤ 1 := rs_94_61 (m := (zov wr_180 m m1)) hV_m1
    have f30 : 0 ≤ (m1 94 63).toInt ∧ (m1 94 63).toInt ≤ 127 := rs_94_63 (m := (zov wr_180 m m1)) hV_m1
    have f31 : 0 ≤ (m1 94 59).toInt ∧ (m1 94 59).toInt ≤ 4600 := rs_94_59 (m := (zov wr_180 m m1)) hV_m1
    have li32 : (2 : Int32).toInt = 2 := rfl
    refine zd (fun (h33 : (m 94 10) = (2 : Int32)) => ?_) (fun (h33 : ¬ (m 94 10) = (2 : Int32)) => ?_)
    · skip
      have g34 := i_eq h33
      first | have e35 : ((2 : Int32) * (m 94 11)).toInt = 2 * (m 94 11).toInt := i_mulk2 rfl (by omega) (by omega) | have b36 := i_bd ((2 : Int32) * (m 94 11))
      exact K (((2 : Int32) * (m 94 11))) _ (zF_zov hF ws_180_171) hV_m1 (show 0 ≤ (m 94 27).toInt from by omega) (show 0 ≤ (m 94 17).toInt from by omega) r_W p0_m1 (show (m 94 3).toInt = 0 from by omega) (show (m1 94 8).toInt = 0 ∨ ((zGU T (m1 94 46) (m1 99)) ∧ (zOw (m1 99) (m 103) (m1 111)) ∧ (zDX (m 94 10) (m1 99) (m1 112) (m1 113) (m 114) (m1 94 55) (m 98) (m 101) (m 102) (m 108)) ∧ (zGG (m1 94 58) (m1 94 56) (m1 94 57) (m 106)) ∧ (zHA (m 94 10) (m 94 11) (m 94 13) (m 94 14) (m 94 16) (m1 94 61) (m1 94 59) (m1 94 60) (m1 99) (m 102) (m 103) (m1 111) (m1 117) (m 98) (m 101) (m 108)) ∧ (zRG (m 94 10) (m 94 18) (m1 94 64) (m1 94 63) (m1 99) (m 103) (m 102) (m1 116)) ∧ ((m1 94 58).toInt = 0 ∨ (m 94 10).toInt = 5)) from by first | (exact Or.inr ⟨p1_m1, p2_m1, p3_m1, p4_m1, p5_m1, p6_m1, by omega⟩) | (exact Or.inl (by omega)) | (exfalso; omega; done) | (exfalso; contradiction; done)) (show ((2 : Int32) * (m 94 11)).toInt = zAns (m0 95) (m0 94 3).toInt from by first | (have z := J5_2 r_JH (by omega); omega; done) | (have z := J5_3 r_JH (by omega); omega; done) | (have z := J5_6 r_JH (by omega); exact rg_tot (p8_m1 (by omega)) (by omega) (by omega) (by omega) (by omega) (by omega) (by omega) z; done) | (have z := J5_0 r_JH (by omega); omega; done) | (exfalso; omega; done) | (exfalso; contradiction; done)) (show ((zAns (m0 95) (m0 94 3).toInt) < 0 ∧ (m 98) = (m0 98) ∧ (m1 99) = (m0 99) ∧ (m 100) = (m0 100) ∧ (m 101) = (m0 101) ∧ (m 102) = (m0 102) ∧ (m 103) = (m0 103) ∧ (m 104) = (m0 104) ∧ (m 105) = (m0 105) ∧ (m 106) = (m0 106) ∧ (m 107) = (m0 107) ∧ (m 108) = (m0 108) ∧ (m 109) = (m0 109) ∧ (m 110) = (m0 110) ∧ (m1 111) = (m0 111) ∧ (m1 112) = (m0 112) ∧ (m1 113) = (m0 113) ∧ (m 114) = (m0 114) ∧ (m 115) = (m0 115) ∧ (m1 116) = (m0 116) ∧ (m1 117) = (m0 117) ∧ (m1 94 8) = (m0 94 8) ∧ (m 94 9) = (m0 94 9) ∧ (m 94 10) = (m0 94 10) ∧ (m 94 11) = (m0 94 11) ∧ (m 94 12) = (m0 94 12) ∧ (m 94 13) = (m0 94 13) ∧ (m 94 14) = (m0 94 14) ∧ (m 94 15) = (m0 94 15) ∧ (m 94 16) = (m0 94 16) ∧ (m 94 17) = (m0 94 17) ∧ (m 94 18) = (m0 94 18) ∧ (m 94 19) = (m0 94 19) ∧ (m1 94 45) = (m0 94 45) ∧ (m1 94 46) = (m0 94 46) ∧ (m1 94 55) = (m0 94 55) ∧ (m1 94 56) = (m0 94 56) ∧ (m1 94 57) = (m0 94 57) ∧ (m1 94 58) = (m0 94 58) ∧ (m1 94 59) = (m0 94 59) ∧ (m1 94 60) = (m0 94 60) ∧ (m1 94 61) = (m0 94 61) ∧ (m1 94 62) = (m0 94 62) ∧ (m1 94 63) = (m0 94 63) ∧ (m1 94 64) = (m0 94 64)) ∨ (0 ≤ (zAns (m0 95) (m0 94 3).toInt) ∧ (m 94 10).toInt = qPo (m0 95) (m0 94 3).toInt ∧ (m1 94 8).toInt = 1 ∧ ((m 94 10).toInt = 5 → qV (m0 95) (m0 94 3).toInt (m 94 11).toInt (m 94 12).toInt (m 94 17).toInt (m 94 9)) ∧ (((m 94 10).toInt = 0 ∨ (m 94 10).toInt = 4) → ((m 94 11).toInt = zVal (m0 95) (m0 94 3).toInt 0 1 ∧ (m 94 12).toInt = zVal (m0 95) (m0 94 3).toInt 6 2)) ∧ ((∀ s : Nat, s < 3100 → (m1 99) s = 0) ∧ (∀ s : Nat, (s : Int) < 16 → ((m1 112) s).toInt < 0) ∧ (∀ s : Nat, (s : Int) < 16 → ((m1 113) s).toInt < 0) ∧ (m1 94 45).toInt = 0 ∧ (m1 94 46).toInt = 0 ∧ (m1 94 55).toInt = 0 ∧ (m1 94 58).toInt = 0 ∧ (m1 94 62).toInt = 0) ∧ (qT1 (m 94 10).toInt (m 94 11).toInt (m0 95) (m0 94 3).toInt ∧ qT3 (m 94 10).toInt (m 94 13).toInt (m 94 14).toInt (m 94 15).toInt (m 94 16).toInt (m0 95) (m0 94 3).toInt ∧ qT6 (m 94 10).toInt (m 94 11).toInt (m 94 18).toInt (m 94 19).toInt (m0 95) (m0 94 3).toInt) ∧ ((m1 94 60).toInt = 0 ∧ (m1 94 61).toInt = 0 ∧ (m1 94 63).toInt = 0 ∧ (((m 94 10).toInt = 3 ∧ (m1 94 59).toInt = (m 94 14).toInt) ∨ ((m 94 10).toInt ≠ 3 ∧ (m1 94 59).toInt = 0))) ∧ ((m 94 10).toInt = 6 → (m1 94 64) = (m 94 11) / (m 94 18)) ∧ (∀ s : Nat, s < 4600 → ((m1 111) s).toInt < 0) ∧ (∀ s : Nat, s < 128 → (m1 116) s = 0) ∧ (∀ s : Nat, s < 512 → (m1 117) s = 0)) from by first | (have jq := r_JQ; have jq1 := jq.1; exact Or.inr ⟨J5_nn r_JH (rs_94_23 hV_m1).1 (rs_94_24 hV_m1).1 (rs_94_21 hV_m1).1 (rs_94_28 hV_m1).1, by omega, by omega, fun w => qV_e (jq.2.1 (by omega)) (by omega) (by omega) (by omega) r_E9, fun w => ⟨by have z := (jq.2.2 (by omega)).1; omega, by have z := (jq.2.2 (by omega)).2; omega⟩, ⟨p9_m1, p11_m1, p12_m1, by omega, by omega, by omega, by omega, by omega⟩, jm_e r_JM (by omega) (by omega) (by omega) (by omega) (by omega) (by omega) (by omega) (by omega), ⟨by omega, by omega, by omega, by omega⟩, p8_m1, p10_m1, p17_m1, p18_m1⟩; done) | (exfalso; omega; done) | (exfalso; contradiction; done))
    · skip
      have g37 := i_ne h33
      have li38 : (3 : Int32).toInt = 3 := rfl
      refine zd (fun (h39 : (m 94 10) = (3 : Int32)) => ?_) (fun (h39 : ¬ (m 94 10) = (3 : Int32)) => ?_)
      · skip
        have g40 := i_eq h39
        first | have e41 : ((2 : Int32) * (m 94 13)).toInt = 2 * (m 94 13).toInt := i_mulk2 rfl (by omega) (by omega) | have b42 := i_bd ((2 : Int32) * (m 94 13))
        first | have e43 : ((m 94 14) + ((2 : Int32) * (m 94 13))).toInt = (m 94 14).toInt + ((2 : Int32) * (m 94 13)).toInt := i_add (by omega) (by omega) | have b44 := i_bd ((m 94 14) + ((2 : Int32) * (m 94 13)))
        exact K (((m 94 14) + ((2 : Int32) * (m 94 13)))) _ (zF_zov hF ws_180_171) hV_m1 (show 0 ≤ (m 94 27).toInt from by omega) (show 0 ≤ (m 94 17).toInt from by omega) r_W p0_m1 (show (m 94 3).toInt = 0 from by omega) (show (m1 94 8).toInt = 0 ∨ ((zGU T (m1 94 46) (m1 99)) ∧ (zOw (m1 99) (m 103) (m1 111)) ∧ (zDX (m 94 10) (m1 99) (m1 112) (m1 113) (m 114) (m1 94 55) (m 98) (m 101) (m 102) (m 108)) ∧ (zGG (m1 94 58) (m1 94 56) (m1 94 57) (m 106)) ∧ (zHA (m 94 10) (m 94 11) (m 94 13) (m 94 14) (m 94 16) (m1 94 61) (m1 94 59) (m1 94 60) (m1 99) (m 102) (m 103) (m1 111) (m1 117) (m 98) (m 101) (m 108)) ∧ (zRG (m 94 10) (m 94 18) (m1 94 64) (m1 94 63) (m1 99) (m 103) (m 102) (m1 116)) ∧ ((m1 94 58).toInt = 0 ∨ (m 94 10).toInt = 5)) from by first | (exact Or.inr ⟨p1_m1, p2_m1, p3_m1, p4_m1, p5_m1, p6_m1, by omega⟩) | (exact Or.inl (by omega)) | (exfalso; omega; done) | (exfalso; contradiction; done)) (show ((m 94 14) + ((2 : Int32) * (m 94 13))).toInt = zAns (m0 95) (m0 94 3).toInt from by first | (have z := J5_2 r_JH (by omega); omega; done) | (have z := J5_3 r_JH (by omega); omega; done) | (have z := J5_6 r_JH (by omega); exact rg_tot (p8_m1 (by omega)) (by omega) (by omega) (by omega) (by omega) (by omega) (by omega) z; done) | (have z := J5_0 r_JH (by omega); omega; done) | (exfalso; omega; done) | (exfalso; contradiction; done)) (show ((zAns (m0 95) (m0 94 3).toInt) < 0 ∧ (m 98) = (m0 98) ∧ (m1 99) = (m0 99) ∧ (m 100) = (m0 100) ∧ (m 101) = (m0 101) ∧ (m 102) = (m0 102) ∧ (m 103) = (m0 103) ∧ (m 104) = (m0 104) ∧ (m 105) = (m0 105) ∧ (m 106) = (m0 106) ∧ (m 107) = (m0 107) ∧ (m 108) = (m0 108) ∧ (m 109) = (m0 109) ∧ (m 110) = (m0 110) ∧ (m1 111) = (m0 111) ∧ (m1 112) = (m0 112) ∧ (m1 113) = (m0 113) ∧ (m 114) = (m0 114) ∧ (m 115) = (m0 115) ∧ (m1 116) = (m0 116) ∧ (m1 117) = (m0 117) ∧ (m1 94 8) = (m0 94 8) ∧ (m 94 9) = (m0 94 9) ∧ (m 94 10) = (m0 94 10) ∧ (m 94 11) = (m0 94 11) ∧ (m 94 12) = (m0 94 12) ∧ (m 94 13) = (m0 94 13) ∧ (m 94 14) = (m0 94 14) ∧ (m 94 15) = (m0 94 15) ∧ (m 94 16) = (m0 94 16) ∧ (m 94 17) = (m0 94 17) ∧ (m 94 18) = (m0 94 18) ∧ (m 94 19) = (m0 94 19) ∧ (m1 94 45) = (m0 94 45) ∧ (m1 94 46) = (m0 94 46) ∧ (m1 94 55) = (m0 94 55) ∧ (m1 94 56) = (m0 94 56) ∧ (m1 94 57) = (m0 94 57) ∧ (m1 94 58) = (m0 94 58) ∧ (m1 94 59) = (m0 94 59) ∧ (m1 94 60) = (m0 94 60) ∧ (m1 94 61) = (m0 94 61) ∧ (m1 94 62) = (m0 94 62) ∧ (m1 94 63) = (m0 94 63) ∧ (m1 94 64) = (m0 94 64)) ∨ (0 ≤ (zAns (m0 95) (m0 94 3).toInt) ∧ (m 94 10).toInt = qPo (m0 95) (m0 94 3).toInt ∧ (m1 94 8).toInt = 1 ∧ ((m 94 10).toInt = 5 → qV (m0 95) (m0 94 3).toInt (m 94 11).toInt (m 94 12).toInt (m 94 17).toInt (m 94 9)) ∧ (((m 94 10).toInt = 0 ∨ (m 94 10).toInt = 4) → ((m 94 11).toInt = zVal (m0 95) (m0 94 3).toInt 0 1 ∧ (m 94 12).toInt = zVal (m0 95) (m0 94 3).toInt 6 2)) ∧ ((∀ s : Nat, s < 3100 → (m1 99) s = 0) ∧ (∀ s : Nat, (s : Int) < 16 → ((m1 112) s).toInt < 0) ∧ (∀ s : Nat, (s : Int) < 16 → ((m1 113) s).toInt < 0) ∧ (m1 94 45).toInt = 0 ∧ (m1 94 46).toInt = 0 ∧ (m1 94 55).toInt = 0 ∧ (m1 94 58).toInt = 0 ∧ (m1 94 62).toInt = 0) ∧ (qT1 (m 94 10).toInt (m 94 11).toInt (m0 95) (m0 94 3).toInt ∧ qT3 (m 94 10).toInt (m 94 13).toInt (m 94 14).toInt (m 94 15).toInt (m 94 16).toInt (m0 95) (m0 94 3).toInt ∧ qT6 (m 94 10).toInt (m 94 11).toInt (m 94 18).toInt (m 94 19).toInt (m0 95) (m0 94 3).toInt) ∧ ((m1 94 60).toInt = 0 ∧ (m1 94 61).toInt = 0 ∧ (m1 94 63).toInt = 0 ∧ (((m 94 10).toInt = 3 ∧ (m1 94 59).toInt = (m 94 14).toInt) ∨ ((m 94 10).toInt ≠ 3 ∧ (m1 94 59).toInt = 0))) ∧ ((m 94 10).toInt = 6 → (m1 94 64) = (m 94 11) / (m 94 18)) ∧ (∀ s : Nat, s < 4600 → ((m1 111) s).toInt < 0) ∧ (∀ s : Nat, s < 128 → (m1 116) s = 0) ∧ (∀ s : Nat, s < 512 → (m1 117) s = 0)) from by first | (have jq := r_JQ; have jq1 := jq.1; exact Or.inr ⟨J5_nn r_JH (rs_94_23 hV_m1).1 (rs_94_24 hV_m1).1 (rs_94_21 hV_m1).1 (rs_94_28 hV_m1).1, by omega, by omega, fun w => qV_e (jq.2.1 (by omega)) (by omega) (by omega) (by omega) r_E9, fun w => ⟨by have z := (jq.2.2 (by omega)).1; omega, by have z := (jq.2.2 (by omega)).2; omega⟩, ⟨p9_m1, p11_m1, p12_m1, by omega, by omega, by omega, by omega, by omega⟩, jm_e r_JM (by omega) (by omega) (by omega) (by omega) (by omega) (by omega) (by omega) (by omega), ⟨by omega, by omega, by omega, by omega⟩, p8_m1, p10_m1, p17_m1, p18_m1⟩; done) | (exfalso; omega; done) | (exfalso; contradiction; done))
      · skip
        have g45 := i_ne h39
        have li46 : (6 : Int32).toInt = 6 := rfl
        refine zd (fun (h47 : (m 94 10) = (6 : Int32)) => ?_) (fun (h47 : ¬ (m 94 10) = (6 : Int32)) => ?_)
        · skip
          have g48 := i_eq h47
          have f49 : 0 ≤ (m1 94 64).toInt ∧ (m1 94 64).toInt ≤ 93 := rs_94_64 (m := (zov wr_180 m m1)) hV_m1
          first | have f50 := i_muln (x := (m1 94 64)) (y := (m 94 18)) (by omega) (by omega) (by omega) (by omega) | have b51 := i_bd ((m1 94 64) * (m 94 18))
          exact K (((m1 94 64) * (m 94 18))) _ (zF_zov hF ws_180_171) hV_m1 (show 0 ≤ (m 94 27).toInt from by omega) (show 0 ≤ (m 94 17).toInt from by omega) r_W p0_m1 (show (m 94 3).toInt = 0 from by omega) (show (m1 94 8).toInt = 0 ∨ ((zGU T (m1 94 46) (m1 99)) ∧ (zOw (m1 99) (m 103) (m1 111)) ∧ (zDX (m 94 10) (m1 99) (m1 112) (m1 113) (m 114) (m1 94 55) (m 98) (m 101) (m 102) (m 108)) ∧ (zGG (m1 94 58) (m1 94 56) (m1 94 57) (m 106)) ∧ (zHA (m 94 10) (m 94 11) (m 94 13) (m 94 14) (m 94 16) (m1 94 61) (m1 94 59) (m1 94 60) (m1 99) (m 102) (m 103) (m1 111) (m1 117) (m 98) (m 101) (m 108)) ∧ (zRG (m 94 10) (m 94 18) (m1 94 64) (m1 94 63) (m1 99) (m 103) (m 102) (m1 116)) ∧ ((m1 94 58).toInt = 0 ∨ (m 94 10).toInt = 5)) from by first | (exact Or.inr ⟨p1_m1, p2_m1, p3_m1, p4_m1, p5_m1, p6_m1, by omega⟩) | (exact Or.inl (by omega)) | (exfalso; omega; done) | (exfalso; contradiction; done)) (show ((m1 94 64) * (m 94 18)).toInt = zAns (m0 95) (m0 94 3).toInt from by first | (have z := J5_2 r_JH (by omega); omega; done) | (have z := J5_3 r_JH (by omega); omega; done) | (have z := J5_6 r_JH (by omega); exact rg_tot (p8_m1 (by omega)) (by omega) (by omega) (by omega) (by omega) (by omega) (by omega) z; done) | (have z := J5_0 r_JH (by omega); omega; done) | (exfalso; omega; done) | (exfalso; contradiction; done)) (show ((zAns (m0 95) (m0 94 3).toInt) < 0 ∧ (m 98) = (m0 98) ∧ (m1 99) = (m0 99) ∧ (m 100) = (m0 100) ∧ (m 101) = (m0 101) ∧ (m 102) = (m0 102) ∧ (m 103) = (m0 103) ∧ (m 104) = (m0 104) ∧ (m 105) = (m0 105) ∧ (m 106) = (m0 106) ∧ (m 107) = (m0 107) ∧ (m 108) = (m0 108) ∧ (m 109) = (m0 109) ∧ (m 110) = (m0 110) ∧ (m1 111) = (m0 111) ∧ (m1 112) = (m0 112) ∧ (m1 113) = (m0 113) ∧ (m 114) = (m0 114) ∧ (m 115) = (m0 115) ∧ (m1 116) = (m0 116) ∧ (m1 117) = (m0 117) ∧ (m1 94 8) = (m0 94 8) ∧ (m 94 9) = (m0 94 9) ∧ (m 94 10) = (m0 94 10) ∧ (m 94 11) = (m0 94 11) ∧ (m 94 12) = (m0 94 12) ∧ (m 94 13) = (m0 94 13) ∧ (m 94 14) = (m0 94 14) ∧ (m 94 15) = (m0 94 15) ∧ (m 94 16) = (m0 94 16) ∧ (m 94 17) = (m0 94 17) ∧ (m 94 18) = (m0 94 18) ∧ (m 94 19) = (m0 94 19) ∧ (m1 94 45) = (m0 94 45) ∧ (m1 94 46) = (m0 94 46) ∧ (m1 94 55) = (m0 94 55) ∧ (m1 94 56) = (m0 94 56) ∧ (m1 94 57) = (m0 94 57) ∧ (m1 94 58) = (m0 94 58) ∧ (m1 94 59) = (m0 94 59) ∧ (m1 94 60) = (m0 94 60) ∧ (m1 94 61) = (m0 94 61) ∧ (m1 94 62) = (m0 94 62) ∧ (m1 94 63) = (m0 94 63) ∧ (m1 94 64) = (m0 94 64)) ∨ (0 ≤ (zAns (m0 95) (m0 94 3).toInt) ∧ (m 94 10).toInt = qPo (m0 95) (m0 94 3).toInt ∧ (m1 94 8).toInt = 1 ∧ ((m 94 10).toInt = 5 → qV (m0 95) (m0 94 3).toInt (m 94 11).toInt (m 94 12).toInt (m 94 17).toInt (m 94 9)) ∧ (((m 94 10).toInt = 0 ∨ (m 94 10).toInt = 4) → ((m 94 11).toInt = zVal (m0 95) (m0 94 3).toInt 0 1 ∧ (m 94 12).toInt = zVal (m0 95) (m0 94 3).toInt 6 2)) ∧ ((∀ s : Nat, s < 3100 → (m1 99) s = 0) ∧ (∀ s : Nat, (s : Int) < 16 → ((m1 112) s).toInt < 0) ∧ (∀ s : Nat, (s : Int) < 16 → ((m1 113) s).toInt < 0) ∧ (m1 94 45).toInt = 0 ∧ (m1 94 46).toInt = 0 ∧ (m1 94 55).toInt = 0 ∧ (m1 94 58).toInt = 0 ∧ (m1 94 62).toInt = 0) ∧ (qT1 (m 94 10).toInt (m 94 11).toInt (m0 95) (m0 94 3).toInt ∧ qT3 (m 94 10).toInt (m 94 13).toInt (m 94 14).toInt (m 94 15).toInt (m 94 16).toInt (m0 95) (m0 94 3).toInt ∧ qT6 (m 94 10).toInt (m 94 11).toInt (m 94 18).toInt (m 94 19).toInt (m0 95) (m0 94 3).toInt) ∧ ((m1 94 60).toInt = 0 ∧ (m1 94 61).toInt = 0 ∧ (m1 94 63).toInt = 0 ∧ (((m 94 10).toInt = 3 ∧ (m1 94 59).toInt = (m 94 14).toInt) ∨ ((m 94 10).toInt ≠ 3 ∧ (m1 94 59).toInt = 0))) ∧ ((m 94 10).toInt = 6 → (m1 94 64) = (m 94 11) / (m 94 18)) ∧ (∀ s : Nat, s < 4600 → ((m1 111) s).toInt < 0) ∧ (∀ s : Nat, s < 128 → (m1 116) s = 0) ∧ (∀ s : Nat, s < 512 → (m1 117) s = 0)) from by first | (have jq := r_JQ; have jq1 := jq.1; exact Or.inr ⟨J5_nn r_JH (rs_94_23 hV_m1).1 (rs_94_24 hV_m1).1 (rs_94_21 hV_m1).1 (rs_94_28 hV_m1).1, by omega, by omega, fun w => qV_e (jq.2.1 (by omega)) (by omega) (by omega) (by omega) r_E9, fun w => ⟨by have z := (jq.2.2 (by omega)).1; omega, by have z := (jq.2.2 (by omega)).2; omega⟩, ⟨p9_m1, p11_m1, p12_m1, by omega, by omega, by omega, by omega, by omega⟩, jm_e r_JM (by omega) (by omega) (by omega) (by omega) (by omega) (by omega) (by omega) (by omega), ⟨by omega, by omega, by omega, by omega⟩, p8_m1, p10_m1, p17_m1, p18_m1⟩; done) | (exfalso; omega; done) | (exfalso; contradiction; done))
        · skip
          have g52 := i_ne h47
          exact K ((m 94 11)) _ (zF_zov hF ws_180_171) hV_m1 (show 0 ≤ (m 94 27).toInt from by omega) (show 0 ≤ (m 94 17).toInt from by omega) r_W p0_m1 (show (m 94 3).toInt = 0 from by omega) (show (m1 94 8).toInt = 0 ∨ ((zGU T (m1 94 46) (m1 99)) ∧ (zOw (m1 99) (m 103) (m1 111)) ∧ (zDX (m 94 10) (m1 99) (m1 112) (m1 113) (m 114) (m1 94 55) (m 98) (m 101) (m 102) (m 108)) ∧ (zGG (m1 94 58) (m1 94 56) (m1 94 57) (m 106)) ∧ (zHA (m 94 10) (m 94 11) (m 94 13) (m 94 14) (m 94 16) (m1 94 61) (m1 94 59) (m1 94 60) (m1 99) (m 102) (m 103) (m1 111) (m1 117) (m 98) (m 101) (m 108)) ∧ (zRG (m 94 10) (m 94 18) (m1 94 64) (m1 94 63) (m1 99) (m 103) (m 102) (m1 116)) ∧ ((m1 94 58).toInt = 0 ∨ (m 94 10).toInt = 5)) from by first | (exact Or.inr ⟨p1_m1, p2_m1, p3_m1, p4_m1, p5_m1, p6_m1, by omega⟩) | (exact Or.inl (by omega)) | (exfalso; omega; done) | (exfalso; contradiction; done)) (show (m 94 11).toInt = zAns (m0 95) (m0 94 3).toInt from by first | (have z := J5_2 r_JH (by omega); omega; done) | (have z := J5_3 r_JH (by omega); omega; done) | (have z := J5_6 r_JH (by omega); exact rg_tot (p8_m1 (by omega)) (by omega) (by omega) (by omega) (by omega) (by omega) (by omega) z; done) | (have z := J5_0 r_JH (by omega); omega; done) | (exfalso; omega; done) | (exfalso; contradiction; done)) (show ((zAns (m0 95) (m0 94 3).toInt) < 0 ∧ (m 98) = (m0 98) ∧ (m1 99) = (m0 99) ∧ (m 100) = (m0 100) ∧ (m 101) = (m0 101) ∧ (m 102) = (m0 102) ∧ (m 103) = (m0 103) ∧ (m 104) = (m0 104) ∧ (m 105) = (m0 105) ∧ (m 106) = (m0 106) ∧ (m 107) = (m0 107) ∧ (m 108) = (m0 108) ∧ (m 109) = (m0 109) ∧ (m 110) = (m0 110) ∧ (m1 111) = (m0 111) ∧ (m1 112) = (m0 112) ∧ (m1 113) = (m0 113) ∧ (m 114) = (m0 114) ∧ (m 115) = (m0 115) ∧ (m1 116) = (m0 116) ∧ (m1 117) = (m0 117) ∧ (m1 94 8) = (m0 94 8) ∧ (m 94 9) = (m0 94 9) ∧ (m 94 10) = (m0 94 10) ∧ (m 94 11) = (m0 94 11) ∧ (m 94 12) = (m0 94 12) ∧ (m 94 13) = (m0 94 13) ∧ (m 94 14) = (m0 94 14) ∧ (m 94 15) = (m0 94 15) ∧ (m 94 16) = (m0 94 16) ∧ (m 94 17) = (m0 94 17) ∧ (m 94 18) = (m0 94 18) ∧ (m 94 19) = (m0 94 19) ∧ (m1 94 45) = (m0 94 45) ∧ (m1 94 46) = (m0 94 46) ∧ (m1 94 55) = (m0 94 55) ∧ (m1 94 56) = (m0 94 56) ∧ (m1 94 57) = (m0 94 57) ∧ (m1 94 58) = (m0 94 58) ∧ (m1 94 59) = (m0 94 59) ∧ (m1 94 60) = (m0 94 60) ∧ (m1 94 61) = (m0 94 61) ∧ (m1 94 62) = (m0 94 62) ∧ (m1 94 63) = (m0 94 63) ∧ (m1 94 64) = (m0 94 64)) ∨ (0 ≤ (zAns (m0 95) (m0 94 3).toInt) ∧ (m 94 10).toInt = qPo (m0 95) (m0 94 3).toInt ∧ (m1 94 8).toInt = 1 ∧ ((m 94 10).toInt = 5 → qV (m0 95) (m0 94 3).toInt (m 94 11).toInt (m 94 12).toInt (m 94 17).toInt (m 94 9)) ∧ (((m 94 10).toInt = 0 ∨ (m 94 10).toInt = 4) → ((m 94 11).toInt = zVal (m0 95) (m0 94 3).toInt 0 1 ∧ (m 94 12).toInt = zVal (m0 95) (m0 94 3).toInt 6 2)) ∧ ((∀ s : Nat, s < 3100 → (m1 99) s = 0) ∧ (∀ s : Nat, (s : Int) < 16 → ((m1 112) s).toInt < 0) ∧ (∀ s : Nat, (s : Int) < 16 → ((m1 113) s).toInt < 0) ∧ (m1 94 45).toInt = 0 ∧ (m1 94 46).toInt = 0 ∧ (m1 94 55).toInt = 0 ∧ (m1 94 58).toInt = 0 ∧ (m1 94 62).toInt = 0) ∧ (qT1 (m 94 10).toInt (m 94 11).toInt (m0 95) (m0 94 3).toInt ∧ qT3 (m 94 10).toInt (m 94 13).toInt (m 94 14).toInt (m 94 15).toInt (m 94 16).toInt (m0 95) (m0 94 3).toInt ∧ qT6 (m 94 10).toInt (m 94 11).toInt (m 94 18).toInt (m 94 19).toInt (m0 95) (m0 94 3).toInt) ∧ ((m1 94 60).toInt = 0 ∧ (m1 94 61).toInt = 0 ∧ (m1 94 63).toInt = 0 ∧ (((m 94 10).toInt = 3 ∧ (m1 94 59).toInt = (m 94 14).toInt) ∨ ((m 94 10).toInt ≠ 3 ∧ (m1 94 59).toInt = 0))) ∧ ((m 94 10).toInt = 6 → (m1 94 64) = (m 94 11) / (m 94 18)) ∧ (∀ s : Nat, s < 4600 → ((m1 111) s).toInt < 0) ∧ (∀ s : Nat, s < 128 → (m1 116) s = 0) ∧ (∀ s : Nat, s < 512 → (m1 117) s = 0)) from by first | (have jq := r_JQ; have jq1 := jq.1; exact Or.inr ⟨J5_nn r_JH (rs_94_23 hV_m1).1 (rs_94_24 hV_m1).1 (rs_94_21 hV_m1).1 (rs_94_28 hV_m1).1, by omega, by omega, fun w => qV_e (jq.2.1 (by omega)) (by omega) (by omega) (by omega) r_E9, fun w => ⟨by have z := (jq.2.2 (by omega)).1; omega, by have z := (jq.2.2 (by omega)).2; omega⟩, ⟨p9_m1, p11_m1, p12_m1, by omega, by omega, by omega, by omega, by omega⟩, jm_e r_JM (by omega) (by omega) (by omega) (by omega) (by omega) (by omega) (by omega) (by omega), ⟨by omega, by omega, by omega, by omega⟩, p8_m1, p10_m1, p17_m1, p18_m1⟩; done) | (exfalso; omega; done) | (exfalso; contradiction; done))
set_option maxHeartbeats 8000000 in
theorem lp_171ym_124 {X : Nat × (Nat → Int32)} {P : Option ma_V → (Nat → Nat → Int32) → Prop} {T : Nat} {m0 : Nat → Nat → Int32} (h0 : zV m0) (K : ∀ v m₉, zF wr_171 m0 m₉ → zV m₉ → (0 ≤ (m₉ 94 27).toInt) → (0 ≤ (m₉ 94 17).toInt) → (zW (m₉ 94 7) (m₉ 98) (m₉ 101) (m₉ 102) (m₉ 108)) → (zGW T (m₉ 94 55) (m₉ 109)) → ((m₉ 94 3).toInt = 0) → ((m₉ 94 8).toInt = 0 ∨ ((zGU T (m₉ 94 46) (m₉ 99)) ∧ (zOw (m₉ 99) (m₉ 103) (m₉ 111)) ∧ (zDX (m₉ 94 10) (m₉ 99) (m₉ 112) (m₉ 113) (m₉ 114) (m₉ 94 55) (m₉ 98) (m₉ 101) (m₉ 102) (m₉ 108)) ∧ (zGG (m₉ 94 58) (m₉ 94 56) (m₉ 94 57) (m₉ 106)) ∧ (zHA (m₉ 94 10) (m₉ 94 11) (m₉ 94 13) (m₉ 94 14) (m₉ 94 16) (m₉ 94 61) (m₉ 94 59) (m₉ 94 60) (m₉ 99) (m₉ 102) (m₉ 103) (m₉ 111) (m₉ 117) (m₉ 98) (m₉ 101) (m₉ 108)) ∧ (zRG (m₉ 94 10) (m₉ 94 18) (m₉ 94 64) (m₉ 94 63) (m₉ 99) (m₉ 103) (m₉ 102) (m₉ 116)) ∧ ((m₉ 94 58).toInt = 0 ∨ (m₉ 94 10).toInt = 5))) → (v.toInt = zAns (m0 95) (m0 94 3).toInt) → (((zAns (m0 95) (m0 94 3).toInt) < 0 ∧ (m₉ 98) = (m0 98) ∧ (m₉ 99) = (m0 99) ∧ (m₉ 100) = (m0 100) ∧ (m₉ 101) = (m0 101) ∧ (m₉ 102) = (m0 102) ∧ (m₉ 103) = (m0 103) ∧ (m₉ 104) = (m0 104) ∧ (m₉ 105) = (m0 105) ∧ (m₉ 106) = (m0 106) ∧ (m₉ 107) = (m0 107) ∧ (m₉ 108) = (m0 108) ∧ (m₉ 109) = (m0 109) ∧ (m₉ 110) = (m0 110) ∧ (m₉ 111) = (m0 111) ∧ (m₉ 112) = (m0 112) ∧ (m₉ 113) = (m0 113) ∧ (m₉ 114) = (m0 114) ∧ (m₉ 115) = (m0 115) ∧ (m₉ 116) = (m0 116) ∧ (m₉ 117) = (m0 117) ∧ (m₉ 94 8) = (m0 94 8) ∧ (m₉ 94 9) = (m0 94 9) ∧ (m₉ 94 10) = (m0 94 10) ∧ (m₉ 94 11) = (m0 94 11) ∧ (m₉ 94 12) = (m0 94 12) ∧ (m₉ 94 13) = (m0 94 13) ∧ (m₉ 94 14) = (m0 94 14) ∧ (m₉ 94 15) = (m0 94 15) ∧ (m₉ 94 16) = (m0 94 16) ∧ (m₉ 94 17) = (m0 94 17) ∧ (m₉ 94 18) = (m0 94 18) ∧ (m₉ 94 19) = (m0 94 19) ∧ (m₉ 94 45) = (m0 94 45) ∧ (m₉ 94 46) = (m0 94 46) ∧ (m₉ 94 55) = (m0 94 55) ∧ (m₉ 94 56) = (m0 94 56) ∧ (m₉ 94 57) = (m0 94 57) ∧ (m₉ 94 58) = (m0 94 58) ∧ (m₉ 94 59) = (m0 94 59) ∧ (m₉ 94 60) = (m0 94 60) ∧ (m₉ 94 61) = (m0 94 61) ∧ (m₉ 94 62) = (m0 94 62) ∧ (m₉ 94 63) = (m0 94 63) ∧ (m₉ 94 64) = (m0 94 64)) ∨ (0 ≤ (zAns (m0 95) (m0 94 3).toInt) ∧ (m₉ 94 10).toInt = qPo (m0 95) (m0 94 3).toInt ∧ (m₉ 94 8).toInt = 1 ∧ ((m₉ 94 10).toInt = 5 → qV (m0 95) (m0 94 3).toInt (m₉ 94 11).toInt (m₉ 94 12).toInt (m₉ 94 17).toInt (m₉ 94 9)) ∧ (((m₉ 94 10).toInt = 0 ∨ (m₉ 94 10).toInt = 4) → ((m₉ 94 11).toInt = zVal (m0 95) (m0 94 3).toInt 0 1 ∧ (m₉ 94 12).toInt = zVal (m0 95) (m0 94 3).toInt 6 2)) ∧ ((∀ s : Nat, s < 3100 → (m₉ 99) s = 0) ∧ (∀ s : Nat, (s : Int) < 16 → ((m₉ 112) s).toInt < 0) ∧ (∀ s : Nat, (s : Int) < 16 → ((m₉ 113) s).toInt < 0) ∧ (m₉ 94 45).toInt = 0 ∧ (m₉ 94 46).toInt = 0 ∧ (m₉ 94 55).toInt = 0 ∧ (m₉ 94 58).toInt = 0 ∧ (m₉ 94 62).toInt = 0) ∧ (qT1 (m₉ 94 10).toInt (m₉ 94 11).toInt (m0 95) (m0 94 3).toInt ∧ qT3 (m₉ 94 10).toInt (m₉ 94 13).toInt (m₉ 94 14).toInt (m₉ 94 15).toInt (m₉ 94 16).toInt (m0 95) (m0 94 3).toInt ∧ qT6 (m₉ 94 10).toInt (m₉ 94 11).toInt (m₉ 94 18).toInt (m₉ 94 19).toInt (m0 95) (m0 94 3).toInt) ∧ ((m₉ 94 60).toInt = 0 ∧ (m₉ 94 61).toInt = 0 ∧ (m₉ 94 63).toInt = 0 ∧ (((m₉ 94 10).toInt = 3 ∧ (m₉ 94 59).toInt = (m₉ 94 14).toInt) ∨ ((m₉ 94 10).toInt ≠ 3 ∧ (m₉ 94 59).toInt = 0))) ∧ ((m₉ 94 10).toInt = 6 → (m₉ 94 64) = (m₉ 94 11) / (m₉ 94 18)) ∧ (∀ s : Nat, s < 4600 → ((m₉ 111) s).toInt < 0) ∧ (∀ s : Nat, s < 128 → (m₉ 116) s = 0) ∧ (∀ s : Nat, s < 512 → (m₉ 117) s = 0))) → P (some (.inl v)) m₉) : ∀ (n : Nat) (m : Nat → Nat → Int32) , ((0 : Int)).toNat = n → zF wr_171 m0 m → zV m → (zW (m 94 7) (m 98) (m 101) (m 102) (m 108)) → (zGW T (m 94 55) (m 109)) → ((m 94 3).toInt = 0) → (0 ≤ (m 94 20).toInt ∧ ((m 94 20).toInt ≠ 3 ∨ (4 ≤ (m 94 26).toInt ∧ 16 ≤ (m 94 23).toInt ∧ 16 ≤ (m 94 24).toInt)) ∧ ((m 94 20).toInt = 3 ∨ 16 ≤ (m 94 21).toInt)) → (((m 94 20).toInt ≠ 6 ∨ (16 ≤ (m 94 28).toInt ∧ 4 * (m 94 28).toInt ≤ (m 94 21).toInt))) → (zJ5 (zAns (m0 95) (m0 94 3).toInt) (m 94 20).toInt (m 94 23).toInt (m 94 24).toInt (m 94 21).toInt (m 94 28).toInt) → ((m 94 20).toInt = qPo (m0 95) (m0 94 3).toInt ∧ ((m 94 20).toInt = 5 → qV (m0 95) (m0 94 3).toInt (m 94 21).toInt (m 94 22).toInt (m 94 27).toInt (m 94 30)) ∧ (((m 94 20).toInt = 0 ∨ (m 94 20).toInt = 4) → ((m 94 21).toInt = zVal (m0 95) (m0 94 3).toInt 0 1 ∧ (m 94 22).toInt = zVal (m0 95) (m0 94 3).toInt 6 2))) → ((qT1 (m 94 20).toInt (m 94 21).toInt (m0 95) (m0 94 3).toInt ∧ qT3 (m 94 20).toInt (m 94 23).toInt (m 94 24).toInt (m 94 25).toInt (m 94 26).toInt (m0 95) (m0 94 3).toInt ∧ qT6 (m 94 20).toInt (m 94 21).toInt (m 94 28).toInt (m 94 29).toInt (m0 95) (m0 94 3).toInt)) → (0 ≤ (m 94 27).toInt) → ((m 94 10).toInt = (m 94 20).toInt ∧ (m 94 11).toInt = (m 94 21).toInt ∧ (m 94 12).toInt = (m 94 22).toInt ∧ (m 94 13).toInt = (m 94 23).toInt ∧ (m 94 14).toInt = (m 94 24).toInt ∧ (m 94 15).toInt = (m 94 25).toInt ∧ (m 94 16).toInt = (m 94 26).toInt ∧ (m 94 17).toInt = (m 94 27).toInt) → zm X 4 90 171 124 [(0, .inr (.inr (some 94)))] m P := by
  intro n
  induction n using Nat.strongRecOn with
  | _ n IH =>
    intro m  hmu hF hV r_W r_GW hi2 hi3 hi4 r_JH r_JQ r_JM hi8 hi9
    refine g_171_124  ?_
    have f1 : 0 ≤ (m 94 3).toInt ∧ (m 94 3).toInt ≤ 100 := rs_94_3 (m := m) hV
    have f2 : -1 ≤ (m 94 20).toInt ∧ (m 94 20).toInt ≤ 6 := rs_94_20 (m := m) hV
    have f3 : 0 ≤ (m 94 26).toInt ∧ (m 94 26).toInt ≤ 64 := rs_94_26 (m := m) hV
    have f4 : 0 ≤ (m 94 23).toInt ∧ (m 94 23).toInt ≤ 1500 := rs_94_23 (m := m) hV
    have f5 : 0 ≤ (m 94 24).toInt ∧ (m 94 24).toInt ≤ 1500 := rs_94_24 (m := m) hV
    have f6 : 0 ≤ (m 94 21).toInt ∧ (m 94 21).toInt ≤ 1500 := rs_94_21 (m := m) hV
    have f7 : 0 ≤ (m 94 28).toInt ∧ (m 94 28).toInt ≤ 256 := rs_94_28 (m := m) hV
    have b8 := i_bd (m 94 27)
    have f9 : 0 ≤ (m 94 10).toInt ∧ (m 94 10).toInt ≤ 6 := rs_94_10 (m := m) hV
    have f10 : 0 ≤ (m 94 11).toInt ∧ (m 94 11).toInt ≤ 1500 := rs_94_11 (m := m) hV
    have b11 := i_bd (m 94 12)
    have b12 := i_bd (m 94 22)
    have f13 : 0 ≤ (m 94 13).toInt ∧ (m 94 13).toInt ≤ 1500 := rs_94_13 (m := m) hV
    have f14 : 0 ≤ (m 94 14).toInt ∧ (m 94 14).toInt ≤ 1500 := rs_94_14 (m := m) hV
    have b15 := i_bd (m 94 15)
    have b16 := i_bd (m 94 25)
    have f17 : 0 ≤ (m 94 16).toInt ∧ (m 94 16).toInt ≤ 64 := rs_94_16 (m := m) hV
    have b18 := i_bd (m 94 17)
    have f19 : 0 ≤ (m 94 30).toInt ∧ (m 94 30).toInt ≤ 1 := rs_94_30 (m := m) hV
    have hg20 : ((m 94 30) = 0 ∨ (m 94 30) = 1) := (i_bool (by omega) (by omega))
    refine ⟨hg20, ?_⟩
    have hV21 : zV (ma_u m 94 18 (m 94 28)) := us_94_18 hV (by omega) (by omega)
    have hV22 : zV (ma_u (ma_u m 94 18 (m 94 28)) 94 19 (m 94 29)) := uf_94_19 hV21
    have hV23 : zV (ma_u (ma_u (ma_u m 94 18 (m 94 28)) 94 19 (m 94 29)) 94 9 (m 94 30)) := us_94_9 hV22 (by omega) (by omega)
    have b24 := i_bd (m 94 29)
    exact lp_171ym_148 h0 K _ _  rfl (zF_u (zF_u (zF_u hF rfl) rfl) rfl) hV23 r_W r_GW (show (m 94 3).toInt = 0 from by omega) (show 0 ≤ (m 94 20).toInt ∧ ((m 94 20).toInt ≠ 3 ∨ (4 ≤ (m 94 26).toInt ∧ 16 ≤ (m 94 23).toInt ∧ 16 ≤ (m 94 24).toInt)) ∧ ((m 94 20).toInt = 3 ∨ 16 ≤ (m 94 21).toInt) from by omega) (show ((m 94 20).toInt ≠ 6 ∨ (16 ≤ (m 94 28).toInt ∧ 4 * (m 94 28).toInt ≤ (m 94 21).toInt)) from by omega) r_JH r_JQ r_JM (show 0 ≤ (m 94 27).toInt from by omega) (show (m 94 10).toInt = (m 94 20).toInt ∧ (m 94 11).toInt = (m 94 21).toInt ∧ (m 94 12).toInt = (m 94 22).toInt ∧ (m 94 13).toInt = (m 94 23).toInt ∧ (m 94 14).toInt = (m 94 24).toInt ∧ (m 94 15).toInt = (m 94 25).toInt ∧ (m 94 16).toInt = (m 94 26).toInt ∧ (m 94 17).toInt = (m 94 27).toInt ∧ (m 94 28).toInt = (m 94 28).toInt ∧ (m 94 29).toInt = (m 94 29).toInt from by omega) (show (m 94 30) = (m 94 30) from by first | (exact rfl) | (exfalso; omega; done) | (exfalso; contradiction; done))
set_option maxHeartbeats 8000000 in
theorem lp_171ym_92 {X : Nat × (Nat → Int32)} {P : Option ma_V → (Nat → Nat → Int32) → Prop} {T : Nat} {m0 : Nat → Nat → Int32} (h0 : zV m0) (K : ∀ v m₉, zF wr_171 m0 m₉ → zV m₉ → (0 ≤ (m₉ 94 27).toInt) → (0 ≤ (m₉ 94 17).toInt) → (zW (m₉ 94 7) (m₉ 98) (m₉ 101) (m₉ 102) (m₉ 108)) → (zGW T (m₉ 94 55) (m₉ 109)) → ((m₉ 94 3).toInt = 0) → ((m₉ 94 8).toInt = 0 ∨ ((zGU T (m₉ 94 46) (m₉ 99)) ∧ (zOw (m₉ 99) (m₉ 103) (m₉ 111)) ∧ (zDX (m₉ 94 10) (m₉ 99) (m₉ 112) (m₉ 113) (m₉ 114) (m₉ 94 55) (m₉ 98) (m₉ 101) (m₉ 102) (m₉ 108)) ∧ (zGG (m₉ 94 58) (m₉ 94 56) (m₉ 94 57) (m₉ 106)) ∧ (zHA (m₉ 94 10) (m₉ 94 11) (m₉ 94 13) (m₉ 94 14) (m₉ 94 16) (m₉ 94 61) (m₉ 94 59) (m₉ 94 60) (m₉ 99) (m₉ 102) (m₉ 103) (m₉ 111) (m₉ 117) (m₉ 98) (m₉ 101) (m₉ 108)) ∧ (zRG (m₉ 94 10) (m₉ 94 18) (m₉ 94 64) (m₉ 94 63) (m₉ 99) (m₉ 103) (m₉ 102) (m₉ 116)) ∧ ((m₉ 94 58).toInt = 0 ∨ (m₉ 94 10).toInt = 5))) → (v.toInt = zAns (m0 95) (m0 94 3).toInt) → (((zAns (m0 95) (m0 94 3).toInt) < 0 ∧ (m₉ 98) = (m0 98) ∧ (m₉ 99) = (m0 99) ∧ (m₉ 100) = (m0 100) ∧ (m₉ 101) = (m0 101) ∧ (m₉ 102) = (m0 102) ∧ (m₉ 103) = (m0 103) ∧ (m₉ 104) = (m0 104) ∧ (m₉ 105) = (m0 105) ∧ (m₉ 106) = (m0 106) ∧ (m₉ 107) = (m0 107) ∧ (m₉ 108) = (m0 108) ∧ (m₉ 109) = (m0 109) ∧ (m₉ 110) = (m0 110) ∧ (m₉ 111) = (m0 111) ∧ (m₉ 112) = (m0 112) ∧ (m₉ 113) = (m0 113) ∧ (m₉ 114) = (m0 114) ∧ (m₉ 115) = (m0 115) ∧ (m₉ 116) = (m0 116) ∧ (m₉ 117) = (m0 117) ∧ (m₉ 94 8) = (m0 94 8) ∧ (m₉ 94 9) = (m0 94 9) ∧ (m₉ 94 10) = (m0 94 10) ∧ (m₉ 94 11) = (m0 94 11) ∧ (m₉ 94 12) = (m0 94 12) ∧ (m₉ 94 13) = (m0 94 13) ∧ (m₉ 94 14) = (m0 94 14) ∧ (m₉ 94 15) = (m0 94 15) ∧ (m₉ 94 16) = (m0 94 16) ∧ (m₉ 94 17) = (m0 94 17) ∧ (m₉ 94 18) = (m0 94 18) ∧ (m₉ 94 19) = (m0 94 19) ∧ (m₉ 94 45) = (m0 94 45) ∧ (m₉ 94 46) = (m0 94 46) ∧ (m₉ 94 55) = (m0 94 55) ∧ (m₉ 94 56) = (m0 94 56) ∧ (m₉ 94 57) = (m0 94 57) ∧ (m₉ 94 58) = (m0 94 58) ∧ (m₉ 94 59) = (m0 94 59) ∧ (m₉ 94 60) = (m0 94 60) ∧ (m₉ 94 61) = (m0 94 61) ∧ (m₉ 94 62) = (m0 94 62) ∧ (m₉ 94 63) = (m0 94 63) ∧ (m₉ 94 64) = (m0 94 64)) ∨ (0 ≤ (zAns (m0 95) (m0 94 3).toInt) ∧ (m₉ 94 10).toInt = qPo (m0 95) (m0 94 3).toInt ∧ (m₉ 94 8).toInt = 1 ∧ ((m₉ 94 10).toInt = 5 → qV (m0 95) (m0 94 3).toInt (m₉ 94 11).toInt (m₉ 94 12).toInt (m₉ 94 17).toInt (m₉ 94 9)) ∧ (((m₉ 94 10).toInt = 0 ∨ (m₉ 94 10).toInt = 4) → ((m₉ 94 11).toInt = zVal (m0 95) (m0 94 3).toInt 0 1 ∧ (m₉ 94 12).toInt = zVal (m0 95) (m0 94 3).toInt 6 2)) ∧ ((∀ s : Nat, s < 3100 → (m₉ 99) s = 0) ∧ (∀ s : Nat, (s : Int) < 16 → ((m₉ 112) s).toInt < 0) ∧ (∀ s : Nat, (s : Int) < 16 → ((m₉ 113) s).toInt < 0) ∧ (m₉ 94 45).toInt = 0 ∧ (m₉ 94 46).toInt = 0 ∧ (m₉ 94 55).toInt = 0 ∧ (m₉ 94 58).toInt = 0 ∧ (m₉ 94 62).toInt = 0) ∧ (qT1 (m₉ 94 10).toInt (m₉ 94 11).toInt (m0 95) (m0 94 3).toInt ∧ qT3 (m₉ 94 10).toInt (m₉ 94 13).toInt (m₉ 94 14).toInt (m₉ 94 15).toInt (m₉ 94 16).toInt (m0 95) (m0 94 3).toInt ∧ qT6 (m₉ 94 10).toInt (m₉ 94 11).toInt (m₉ 94 18).toInt (m₉ 94 19).toInt (m0 95) (m0 94 3).toInt) ∧ ((m₉ 94 60).toInt = 0 ∧ (m₉ 94 61).toInt = 0 ∧ (m₉ 94 63).toInt = 0 ∧ (((m₉ 94 10).toInt = 3 ∧ (m₉ 94 59).toInt = (m₉ 94 14).toInt) ∨ ((m₉ 94 10).toInt ≠ 3 ∧ (m₉ 94 59).toInt = 0))) ∧ ((m₉ 94 10).toInt = 6 → (m₉ 94 64) = (m₉ 94 11) / (m₉ 94 18)) ∧ (∀ s : Nat, s < 4600 → ((m₉ 111) s).toInt < 0) ∧ (∀ s : Nat, s < 128 → (m₉ 116) s = 0) ∧ (∀ s : Nat, s < 512 → (m₉ 117) s = 0))) → P (some (.inl v)) m₉) : ∀ (n : Nat) (m : Nat → Nat → Int32) , ((0 : Int)).toNat = n → zF wr_171 m0 m → zV m → (zW (m 94 7) (m 98) (m 101) (m 102) (m 108)) → (zGW T (m 94 55) (m 109)) → ((m 94 3).toInt = 0) → (0 ≤ (m 94 20).toInt ∧ ((m 94 20).toInt ≠ 3 ∨ (4 ≤ (m 94 26).toInt ∧ 16 ≤ (m 94 23).toInt ∧ 16 ≤ (m 94 24).toInt)) ∧ ((m 94 20).toInt = 3 ∨ 16 ≤ (m 94 21).toInt)) → (((m 94 20).toInt ≠ 6 ∨ (16 ≤ (m 94 28).toInt ∧ 4 * (m 94 28).toInt ≤ (m 94 21).toInt))) → (zJ5 (zAns (m0 95) (m0 94 3).toInt) (m 94 20).toInt (m 94 23).toInt (m 94 24).toInt (m 94 21).toInt (m 94 28).toInt) → ((m 94 20).toInt = qPo (m0 95) (m0 94 3).toInt ∧ ((m 94 20).toInt = 5 → qV (m0 95) (m0 94 3).toInt (m 94 21).toInt (m 94 22).toInt (m 94 27).toInt (m 94 30)) ∧ (((m 94 20).toInt = 0 ∨ (m 94 20).toInt = 4) → ((m 94 21).toInt = zVal (m0 95) (m0 94 3).toInt 0 1 ∧ (m 94 22).toInt = zVal (m0 95) (m0 94 3).toInt 6 2))) → ((qT1 (m 94 20).toInt (m 94 21).toInt (m0 95) (m0 94 3).toInt ∧ qT3 (m 94 20).toInt (m 94 23).toInt (m 94 24).toInt (m 94 25).toInt (m 94 26).toInt (m0 95) (m0 94 3).toInt ∧ qT6 (m 94 20).toInt (m 94 21).toInt (m 94 28).toInt (m 94 29).toInt (m0 95) (m0 94 3).toInt)) → (0 ≤ (m 94 27).toInt) → ((m 94 10).toInt = (m 94 20).toInt ∧ (m 94 11).toInt = (m 94 21).toInt ∧ (m 94 12).toInt = (m 94 22).toInt ∧ (m 94 13).toInt = (m 94 23).toInt) → zm X 4 90 171 92 [(0, .inr (.inr (some 94)))] m P := by
  intro n
  induction n using Nat.strongRecOn with
  | _ n IH =>
    intro m  hmu hF hV r_W r_GW hi2 hi3 hi4 r_JH r_JQ r_JM hi8 hi9
    refine g_171_92  ?_
    have f1 : 0 ≤ (m 94 3).toInt ∧ (m 94 3).toInt ≤ 100 := rs_94_3 (m := m) hV
    have f2 : -1 ≤ (m 94 20).toInt ∧ (m 94 20).toInt ≤ 6 := rs_94_20 (m := m) hV
    have f3 : 0 ≤ (m 94 26).toInt ∧ (m 94 26).toInt ≤ 64 := rs_94_26 (m := m) hV
    have f4 : 0 ≤ (m 94 23).toInt ∧ (m 94 23).toInt ≤ 1500 := rs_94_23 (m := m) hV
    have f5 : 0 ≤ (m 94 24).toInt ∧ (m 94 24).toInt ≤ 1500 := rs_94_24 (m := m) hV
    have f6 : 0 ≤ (m 94 21).toInt ∧ (m 94 21).toInt ≤ 1500 := rs_94_21 (m := m) hV
    have f7 : 0 ≤ (m 94 28).toInt ∧ (m 94 28).toInt ≤ 256 := rs_94_28 (m := m) hV
    have b8 := i_bd (m 94 27)
    have f9 : 0 ≤ (m 94 10).toInt ∧ (m 94 10).toInt ≤ 6 := rs_94_10 (m := m) hV
    have f10 : 0 ≤ (m 94 11).toInt ∧ (m 94 11).toInt ≤ 1500 := rs_94_11 (m := m) hV
    have b11 := i_bd (m 94 12)
    have b12 := i_bd (m 94 22)
    have f13 : 0 ≤ (m 94 13).toInt ∧ (m 94 13).toInt ≤ 1500 := rs_94_13 (m := m) hV
    have hV14 : zV (ma_u m 94 14 (m 94 24)) := us_94_14 hV (by omega) (by omega)
    have hV15 : zV (ma_u (ma_u m 94 14 (m 94 24)) 94 15 (m 94 25)) := uf_94_15 hV14
    have hV16 : zV (ma_u (ma_u (ma_u m 94 14 (m 94 24)) 94 15 (m 94 25)) 94 16 (m 94 26)) := us_94_16 hV15 (by omega) (by omega)
    have hV17 : zV (ma_u (ma_u (ma_u (ma_u m 94 14 (m 94 24)) 94 15 (m 94 25)) 94 16 (m 94 26)) 94 17 (m 94 27)) := uf_94_17 hV16
    have b18 := i_bd (m 94 25)
    exact lp_171ym_124 h0 K _ _  rfl (zF_u (zF_u (zF_u (zF_u hF rfl) rfl) rfl) rfl) hV17 r_W r_GW (show (m 94 3).toInt = 0 from by omega) (show 0 ≤ (m 94 20).toInt ∧ ((m 94 20).toInt ≠ 3 ∨ (4 ≤ (m 94 26).toInt ∧ 16 ≤ (m 94 23).toInt ∧ 16 ≤ (m 94 24).toInt)) ∧ ((m 94 20).toInt = 3 ∨ 16 ≤ (m 94 21).toInt) from by omega) (show ((m 94 20).toInt ≠ 6 ∨ (16 ≤ (m 94 28).toInt ∧ 4 * (m 94 28).toInt ≤ (m 94 21).toInt)) from by omega) r_JH r_JQ r_JM (show 0 ≤ (m 94 27).toInt from by omega) (show (m 94 10).toInt = (m 94 20).toInt ∧ (m 94 11).toInt = (m 94 21).toInt ∧ (m 94 12).toInt = (m 94 22).toInt ∧ (m 94 13).toInt = (m 94 23).toInt ∧ (m 94 24).toInt = (m 94 24).toInt ∧ (m 94 25).toInt = (m 94 25).toInt ∧ (m 94 26).toInt = (m 94 26).toInt ∧ (m 94 27).toInt = (m 94 27).toInt from by omega)
set_option maxHeartbeats 8000000 in
theorem lp_171ym_60 {X : Nat × (Nat → Int32)} {P : Option ma_V → (Nat → Nat → Int32) → Prop} {T : Nat} {m0 : Nat → Nat → Int32} (h0 : zV m0) (K : ∀ v m₉, zF wr_171 m0 m₉ → zV m₉ → (0 ≤ (m₉ 94 27).toInt) → (0 ≤ (m₉ 94 17).toInt) → (zW (m₉ 94 7) (m₉ 98) (m₉ 101) (m₉ 102) (m₉ 108)) → (zGW T (m₉ 94 55) (m₉ 109)) → ((m₉ 94 3).toInt = 0) → ((m₉ 94 8).toInt = 0 ∨ ((zGU T (m₉ 94 46) (m₉ 99)) ∧ (zOw (m₉ 99) (m₉ 103) (m₉ 111)) ∧ (zDX (m₉ 94 10) (m₉ 99) (m₉ 112) (m₉ 113) (m₉ 114) (m₉ 94 55) (m₉ 98) (m₉ 101) (m₉ 102) (m₉ 108)) ∧ (zGG (m₉ 94 58) (m₉ 94 56) (m₉ 94 57) (m₉ 106)) ∧ (zHA (m₉ 94 10) (m₉ 94 11) (m₉ 94 13) (m₉ 94 14) (m₉ 94 16) (m₉ 94 61) (m₉ 94 59) (m₉ 94 60) (m₉ 99) (m₉ 102) (m₉ 103) (m₉ 111) (m₉ 117) (m₉ 98) (m₉ 101) (m₉ 108)) ∧ (zRG (m₉ 94 10) (m₉ 94 18) (m₉ 94 64) (m₉ 94 63) (m₉ 99) (m₉ 103) (m₉ 102) (m₉ 116)) ∧ ((m₉ 94 58).toInt = 0 ∨ (m₉ 94 10).toInt = 5))) → (v.toInt = zAns (m0 95) (m0 94 3).toInt) → (((zAns (m0 95) (m0 94 3).toInt) < 0 ∧ (m₉ 98) = (m0 98) ∧ (m₉ 99) = (m0 99) ∧ (m₉ 100) = (m0 100) ∧ (m₉ 101) = (m0 101) ∧ (m₉ 102) = (m0 102) ∧ (m₉ 103) = (m0 103) ∧ (m₉ 104) = (m0 104) ∧ (m₉ 105) = (m0 105) ∧ (m₉ 106) = (m0 106) ∧ (m₉ 107) = (m0 107) ∧ (m₉ 108) = (m0 108) ∧ (m₉ 109) = (m0 109) ∧ (m₉ 110) = (m0 110) ∧ (m₉ 111) = (m0 111) ∧ (m₉ 112) = (m0 112) ∧ (m₉ 113) = (m0 113) ∧ (m₉ 114) = (m0 114) ∧ (m₉ 115) = (m0 115) ∧ (m₉ 116) = (m0 116) ∧ (m₉ 117) = (m0 117) ∧ (m₉ 94 8) = (m0 94 8) ∧ (m₉ 94 9) = (m0 94 9) ∧ (m₉ 94 10) = (m0 94 10) ∧ (m₉ 94 11) = (m0 94 11) ∧ (m₉ 94 12) = (m0 94 12) ∧ (m₉ 94 13) = (m0 94 13) ∧ (m₉ 94 14) = (m0 94 14) ∧ (m₉ 94 15) = (m0 94 15) ∧ (m₉ 94 16) = (m0 94 16) ∧ (m₉ 94 17) = (m0 94 17) ∧ (m₉ 94 18) = (m0 94 18) ∧ (m₉ 94 19) = (m0 94 19) ∧ (m₉ 94 45) = (m0 94 45) ∧ (m₉ 94 46) = (m0 94 46) ∧ (m₉ 94 55) = (m0 94 55) ∧ (m₉ 94 56) = (m0 94 56) ∧ (m₉ 94 57) = (m0 94 57) ∧ (m₉ 94 58) = (m0 94 58) ∧ (m₉ 94 59) = (m0 94 59) ∧ (m₉ 94 60) = (m0 94 60) ∧ (m₉ 94 61) = (m0 94 61) ∧ (m₉ 94 62) = (m0 94 62) ∧ (m₉ 94 63) = (m0 94 63) ∧ (m₉ 94 64) = (m0 94 64)) ∨ (0 ≤ (zAns (m0 95) (m0 94 3).toInt) ∧ (m₉ 94 10).toInt = qPo (m0 95) (m0 94 3).toInt ∧ (m₉ 94 8).toInt = 1 ∧ ((m₉ 94 10).toInt = 5 → qV (m0 95) (m0 94 3).toInt (m₉ 94 11).toInt (m₉ 94 12).toInt (m₉ 94 17).toInt (m₉ 94 9)) ∧ (((m₉ 94 10).toInt = 0 ∨ (m₉ 94 10).toInt = 4) → ((m₉ 94 11).toInt = zVal (m0 95) (m0 94 3).toInt 0 1 ∧ (m₉ 94 12).toInt = zVal (m0 95) (m0 94 3).toInt 6 2)) ∧ ((∀ s : Nat, s < 3100 → (m₉ 99) s = 0) ∧ (∀ s : Nat, (s : Int) < 16 → ((m₉ 112) s).toInt < 0) ∧ (∀ s : Nat, (s : Int) < 16 → ((m₉ 113) s).toInt < 0) ∧ (m₉ 94 45).toInt = 0 ∧ (m₉ 94 46).toInt = 0 ∧ (m₉ 94 55).toInt = 0 ∧ (m₉ 94 58).toInt = 0 ∧ (m₉ 94 62).toInt = 0) ∧ (qT1 (m₉ 94 10).toInt (m₉ 94 11).toInt (m0 95) (m0 94 3).toInt ∧ qT3 (m₉ 94 10).toInt (m₉ 94 13).toInt (m₉ 94 14).toInt (m₉ 94 15).toInt (m₉ 94 16).toInt (m0 95) (m0 94 3).toInt ∧ qT6 (m₉ 94 10).toInt (m₉ 94 11).toInt (m₉ 94 18).toInt (m₉ 94 19).toInt (m0 95) (m0 94 3).toInt) ∧ ((m₉ 94 60).toInt = 0 ∧ (m₉ 94 61).toInt = 0 ∧ (m₉ 94 63).toInt = 0 ∧ (((m₉ 94 10).toInt = 3 ∧ (m₉ 94 59).toInt = (m₉ 94 14).toInt) ∨ ((m₉ 94 10).toInt ≠ 3 ∧ (m₉ 94 59).toInt = 0))) ∧ ((m₉ 94 10).toInt = 6 → (m₉ 94 64) = (m₉ 94 11) / (m₉ 94 18)) ∧ (∀ s : Nat, s < 4600 → ((m₉ 111) s).toInt < 0) ∧ (∀ s : Nat, s < 128 → (m₉ 116) s = 0) ∧ (∀ s : Nat, s < 512 → (m₉ 117) s = 0))) → P (some (.inl v)) m₉) : ∀ (n : Nat) (m : Nat → Nat → Int32) , ((0 : Int)).toNat = n → zF wr_171 m0 m → zV m → (zW (m 94 7) (m 98) (m 101) (m 102) (m 108)) → (zGW T (m 94 55) (m 109)) → ((m 94 3).toInt = 0) → (0 ≤ (m 94 20).toInt ∧ ((m 94 20).toInt ≠ 3 ∨ (4 ≤ (m 94 26).toInt ∧ 16 ≤ (m 94 23).toInt ∧ 16 ≤ (m 94 24).toInt)) ∧ ((m 94 20).toInt = 3 ∨ 16 ≤ (m 94 21).toInt)) → (((m 94 20).toInt ≠ 6 ∨ (16 ≤ (m 94 28).toInt ∧ 4 * (m 94 28).toInt ≤ (m 94 21).toInt))) → (zJ5 (zAns (m0 95) (m0 94 3).toInt) (m 94 20).toInt (m 94 23).toInt (m 94 24).toInt (m 94 21).toInt (m 94 28).toInt) → ((m 94 20).toInt = qPo (m0 95) (m0 94 3).toInt ∧ ((m 94 20).toInt = 5 → qV (m0 95) (m0 94 3).toInt (m 94 21).toInt (m 94 22).toInt (m 94 27).toInt (m 94 30)) ∧ (((m 94 20).toInt = 0 ∨ (m 94 20).toInt = 4) → ((m 94 21).toInt = zVal (m0 95) (m0 94 3).toInt 0 1 ∧ (m 94 22).toInt = zVal (m0 95) (m0 94 3).toInt 6 2))) → ((qT1 (m 94 20).toInt (m 94 21).toInt (m0 95) (m0 94 3).toInt ∧ qT3 (m 94 20).toInt (m 94 23).toInt (m 94 24).toInt (m 94 25).toInt (m 94 26).toInt (m0 95) (m0 94 3).toInt ∧ qT6 (m 94 20).toInt (m 94 21).toInt (m 94 28).toInt (m 94 29).toInt (m0 95) (m0 94 3).toInt)) → (0 ≤ (m 94 27).toInt) → zm X 4 90 171 60 [(0, .inr (.inr (some 94)))] m P := by
  intro n
  induction n using Nat.strongRecOn with
  | _ n IH =>
    intro m  hmu hF hV r_W r_GW hi2 hi3 hi4 r_JH r_JQ r_JM hi8
    refine g_171_60  ?_
    have f1 : 0 ≤ (m 94 3).toInt ∧ (m 94 3).toInt ≤ 100 := rs_94_3 (m := m) hV
    have f2 : -1 ≤ (m 94 20).toInt ∧ (m 94 20).toInt ≤ 6 := rs_94_20 (m := m) hV
    have f3 : 0 ≤ (m 94 26).toInt ∧ (m 94 26).toInt ≤ 64 := rs_94_26 (m := m) hV
    have f4 : 0 ≤ (m 94 23).toInt ∧ (m 94 23).toInt ≤ 1500 := rs_94_23 (m := m) hV
    have f5 : 0 ≤ (m 94 24).toInt ∧ (m 94 24).toInt ≤ 1500 := rs_94_24 (m := m) hV
    have f6 : 0 ≤ (m 94 21).toInt ∧ (m 94 21).toInt ≤ 1500 := rs_94_21 (m := m) hV
    have f7 : 0 ≤ (m 94 28).toInt ∧ (m 94 28).toInt ≤ 256 := rs_94_28 (m := m) hV
    have b8 := i_bd (m 94 27)
    have hV9 : zV (ma_u m 94 10 (m 94 20)) := us_94_10 hV (by omega) (by omega)
    have hV10 : zV (ma_u (ma_u m 94 10 (m 94 20)) 94 11 (m 94 21)) := us_94_11 hV9 (by omega) (by omega)
    have hV11 : zV (ma_u (ma_u (ma_u m 94 10 (m 94 20)) 94 11 (m 94 21)) 94 12 (m 94 22)) := uf_94_12 hV10
    have hV12 : zV (ma_u (ma_u (ma_u (ma_u m 94 10 (m 94 20)) 94 11 (m 94 21)) 94 12 (m 94 22)) 94 13 (m 94 23)) := us_94_13 hV11 (by omega) (by omega)
    have b13 := i_bd (m 94 22)
    exact lp_171ym_92 h0 K _ _  rfl (zF_u (zF_u (zF_u (zF_u hF rfl) rfl) rfl) rfl) hV12 r_W r_GW (show (m 94 3).toInt = 0 from by omega) (show 0 ≤ (m 94 20).toInt ∧ ((m 94 20).toInt ≠ 3 ∨ (4 ≤ (m 94 26).toInt ∧ 16 ≤ (m 94 23).toInt ∧ 16 ≤ (m 94 24).toInt)) ∧ ((m 94 20).toInt = 3 ∨ 16 ≤ (m 94 21).toInt) from by omega) (show ((m 94 20).toInt ≠ 6 ∨ (16 ≤ (m 94 28).toInt ∧ 4 * (m 94 28).toInt ≤ (m 94 21).toInt)) from by omega) r_JH r_JQ r_JM (show 0 ≤ (m 94 27).toInt from by omega) (show (m 94 20).toInt = (m 94 20).toInt ∧ (m 94 21).toInt = (m 94 21).toInt ∧ (m 94 22).toInt = (m 94 22).toInt ∧ (m 94 23).toInt = (m 94 23).toInt from by omega)
set_option maxHeartbeats 8000000 in
theorem lp_171ym_20 {X : Nat × (Nat → Int32)} {P : Option ma_V → (Nat → Nat → Int32) → Prop} {T : Nat} {m0 : Nat → Nat → Int32} (h0 : zV m0) (K : ∀ v m₉, zF wr_171 m0 m₉ → zV m₉ → (0 ≤ (m₉ 94 27).toInt) → (0 ≤ (m₉ 94 17).toInt) → (zW (m₉ 94 7) (m₉ 98) (m₉ 101) (m₉ 102) (m₉ 108)) → (zGW T (m₉ 94 55) (m₉ 109)) → ((m₉ 94 3).toInt = 0) → ((m₉ 94 8).toInt = 0 ∨ ((zGU T (m₉ 94 46) (m₉ 99)) ∧ (zOw (m₉ 99) (m₉ 103) (m₉ 111)) ∧ (zDX (m₉ 94 10) (m₉ 99) (m₉ 112) (m₉ 113) (m₉ 114) (m₉ 94 55) (m₉ 98) (m₉ 101) (m₉ 102) (m₉ 108)) ∧ (zGG (m₉ 94 58) (m₉ 94 56) (m₉ 94 57) (m₉ 106)) ∧ (zHA (m₉ 94 10) (m₉ 94 11) (m₉ 94 13) (m₉ 94 14) (m₉ 94 16) (m₉ 94 61) (m₉ 94 59) (m₉ 94 60) (m₉ 99) (m₉ 102) (m₉ 103) (m₉ 111) (m₉ 117) (m₉ 98) (m₉ 101) (m₉ 108)) ∧ (zRG (m₉ 94 10) (m₉ 94 18) (m₉ 94 64) (m₉ 94 63) (m₉ 99) (m₉ 103) (m₉ 102) (m₉ 116)) ∧ ((m₉ 94 58).toInt = 0 ∨ (m₉ 94 10).toInt = 5))) → (v.toInt = zAns (m0 95) (m0 94 3).toInt) → (((zAns (m0 95) (m0 94 3).toInt) < 0 ∧ (m₉ 98) = (m0 98) ∧ (m₉ 99) = (m0 99) ∧ (m₉ 100) = (m0 100) ∧ (m₉ 101) = (m0 101) ∧ (m₉ 102) = (m0 102) ∧ (m₉ 103) = (m0 103) ∧ (m₉ 104) = (m0 104) ∧ (m₉ 105) = (m0 105) ∧ (m₉ 106) = (m0 106) ∧ (m₉ 107) = (m0 107) ∧ (m₉ 108) = (m0 108) ∧ (m₉ 109) = (m0 109) ∧ (m₉ 110) = (m0 110) ∧ (m₉ 111) = (m0 111) ∧ (m₉ 112) = (m0 112) ∧ (m₉ 113) = (m0 113) ∧ (m₉ 114) = (m0 114) ∧ (m₉ 115) = (m0 115) ∧ (m₉ 116) = (m0 116) ∧ (m₉ 117) = (m0 117) ∧ (m₉ 94 8) = (m0 94 8) ∧ (m₉ 94 9) = (m0 94 9) ∧ (m₉ 94 10) = (m0 94 10) ∧ (m₉ 94 11) = (m0 94 11) ∧ (m₉ 94 12) = (m0 94 12) ∧ (m₉ 94 13) = (m0 94 13) ∧ (m₉ 94 14) = (m0 94 14) ∧ (m₉ 94 15) = (m0 94 15) ∧ (m₉ 94 16) = (m0 94 16) ∧ (m₉ 94 17) = (m0 94 17) ∧ (m₉ 94 18) = (m0 94 18) ∧ (m₉ 94 19) = (m0 94 19) ∧ (m₉ 94 45) = (m0 94 45) ∧ (m₉ 94 46) = (m0 94 46) ∧ (m₉ 94 55) = (m0 94 55) ∧ (m₉ 94 56) = (m0 94 56) ∧ (m₉ 94 57) = (m0 94 57) ∧ (m₉ 94 58) = (m0 94 58) ∧ (m₉ 94 59) = (m0 94 59) ∧ (m₉ 94 60) = (m0 94 60) ∧ (m₉ 94 61) = (m0 94 61) ∧ (m₉ 94 62) = (m0 94 62) ∧ (m₉ 94 63) = (m0 94 63) ∧ (m₉ 94 64) = (m0 94 64)) ∨ (0 ≤ (zAns (m0 95) (m0 94 3).toInt) ∧ (m₉ 94 10).toInt = qPo (m0 95) (m0 94 3).toInt ∧ (m₉ 94 8).toInt = 1 ∧ ((m₉ 94 10).toInt = 5 → qV (m0 95) (m0 94 3).toInt (m₉ 94 11).toInt (m₉ 94 12).toInt (m₉ 94 17).toInt (m₉ 94 9)) ∧ (((m₉ 94 10).toInt = 0 ∨ (m₉ 94 10).toInt = 4) → ((m₉ 94 11).toInt = zVal (m0 95) (m0 94 3).toInt 0 1 ∧ (m₉ 94 12).toInt = zVal (m0 95) (m0 94 3).toInt 6 2)) ∧ ((∀ s : Nat, s < 3100 → (m₉ 99) s = 0) ∧ (∀ s : Nat, (s : Int) < 16 → ((m₉ 112) s).toInt < 0) ∧ (∀ s : Nat, (s : Int) < 16 → ((m₉ 113) s).toInt < 0) ∧ (m₉ 94 45).toInt = 0 ∧ (m₉ 94 46).toInt = 0 ∧ (m₉ 94 55).toInt = 0 ∧ (m₉ 94 58).toInt = 0 ∧ (m₉ 94 62).toInt = 0) ∧ (qT1 (m₉ 94 10).toInt (m₉ 94 11).toInt (m0 95) (m0 94 3).toInt ∧ qT3 (m₉ 94 10).toInt (m₉ 94 13).toInt (m₉ 94 14).toInt (m₉ 94 15).toInt (m₉ 94 16).toInt (m0 95) (m0 94 3).toInt ∧ qT6 (m₉ 94 10).toInt (m₉ 94 11).toInt (m₉ 94 18).toInt (m₉ 94 19).toInt (m0 95) (m0 94 3).toInt) ∧ ((m₉ 94 60).toInt = 0 ∧ (m₉ 94 61).toInt = 0 ∧ (m₉ 94 63).toInt = 0 ∧ (((m₉ 94 10).toInt = 3 ∧ (m₉ 94 59).toInt = (m₉ 94 14).toInt) ∨ ((m₉ 94 10).toInt ≠ 3 ∧ (m₉ 94 59).toInt = 0))) ∧ ((m₉ 94 10).toInt = 6 → (m₉ 94 64) = (m₉ 94 11) / (m₉ 94 18)) ∧ (∀ s : Nat, s < 4600 → ((m₉ 111) s).toInt < 0) ∧ (∀ s : Nat, s < 128 → (m₉ 116) s = 0) ∧ (∀ s : Nat, s < 512 → (m₉ 117) s = 0))) → P (some (.inl v)) m₉) : ∀ (n : Nat) (m : Nat → Nat → Int32) (l1 : Int32), (100 - l1.toInt).toNat = n → zF wr_171 m0 m → zV m → (0 ≤ (m 94 27).toInt) → (0 ≤ (m 94 17).toInt) → (0 ≤ l1.toInt) → ((m 94 4).toInt = (m0 94 3).toInt) → (l1.toInt ≤ (m 94 4).toInt) → ((m 95) = (m0 95)) → (∀ k : Nat, (k : Int) < (m 94 4).toInt → vp_nar .byte ((m 95) k) = (m 95) k) → (∀ k : Nat, (k : Int) < l1.toInt → (m 96) k = (m 95) k) → ((m 94 8).toInt = 0) → (zW (m 94 7) (m 98) (m 101) (m 102) (m 108)) → (zGW T (m 94 55) (m 109)) → ((m 94 3).toInt = 0) → ((m 98) = (m0 98) ∧ (m 99) = (m0 99) ∧ (m 100) = (m0 100) ∧ (m 101) = (m0 101) ∧ (m 102) = (m0 102) ∧ (m 103) = (m0 103) ∧ (m 104) = (m0 104) ∧ (m 105) = (m0 105) ∧ (m 106) = (m0 106) ∧ (m 107) = (m0 107) ∧ (m 108) = (m0 108) ∧ (m 109) = (m0 109) ∧ (m 110) = (m0 110) ∧ (m 111) = (m0 111) ∧ (m 112) = (m0 112) ∧ (m 113) = (m0 113) ∧ (m 114) = (m0 114) ∧ (m 115) = (m0 115) ∧ (m 116) = (m0 116) ∧ (m 117) = (m0 117) ∧ (m 94 8) = (m0 94 8) ∧ (m 94 9) = (m0 94 9) ∧ (m 94 10) = (m0 94 10) ∧ (m 94 11) = (m0 94 11) ∧ (m 94 12) = (m0 94 12) ∧ (m 94 13) = (m0 94 13) ∧ (m 94 14) = (m0 94 14) ∧ (m 94 15) = (m0 94 15) ∧ (m 94 16) = (m0 94 16) ∧ (m 94 17) = (m0 94 17) ∧ (m 94 18) = (m0 94 18) ∧ (m 94 19) = (m0 94 19) ∧ (m 94 45) = (m0 94 45) ∧ (m 94 46) = (m0 94 46) ∧ (m 94 55) = (m0 94 55) ∧ (m 94 56) = (m0 94 56) ∧ (m 94 57) = (m0 94 57) ∧ (m 94 58) = (m0 94 58) ∧ (m 94 59) = (m0 94 59) ∧ (m 94 60) = (m0 94 60) ∧ (m 94 61) = (m0 94 61) ∧ (m 94 62) = (m0 94 62) ∧ (m 94 63) = (m0 94 63) ∧ (m 94 64) = (m0 94 64)) → zm X 4 90 171 20 [(0, .inr (.inr (some 94))), (1, .inl l1)] m P := by
  intro n
  induction n using Nat.strongRecOn with
  | _ n IH =>
    intro m l1 hmu hF hV hi0 hi1 hi2 hi3 hi4 r_T95 r_BY r_SR hi8 r_W r_GW hi11 r_FR
    refine g_171_20 l1 ?_
    have b1 := i_bd (m 94 27)
    have b2 := i_bd (m 94 17)
    have f3 : 0 ≤ (m 94 4).toInt ∧ (m 94 4).toInt ≤ 100 := rs_94_4 (m := m) hV
    have f4 : 0 ≤ (m0 94 3).toInt ∧ (m0 94 3).toInt ≤ 100 := rs_94_3 (m := m0) h0
    have f5 : 0 ≤ (m 94 8).toInt ∧ (m 94 8).toInt ≤ 1 := rs_94_8 (m := m) hV
    have f6 : 0 ≤ (m 94 3).toInt ∧ (m 94 3).toInt ≤ 100 := rs_94_3 (m := m) hV
    have b7 := i_bd l1
    refine zd (fun (h8 : (m 94 4) ≤ l1) => ?_) (fun (h8 : ¬ (m 94 4) ≤ l1) => ?_)
    · skip
      have g9 := i_le h8
      refine sp_172qm  hV (show 0 ≤ (m 94 27).toInt from by omega) (fun v2 m1 hV_m1 hb_m1 p0_m1 p1_m1 p2_m1 p3_m1 => zmi_n ?_)
      have p0_m1 : 0 ≤ (m1 94 27).toInt := p0_m1
      have p1_m1 : v2.toInt = 0 ∨ (0 ≤ (m1 94 20).toInt ∧ ((m1 94 20).toInt ≠ 3 ∨ (4 ≤ (m1 94 26).toInt ∧ 16 ≤ (m1 94 23).toInt ∧ 16 ≤ (m1 94 24).toInt)) ∧ ((m1 94 20).toInt = 3 ∨ 16 ≤ (m1 94 21).toInt) ∧ ((m1 94 20).toInt ≠ 6 ∨ (16 ≤ (m1 94 28).toInt ∧ 4 * (m1 94 28).toInt ≤ (m1 94 21).toInt))) := p1_m1
      have p2_m1 : zRPr v2 (m1 94 70).toInt (zAns (m 96) (m 94 4).toInt) (zJ5 (zAns (m 96) (m 94 4).toInt) (m1 94 20).toInt (m1 94 23).toInt (m1 94 24).toInt (m1 94 21).toInt (m1 94 28).toInt) := p2_m1
      have p3_m1 : v2.toInt ≠ 0 → ((m1 94 20).toInt = qPo (m 96) (m 94 4).toInt ∧ ((m1 94 20).toInt = 5 → qV (m 96) (m 94 4).toInt (m1 94 21).toInt (m1 94 22).toInt (m1 94 27).toInt (m1 94 30)) ∧ (((m1 94 20).toInt = 0 ∨ (m1 94 20).toInt = 4) → (m1 94 21).toInt = zVal (m 96) (m 94 4).toInt 0 1 ∧ (m1 94 22).toInt = zVal (m 96) (m 94 4).toInt 6 2)) ∧ (qT1 (m1 94 20).toInt (m1 94 21).toInt (m 96) (m 94 4).toInt ∧ qT3 (m1 94 20).toInt (m1 94 23).toInt (m1 94 24).toInt (m1 94 25).toInt (m1 94 26).toInt (m 96) (m 94 4).toInt ∧ qT6 (m1 94 20).toInt (m1 94 21).toInt (m1 94 28).toInt (m1 94 29).toInt (m 96) (m 94 4).toInt) := p3_m1
      have b10 := i_bd (m1 94 27)
      have f11 : -1 ≤ (m1 94 20).toInt ∧ (m1 94 20).toInt ≤ 6 := rs_94_20 (m := (zov wr_172 m m1)) hV_m1
      have f12 : 0 ≤ (m1 94 26).toInt ∧ (m1 94 26).toInt ≤ 64 := rs_94_26 (m := (zov wr_172 m m1)) hV_m1
      have f13 : 0 ≤ (m1 94 23).toInt ∧ (m1 94 23).toInt ≤ 1500 := rs_94_23 (m := (zov wr_172 m m1)) hV_m1
      have f14 : 0 ≤ (m1 94 24).toInt ∧ (m1 94 24).toInt ≤ 1500 := rs_94_24 (m := (zov wr_172 m m1)) hV_m1
      have f15 : 0 ≤ (m1 94 21).toInt ∧ (m1 94 21).toInt ≤ 1500 := rs_94_21 (m := (zov wr_172 m m1)) hV_m1
      have f16 : 0 ≤ (m1 94 28).toInt ∧ (m1 94 28).toInt ≤ 256 := rs_94_28 (m := (zov wr_172 m m1)) hV_m1
      have f17 := i_01 hb_m1
      have li18 : (0 : Int32).toInt = 0 := rfl
      refine zd (fun (h19 : v2 = (0 : Int32)) => ?_) (fun (h19 : ¬ v2 = (0 : Int32)) => ?_)
      · skip
        have g20 := i_eq h19
        have li21 : (-1 : Int32).toInt = -1 := rfl
        have f22 : 0 ≤ (m1 94 70).toInt ∧ (m1 94 70).toInt ≤ 100 := rs_94_70 (m := (zov wr_172 m m1)) hV_m1
        first | have e23 : ((-1 : Int32) - (m1 94 70)).toInt = (-1 : Int32).toInt - (m1 94 70).toInt := i_sub (by omega) (by omega) | have b24 := i_bd ((-1 : Int32) - (m1 94 70))
        exact K (((-1 : Int32) - (m1 94 70))) _ (zF_zov hF ws_172_171) hV_m1 (show 0 ≤ (m1 94 27).toInt from by omega) (show 0 ≤ (m 94 17).toInt from by omega) r_W r_GW (show (m 94 3).toInt = 0 from by omega) (show (m 94 8).toInt = 0 ∨ ((zGU T (m 94 46) (m 99)) ∧ (zOw (m 99) (m 103) (m 111)) ∧ (zDX (m 94 10) (m 99) (m 112) (m 113) (m 114) (m 94 55) (m 98) (m 101) (m 102) (m 108)) ∧ (zGG (m 94 58) (m 94 56) (m 94 57) (m 106)) ∧ (zHA (m 94 10) (m 94 11) (m 94 13) (m 94 14) (m 94 16) (m 94 61) (m 94 59) (m 94 60) (m 99) (m 102) (m 103) (m 111) (m 117) (m 98) (m 101) (m 108)) ∧ (zRG (m 94 10) (m 94 18) (m 94 64) (m 94 63) (m 99) (m 103) (m 102) (m 116)) ∧ ((m 94 58).toInt = 0 ∨ (m 94 10).toInt = 5)) from by first | (exact Or.inl (by omega)) | (exfalso; omega; done) | (exfalso; contradiction; done)) (show ((-1 : Int32) - (m1 94 70)).toInt = zAns (m0 95) (m0 94 3).toInt from by first | (have z2 : zAns (m 96) (m 94 4).toInt = zAns (m0 95) (m0 94 3).toInt := (by rw [zAns_cg (t₉ := (m 95)) (fun k hk => r_SR k (by omega)) (by omega) (by omega), r_T95, show (m 94 4).toInt = (m0 94 3).toInt from by omega]); exact hp_sub ((RP_no p2_m1 (by omega)).trans z2) (rs_94_70 hV_m1).1 (rs_94_70 hV_m1).2; done) | (exfalso; omega; done) | (exfalso; contradiction; done)) (show ((zAns (m0 95) (m0 94 3).toInt) < 0 ∧ (m 98) = (m0 98) ∧ (m 99) = (m0 99) ∧ (m 100) = (m0 100) ∧ (m 101) = (m0 101) ∧ (m 102) = (m0 102) ∧ (m 103) = (m0 103) ∧ (m 104) = (m0 104) ∧ (m 105) = (m0 105) ∧ (m 106) = (m0 106) ∧ (m 107) = (m0 107) ∧ (m 108) = (m0 108) ∧ (m 109) = (m0 109) ∧ (m 110) = (m0 110) ∧ (m 111) = (m0 111) ∧ (m 112) = (m0 112) ∧ (m 113) = (m0 113) ∧ (m 114) = (m0 114) ∧ (m 115) = (m0 115) ∧ (m 116) = (m0 116) ∧ (m 117) = (m0 117) ∧ (m 94 8) = (m0 94 8) ∧ (m 94 9) = (m0 94 9) ∧ (m 94 10) = (m0 94 10) ∧ (m 94 11) = (m0 94 11) ∧ (m 94 12) = (m0 94 12) ∧ (m 94 13) = (m0 94 13) ∧ (m 94 14) = (m0 94 14) ∧ (m 94 15) = (m0 94 15) ∧ (m 94 16) = (m0 94 16) ∧ (m 94 17) = (m0 94 17) ∧ (m 94 18) = (m0 94 18) ∧ (m 94 19) = (m0 94 19) ∧ (m 94 45) = (m0 94 45) ∧ (m 94 46) = (m0 94 46) ∧ (m 94 55) = (m0 94 55) ∧ (m 94 56) = (m0 94 56) ∧ (m 94 57) = (m0 94 57) ∧ (m 94 58) = (m0 94 58) ∧ (m 94 59) = (m0 94 59) ∧ (m 94 60) = (m0 94 60) ∧ (m 94 61) = (m0 94 61) ∧ (m 94 62) = (m0 94 62) ∧ (m 94 63) = (m0 94 63) ∧ (m 94 64) = (m0 94 64)) ∨ (0 ≤ (zAns (m0 95) (m0 94 3).toInt) ∧ (m 94 10).toInt = qPo (m0 95) (m0 94 3).toInt ∧ (m 94 8).toInt = 1 ∧ ((m 94 10).toInt = 5 → qV (m0 95) (m0 94 3).toInt (m 94 11).toInt (m 94 12).toInt (m 94 17).toInt (m 94 9)) ∧ (((m 94 10).toInt = 0 ∨ (m 94 10).toInt = 4) → ((m 94 11).toInt = zVal (m0 95) (m0 94 3).toInt 0 1 ∧ (m 94 12).toInt = zVal (m0 95) (m0 94 3).toInt 6 2)) ∧ ((∀ s : Nat, s < 3100 → (m 99) s = 0) ∧ (∀ s : Nat, (s : Int) < 16 → ((m 112) s).toInt < 0) ∧ (∀ s : Nat, (s : Int) < 16 → ((m 113) s).toInt < 0) ∧ (m 94 45).toInt = 0 ∧ (m 94 46).toInt = 0 ∧ (m 94 55).toInt = 0 ∧ (m 94 58).toInt = 0 ∧ (m 94 62).toInt = 0) ∧ (qT1 (m 94 10).toInt (m 94 11).toInt (m0 95) (m0 94 3).toInt ∧ qT3 (m 94 10).toInt (m 94 13).toInt (m 94 14).toInt (m 94 15).toInt (m 94 16).toInt (m0 95) (m0 94 3).toInt ∧ qT6 (m 94 10).toInt (m 94 11).toInt (m 94 18).toInt (m 94 19).toInt (m0 95) (m0 94 3).toInt) ∧ ((m 94 60).toInt = 0 ∧ (m 94 61).toInt = 0 ∧ (m 94 63).toInt = 0 ∧ (((m 94 10).toInt = 3 ∧ (m 94 59).toInt = (m 94 14).toInt) ∨ ((m 94 10).toInt ≠ 3 ∧ (m 94 59).toInt = 0))) ∧ ((m 94 10).toInt = 6 → (m 94 64) = (m 94 11) / (m 94 18)) ∧ (∀ s : Nat, s < 4600 → ((m 111) s).toInt < 0) ∧ (∀ s : Nat, s < 128 → (m 116) s = 0) ∧ (∀ s : Nat, s < 512 → (m 117) s = 0)) from by first | (have z2 : zAns (m 96) (m 94 4).toInt = zAns (m0 95) (m0 94 3).toInt := (by rw [zAns_cg (t₉ := (m 95)) (fun k hk => r_SR k (by omega)) (by omega) (by omega), r_T95, show (m 94 4).toInt = (m0 94 3).toInt from by omega]); exact Or.inl ⟨fl_neg ((RP_no p2_m1 (by omega)).trans z2) (rs_94_70 hV_m1).1, r_FR⟩; done) | (exfalso; omega; done) | (exfalso; contradiction; done))
      · skip
        have g25 := i_ne h19
        exact lp_171ym_60 h0 K _ _  rfl (zF_zov hF ws_172_171) hV_m1 r_W r_GW (show (m 94 3).toInt = 0 from by omega) (show 0 ≤ (m1 94 20).toInt ∧ ((m1 94 20).toInt ≠ 3 ∨ (4 ≤ (m1 94 26).toInt ∧ 16 ≤ (m1 94 23).toInt ∧ 16 ≤ (m1 94 24).toInt)) ∧ ((m1 94 20).toInt = 3 ∨ 16 ≤ (m1 94 21).toInt) from by omega) (show ((m1 94 20).toInt ≠ 6 ∨ (16 ≤ (m1 94 28).toInt ∧ 4 * (m1 94 28).toInt ≤ (m1 94 21).toInt)) from by omega) (show zJ5 (zAns (m0 95) (m0 94 3).toInt) (m1 94 20).toInt (m1 94 23).toInt (m1 94 24).toInt (m1 94 21).toInt (m1 94 28).toInt from by first | (have z2 : zAns (m 96) (m 94 4).toInt = zAns (m0 95) (m0 94 3).toInt := (by rw [zAns_cg (t₉ := (m 95)) (fun k hk => r_SR k (by omega)) (by omega) (by omega), r_T95, show (m 94 4).toInt = (m0 94 3).toInt from by omega]); have r := RP_ok p2_m1 (by omega); rw [z2] at r; exact r; done) | (exfalso; omega; done) | (exfalso; contradiction; done)) (show (m1 94 20).toInt = qPo (m0 95) (m0 94 3).toInt ∧ ((m1 94 20).toInt = 5 → qV (m0 95) (m0 94 3).toInt (m1 94 21).toInt (m1 94 22).toInt (m1 94 27).toInt (m1 94 30)) ∧ (((m1 94 20).toInt = 0 ∨ (m1 94 20).toInt = 4) → ((m1 94 21).toInt = zVal (m0 95) (m0 94 3).toInt 0 1 ∧ (m1 94 22).toInt = zVal (m0 95) (m0 94 3).toInt 6 2)) from by first | (have q := (p3_m1 (by omega)).1; rw [show (m 94 4).toInt = (m0 94 3).toInt from by omega] at q; exact jq_cg4 q (fun k hk => (r_SR k (by omega)).trans (congrFun r_T95 k)) (by omega) (by omega); done) | (exfalso; omega; done) | (exfalso; contradiction; done)) (show (qT1 (m1 94 20).toInt (m1 94 21).toInt (m0 95) (m0 94 3).toInt ∧ qT3 (m1 94 20).toInt (m1 94 23).toInt (m1 94 24).toInt (m1 94 25).toInt (m1 94 26).toInt (m0 95) (m0 94 3).toInt ∧ qT6 (m1 94 20).toInt (m1 94 21).toInt (m1 94 28).toInt (m1 94 29).toInt (m0 95) (m0 94 3).toInt) from by first | (have q := (p3_m1 (by omega)).2; rw [show (m 94 4).toInt = (m0 94 3).toInt from by omega] at q; exact jm_cg q (fun k hk => (r_SR k (by omega)).trans (congrFun r_T95 k)) (by omega) (by omega); done) | (exfalso; omega; done) | (exfalso; contradiction; done)) (show 0 ≤ (m1 94 27).toInt from by omega)
    · skip
      have g26 := i_nle h8
      have hg27 : (0 ≤ l1 ∧ l1.toNatClampNeg < 100) := i_ix (by omega) (by omega)
      refine ⟨hg27, ?_⟩
      have hg28 : (0 ≤ l1 ∧ l1.toNatClampNeg < 100) := i_ix (by omega) (by omega)
      refine ⟨hg28, ?_⟩
      have hV29 : zV (ma_u m 96 l1.toNatClampNeg (vp_nar .byte (m 95 l1.toNatClampNeg))) := ua_96 hV
      first | have e30 : (l1 + (1 : Int32)).toInt = l1.toInt + (1) := i_addk rfl (by omega) (by omega) | have b31 := i_bd (l1 + (1 : Int32))
      exact IH (100 - (l1 + (1 : Int32)).toInt).toNat (by omega) _ ((l1 + (1 : Int32))) rfl (zF_u hF rfl) hV29 (show 0 ≤ (m 94 27).toInt from by omega) (show 0 ≤ (m 94 17).toInt from by omega) (by omega) (show (m 94 4).toInt = (m0 94 3).toInt from by omega) (show (l1 + (1 : Int32)).toInt ≤ (m 94 4).toInt from by omega) r_T95 r_BY (show ∀ k : Nat, (k : Int) < (l1 + (1 : Int32)).toInt → ((ma_u m 96 l1.toNatClampNeg (vp_nar .byte (m 95 l1.toNatClampNeg))) 96) k = (m 95) k from by first | (exact fun k hk => by omega) | (exact sr_put r_SR (r_BY _ (by rw [tn_cast (by omega)]; omega)) (by omega) (by omega)) | (exfalso; omega; done) | (exfalso; contradiction; done)) (show (m 94 8).toInt = 0 from by omega) r_W r_GW (show (m 94 3).toInt = 0 from by omega) r_FR
set_option maxHeartbeats 8000000 in
theorem sp_171ym {X : Nat × (Nat → Int32)} {P : Option ma_V → (Nat → Nat → Int32) → Prop} {T : Nat} {m : Nat → Nat → Int32}  (hV : zV m) (hpre0 : 0 ≤ (m 94 27).toInt) (hpre1 : 0 ≤ (m 94 17).toInt) (hpre2 : (m 94 8).toInt = 0) (r_W : zW (m 94 7) (m 98) (m 101) (m 102) (m 108)) (r_GW : zGW T (m 94 55) (m 109)) (r_BY0 : ∀ k : Nat, (k : Int) < (m 94 3).toInt → vp_nar .byte ((m 95) k) = (m 95) k) (KZ : ∀ v m₉, zV (zov wr_171 m m₉) → (0 ≤ (m₉ 94 27).toInt) → (0 ≤ (m₉ 94 17).toInt) → (zW (m 94 7) (m 98) (m 101) (m 102) (m 108)) → (zGW T (m₉ 94 55) (m 109)) → ((m₉ 94 3).toInt = 0) → ((m₉ 94 8).toInt = 0 ∨ ((zGU T (m₉ 94 46) (m₉ 99)) ∧ (zOw (m₉ 99) (m 103) (m₉ 111)) ∧ (zDX (m₉ 94 10) (m₉ 99) (m₉ 112) (m₉ 113) (m 114) (m₉ 94 55) (m 98) (m 101) (m 102) (m 108)) ∧ (zGG (m₉ 94 58) (m₉ 94 56) (m₉ 94 57) (m 106)) ∧ (zHA (m₉ 94 10) (m₉ 94 11) (m₉ 94 13) (m₉ 94 14) (m₉ 94 16) (m₉ 94 61) (m₉ 94 59) (m₉ 94 60) (m₉ 99) (m 102) (m 103) (m₉ 111) (m₉ 117) (m 98) (m 101) (m 108)) ∧ (zRG (m₉ 94 10) (m₉ 94 18) (m₉ 94 64) (m₉ 94 63) (m₉ 99) (m 103) (m 102) (m₉ 116)) ∧ ((m₉ 94 58).toInt = 0 ∨ (m₉ 94 10).toInt = 5))) → (v.toInt = zAns (m 95) (m 94 3).toInt) → (((zAns (m 95) (m 94 3).toInt) < 0 ∧ (m 98) = (m 98) ∧ (m₉ 99) = (m 99) ∧ (m 100) = (m 100) ∧ (m 101) = (m 101) ∧ (m 102) = (m 102) ∧ (m 103) = (m 103) ∧ (m 104) = (m 104) ∧ (m 105) = (m 105) ∧ (m 106) = (m 106) ∧ (m 107) = (m 107) ∧ (m 108) = (m 108) ∧ (m 109) = (m 109) ∧ (m 110) = (m 110) ∧ (m₉ 111) = (m 111) ∧ (m₉ 112) = (m 112) ∧ (m₉ 113) = (m 113) ∧ (m 114) = (m 114) ∧ (m 115) = (m 115) ∧ (m₉ 116) = (m 116) ∧ (m₉ 117) = (m 117) ∧ (m₉ 94 8) = (m 94 8) ∧ (m₉ 94 9) = (m 94 9) ∧ (m₉ 94 10) = (m 94 10) ∧ (m₉ 94 11) = (m 94 11) ∧ (m₉ 94 12) = (m 94 12) ∧ (m₉ 94 13) = (m 94 13) ∧ (m₉ 94 14) = (m 94 14) ∧ (m₉ 94 15) = (m 94 15) ∧ (m₉ 94 16) = (m 94 16) ∧ (m₉ 94 17) = (m 94 17) ∧ (m₉ 94 18) = (m 94 18) ∧ (m₉ 94 19) = (m 94 19) ∧ (m₉ 94 45) = (m 94 45) ∧ (m₉ 94 46) = (m 94 46) ∧ (m₉ 94 55) = (m 94 55) ∧ (m₉ 94 56) = (m 94 56) ∧ (m₉ 94 57) = (m 94 57) ∧ (m₉ 94 58) = (m 94 58) ∧ (m₉ 94 59) = (m 94 59) ∧ (m₉ 94 60) = (m 94 60) ∧ (m₉ 94 61) = (m 94 61) ∧ (m₉ 94 62) = (m 94 62) ∧ (m₉ 94 63) = (m 94 63) ∧ (m₉ 94 64) = (m 94 64)) ∨ (0 ≤ (zAns (m 95) (m 94 3).toInt) ∧ (m₉ 94 10).toInt = qPo (m 95) (m 94 3).toInt ∧ (m₉ 94 8).toInt = 1 ∧ ((m₉ 94 10).toInt = 5 → qV (m 95) (m 94 3).toInt (m₉ 94 11).toInt (m₉ 94 12).toInt (m₉ 94 17).toInt (m₉ 94 9)) ∧ (((m₉ 94 10).toInt = 0 ∨ (m₉ 94 10).toInt = 4) → ((m₉ 94 11).toInt = zVal (m 95) (m 94 3).toInt 0 1 ∧ (m₉ 94 12).toInt = zVal (m 95) (m 94 3).toInt 6 2)) ∧ ((∀ s : Nat, s < 3100 → (m₉ 99) s = 0) ∧ (∀ s : Nat, (s : Int) < 16 → ((m₉ 112) s).toInt < 0) ∧ (∀ s : Nat, (s : Int) < 16 → ((m₉ 113) s).toInt < 0) ∧ (m₉ 94 45).toInt = 0 ∧ (m₉ 94 46).toInt = 0 ∧ (m₉ 94 55).toInt = 0 ∧ (m₉ 94 58).toInt = 0 ∧ (m₉ 94 62).toInt = 0) ∧ (qT1 (m₉ 94 10).toInt (m₉ 94 11).toInt (m 95) (m 94 3).toInt ∧ qT3 (m₉ 94 10).toInt (m₉ 94 13).toInt (m₉ 94 14).toInt (m₉ 94 15).toInt (m₉ 94 16).toInt (m 95) (m 94 3).toInt ∧ qT6 (m₉ 94 10).toInt (m₉ 94 11).toInt (m₉ 94 18).toInt (m₉ 94 19).toInt (m 95) (m 94 3).toInt) ∧ ((m₉ 94 60).toInt = 0 ∧ (m₉ 94 61).toInt = 0 ∧ (m₉ 94 63).toInt = 0 ∧ (((m₉ 94 10).toInt = 3 ∧ (m₉ 94 59).toInt = (m₉ 94 14).toInt) ∨ ((m₉ 94 10).toInt ≠ 3 ∧ (m₉ 94 59).toInt = 0))) ∧ ((m₉ 94 10).toInt = 6 → (m₉ 94 64) = (m₉ 94 11) / (m₉ 94 18)) ∧ (∀ s : Nat, s < 4600 → ((m₉ 111) s).toInt < 0) ∧ (∀ s : Nat, s < 128 → (m₉ 116) s = 0) ∧ (∀ s : Nat, s < 512 → (m₉ 117) s = 0))) → P (some (.inl v)) (zov wr_171 m m₉)) : zm X 4 90 171 0 [(0, .inr (.inr (some 94)))] m P := by
  have K : ∀ v m₉, zF wr_171 m m₉ → zV m₉ → (0 ≤ (m₉ 94 27).toInt) → (0 ≤ (m₉ 94 17).toInt) → (zW (m₉ 94 7) (m₉ 98) (m₉ 101) (m₉ 102) (m₉ 108)) → (zGW T (m₉ 94 55) (m₉ 109)) → ((m₉ 94 3).toInt = 0) → ((m₉ 94 8).toInt = 0 ∨ ((zGU T (m₉ 94 46) (m₉ 99)) ∧ (zOw (m₉ 99) (m₉ 103) (m₉ 111)) ∧ (zDX (m₉ 94 10) (m₉ 99) (m₉ 112) (m₉ 113) (m₉ 114) (m₉ 94 55) (m₉ 98) (m₉ 101) (m₉ 102) (m₉ 108)) ∧ (zGG (m₉ 94 58) (m₉ 94 56) (m₉ 94 57) (m₉ 106)) ∧ (zHA (m₉ 94 10) (m₉ 94 11) (m₉ 94 13) (m₉ 94 14) (m₉ 94 16) (m₉ 94 61) (m₉ 94 59) (m₉ 94 60) (m₉ 99) (m₉ 102) (m₉ 103) (m₉ 111) (m₉ 117) (m₉ 98) (m₉ 101) (m₉ 108)) ∧ (zRG (m₉ 94 10) (m₉ 94 18) (m₉ 94 64) (m₉ 94 63) (m₉ 99) (m₉ 103) (m₉ 102) (m₉ 116)) ∧ ((m₉ 94 58).toInt = 0 ∨ (m₉ 94 10).toInt = 5))) → (v.toInt = zAns (m 95) (m 94 3).toInt) → (((zAns (m 95) (m 94 3).toInt) < 0 ∧ (m₉ 98) = (m 98) ∧ (m₉ 99) = (m 99) ∧ (m₉ 100) = (m 100) ∧ (m₉ 101) = (m 101) ∧ (m₉ 102) = (m 102) ∧ (m₉ 103) = (m 103) ∧ (m₉ 104) = (m 104) ∧ (m₉ 105) = (m 105) ∧ (m₉ 106) = (m 106) ∧ (m₉ 107) = (m 107) ∧ (m₉ 108) = (m 108) ∧ (m₉ 109) = (m 109) ∧ (m₉ 110) = (m 110) ∧ (m₉ 111) = (m 111) ∧ (m₉ 112) = (m 112) ∧ (m₉ 113) = (m 113) ∧ (m₉ 114) = (m 114) ∧ (m₉ 115) = (m 115) ∧ (m₉ 116) = (m 116) ∧ (m₉ 117) = (m 117) ∧ (m₉ 94 8) = (m 94 8) ∧ (m₉ 94 9) = (m 94 9) ∧ (m₉ 94 10) = (m 94 10) ∧ (m₉ 94 11) = (m 94 11) ∧ (m₉ 94 12) = (m 94 12) ∧ (m₉ 94 13) = (m 94 13) ∧ (m₉ 94 14) = (m 94 14) ∧ (m₉ 94 15) = (m 94 15) ∧ (m₉ 94 16) = (m 94 16) ∧ (m₉ 94 17) = (m 94 17) ∧ (m₉ 94 18) = (m 94 18) ∧ (m₉ 94 19) = (m 94 19) ∧ (m₉ 94 45) = (m 94 45) ∧ (m₉ 94 46) = (m 94 46) ∧ (m₉ 94 55) = (m 94 55) ∧ (m₉ 94 56) = (m 94 56) ∧ (m₉ 94 57) = (m 94 57) ∧ (m₉ 94 58) = (m 94 58) ∧ (m₉ 94 59) = (m 94 59) ∧ (m₉ 94 60) = (m 94 60) ∧ (m₉ 94 61) = (m 94 61) ∧ (m₉ 94 62) = (m 94 62) ∧ (m₉ 94 63) = (m 94 63) ∧ (m₉ 94 64) = (m 94 64)) ∨ (0 ≤ (zAns (m 95) (m 94 3).toInt) ∧ (m₉ 94 10).toInt = qPo (m 95) (m 94 3).toInt ∧ (m₉ 94 8).toInt = 1 ∧ ((m₉ 94 10).toInt = 5 → qV (m 95) (m 94 3).toInt (m₉ 94 11).toInt (m₉ 94 12).toInt (m₉ 94 17).toInt (m₉ 94 9)) ∧ (((m₉ 94 10).toInt = 0 ∨ (m₉ 94 10).toInt = 4) → ((m₉ 94 11).toInt = zVal (m 95) (m 94 3).toInt 0 1 ∧ (m₉ 94 12).toInt = zVal (m 95) (m 94 3).toInt 6 2)) ∧ ((∀ s : Nat, s < 3100 → (m₉ 99) s = 0) ∧ (∀ s : Nat, (s : Int) < 16 → ((m₉ 112) s).toInt < 0) ∧ (∀ s : Nat, (s : Int) < 16 → ((m₉ 113) s).toInt < 0) ∧ (m₉ 94 45).toInt = 0 ∧ (m₉ 94 46).toInt = 0 ∧ (m₉ 94 55).toInt = 0 ∧ (m₉ 94 58).toInt = 0 ∧ (m₉ 94 62).toInt = 0) ∧ (qT1 (m₉ 94 10).toInt (m₉ 94 11).toInt (m 95) (m 94 3).toInt ∧ qT3 (m₉ 94 10).toInt (m₉ 94 13).toInt (m₉ 94 14).toInt (m₉ 94 15).toInt (m₉ 94 16).toInt (m 95) (m 94 3).toInt ∧ qT6 (m₉ 94 10).toInt (m₉ 94 11).toInt (m₉ 94 18).toInt (m₉ 94 19).toInt (m 95) (m 94 3).toInt) ∧ ((m₉ 94 60).toInt = 0 ∧ (m₉ 94 61).toInt = 0 ∧ (m₉ 94 63).toInt = 0 ∧ (((m₉ 94 10).toInt = 3 ∧ (m₉ 94 59).toInt = (m₉ 94 14).toInt) ∨ ((m₉ 94 10).toInt ≠ 3 ∧ (m₉ 94 59).toInt = 0))) ∧ ((m₉ 94 10).toInt = 6 → (m₉ 94 64) = (m₉ 94 11) / (m₉ 94 18)) ∧ (∀ s : Nat, s < 4600 → ((m₉ 111) s).toInt < 0) ∧ (∀ s : Nat, s < 128 → (m₉ 116) s = 0) ∧ (∀ s : Nat, s < 512 → (m₉ 117) s = 0))) → P (some (.inl v)) m₉ := by
    intro v m₉ hf z q0 q1 q2 q3 q4 q5 q6 q7
    have e := zov_eq hf
    rw [e] at z ⊢
    try rw [e] at q0
    try rw [e] at q1
    try rw [e] at q2
    try rw [e] at q3
    try rw [e] at q4
    try rw [e] at q5
    try rw [e] at q6
    try rw [e] at q7
    exact KZ v m₉ z q0 q1 q2 q3 q4 q5 q6 q7
  refine g_171_0  ?_
  have b1 := i_bd (m 94 27)
  have b2 := i_bd (m 94 17)
  have f3 : 0 ≤ (m 94 8).toInt ∧ (m 94 8).toInt ≤ 1 := rs_94_8 (m := m) hV
  have hV4 : zV (ma_u m 94 0 (0 : Int32)) := uf_94_0 hV
  have f6 : 0 ≤ (m 94 3).toInt ∧ (m 94 3).toInt ≤ 100 := rs_94_3 (m := m) hV
  have hV5 : zV (ma_u (ma_u m 94 0 (0 : Int32)) 94 4 (m 94 3)) := us_94_4 hV4 (by omega) (by omega)
  have li8 : (0 : Int32).toInt = 0 := rfl
  have hV7 : zV (ma_u (ma_u (ma_u m 94 0 (0 : Int32)) 94 4 (m 94 3)) 94 3 (0 : Int32)) := us_94_3 hV5 (by omega) (by omega)
  exact lp_171ym_20 hV K _ _ ((0 : Int32)) rfl (zF_u (zF_u (zF_u zF_rfl rfl) rfl) rfl) hV7 (show 0 ≤ (m 94 27).toInt from by omega) (show 0 ≤ (m 94 17).toInt from by omega) (by omega) (show (m 94 3).toInt = (m 94 3).toInt from by omega) (show (0 : Int32).toInt ≤ (m 94 3).toInt from by omega) (show (m 95) = (m 95) from by first | (exact rfl) | (exfalso; omega; done) | (exfalso; contradiction; done)) (show ∀ k : Nat, (k : Int) < (m 94 3).toInt → vp_nar .byte ((m 95) k) = (m 95) k from by first | (exact r_BY0) | (exfalso; omega; done) | (exfalso; contradiction; done)) (show ∀ k : Nat, (k : Int) < (0 : Int32).toInt → (m 96) k = (m 95) k from by first | (exact fun k hk => by omega) | (exfalso; omega; done) | (exfalso; contradiction; done)) (show (m 94 8).toInt = 0 from by omega) r_W r_GW (show (0 : Int32).toInt = 0 from by omega) (show (m 98) = (m 98) ∧ (m 99) = (m 99) ∧ (m 100) = (m 100) ∧ (m 101) = (m 101) ∧ (m 102) = (m 102) ∧ (m 103) = (m 103) ∧ (m 104) = (m 104) ∧ (m 105) = (m 105) ∧ (m 106) = (m 106) ∧ (m 107) = (m 107) ∧ (m 108) = (m 108) ∧ (m 109) = (m 109) ∧ (m 110) = (m 110) ∧ (m 111) = (m 111) ∧ (m 112) = (m 112) ∧ (m 113) = (m 113) ∧ (m 114) = (m 114) ∧ (m 115) = (m 115) ∧ (m 116) = (m 116) ∧ (m 117) = (m 117) ∧ (m 94 8) = (m 94 8) ∧ (m 94 9) = (m 94 9) ∧ (m 94 10) = (m 94 10) ∧ (m 94 11) = (m 94 11) ∧ (m 94 12) = (m 94 12) ∧ (m 94 13) = (m 94 13) ∧ (m 94 14) = (m 94 14) ∧ (m 94 15) = (m 94 15) ∧ (m 94 16) = (m 94 16) ∧ (m 94 17) = (m 94 17) ∧ (m 94 18) = (m 94 18) ∧ (m 94 19) = (m 94 19) ∧ (m 94 45) = (m 94 45) ∧ (m 94 46) = (m 94 46) ∧ (m 94 55) = (m 94 55) ∧ (m 94 56) = (m 94 56) ∧ (m 94 57) = (m 94 57) ∧ (m 94 58) = (m 94 58) ∧ (m 94 59) = (m 94 59) ∧ (m 94 60) = (m 94 60) ∧ (m 94 61) = (m 94 61) ∧ (m 94 62) = (m 94 62) ∧ (m 94 63) = (m 94 63) ∧ (m 94 64) = (m 94 64) from by first | (exact ⟨rfl, rfl, rfl, rfl, rfl, rfl, rfl, rfl, rfl, rfl, rfl, rfl, rfl, rfl, rfl, rfl, rfl, rfl, rfl, rfl, rfl, rfl, rfl, rfl, rfl, rfl, rfl, rfl, rfl, rfl, rfl, rfl, rfl, rfl, rfl, rfl, rfl, rfl, rfl, rfl, rfl, rfl, rfl, rfl⟩) | (exact Or.inl (by decide)) | (exact Or.inr ⟨by omega, by omega, by omega⟩) | (exfalso; omega; done) | (exfalso; contradiction; done))

/-! from 95.y06 -/
/-! the reference opens a heap (written by wip/tools/gen15w.py) -/
/-! calls under the moving collectors: rows 75 to 77 and 82 to 93 are no matter -/
def zO6 (a b : Nat → Nat → Int32) : Prop := ∀ c k, c ≠ 75 → c ≠ 76 → c ≠ 77 → ¬ (82 ≤ c ∧ c ≤ 93) → a c k = b c k
/-- X is what Y is, but for the rows 82 to 93, which are a's -/
def zAy (X Y a : Nat → Nat → Int32) : Prop := zO6 X Y ∧ ∀ c k, 82 ≤ c → c ≤ 93 → X c k = a c k
/-- nothing but ROOTS, WEAK ones, WISHES, words and wishes has changed -/
def zRw (X a : Nat → Nat → Int32) : Prop := ∀ c, c ≠ 69 → c ≠ 71 → c ≠ 72 → c ≠ 73 → c ≠ 74 → c ≠ 134 → X c = a c
section F40
variable {a b d e aa X Y : Nat → Nat → Int32} {x y z i o r t kk w rt : Int32} {n k c m : Nat} {p : Int} {F : Nat → Int32} {L : Int64} {S S₉ : ma_S} {P : Nat}
theorem O6_Rq (h : zO6 a b) : zRq a x ↔ zRq b x := by
  refine (Of_Rq (Br_of (a := a) (b := b))).trans ?_
  have o : zO9 (zBr a b) b := fun c k hc => by
    unfold zBr
    by_cases w : c = 75 ∨ c = 76 ∨ c = 77
    · rw [if_pos w]
    · rw [if_neg w]
      exact h c k (by omega) (by omega) (by omega) (by omega)
  unfold zRq
  rw [o 126 _ (by decide), o9_ra o 77 _ (by decide)]
theorem O6_u (h : zO6 a b) : zO6 (ma_u a n k x) (ma_u b n k x) := fun c₉ k₉ h1 h2 h3 h4 => by
  show (if c₉ = n ∧ k₉ = k then x else a c₉ k₉) = (if c₉ = n ∧ k₉ = k then x else b c₉ k₉)
  rw [h c₉ k₉ h1 h2 h3 h4]
theorem O6_if {P Q : Prop} {a₉ b₉ : Nat → Nat → Int32} (e : P ↔ Q) (h1 : Q → zO6 a₉ b₉) (h2 : zO6 a b) : zO6 (qIf P a₉ a) (qIf Q b₉ b) := by
  by_cases w : Q
  · rw [qIf_y (e.mpr w), qIf_y w]
    exact h1 w
  · rw [qIf_n (fun q => w (e.mp q)), qIf_n w]
    exact h2
theorem O6_c (h : zO6 a b) (h1 : c ≠ 75) (h2 : c ≠ 76) (h3 : c ≠ 77) (h4 : ¬ (82 ≤ c ∧ c ≤ 93)) : a c k = b c k := h c k h1 h2 h3 h4
theorem O6_Nm (h : zO6 a b) : aNm a y = aNm b y := by
  unfold aNm
  rw [O6_c (c := 126) h (by decide) (by decide) (by decide) (by decide)]
theorem O6_Hw (h : zO6 a b) : zHw a o i ↔ zHw b o i := by
  unfold zHw
  rw [O6_c (c := 128) h (by decide) (by decide) (by decide) (by decide)]
theorem O6_Ir (h : zO6 a b) : zIr a o i ↔ zIr b o i := by
  unfold zIr
  rw [h (1000 + o.toNatClampNeg) _ (by omega) (by omega) (by omega) (by omega)]
theorem O6_ci (h : zO6 a b) : zO6 (aCi a n i x) (aCi b n i x) := by
  unfold aCi
  rw [O6_c (c := 130) h (by decide) (by decide) (by decide) (by decide)]
  split
  · exact O6_u h
  · exact h
theorem O6_r0 (h : zO6 a b) : zO6 (aR0 a i y) (aR0 b i y) := by
  unfold aR0
  rw [O6_Nm h]
  exact O6_u h
theorem O6_tw (h : zO6 a b) : zO6 (aTw a) (aTw b) ∧ aTy a = aTy b := by
  have e5 := O6_c (c := 69) (k := 5) h (by decide) (by decide) (by decide) (by decide)
  have e74 := O6_c (c := 74) (k := 0) h (by decide) (by decide) (by decide) (by decide)
  unfold aTw aTy
  rw [e5, e74]
  refine ⟨?_, rfl⟩
  split
  · intro c₉ k₉ h1 h2 h3 h4
    show (if c₉ = 74 ∧ (k₉ : Int) < _ then ma_u a 69 5 (b 69 5 - 1) 74 (k₉ + 1) else ma_u a 69 5 (b 69 5 - 1) c₉ k₉) = (if c₉ = 74 ∧ (k₉ : Int) < _ then ma_u b 69 5 (b 69 5 - 1) 74 (k₉ + 1) else ma_u b 69 5 (b 69 5 - 1) c₉ k₉)
    rw [O6_u (n := 69) (k := 5) (x := b 69 5 - 1) h c₉ k₉ h1 h2 h3 h4, O6_u (n := 69) (k := 5) (x := b 69 5 - 1) h 74 (k₉ + 1) (by decide) (by decide) (by decide) (by decide)]
  · exact h
theorem O6_l0 (h : zO6 a b) : zO6 (aL0 a n i y) (aL0 b n i y) := by
  unfold aL0
  rw [O6_Nm h]
  exact O6_ci h
theorem ci_9 (h : c ≠ 71) : aCi a n i x c k = a c k := by
  unfold aCi
  split
  · exact xu_o (fun z => h z.1)
  · rfl
theorem If_c {Q : Prop} {a₉ : Nat → Nat → Int32} (h : a₉ c k = a c k) : qIf Q a₉ a c k = a c k := by
  by_cases w : Q
  · rw [qIf_y w]
    exact h
  · rw [qIf_n w]
theorem tw_c (h1 : c ≠ 69) (h2 : c ≠ 74) : aTw a c k = a c k := congrFun (Tw_e h1 h2) k
theorem r0_c (h : c ≠ 72) : aR0 a i y c k = a c k := xu_o (fun z => h z.1)
theorem gr_c (h1 : c ≠ 69) (h2 : c ≠ 74) (h3 : c ≠ 72) : oGr a r c k = a c k := by
  unfold oGr
  refine If_c ?_
  by_cases w : aNm a (aTy a) = -1
  · rw [qIf_y w]
    exact tw_c h1 h2
  · rw [qIf_n w, r0_c h3]
    exact tw_c h1 h2
theorem Ay_pu (h : zO6 a b) : zAy (xPu a o i x) (xPu b o i x) a := ⟨O6_if (by rw [O6_Rq h, O6_Hw h, O6_Ir h]) (fun _ => O6_ci h) h, fun _ _ h1 h2 => If_c (ci_9 (by omega))⟩
theorem Ay_we (h : zO6 a b) : zAy (xWe a i o) (xWe b i o) a := ⟨O6_if (by rw [O6_Rq h]) (fun _ => by rw [O6_Nm h]; exact O6_u h) h, fun _ _ h1 h2 => If_c (xu_o (by omega))⟩
theorem Ay_wi (h : zO6 a b) : zAy (xWi a o) (xWi b o) a := ⟨O6_if (O6_Rq h) (fun _ => O6_u h) h, fun _ _ h1 h2 => If_c (xu_o (by omega))⟩
theorem Ay_ho (h : zO6 a b) : zAy (xHo a o x) (xHo b o x) a := ⟨O6_if (by rw [O6_Rq h, O6_c (c := 133) h (by decide) (by decide) (by decide) (by decide)]) (fun _ => by rw [O6_c (c := 133) h (by decide) (by decide) (by decide) (by decide)]; exact O6_u h) h, fun _ _ h1 h2 => If_c (xu_o (by omega))⟩
theorem Ay_ro (h : zO6 a b) : zAy (oRo a i o) (oRo b i o) a := ⟨O6_if (by rw [O6_Rq h]) (fun _ => O6_r0 h) h, fun _ _ h1 h2 => If_c (r0_c (by omega))⟩
theorem Ay_li (h : zO6 a b) : zAy (oLi a o i t) (oLi b o i t) a := ⟨O6_if (by rw [O6_Rq h, O6_Rq h, O6_Hw h, O6_Ir h]) (fun _ => O6_l0 h) h, fun _ _ h1 h2 => If_c (ci_9 (by omega))⟩
theorem Ay_sg (h : zO6 a b) : zAy (oSg a i r) (oSg b i r) a := ⟨O6_if (by rw [O6_Nm h, O6_c (c := 73) h (by decide) (by decide) (by decide) (by decide)]) (fun _ => by rw [O6_c (c := 73) h (by decide) (by decide) (by decide) (by decide)]; exact O6_r0 h) h, fun _ _ h1 h2 => If_c (r0_c (by omega))⟩
theorem Ay_gr (h : zO6 a b) : zAy (oGr a r) (oGr b r) a := by
  have tw := O6_tw h
  refine ⟨O6_if Iff.rfl (fun _ => ?_) h, fun _ _ h1 h2 => gr_c (by omega) (by omega) (by omega)⟩
  refine ?_
  have e : (aNm a (aTy a) = -1 ↔ aNm b (aTy b) = -1) := by rw [O6_Nm h, tw.2]
  by_cases w : aNm b (aTy b) = -1
  · rw [qIf_y (e.mpr w), qIf_y w]
    exact tw.1
  · rw [qIf_n (fun q => w (e.mp q)), qIf_n w, tw.2]
    exact O6_r0 tw.1
theorem Rw_if {Q : Prop} {a₉ : Nat → Nat → Int32} (h : zRw a₉ a) : zRw (qIf Q a₉ a) a := by
  by_cases w : Q
  · rw [qIf_y w]
    exact h
  · rw [qIf_n w]
    exact fun _ _ _ _ _ _ _ => rfl
theorem Rw_u (h : n = 72 ∨ n = 73 ∨ n = 134) : zRw (ma_u a n k x) a := fun c h1 h2 h3 h4 h5 h6 => ma_u_ne _ _ _ (by omega)
theorem Rw_ci : zRw (aCi a n i x) a := fun c h1 h2 h3 h4 h5 h6 => funext (fun _ => ci_9 h2)
theorem Rw_pu : zRw (xPu a o i x) a := Rw_if Rw_ci
theorem Rw_we : zRw (xWe a i o) a := Rw_if (Rw_u (Or.inr (Or.inl rfl)))
theorem Rw_wi : zRw (xWi a o) a := Rw_if (Rw_u (Or.inr (Or.inr rfl)))
theorem Rw_ro : zRw (oRo a i o) a := Rw_if (Rw_u (Or.inl rfl))
theorem Rw_li : zRw (oLi a o i t) a := Rw_if Rw_ci
theorem Rw_sg : zRw (oSg a i r) a := Rw_if (Rw_u (Or.inl rfl))
theorem Rw_gr : zRw (oGr a r) a := fun c h1 h2 h3 h4 h5 h6 => funext (fun _ => gr_c h1 h5 h3)
/-! the collectors' own heaps -/
theorem M_88 {q : Nat → Int32} : zO6 (aM q S) (aS 88 S) := fun c k h1 h2 h3 h4 => (aM_o (by omega)).trans (aS_W ⟨h1, h2, h3⟩)
theorem G_88 : zO6 (aG S) (aS 88 S) := fun c k h1 h2 h3 h4 => (aG_o (by omega) (by omega)).trans (aS_W ⟨h1, h2, h3⟩)
theorem Z_88 : zO6 (aZ S) (aS 88 S) := fun c k h1 h2 h3 h4 => by
  unfold aZ
  rw [if_neg (by omega)]
  exact M_88 c k h1 h2 h3 h4
theorem M_kp {q q₉ : Nat → Int32} (hx : zAy X Y (aM q S)) (hs : aS 88 S₉ = Y) (e : q₉ = q) (hr : ∀ k c, c ≠ 87 → 82 ≤ c → c ≤ 93 → aS 75 S₉ c k = aS 75 S c k) : zOf X (aM q₉ S₉) := fun c k h1 h2 h3 => by
  by_cases w : 82 ≤ c ∧ c ≤ 93
  · rw [hx.2 c k w.1 w.2, e]
    by_cases v : c = 87
    · rw [v, aM_7, aM_7]
    · rw [aM_o v, aM_o v, hr k c v w.1 w.2]
  · rw [hx.1 c k h1 h2 h3 w, ← hs]
    exact (M_88 c k h1 h2 h3 w).symm
end F40

/-! from 95.y07 -/
/-! the reference opens a heap (written by wip/tools/gen15w.py) -/
/-! what holds under the moving collectors stays, whatever a call makes of ROOTS, WEAK ones, WISHES, words and wishes -/
/-- a link under AGES: the card too -/
noncomputable def yLi (a : Nat → Nat → Int32) (o i t : Int32) : Nat → Nat → Int32 := fun c => if c = 83 then yNl a o i t 83 else oLi a o i t c
section F41
variable {a b d X Y : Nat → Nat → Int32} {us nr gs kr kd ws at₉ ho wd wi ow rt wk wl dt tp : Nat → Int32} {wm nu ro fo le ra pi x y z i o t rm hf tq si rg sh pr yo ol ag cd ot : Int32} {n k c : Nat} {S S₉ : ma_S}
theorem Of_rx (h : zOf X b) (w : c ≠ 75 ∧ c ≠ 76 ∧ c ≠ 77) : b c = X c := funext (fun k => (h c k w.1 w.2.1 w.2.2).symm)
theorem Rw_r (r : zRw X a) (h : c ≠ 69 ∧ c ≠ 71 ∧ c ≠ 72 ∧ c ≠ 73 ∧ c ≠ 74 ∧ c ≠ 134) : X c = a c := r c h.1 h.2.1 h.2.2.1 h.2.2.2.1 h.2.2.2.2.1 h.2.2.2.2.2
theorem Tp_rw (h : qTp a) (r : zRw X a) : qTp X := Tp_cg h (Rw_r r (by decide)) (Rw_r r (by decide)) (Rw_r r (by decide)) (congrFun (Rw_r (c := 87) r (by decide)) 2)
theorem Tp_of (h : qTp X) (r : zOf X b) : qTp b := Tp_cg h (Of_rx r (by decide)) (Of_rx r (by decide)) (Of_rx r (by decide)) (congrFun (Of_rx (c := 87) r (by decide)) 2)
theorem Hv_rw (h : qHv a) (r : zRw X a) (hI : qI X) : qHv X := Hv_cg h (Rw_r r (by decide)) (Rw_r r (by decide)) (Rw_r r (by decide)) (Rw_r r (by decide)) (Rw_r r (by decide)) hI
theorem Hv_of (h : qHv X) (r : zOf X b) : qHv b := Hv_cg h (Of_rx r (by decide)) (Of_rx r (by decide)) (Of_rx r (by decide)) (Of_rx r (by decide)) (Of_rx r (by decide)) (qI_of h.1 r)
theorem HL_rw (h : qHL a rm hf tq) (r : zRw X a) : qHL X rm hf tq := HL_cg h (congrFun (Rw_r (c := 87) r (by decide)) 3) (congrFun (Rw_r (c := 87) r (by decide)) 4) (congrFun (Rw_r (c := 87) r (by decide)) 5)
theorem HL_of (h : qHL X rm hf tq) (r : zOf X b) : qHL b rm hf tq := HL_cg h (congrFun (Of_rx (c := 87) r (by decide)) 3) (congrFun (Of_rx (c := 87) r (by decide)) 4) (congrFun (Of_rx (c := 87) r (by decide)) 5)
theorem Rv_rw (h : qRv a) (r : zRw X a) (hI : qI X) : qRv X := Rv_cg h (Rw_r r (by decide)) (Rw_r r (by decide)) (Rw_r r (by decide)) (Rw_r r (by decide)) (Rw_r r (by decide)) hI
theorem Rv_of (h : qRv X) (r : zOf X b) : qRv b := Rv_cg h (Of_rx r (by decide)) (Of_rx r (by decide)) (Of_rx r (by decide)) (Of_rx r (by decide)) (Of_rx r (by decide)) (qI_of h.1 r)
theorem RL_rw (h : qRL a si rg sh pr tp) (r : zRw X a) : qRL X si rg sh pr tp := RL_cg h (Rw_r r (by decide)) (Rw_r r (by decide))
theorem RL_of (h : qRL X si rg sh pr tp) (r : zOf X b) : qRL b si rg sh pr tp := RL_cg h (Of_rx r (by decide)) (Of_rx r (by decide))
theorem AL_rw (h : qAL a yo ol ag cd tq ot hf) (r : zRw X a) : qAL X yo ol ag cd tq ot hf := AL_cg h (Rw_r r (by decide))
theorem AL_of (h : qAL X yo ol ag cd tq ot hf) (r : zOf X b) : qAL b yo ol ag cd tq ot hf := AL_cg h (Of_rx r (by decide))
theorem Ag_rw (h : qAg us nr gs a) (r : zRw X a) : qAg us nr gs X := Ag_cg h (Rw_r r (by decide))
theorem Ag_of (h : qAg us nr gs X) (r : zOf X b) : qAg us nr gs b := Ag_cg h (Of_rx r (by decide))
theorem Dt_rw (h : qDt dt a) (r : zRw X a) : qDt dt X := Dt_cg h (Rw_r r (by decide))
theorem Dt_of (h : qDt dt X) (r : zOf X b) : qDt dt b := Dt_cg h (Of_rx r (by decide))
/-! AGES: the cards -/
theorem Av_di (h : qAv a) : qDi a := h.2.2.2.2.2.2.2
theorem Di_cg (h : qDi a) (e1 : X 126 = a 126) (e2 : X 128 = a 128) (e3 : X 130 = a 130) (e7 : X 87 = a 87) (e8 : ∀ k, a 83 k ≠ 0 → X 83 k ≠ 0) (hr : ∀ (n i : Nat), xAl a n → (a 130 n).toInt < (a 87 9).toInt → (i : Int) < (a 128 n).toInt - 1 → aRef X n (Int32.ofNat i) = aRef a n (Int32.ofNat i) ∨ (gRw X n (Int32.ofNat i) → X 83 (gCx a n (i : Int)).toNat ≠ 0)) : qDi X := by
  intro n hn h9 i hi hg
  have al : xAl a n := by
    unfold xAl at hn ⊢
    rw [e1] at hn
    exact hn
  rw [e3, e7] at h9
  rw [e2] at hi
  have ec : gCx X n (i : Int) = gCx a n (i : Int) := by
    unfold gCx
    rw [e3, e7]
  rw [ec]
  rcases hr n i al h9 hi with r | r
  · unfold gRw at hg
    rw [r, e1, e7, e3] at hg
    exact e8 _ (h n al h9 i hi hg)
  · exact r hg
theorem Av_rw (h : qAv a) (r : zRw X a) (hI : qI X) (h71 : X 71 = a 71) : qAv X :=
  Av_mk (A0_cg (Av_0 h) hI (Rw_r r (by decide)) (Rw_r r (by decide)) (Rw_r r (by decide)) (Rw_r r (by decide)) (Rw_r r (by decide)) (Rw_r r (by decide)))
    (Di_cg (Av_di h) (Rw_r r (by decide)) (Rw_r r (by decide)) (Rw_r r (by decide)) (Rw_r r (by decide)) (fun k w => by rw [Rw_r (c := 83) r (by decide)]; exact w) (fun n i _ _ _ => Or.inl (rf_cg (Rw_r r (by omega)) (Rw_r r (by decide)) h71)))
theorem Av_of (h : qAv X) (r : zOf X b) : qAv b :=
  Av_mk (A0_cg (Av_0 h) (qI_of h.1 r) (Of_rx r (by decide)) (Of_rx r (by decide)) (Of_rx r (by decide)) (Of_rx r (by decide)) (Of_rx r (by decide)) (Of_rx r (by decide)))
    (Di_cg (Av_di h) (Of_rx r (by decide)) (Of_rx r (by decide)) (Of_rx r (by decide)) (Of_rx r (by decide)) (fun k w => by rw [Of_rx (c := 83) r (by decide)]; exact w) (fun n i _ _ _ => Or.inl (rf_cg (Of_rx r (by omega)) (Of_rx r (by decide)) (Of_rx r (by decide)))))
theorem wp_n (hI : qI a) (hn : xAl a n) (hi : (k : Int) < (a 128 n).toInt - 1) : qWp a n (Int32.ofNat k) ∧ (Int32.ofNat k).toInt = (k : Int) := by
  have q := hI.1 n hn
  have e : (Int32.ofNat k).toInt = (k : Int) := ofN_s (by omega)
  exact ⟨⟨hn, by omega, by omega⟩, e⟩
theorem Av_pu (h : qAv a) (hI : qI (xPu a o i x)) : qAv (xPu a o i x) := by
  by_cases w : zRq a o ∧ zHw a o i ∧ ¬ zIr a o i
  · have wp := Rq_wp w.1 w.2.1
    have e : xPu a o i x = ma_u a 71 (a 130 o.toNatClampNeg + 1 + i).toNatClampNeg x := (qIf_y w).trans (Ci_eq h.1 wp)
    rw [e] at hI ⊢
    refine Av_mk (A0_cg (Av_0 h) hI (un (by decide)) (un (by decide)) (un (by decide)) (un (by decide)) (un (by decide)) (un (by decide))) (Di_cg (Av_di h) (un (by decide)) (un (by decide)) (un (by decide)) (un (by decide)) (fun k w => by rw [un (by decide)]; exact w) (fun n j hn h9 hj => Or.inl ?_))
    rw [rf_w h.1 wp (wp_n h.1 hn hj).1]
    split
    · rename_i z
      rw [if_neg (show ¬ a (1000 + o.toNatClampNeg) i.toNatClampNeg ≠ 0 from w.2.2), z.1, z.2]
      exact (aRef_no (fun q => w.2.2 q.1)).symm
    · rfl
  · have e : xPu a o i x = a := qIf_n w
    rw [e]
    exact h
theorem nr_83 {q : Int} (h : a 83 k ≠ 0) : gNr a n q y 83 k ≠ 0 := by
  unfold gNr
  split
  · by_cases w : k = (gCx a n q).toNat
    · rw [w, xu_s]
      decide
    · rw [xu_o (fun z => w z.2)]
      exact h
  · exact h
theorem Ll_o (h : c ≠ 83) : yLi a o i t c = oLi a o i t c := if_neg h
theorem Ll_83 : yLi a o i t 83 = yNl a o i t 83 := if_pos rfl
theorem RB_ll (h : qRB us nr kr kd ws at₉ ho wd wi ow rt wk wl wm nu ro fo le ra pi (oLi a o i t)) : qRB us nr kr kd ws at₉ ho wd wi ow rt wk wl wm nu ro fo le ra pi (yLi a o i t) := RB_83 h (fun c hc => Ll_o hc)
theorem I_ll (hI : qI (oLi a o i t)) : qI (yLi a o i t) := I_cg hI (Ll_o (by decide)) (Ll_o (by decide)) (Ll_o (by decide)) (Ll_o (by decide)) (Ll_o (by decide)) (Ll_o (by decide)) (fun n => Ll_o (by omega))
theorem Av_li (h : qAv a) (hI : qI (oLi a o i t)) : qAv (yLi a o i t) := by
  have hI2 := I_ll hI
  by_cases w : zRq a o ∧ (t = -1 ∨ zRq a t) ∧ zHw a o i ∧ zIr a o i
  · have wp := Rq_wp w.1 w.2.2.1
    have e : oLi a o i t = ma_u a 71 (a 130 o.toNatClampNeg + 1 + i).toNatClampNeg (aNm a t) := (qIf_y w).trans (Ci_eq h.1 wp)
    have e8 : yNl a o i t = gNr a o.toNatClampNeg i.toInt t := qIf_y w
    have r : ∀ c, c ≠ 83 → c ≠ 71 → yLi a o i t c = a c := fun c h1 h2 => (Ll_o h1).trans (by rw [e]; exact un h2)
    refine Av_mk (A0_cg (Av_0 h) hI2 (r 126 (by decide) (by decide)) (r 87 (by decide) (by decide)) (r 130 (by decide) (by decide)) (r 128 (by decide) (by decide)) (r 131 (by decide) (by decide)) (r 133 (by decide) (by decide))) (Di_cg (Av_di h) (r 126 (by decide) (by decide)) (r 128 (by decide) (by decide)) (r 130 (by decide) (by decide)) (r 87 (by decide) (by decide)) (fun k w => by rw [Ll_83, e8]; exact nr_83 w) (fun n j hn h9 hj => ?_))
    have wj := wp_n h.1 hn hj
    have rf : aRef (yLi a o i t) n (Int32.ofNat j) = aRef (ma_u a 71 (a 130 o.toNatClampNeg + 1 + i).toNatClampNeg (aNm a t)) n (Int32.ofNat j) := by
      rw [← e]
      exact rf_cg (Ll_o (by omega)) (Ll_o (by decide)) (Ll_o (by decide))
    rw [rf_w h.1 wp wj.1] at rf
    by_cases z : n = o.toNatClampNeg ∧ Int32.ofNat j = i
    · refine Or.inr (fun g => ?_)
      rw [if_pos z, if_pos (show a (1000 + o.toNatClampNeg) i.toNatClampNeg ≠ 0 from w.2.2.2)] at rf
      unfold gRw at g
      rw [rf, r 126 (by decide) (by decide), r 87 (by decide) (by decide), r 130 (by decide) (by decide)] at g
      have ht : aNm a t = t := by
        unfold aNm at g ⊢
        split
        · rfl
        · rename_i q
          rw [if_neg q] at g
          exact absurd g.1 (by decide)
      rw [ht] at g
      have ej : (j : Int) = i.toInt := by rw [← z.2]; exact wj.2.symm
      have cx := cx_lt (Av_0 h) hn h9 hj
      have c12 := (Av_0 h).2.2.1.2.2.2.2
      rw [Ll_83, e8]
      unfold gNr
      rw [← z.1, ← ej, if_pos ⟨⟨g.1, g.2.1, g.2.2.1, g.2.2.2⟩, h9, by omega, cx.2⟩, xu_s]
      decide
    · rw [if_neg z] at rf
      exact Or.inl rf
  · have e : oLi a o i t = a := qIf_n w
    have e8 : yNl a o i t = a := qIf_n w
    have ey : yLi a o i t = a := funext (fun c => by
      by_cases q : c = 83
      · rw [q, Ll_83, e8]
      · rw [Ll_o q, e])
    rw [ey]
    exact h
/-- a hold of an OLD one -/
theorem Av_133 (h : qAv a) (ho : (a 130 n).toInt < (a 87 9).toInt) : qAv (ma_u a 133 n x) := by
  have hI : qI (ma_u a 133 n x) := I_u h.1 (Or.inr (Or.inr (Or.inl rfl)))
  have h0 := Av_0 h
  refine Av_mk ?_ (Di_cg (Av_di h) (un (by decide)) (un (by decide)) (un (by decide)) (un (by decide)) (fun k w => by rw [un (by decide)]; exact w) (fun n i _ _ _ => Or.inl (rf_cg (un (by omega)) (un (by decide)) (un (by decide)))))
  refine ⟨hI, ?_, ?_, ?_, ?_, ?_, fun m hm => ?_⟩
  · rw [un (by decide)]; exact h0.2.1
  · rw [un (by decide)]; exact h0.2.2.1
  · rw [un (by decide)]; exact h0.2.2.2.1
  · rw [un (n := 87) (by decide), Sy_cg (d := ma_u a 133 n x) (c := a) (un (by decide)) (un (by decide)) (un (by decide)) (un (by decide))]; exact h0.2.2.2.2.1
  · rw [un (by decide)]; exact h0.2.2.2.2.2.1
  · have hm2 : xAl a m := by
      unfold xAl at hm ⊢
      rw [un (by decide)] at hm
      exact hm
    have q := h0.2.2.2.2.2.2 m hm2
    unfold qA1 at q ⊢
    rw [un (n := 131) (by decide), un (n := 130) (by decide), un (n := 128) (by decide), un (n := 87) (by decide)]
    by_cases w : m = n
    · rw [w] at q ⊢
      exact ⟨q.1, q.2.1, fun z => absurd z (by omega)⟩
    · rw [xu_o (fun z => w z.2)]
      exact q
theorem Av_ho (h : qAv a) : qAv (yHo a o x) := by
  unfold yHo
  by_cases w : (a 130 o.toNatClampNeg).toInt < (a 87 9).toInt
  · rw [qIf_y w]
    unfold xHo
    by_cases z : zRq a o ∧ (¬ x = 0 ∨ ¬ a 133 o.toNatClampNeg = 0)
    · rw [qIf_y z]
      exact Av_133 h w
    · rw [qIf_n z]
      exact h
  · rw [qIf_n w]
    exact h
/-! the collectors' own heaps behind a call -/
theorem aS_z (h : c ≠ 87) (h1 : 78 ≤ c) (h2 : c < 126) : aS 75 S c k = 0 := by
  unfold aS aF
  rw [if_pos h2, if_neg (fun z => ?_)]
  simp only [zrl, Bool.or_eq_true, Bool.and_eq_true, decide_eq_true_eq] at z
  omega
theorem M_kp2 {q q₉ : Nat → Int32} (hx : zAy X Y (aM q S)) (hs : aS 88 S₉ = Y) (e : q₉ = q) : zOf X (aM q₉ S₉) := M_kp hx hs e (fun k c h h1 h2 => by rw [aS_z h (by omega) (by omega), aS_z h (by omega) (by omega)])
theorem G_kp (hx : zAy X Y (aG S)) (hs : aS 88 S₉ = Y) (e : mI S₉ 82 = mI S 82) (e3 : mI S₉ 83 = mI S 83) : zOf X (aG S₉) := fun c k h1 h2 h3 => by
  by_cases w : 82 ≤ c ∧ c ≤ 93
  · rw [hx.2 c k w.1 w.2]
    by_cases v : c = 87
    · rw [v, aG_7, aG_7]
      unfold zfG
      rw [e]
    · by_cases u : c = 83
      · rw [u, aG_8, aG_8, e3]
      · rw [aG_o v u, aG_o v u, aS_z v (by omega) (by omega), aS_z v (by omega) (by omega)]
  · rw [hx.1 c k h1 h2 h3 w, ← hs]
    exact (G_88 c k h1 h2 h3 w).symm
theorem G_kl (hx : zAy X Y (aG S)) (hs : aS 88 S₉ = Y) (e : mI S₉ 82 = mI S 82) (f : Nat → Int32) (e3 : mI S₉ 83 = f) : zOf (fun c => if c = 83 then f else X c) (aG S₉) := fun c k h1 h2 h3 => by
  by_cases u : c = 83
  · rw [u, aG_8, e3]
    rfl
  show (if c = 83 then f else X c) k = _
  rw [if_neg u]
  by_cases w : 82 ≤ c ∧ c ≤ 93
  · rw [hx.2 c k w.1 w.2]
    by_cases v : c = 87
    · rw [v, aG_7, aG_7]
      unfold zfG
      rw [e]
    · rw [aG_o v u, aG_o v u, aS_z v (by omega) (by omega), aS_z v (by omega) (by omega)]
  · rw [hx.1 c k h1 h2 h3 w, ← hs]
    exact (G_88 c k h1 h2 h3 w).symm
/-- row 93 is no matter -/
def zX93 (X : Nat → Nat → Int32) (f : Nat → Int32) : Nat → Nat → Int32 := fun c => if c = 93 then f else X c
theorem Z_kp (hx : zAy X Y (aZ S)) (hs : aS 88 S₉ = Y) (e : mI S₉ 91 = mI S 91) (e2 : mI S₉ 92 = mI S 92) : zOf (zX93 X (mI S₉ 93)) (aZ S₉) := fun c k h1 h2 h3 => by
  by_cases u : c = 93
  · rw [u, aZ_9 (Or.inr rfl)]
    rfl
  show (if c = 93 then mI S₉ 93 else X c) k = _
  rw [if_neg u]
  by_cases w : 82 ≤ c ∧ c ≤ 93
  · rw [hx.2 c k w.1 w.2]
    by_cases v : c = 87
    · rw [v, aZ_7, aZ_7]
      unfold zfZ
      rw [e]
    · by_cases u2 : c = 92
      · rw [u2, aZ_9 (Or.inl rfl), aZ_9 (Or.inl rfl), e2]
      · rw [aZ_o v u2 u, aZ_o v u2 u, aS_z v (by omega) (by omega), aS_z v (by omega) (by omega)]
  · rw [hx.1 c k h1 h2 h3 w, ← hs]
    exact (Z_88 c k h1 h2 h3 w).symm
theorem X93 (h : c ≠ 93) {f : Nat → Int32} : zX93 X f c = X c := if_neg h
theorem I_93 {f : Nat → Int32} (h : qI X) : qI (zX93 X f) := I_cg h (X93 (by decide)) (X93 (by decide)) (X93 (by decide)) (X93 (by decide)) (X93 (by decide)) (X93 (by decide)) (fun n => X93 (by omega))
theorem Rv_93 {f : Nat → Int32} (h : qRv X) : qRv (zX93 X f) := Rv_cg h (X93 (by decide)) (X93 (by decide)) (X93 (by decide)) (X93 (by decide)) (X93 (by decide)) (I_93 h.1)
theorem RL_93 {f : Nat → Int32} (h : qRL X si rg sh pr tp) : qRL (zX93 X f) si rg sh pr tp := RL_cg h (X93 (by decide)) (X93 (by decide))
theorem RB_93 {f : Nat → Int32} (h : qRB us nr kr kd ws at₉ ho wd wi ow rt wk wl wm nu ro fo le ra pi X) : qRB us nr kr kd ws at₉ ho wd wi ow rt wk wl wm nu ro fo le ra pi (zX93 X f) := by
  have rf : ∀ n i, aRef (zX93 X f) n i = aRef X n i := fun n i => rf_cg (X93 (by omega)) (X93 (by decide)) (X93 (by decide))
  obtain ⟨h1, h2, h3, h4, h5, h6, h7, h8⟩ := h
  refine ⟨?_, fun s hs hu i hi => ?_, ?_, ?_, ?_, ?_, h7, ?_⟩
  · unfold qR1 at h1 ⊢
    rw [X93 (c := 126) (by decide), X93 (c := 128) (by decide), X93 (c := 130) (by decide), X93 (c := 133) (by decide)]
    exact h1
  · rw [rf, X93 (c := 1000 + (nr s).toNatClampNeg) (by omega)]
    exact h2 s hs hu i hi
  · unfold qR3 at h3 ⊢
    rw [X93 (c := 72) (by decide)]
    exact h3
  · unfold qR3 at h4 ⊢
    rw [X93 (c := 73) (by decide)]
    exact h4
  · unfold qR5 at h5 ⊢
    rw [X93 (c := 69) (by decide), X93 (c := 74) (by decide)]
    exact h5
  · unfold qR6 at h6 ⊢
    rw [X93 (c := 134) (by decide)]
    exact h6
  · unfold qR8 at h8 ⊢
    rw [X93 (c := 69) (by decide), X93 (c := 87) (by decide)]
    exact h8
end F41

/-! from 95.y08 -/
/-! the reference opens a heap (written by wip/tools/gen15w.py) -/
/-! two things told of one run -/
/-- the reference answered: what holds of the answer and of its ints -/
def zRj (S : ma_S) (F : Int32 → (Nat → Nat → Int32) → Prop) : Option ma_V ⊕ Nat → ma_S → Prop := fun o S₉ => ∃ v m₉, o = .inl (some (.inl v)) ∧ S₉ = zst S m₉ ∧ F v m₉
section F42
variable {X : Nat × (Nat → Int32)} {d w M pc : Nat} {L : ma_L} {st : List ma_V} {S : ma_S} {Q Q₉ : Option ma_V ⊕ Nat → ma_S → Prop} {F G : Int32 → (Nat → Nat → Int32) → Prop}
theorem ma_wp_and (h1 : ma_wp X d w M pc L st S Q) (h2 : ma_wp X d w M pc L st S Q₉) : ma_wp X d w M pc L st S (fun o S₉ => Q o S₉ ∧ Q₉ o S₉) := by
  obtain ⟨f, o, S1, e, q⟩ := h1
  obtain ⟨g, o₉, S2, e₉, q₉⟩ := h2
  have a := ma_run_le (Nat.le_max_left f g) e
  have b := ma_run_le (Nat.le_max_right f g) e₉
  have c := Prod.mk.inj (Option.some.inj (a.symm.trans b))
  rw [← c.1, ← c.2] at q₉
  exact ⟨_, _, _, a, q, q₉⟩
theorem wp_mn (h : ma_wp X d w M pc L st S Q) (k : ∀ o S₉, Q o S₉ → Q₉ o S₉) : ma_wp X d w M pc L st S Q₉ := by
  obtain ⟨f, o, S1, e, q⟩ := h
  exact ⟨f, o, S1, e, k _ _ q⟩
theorem Rj_i (v : Int32) (m₉ : Nat → Nat → Int32) (h : F v m₉) : zRj S F (.inl (some (.inl v))) (zst S m₉) := ⟨v, m₉, rfl, rfl, h⟩
theorem Rj_and (h1 : ma_wp X d w M pc L st S (zRj S F)) (h2 : ma_wp X d w M pc L st S (zRj S G)) (K : ∀ v m₉, F v m₉ → G v m₉ → Q (.inl (some (.inl v))) (zst S m₉)) : ma_wp X d w M pc L st S Q := by
  refine wp_mn (ma_wp_and h1 h2) (fun o S₉ h => ?_)
  obtain ⟨⟨v, m₉, e1, e2, f⟩, v2, m2, e3, e4, g⟩ := h
  have ev : v = v2 := Sum.inl.inj (Option.some.inj (Sum.inl.inj (e1.symm.trans e3)))
  have em : m₉ = m2 := congrArg mI (e2.symm.trans e4)
  rw [← ev, ← em] at g
  rw [e1, e2]
  exact K v m₉ f g
end F42

/-! from 95.z00 -/
/-! what holds of the reference under each moving collector, against a heap by numbers -/
def zN1 (m aa : Nat → Nat → Int32) : Prop := (qRB (m 99) (m 100) (m 98) (m 101) (m 102) (m 103) (m 107) (m 108) (m 109) (m 111) (m 112) (m 113) (m 114) (m 94 55) (m 94 46) (m 94 11) 0 (m 94 59) 0 1 aa) ∧ (qI aa) ∧ (qTp aa) ∧ (aa 87 8 = (m 94 58)) ∧ ((m 94 45).toInt = sm (zbU (m 99)) (m 102) 3100) ∧ ((m 94 58).toInt = 0)
def zN2 (m aa : Nat → Nat → Int32) : Prop := (qRB (m 99) (m 100) (m 98) (m 101) (m 102) (m 103) (m 107) (m 108) (m 109) (m 111) (m 112) (m 113) (m 114) (m 94 55) (m 94 46) (aa 87 0) 0 0 0 1 aa) ∧ (qHv aa) ∧ (qHL aa (m 94 11) (m 94 61) (m 94 59)) ∧ (aa 87 8 = (m 94 58)) ∧ ((m 94 45).toInt = sm (zbU (m 99)) (m 102) 3100) ∧ ((m 94 58).toInt = 0)
def zN3 (m aa : Nat → Nat → Int32) : Prop := (qRB (m 99) (m 100) (m 98) (m 101) (m 102) (m 103) (m 107) (m 108) (m 109) (m 111) (m 112) (m 113) (m 114) (m 94 55) (m 94 46) (aa 87 0) 0 0 0 1 aa) ∧ (qAv aa) ∧ (qAL aa (m 94 13) (m 94 14) (m 94 15) (m 94 16) (m 94 59) (m 94 60) (m 94 61)) ∧ (qAg (m 99) (m 100) (m 104) aa) ∧ (qDt (m 117) aa) ∧ (aa 87 8 = (m 94 58)) ∧ ((m 94 45).toInt = sm (zbU (m 99)) (m 102) 3100) ∧ ((m 94 58).toInt = 0)
def zN6 (m aa : Nat → Nat → Int32) : Prop := (qRB (m 99) (m 100) (m 98) (m 101) (m 102) (m 103) (m 107) (m 108) (m 109) (m 111) (m 112) (m 113) (m 114) (m 94 55) (m 94 46) (aa 87 0) 0 0 0 1 aa) ∧ (qRv aa) ∧ (qRL aa (m 94 18) (m 94 64) (m 94 19) (m 94 63) (m 116)) ∧ (aa 87 8 = (m 94 58)) ∧ ((m 94 45).toInt = sm (zbU (m 99)) (m 102) 3100) ∧ ((m 94 58).toInt = 0)

/-! from 95.z01 -/
/-! the reference's calls under the moving collectors, put together -/
section F43
variable {a b d X Y : Nat → Nat → Int32} {us nr kr kd ws at₉ ho wd wi ow rt wk wl : Nat → Int32} {wm nu ro fo le ra pi x y z i o t r : Int32} {n k c : Nat}
theorem RB_87o (h : qRB us nr kr kd ws at₉ ho wd wi ow rt wk wl wm nu ro fo le ra pi a) : qRB us nr kr kd ws at₉ ho wd wi ow rt wk wl wm nu (a 87 0) fo le ra pi a := by
  have e : a 87 0 = ro := h.2.2.2.2.2.2.2.2.1
  rw [e]
  exact h
theorem If_r {Q : Prop} {a₉ : Nat → Nat → Int32} (h : a₉ c = a c) : qIf Q a₉ a c = a c := by
  by_cases w : Q
  · rw [qIf_y w]
    exact h
  · rw [qIf_n w]
theorem we_71 : xWe a i o 71 = a 71 := If_r (un (by decide))
theorem wi_71 : xWi a o 71 = a 71 := If_r (un (by decide))
theorem ro_71 : oRo a i o 71 = a 71 := If_r (un (by decide))
theorem sg_71 : oSg a i r 71 = a 71 := If_r (un (by decide))
theorem gr_71 : oGr a r 71 = a 71 := funext (fun _ => gr_c (by decide) (by decide) (by decide))
theorem Ho_r (h : c ≠ 133) : xHo a o x c = a c := If_r (un h)
theorem yHo_r (h : c ≠ 133) : yHo a o x c = a c := If_r (Ho_r h)
theorem li_r (h : c ≠ 71) : oLi a o i t c = a c := If_r (funext (fun _ => ci_9 h))
theorem yli_r (h : c ≠ 71) (h2 : c ≠ 83) : yLi a o i t c = a c := (Ll_o h2).trans (li_r h)
end F43

/-! from 95.z02 -/
/-! the reference's calls under the moving collectors (written by wip/tools/gen15b.py) -/
theorem n1_244 {X : Nat × (Nat → Int32)} {d w T : Nat} {S : ma_S} {aa : Nat → Nat → Int32} (ob : Int32) (ix : Int32) (va : Int32) (hd : 5 ≤ d) (hw : 109 ≤ w) (hT : zT S) (hV : zV (mI S)) (ht : T + 1 ≤ 512) (r_W : zW (mI S 94 7) (mI S 98) (mI S 101) (mI S 102) (mI S 108)) (r_GW : zGW T (mI S 94 55) (mI S 109)) (r_GU : zGU T (mI S 94 46) (mI S 99)) (r_OW : zOw (mI S 99) (mI S 103) (mI S 111)) (r_GG : zGG (mI S 94 58) (mI S 94 56) (mI S 94 57) (mI S 106)) (h8 : (mI S 94 8).toInt = 1) (hp : (mI S 94 10).toInt = 1) (hz : zN1 (mI S) aa)  : ma_wp X d w 244 0 [(0, .inr (.inr (some 94))), (1, .inl ob), (2, .inl ix), (3, .inl va)] [] S (zRj S (fun _ m₉ => zN1 m₉ (xPu aa ob ix va))) := by
  obtain ⟨r_RB, r_QI, r_TP, r_MK, r_WTS, h58⟩ := hz
  exact sp_244rm (P := fun o m₉ => zRj S (fun _ m₉ => zN1 m₉ (xPu aa ob ix va)) (.inl o) (zst S m₉)) (T := T) (aa := aa) (ro := (mI S 94 11)) (fo := 0) (le := (mI S 94 59)) (ra := 0) (pi := 1) ob ix va hV (by omega) r_W r_GW r_GU r_OW r_GG (by omega) (by omega) r_RB r_QI (fun z => absurd h58 z) r_MK r_WTS (fun v m₉ hV₉ q0 q1 q2 q3 q4 q5 q6 q7 q8 q9 => Rj_i v (zov wr_244 (mI S) m₉) ⟨q5, q6, (Tp_rw r_TP Rw_pu), q8, q9, h58⟩) d w S _ hd hw hT rfl (fun _ _ z => z)
theorem n2_244 {X : Nat × (Nat → Int32)} {d w T : Nat} {S : ma_S} {aa : Nat → Nat → Int32} (ob : Int32) (ix : Int32) (va : Int32) (hd : 5 ≤ d) (hw : 109 ≤ w) (hT : zT S) (hV : zV (mI S)) (ht : T + 1 ≤ 512) (r_W : zW (mI S 94 7) (mI S 98) (mI S 101) (mI S 102) (mI S 108)) (r_GW : zGW T (mI S 94 55) (mI S 109)) (r_GU : zGU T (mI S 94 46) (mI S 99)) (r_OW : zOw (mI S 99) (mI S 103) (mI S 111)) (r_GG : zGG (mI S 94 58) (mI S 94 56) (mI S 94 57) (mI S 106)) (h8 : (mI S 94 8).toInt = 1) (hp : (mI S 94 10).toInt = 2) (hz : zN2 (mI S) aa)  : ma_wp X d w 244 0 [(0, .inr (.inr (some 94))), (1, .inl ob), (2, .inl ix), (3, .inl va)] [] S (zRj S (fun _ m₉ => zN2 m₉ (xPu aa ob ix va))) := by
  obtain ⟨r_RB, r_HV, r_HL, r_MK, r_WTS, h58⟩ := hz
  exact sp_244rm (P := fun o m₉ => zRj S (fun _ m₉ => zN2 m₉ (xPu aa ob ix va)) (.inl o) (zst S m₉)) (T := T) (aa := aa) (ro := (aa 87 0)) (fo := 0) (le := 0) (ra := 0) (pi := 1) ob ix va hV (by omega) r_W r_GW r_GU r_OW r_GG (by omega) (by omega) r_RB r_HV.1 (fun z => absurd h58 z) r_MK r_WTS (fun v m₉ hV₉ q0 q1 q2 q3 q4 q5 q6 q7 q8 q9 => Rj_i v (zov wr_244 (mI S) m₉) ⟨(RB_87o q5), (Hv_rw r_HV Rw_pu q6), (HL_rw r_HL Rw_pu), q8, q9, h58⟩) d w S _ hd hw hT rfl (fun _ _ z => z)
theorem n3_244 {X : Nat × (Nat → Int32)} {d w T : Nat} {S : ma_S} {aa : Nat → Nat → Int32} (ob : Int32) (ix : Int32) (va : Int32) (hd : 5 ≤ d) (hw : 109 ≤ w) (hT : zT S) (hV : zV (mI S)) (ht : T + 1 ≤ 512) (r_W : zW (mI S 94 7) (mI S 98) (mI S 101) (mI S 102) (mI S 108)) (r_GW : zGW T (mI S 94 55) (mI S 109)) (r_GU : zGU T (mI S 94 46) (mI S 99)) (r_OW : zOw (mI S 99) (mI S 103) (mI S 111)) (r_GG : zGG (mI S 94 58) (mI S 94 56) (mI S 94 57) (mI S 106)) (h8 : (mI S 94 8).toInt = 1) (hp : (mI S 94 10).toInt = 3) (hz : zN3 (mI S) aa)  : ma_wp X d w 244 0 [(0, .inr (.inr (some 94))), (1, .inl ob), (2, .inl ix), (3, .inl va)] [] S (zRj S (fun _ m₉ => zN3 m₉ (xPu aa ob ix va))) := by
  obtain ⟨r_RB, r_AV, r_AL, r_AGq, r_DT, r_MK, r_WTS, h58⟩ := hz
  have c43 : 4 ≤ (mI S 94 16).toInt := by
    rw [← r_AL.1.2.2.2]
    exact r_AV.2.2.1.2.2.2.2
  exact sp_244rm (P := fun o m₉ => zRj S (fun _ m₉ => zN3 m₉ (xPu aa ob ix va)) (.inl o) (zst S m₉)) (T := T) (aa := aa) (ro := (aa 87 0)) (fo := 0) (le := 0) (ra := 0) (pi := 1) ob ix va hV (by omega) r_W r_GW r_GU r_OW r_GG (by omega) (by omega) r_RB r_AV.1 (fun z => absurd h58 z) r_MK r_WTS (fun v m₉ hV₉ q0 q1 q2 q3 q4 q5 q6 q7 q8 q9 => Rj_i v (zov wr_244 (mI S) m₉) ⟨(RB_87o q5), (Av_pu r_AV q6), (AL_rw r_AL Rw_pu), (Ag_rw r_AGq Rw_pu), (Dt_rw r_DT Rw_pu), q8, q9, h58⟩) d w S _ hd hw hT rfl (fun _ _ z => z)
theorem n6_244 {X : Nat × (Nat → Int32)} {d w T : Nat} {S : ma_S} {aa : Nat → Nat → Int32} (ob : Int32) (ix : Int32) (va : Int32) (hd : 5 ≤ d) (hw : 109 ≤ w) (hT : zT S) (hV : zV (mI S)) (ht : T + 1 ≤ 512) (r_W : zW (mI S 94 7) (mI S 98) (mI S 101) (mI S 102) (mI S 108)) (r_GW : zGW T (mI S 94 55) (mI S 109)) (r_GU : zGU T (mI S 94 46) (mI S 99)) (r_OW : zOw (mI S 99) (mI S 103) (mI S 111)) (r_GG : zGG (mI S 94 58) (mI S 94 56) (mI S 94 57) (mI S 106)) (h8 : (mI S 94 8).toInt = 1) (hp : (mI S 94 10).toInt = 6) (hz : zN6 (mI S) aa)  : ma_wp X d w 244 0 [(0, .inr (.inr (some 94))), (1, .inl ob), (2, .inl ix), (3, .inl va)] [] S (zRj S (fun _ m₉ => zN6 m₉ (xPu aa ob ix va))) := by
  obtain ⟨r_RB, r_RV, r_RL, r_MK, r_WTS, h58⟩ := hz
  exact sp_244rm (P := fun o m₉ => zRj S (fun _ m₉ => zN6 m₉ (xPu aa ob ix va)) (.inl o) (zst S m₉)) (T := T) (aa := aa) (ro := (aa 87 0)) (fo := 0) (le := 0) (ra := 0) (pi := 1) ob ix va hV (by omega) r_W r_GW r_GU r_OW r_GG (by omega) (by omega) r_RB r_RV.1 (fun z => absurd h58 z) r_MK r_WTS (fun v m₉ hV₉ q0 q1 q2 q3 q4 q5 q6 q7 q8 q9 => Rj_i v (zov wr_244 (mI S) m₉) ⟨(RB_87o q5), (Rv_rw r_RV Rw_pu q6), (RL_rw r_RL Rw_pu), q8, q9, h58⟩) d w S _ hd hw hT rfl (fun _ _ z => z)
theorem n1_251 {X : Nat × (Nat → Int32)} {d w T : Nat} {S : ma_S} {aa : Nat → Nat → Int32} (ix : Int32) (ob : Int32) (hd : 5 ≤ d) (hw : 109 ≤ w) (hT : zT S) (hV : zV (mI S)) (ht : T + 1 ≤ 512) (r_W : zW (mI S 94 7) (mI S 98) (mI S 101) (mI S 102) (mI S 108)) (r_GW : zGW T (mI S 94 55) (mI S 109)) (r_GU : zGU T (mI S 94 46) (mI S 99)) (r_OW : zOw (mI S 99) (mI S 103) (mI S 111)) (r_GG : zGG (mI S 94 58) (mI S 94 56) (mI S 94 57) (mI S 106)) (h8 : (mI S 94 8).toInt = 1) (hp : (mI S 94 10).toInt = 1) (hz : zN1 (mI S) aa)  : ma_wp X d w 251 0 [(0, .inr (.inr (some 94))), (1, .inl ix), (2, .inl ob)] [] S (zRj S (fun _ m₉ => zN1 m₉ (xWe aa ix ob))) := by
  obtain ⟨r_RB, r_QI, r_TP, r_MK, r_WTS, h58⟩ := hz
  exact sp_251rm (P := fun o m₉ => zRj S (fun _ m₉ => zN1 m₉ (xWe aa ix ob)) (.inl o) (zst S m₉)) (T := T) (aa := aa) (ro := (mI S 94 11)) (fo := 0) (le := (mI S 94 59)) (ra := 0) (pi := 1) ix ob hV (by omega) r_W r_GW r_GU r_OW r_GG (by omega) (by omega) r_RB r_QI (fun z => absurd h58 z) r_MK r_WTS (fun v m₉ hV₉ q0 q1 q2 q3 q4 q5 q6 q7 q8 q9 => Rj_i v (zov wr_251 (mI S) m₉) ⟨q5, q6, (Tp_rw r_TP Rw_we), q8, q9, h58⟩) d w S _ hd hw hT rfl (fun _ _ z => z)
theorem n2_251 {X : Nat × (Nat → Int32)} {d w T : Nat} {S : ma_S} {aa : Nat → Nat → Int32} (ix : Int32) (ob : Int32) (hd : 5 ≤ d) (hw : 109 ≤ w) (hT : zT S) (hV : zV (mI S)) (ht : T + 1 ≤ 512) (r_W : zW (mI S 94 7) (mI S 98) (mI S 101) (mI S 102) (mI S 108)) (r_GW : zGW T (mI S 94 55) (mI S 109)) (r_GU : zGU T (mI S 94 46) (mI S 99)) (r_OW : zOw (mI S 99) (mI S 103) (mI S 111)) (r_GG : zGG (mI S 94 58) (mI S 94 56) (mI S 94 57) (mI S 106)) (h8 : (mI S 94 8).toInt = 1) (hp : (mI S 94 10).toInt = 2) (hz : zN2 (mI S) aa)  : ma_wp X d w 251 0 [(0, .inr (.inr (some 94))), (1, .inl ix), (2, .inl ob)] [] S (zRj S (fun _ m₉ => zN2 m₉ (xWe aa ix ob))) := by
  obtain ⟨r_RB, r_HV, r_HL, r_MK, r_WTS, h58⟩ := hz
  exact sp_251rm (P := fun o m₉ => zRj S (fun _ m₉ => zN2 m₉ (xWe aa ix ob)) (.inl o) (zst S m₉)) (T := T) (aa := aa) (ro := (aa 87 0)) (fo := 0) (le := 0) (ra := 0) (pi := 1) ix ob hV (by omega) r_W r_GW r_GU r_OW r_GG (by omega) (by omega) r_RB r_HV.1 (fun z => absurd h58 z) r_MK r_WTS (fun v m₉ hV₉ q0 q1 q2 q3 q4 q5 q6 q7 q8 q9 => Rj_i v (zov wr_251 (mI S) m₉) ⟨(RB_87o q5), (Hv_rw r_HV Rw_we q6), (HL_rw r_HL Rw_we), q8, q9, h58⟩) d w S _ hd hw hT rfl (fun _ _ z => z)
theorem n3_251 {X : Nat × (Nat → Int32)} {d w T : Nat} {S : ma_S} {aa : Nat → Nat → Int32} (ix : Int32) (ob : Int32) (hd : 5 ≤ d) (hw : 109 ≤ w) (hT : zT S) (hV : zV (mI S)) (ht : T + 1 ≤ 512) (r_W : zW (mI S 94 7) (mI S 98) (mI S 101) (mI S 102) (mI S 108)) (r_GW : zGW T (mI S 94 55) (mI S 109)) (r_GU : zGU T (mI S 94 46) (mI S 99)) (r_OW : zOw (mI S 99) (mI S 103) (mI S 111)) (r_GG : zGG (mI S 94 58) (mI S 94 56) (mI S 94 57) (mI S 106)) (h8 : (mI S 94 8).toInt = 1) (hp : (mI S 94 10).toInt = 3) (hz : zN3 (mI S) aa)  : ma_wp X d w 251 0 [(0, .inr (.inr (some 94))), (1, .inl ix), (2, .inl ob)] [] S (zRj S (fun _ m₉ => zN3 m₉ (xWe aa ix ob))) := by
  obtain ⟨r_RB, r_AV, r_AL, r_AGq, r_DT, r_MK, r_WTS, h58⟩ := hz
  have c43 : 4 ≤ (mI S 94 16).toInt := by
    rw [← r_AL.1.2.2.2]
    exact r_AV.2.2.1.2.2.2.2
  exact sp_251rm (P := fun o m₉ => zRj S (fun _ m₉ => zN3 m₉ (xWe aa ix ob)) (.inl o) (zst S m₉)) (T := T) (aa := aa) (ro := (aa 87 0)) (fo := 0) (le := 0) (ra := 0) (pi := 1) ix ob hV (by omega) r_W r_GW r_GU r_OW r_GG (by omega) (by omega) r_RB r_AV.1 (fun z => absurd h58 z) r_MK r_WTS (fun v m₉ hV₉ q0 q1 q2 q3 q4 q5 q6 q7 q8 q9 => Rj_i v (zov wr_251 (mI S) m₉) ⟨(RB_87o q5), (Av_rw r_AV Rw_we q6 we_71), (AL_rw r_AL Rw_we), (Ag_rw r_AGq Rw_we), (Dt_rw r_DT Rw_we), q8, q9, h58⟩) d w S _ hd hw hT rfl (fun _ _ z => z)
theorem n6_251 {X : Nat × (Nat → Int32)} {d w T : Nat} {S : ma_S} {aa : Nat → Nat → Int32} (ix : Int32) (ob : Int32) (hd : 5 ≤ d) (hw : 109 ≤ w) (hT : zT S) (hV : zV (mI S)) (ht : T + 1 ≤ 512) (r_W : zW (mI S 94 7) (mI S 98) (mI S 101) (mI S 102) (mI S 108)) (r_GW : zGW T (mI S 94 55) (mI S 109)) (r_GU : zGU T (mI S 94 46) (mI S 99)) (r_OW : zOw (mI S 99) (mI S 103) (mI S 111)) (r_GG : zGG (mI S 94 58) (mI S 94 56) (mI S 94 57) (mI S 106)) (h8 : (mI S 94 8).toInt = 1) (hp : (mI S 94 10).toInt = 6) (hz : zN6 (mI S) aa)  : ma_wp X d w 251 0 [(0, .inr (.inr (some 94))), (1, .inl ix), (2, .inl ob)] [] S (zRj S (fun _ m₉ => zN6 m₉ (xWe aa ix ob))) := by
  obtain ⟨r_RB, r_RV, r_RL, r_MK, r_WTS, h58⟩ := hz
  exact sp_251rm (P := fun o m₉ => zRj S (fun _ m₉ => zN6 m₉ (xWe aa ix ob)) (.inl o) (zst S m₉)) (T := T) (aa := aa) (ro := (aa 87 0)) (fo := 0) (le := 0) (ra := 0) (pi := 1) ix ob hV (by omega) r_W r_GW r_GU r_OW r_GG (by omega) (by omega) r_RB r_RV.1 (fun z => absurd h58 z) r_MK r_WTS (fun v m₉ hV₉ q0 q1 q2 q3 q4 q5 q6 q7 q8 q9 => Rj_i v (zov wr_251 (mI S) m₉) ⟨(RB_87o q5), (Rv_rw r_RV Rw_we q6), (RL_rw r_RL Rw_we), q8, q9, h58⟩) d w S _ hd hw hT rfl (fun _ _ z => z)
theorem n1_254 {X : Nat × (Nat → Int32)} {d w T : Nat} {S : ma_S} {aa : Nat → Nat → Int32} (ob : Int32) (hd : 5 ≤ d) (hw : 109 ≤ w) (hT : zT S) (hV : zV (mI S)) (ht : T + 1 ≤ 512) (r_W : zW (mI S 94 7) (mI S 98) (mI S 101) (mI S 102) (mI S 108)) (r_GW : zGW T (mI S 94 55) (mI S 109)) (r_GU : zGU T (mI S 94 46) (mI S 99)) (r_OW : zOw (mI S 99) (mI S 103) (mI S 111)) (r_GG : zGG (mI S 94 58) (mI S 94 56) (mI S 94 57) (mI S 106)) (h8 : (mI S 94 8).toInt = 1) (hp : (mI S 94 10).toInt = 1) (hz : zN1 (mI S) aa)  : ma_wp X d w 254 0 [(0, .inr (.inr (some 94))), (1, .inl ob)] [] S (zRj S (fun _ m₉ => zN1 m₉ (xWi aa ob))) := by
  obtain ⟨r_RB, r_QI, r_TP, r_MK, r_WTS, h58⟩ := hz
  exact sp_254rm (P := fun o m₉ => zRj S (fun _ m₉ => zN1 m₉ (xWi aa ob)) (.inl o) (zst S m₉)) (T := T) (aa := aa) (ro := (mI S 94 11)) (fo := 0) (le := (mI S 94 59)) (ra := 0) (pi := 1) ob hV (by omega) (by omega) r_W r_GW r_GU r_OW r_GG (by omega) (by omega) r_RB r_QI (fun z => absurd h58 z) r_MK r_WTS (fun v m₉ hV₉ q0 q1 q2 q3 q4 q5 q6 q7 q8 q9 => Rj_i v (zov wr_254 (mI S) m₉) ⟨q5, q6, (Tp_rw r_TP Rw_wi), q8, q9, h58⟩) d w S _ hd hw hT rfl (fun _ _ z => z)
theorem n2_254 {X : Nat × (Nat → Int32)} {d w T : Nat} {S : ma_S} {aa : Nat → Nat → Int32} (ob : Int32) (hd : 5 ≤ d) (hw : 109 ≤ w) (hT : zT S) (hV : zV (mI S)) (ht : T + 1 ≤ 512) (r_W : zW (mI S 94 7) (mI S 98) (mI S 101) (mI S 102) (mI S 108)) (r_GW : zGW T (mI S 94 55) (mI S 109)) (r_GU : zGU T (mI S 94 46) (mI S 99)) (r_OW : zOw (mI S 99) (mI S 103) (mI S 111)) (r_GG : zGG (mI S 94 58) (mI S 94 56) (mI S 94 57) (mI S 106)) (h8 : (mI S 94 8).toInt = 1) (hp : (mI S 94 10).toInt = 2) (hz : zN2 (mI S) aa)  : ma_wp X d w 254 0 [(0, .inr (.inr (some 94))), (1, .inl ob)] [] S (zRj S (fun _ m₉ => zN2 m₉ (xWi aa ob))) := by
  obtain ⟨r_RB, r_HV, r_HL, r_MK, r_WTS, h58⟩ := hz
  exact sp_254rm (P := fun o m₉ => zRj S (fun _ m₉ => zN2 m₉ (xWi aa ob)) (.inl o) (zst S m₉)) (T := T) (aa := aa) (ro := (aa 87 0)) (fo := 0) (le := 0) (ra := 0) (pi := 1) ob hV (by omega) (by omega) r_W r_GW r_GU r_OW r_GG (by omega) (by omega) r_RB r_HV.1 (fun z => absurd h58 z) r_MK r_WTS (fun v m₉ hV₉ q0 q1 q2 q3 q4 q5 q6 q7 q8 q9 => Rj_i v (zov wr_254 (mI S) m₉) ⟨(RB_87o q5), (Hv_rw r_HV Rw_wi q6), (HL_rw r_HL Rw_wi), q8, q9, h58⟩) d w S _ hd hw hT rfl (fun _ _ z => z)
theorem n3_254 {X : Nat × (Nat → Int32)} {d w T : Nat} {S : ma_S} {aa : Nat → Nat → Int32} (ob : Int32) (hd : 5 ≤ d) (hw : 109 ≤ w) (hT : zT S) (hV : zV (mI S)) (ht : T + 1 ≤ 512) (r_W : zW (mI S 94 7) (mI S 98) (mI S 101) (mI S 102) (mI S 108)) (r_GW : zGW T (mI S 94 55) (mI S 109)) (r_GU : zGU T (mI S 94 46) (mI S 99)) (r_OW : zOw (mI S 99) (mI S 103) (mI S 111)) (r_GG : zGG (mI S 94 58) (mI S 94 56) (mI S 94 57) (mI S 106)) (h8 : (mI S 94 8).toInt = 1) (hp : (mI S 94 10).toInt = 3) (hz : zN3 (mI S) aa)  : ma_wp X d w 254 0 [(0, .inr (.inr (some 94))), (1, .inl ob)] [] S (zRj S (fun _ m₉ => zN3 m₉ (xWi aa ob))) := by
  obtain ⟨r_RB, r_AV, r_AL, r_AGq, r_DT, r_MK, r_WTS, h58⟩ := hz
  have c43 : 4 ≤ (mI S 94 16).toInt := by
    rw [← r_AL.1.2.2.2]
    exact r_AV.2.2.1.2.2.2.2
  exact sp_254rm (P := fun o m₉ => zRj S (fun _ m₉ => zN3 m₉ (xWi aa ob)) (.inl o) (zst S m₉)) (T := T) (aa := aa) (ro := (aa 87 0)) (fo := 0) (le := 0) (ra := 0) (pi := 1) ob hV (by omega) (by omega) r_W r_GW r_GU r_OW r_GG (by omega) (by omega) r_RB r_AV.1 (fun z => absurd h58 z) r_MK r_WTS (fun v m₉ hV₉ q0 q1 q2 q3 q4 q5 q6 q7 q8 q9 => Rj_i v (zov wr_254 (mI S) m₉) ⟨(RB_87o q5), (Av_rw r_AV Rw_wi q6 wi_71), (AL_rw r_AL Rw_wi), (Ag_rw r_AGq Rw_wi), (Dt_rw r_DT Rw_wi), q8, q9, h58⟩) d w S _ hd hw hT rfl (fun _ _ z => z)
theorem n6_254 {X : Nat × (Nat → Int32)} {d w T : Nat} {S : ma_S} {aa : Nat → Nat → Int32} (ob : Int32) (hd : 5 ≤ d) (hw : 109 ≤ w) (hT : zT S) (hV : zV (mI S)) (ht : T + 1 ≤ 512) (r_W : zW (mI S 94 7) (mI S 98) (mI S 101) (mI S 102) (mI S 108)) (r_GW : zGW T (mI S 94 55) (mI S 109)) (r_GU : zGU T (mI S 94 46) (mI S 99)) (r_OW : zOw (mI S 99) (mI S 103) (mI S 111)) (r_GG : zGG (mI S 94 58) (mI S 94 56) (mI S 94 57) (mI S 106)) (h8 : (mI S 94 8).toInt = 1) (hp : (mI S 94 10).toInt = 6) (hz : zN6 (mI S) aa)  : ma_wp X d w 254 0 [(0, .inr (.inr (some 94))), (1, .inl ob)] [] S (zRj S (fun _ m₉ => zN6 m₉ (xWi aa ob))) := by
  obtain ⟨r_RB, r_RV, r_RL, r_MK, r_WTS, h58⟩ := hz
  exact sp_254rm (P := fun o m₉ => zRj S (fun _ m₉ => zN6 m₉ (xWi aa ob)) (.inl o) (zst S m₉)) (T := T) (aa := aa) (ro := (aa 87 0)) (fo := 0) (le := 0) (ra := 0) (pi := 1) ob hV (by omega) (by omega) r_W r_GW r_GU r_OW r_GG (by omega) (by omega) r_RB r_RV.1 (fun z => absurd h58 z) r_MK r_WTS (fun v m₉ hV₉ q0 q1 q2 q3 q4 q5 q6 q7 q8 q9 => Rj_i v (zov wr_254 (mI S) m₉) ⟨(RB_87o q5), (Rv_rw r_RV Rw_wi q6), (RL_rw r_RL Rw_wi), q8, q9, h58⟩) d w S _ hd hw hT rfl (fun _ _ z => z)
theorem n1_250 {X : Nat × (Nat → Int32)} {d w T : Nat} {S : ma_S} {aa : Nat → Nat → Int32} (ix : Int32) (ob : Int32) (hd : 5 ≤ d) (hw : 111 ≤ w) (hT : zT S) (hV : zV (mI S)) (ht : T + 1 ≤ 512) (r_W : zW (mI S 94 7) (mI S 98) (mI S 101) (mI S 102) (mI S 108)) (r_GW : zGW T (mI S 94 55) (mI S 109)) (r_GU : zGU T (mI S 94 46) (mI S 99)) (r_OW : zOw (mI S 99) (mI S 103) (mI S 111)) (r_GG : zGG (mI S 94 58) (mI S 94 56) (mI S 94 57) (mI S 106)) (h8 : (mI S 94 8).toInt = 1) (hp : (mI S 94 10).toInt = 1) (hz : zN1 (mI S) aa)  : ma_wp X d w 250 0 [(0, .inr (.inr (some 94))), (1, .inl ix), (2, .inl ob)] [] S (zRj S (fun _ m₉ => zN1 m₉ (oRo aa ix ob))) := by
  obtain ⟨r_RB, r_QI, r_TP, r_MK, r_WTS, h58⟩ := hz
  have k8 : aa 87 8 = 0 := r_MK.trans (i_zer h58)
  have eF := Ro_o (i := ix) (o := ob) k8
  exact sp_250rm (P := fun o m₉ => zRj S (fun _ m₉ => zN1 m₉ (oRo aa ix ob)) (.inl o) (zst S m₉)) (T := T) (aa := aa) (ro := (mI S 94 11)) (fo := 0) (le := (mI S 94 59)) (ra := 0) (pi := 1) ix ob hV (by omega) r_W r_GW r_GU r_OW r_GG (by omega) (by omega) r_RB r_QI (fun z => absurd h58 z) r_MK r_WTS (fun v m₉ hV₉ q0 q1 q2 q3 q4 q5 q6 q7 q8 q9 => Rj_i v (zov wr_250 (mI S) m₉) ⟨(by rw [← eF]; exact q5), (by rw [← eF]; exact q6), (Tp_rw r_TP Rw_ro), (by rw [← eF]; exact q8), q9, h58⟩) d w S _ hd hw hT rfl (fun _ _ z => z)
theorem n2_250 {X : Nat × (Nat → Int32)} {d w T : Nat} {S : ma_S} {aa : Nat → Nat → Int32} (ix : Int32) (ob : Int32) (hd : 5 ≤ d) (hw : 111 ≤ w) (hT : zT S) (hV : zV (mI S)) (ht : T + 1 ≤ 512) (r_W : zW (mI S 94 7) (mI S 98) (mI S 101) (mI S 102) (mI S 108)) (r_GW : zGW T (mI S 94 55) (mI S 109)) (r_GU : zGU T (mI S 94 46) (mI S 99)) (r_OW : zOw (mI S 99) (mI S 103) (mI S 111)) (r_GG : zGG (mI S 94 58) (mI S 94 56) (mI S 94 57) (mI S 106)) (h8 : (mI S 94 8).toInt = 1) (hp : (mI S 94 10).toInt = 2) (hz : zN2 (mI S) aa)  : ma_wp X d w 250 0 [(0, .inr (.inr (some 94))), (1, .inl ix), (2, .inl ob)] [] S (zRj S (fun _ m₉ => zN2 m₉ (oRo aa ix ob))) := by
  obtain ⟨r_RB, r_HV, r_HL, r_MK, r_WTS, h58⟩ := hz
  have k8 : aa 87 8 = 0 := r_MK.trans (i_zer h58)
  have eF := Ro_o (i := ix) (o := ob) k8
  exact sp_250rm (P := fun o m₉ => zRj S (fun _ m₉ => zN2 m₉ (oRo aa ix ob)) (.inl o) (zst S m₉)) (T := T) (aa := aa) (ro := (aa 87 0)) (fo := 0) (le := 0) (ra := 0) (pi := 1) ix ob hV (by omega) r_W r_GW r_GU r_OW r_GG (by omega) (by omega) r_RB r_HV.1 (fun z => absurd h58 z) r_MK r_WTS (fun v m₉ hV₉ q0 q1 q2 q3 q4 q5 q6 q7 q8 q9 => Rj_i v (zov wr_250 (mI S) m₉) ⟨(by rw [← eF]; exact (RB_87o q5)), (Hv_rw r_HV Rw_ro (by rw [← eF]; exact q6)), (HL_rw r_HL Rw_ro), (by rw [← eF]; exact q8), q9, h58⟩) d w S _ hd hw hT rfl (fun _ _ z => z)
theorem n3_250 {X : Nat × (Nat → Int32)} {d w T : Nat} {S : ma_S} {aa : Nat → Nat → Int32} (ix : Int32) (ob : Int32) (hd : 5 ≤ d) (hw : 111 ≤ w) (hT : zT S) (hV : zV (mI S)) (ht : T + 1 ≤ 512) (r_W : zW (mI S 94 7) (mI S 98) (mI S 101) (mI S 102) (mI S 108)) (r_GW : zGW T (mI S 94 55) (mI S 109)) (r_GU : zGU T (mI S 94 46) (mI S 99)) (r_OW : zOw (mI S 99) (mI S 103) (mI S 111)) (r_GG : zGG (mI S 94 58) (mI S 94 56) (mI S 94 57) (mI S 106)) (h8 : (mI S 94 8).toInt = 1) (hp : (mI S 94 10).toInt = 3) (hz : zN3 (mI S) aa)  : ma_wp X d w 250 0 [(0, .inr (.inr (some 94))), (1, .inl ix), (2, .inl ob)] [] S (zRj S (fun _ m₉ => zN3 m₉ (oRo aa ix ob))) := by
  obtain ⟨r_RB, r_AV, r_AL, r_AGq, r_DT, r_MK, r_WTS, h58⟩ := hz
  have c43 : 4 ≤ (mI S 94 16).toInt := by
    rw [← r_AL.1.2.2.2]
    exact r_AV.2.2.1.2.2.2.2
  have k8 : aa 87 8 = 0 := r_MK.trans (i_zer h58)
  have eF := Ro_o (i := ix) (o := ob) k8
  exact sp_250ry (P := fun o m₉ => zRj S (fun _ m₉ => zN3 m₉ (oRo aa ix ob)) (.inl o) (zst S m₉)) (T := T) (aa := aa) (ro := (aa 87 0)) ix ob hV (by omega) r_W r_GW r_GU r_OW r_GG (by omega) (by omega) r_RB r_AV.1 (fun z => absurd h58 z) r_MK r_WTS (fun v m₉ hV₉ q0 q1 q2 q3 q4 q5 q6 q7 q8 q9 q10 => Rj_i v (zov wr_250 (mI S) m₉) ⟨(by rw [← eF]; exact (RB_87o q5)), (Av_rw r_AV Rw_ro (by rw [← eF]; exact q6) ro_71), (AL_rw r_AL Rw_ro), (Ag_us q10 (Ag_rw r_AGq Rw_ro)), (Dt_rw r_DT Rw_ro), (by rw [← eF]; exact q8), q9, h58⟩) d w S _ hd hw hT rfl (fun _ _ z => z)
theorem n6_250 {X : Nat × (Nat → Int32)} {d w T : Nat} {S : ma_S} {aa : Nat → Nat → Int32} (ix : Int32) (ob : Int32) (hd : 5 ≤ d) (hw : 111 ≤ w) (hT : zT S) (hV : zV (mI S)) (ht : T + 1 ≤ 512) (r_W : zW (mI S 94 7) (mI S 98) (mI S 101) (mI S 102) (mI S 108)) (r_GW : zGW T (mI S 94 55) (mI S 109)) (r_GU : zGU T (mI S 94 46) (mI S 99)) (r_OW : zOw (mI S 99) (mI S 103) (mI S 111)) (r_GG : zGG (mI S 94 58) (mI S 94 56) (mI S 94 57) (mI S 106)) (h8 : (mI S 94 8).toInt = 1) (hp : (mI S 94 10).toInt = 6) (hz : zN6 (mI S) aa)  : ma_wp X d w 250 0 [(0, .inr (.inr (some 94))), (1, .inl ix), (2, .inl ob)] [] S (zRj S (fun _ m₉ => zN6 m₉ (oRo aa ix ob))) := by
  obtain ⟨r_RB, r_RV, r_RL, r_MK, r_WTS, h58⟩ := hz
  have k8 : aa 87 8 = 0 := r_MK.trans (i_zer h58)
  have eF := Ro_o (i := ix) (o := ob) k8
  exact sp_250rm (P := fun o m₉ => zRj S (fun _ m₉ => zN6 m₉ (oRo aa ix ob)) (.inl o) (zst S m₉)) (T := T) (aa := aa) (ro := (aa 87 0)) (fo := 0) (le := 0) (ra := 0) (pi := 1) ix ob hV (by omega) r_W r_GW r_GU r_OW r_GG (by omega) (by omega) r_RB r_RV.1 (fun z => absurd h58 z) r_MK r_WTS (fun v m₉ hV₉ q0 q1 q2 q3 q4 q5 q6 q7 q8 q9 => Rj_i v (zov wr_250 (mI S) m₉) ⟨(by rw [← eF]; exact (RB_87o q5)), (Rv_rw r_RV Rw_ro (by rw [← eF]; exact q6)), (RL_rw r_RL Rw_ro), (by rw [← eF]; exact q8), q9, h58⟩) d w S _ hd hw hT rfl (fun _ _ z => z)
theorem n1_252 {X : Nat × (Nat → Int32)} {d w T : Nat} {S : ma_S} {aa : Nat → Nat → Int32} (ix : Int32) (r1 : Int32) (hd : 5 ≤ d) (hw : 111 ≤ w) (hT : zT S) (hV : zV (mI S)) (ht : T + 1 ≤ 512) (r_W : zW (mI S 94 7) (mI S 98) (mI S 101) (mI S 102) (mI S 108)) (r_GW : zGW T (mI S 94 55) (mI S 109)) (r_GU : zGU T (mI S 94 46) (mI S 99)) (r_OW : zOw (mI S 99) (mI S 103) (mI S 111)) (r_GG : zGG (mI S 94 58) (mI S 94 56) (mI S 94 57) (mI S 106)) (h8 : (mI S 94 8).toInt = 1) (hp : (mI S 94 10).toInt = 1) (hz : zN1 (mI S) aa)  : ma_wp X d w 252 0 [(0, .inr (.inr (some 94))), (1, .inl ix), (2, .inl r1)] [] S (zRj S (fun _ m₉ => zN1 m₉ (oSg aa ix r1))) := by
  obtain ⟨r_RB, r_QI, r_TP, r_MK, r_WTS, h58⟩ := hz
  have k8 : aa 87 8 = 0 := r_MK.trans (i_zer h58)
  have eF := Sg_o (i := ix) (r := r1) k8
  exact sp_252rm (P := fun o m₉ => zRj S (fun _ m₉ => zN1 m₉ (oSg aa ix r1)) (.inl o) (zst S m₉)) (T := T) (aa := aa) (ro := (mI S 94 11)) (fo := 0) (le := (mI S 94 59)) (ra := 0) (pi := 1) ix r1 hV (by omega) r_W r_GW r_GU r_OW r_GG (by omega) (by omega) r_RB r_QI (fun z => absurd h58 z) r_MK r_WTS (fun v m₉ hV₉ q0 q1 q2 q3 q4 q5 q6 q7 q8 q9 => Rj_i v (zov wr_252 (mI S) m₉) ⟨(by rw [← eF]; exact q5), (by rw [← eF]; exact q6), (Tp_rw r_TP Rw_sg), (by rw [← eF]; exact q8), q9, h58⟩) d w S _ hd hw hT rfl (fun _ _ z => z)
theorem n2_252 {X : Nat × (Nat → Int32)} {d w T : Nat} {S : ma_S} {aa : Nat → Nat → Int32} (ix : Int32) (r1 : Int32) (hd : 5 ≤ d) (hw : 111 ≤ w) (hT : zT S) (hV : zV (mI S)) (ht : T + 1 ≤ 512) (r_W : zW (mI S 94 7) (mI S 98) (mI S 101) (mI S 102) (mI S 108)) (r_GW : zGW T (mI S 94 55) (mI S 109)) (r_GU : zGU T (mI S 94 46) (mI S 99)) (r_OW : zOw (mI S 99) (mI S 103) (mI S 111)) (r_GG : zGG (mI S 94 58) (mI S 94 56) (mI S 94 57) (mI S 106)) (h8 : (mI S 94 8).toInt = 1) (hp : (mI S 94 10).toInt = 2) (hz : zN2 (mI S) aa)  : ma_wp X d w 252 0 [(0, .inr (.inr (some 94))), (1, .inl ix), (2, .inl r1)] [] S (zRj S (fun _ m₉ => zN2 m₉ (oSg aa ix r1))) := by
  obtain ⟨r_RB, r_HV, r_HL, r_MK, r_WTS, h58⟩ := hz
  have k8 : aa 87 8 = 0 := r_MK.trans (i_zer h58)
  have eF := Sg_o (i := ix) (r := r1) k8
  exact sp_252rm (P := fun o m₉ => zRj S (fun _ m₉ => zN2 m₉ (oSg aa ix r1)) (.inl o) (zst S m₉)) (T := T) (aa := aa) (ro := (aa 87 0)) (fo := 0) (le := 0) (ra := 0) (pi := 1) ix r1 hV (by omega) r_W r_GW r_GU r_OW r_GG (by omega) (by omega) r_RB r_HV.1 (fun z => absurd h58 z) r_MK r_WTS (fun v m₉ hV₉ q0 q1 q2 q3 q4 q5 q6 q7 q8 q9 => Rj_i v (zov wr_252 (mI S) m₉) ⟨(by rw [← eF]; exact (RB_87o q5)), (Hv_rw r_HV Rw_sg (by rw [← eF]; exact q6)), (HL_rw r_HL Rw_sg), (by rw [← eF]; exact q8), q9, h58⟩) d w S _ hd hw hT rfl (fun _ _ z => z)
theorem n3_252 {X : Nat × (Nat → Int32)} {d w T : Nat} {S : ma_S} {aa : Nat → Nat → Int32} (ix : Int32) (r1 : Int32) (hd : 5 ≤ d) (hw : 111 ≤ w) (hT : zT S) (hV : zV (mI S)) (ht : T + 1 ≤ 512) (r_W : zW (mI S 94 7) (mI S 98) (mI S 101) (mI S 102) (mI S 108)) (r_GW : zGW T (mI S 94 55) (mI S 109)) (r_GU : zGU T (mI S 94 46) (mI S 99)) (r_OW : zOw (mI S 99) (mI S 103) (mI S 111)) (r_GG : zGG (mI S 94 58) (mI S 94 56) (mI S 94 57) (mI S 106)) (h8 : (mI S 94 8).toInt = 1) (hp : (mI S 94 10).toInt = 3) (hz : zN3 (mI S) aa)  : ma_wp X d w 252 0 [(0, .inr (.inr (some 94))), (1, .inl ix), (2, .inl r1)] [] S (zRj S (fun _ m₉ => zN3 m₉ (oSg aa ix r1))) := by
  obtain ⟨r_RB, r_AV, r_AL, r_AGq, r_DT, r_MK, r_WTS, h58⟩ := hz
  have c43 : 4 ≤ (mI S 94 16).toInt := by
    rw [← r_AL.1.2.2.2]
    exact r_AV.2.2.1.2.2.2.2
  have k8 : aa 87 8 = 0 := r_MK.trans (i_zer h58)
  have eF := Sg_o (i := ix) (r := r1) k8
  exact sp_252ry (P := fun o m₉ => zRj S (fun _ m₉ => zN3 m₉ (oSg aa ix r1)) (.inl o) (zst S m₉)) (T := T) (aa := aa) (ro := (aa 87 0)) ix r1 hV (by omega) r_W r_GW r_GU r_OW r_GG (by omega) (by omega) r_RB r_AV.1 (fun z => absurd h58 z) r_MK r_WTS (fun v m₉ hV₉ q0 q1 q2 q3 q4 q5 q6 q7 q8 q9 q10 => Rj_i v (zov wr_252 (mI S) m₉) ⟨(by rw [← eF]; exact (RB_87o q5)), (Av_rw r_AV Rw_sg (by rw [← eF]; exact q6) sg_71), (AL_rw r_AL Rw_sg), (Ag_us q10 (Ag_rw r_AGq Rw_sg)), (Dt_rw r_DT Rw_sg), (by rw [← eF]; exact q8), q9, h58⟩) d w S _ hd hw hT rfl (fun _ _ z => z)
theorem n6_252 {X : Nat × (Nat → Int32)} {d w T : Nat} {S : ma_S} {aa : Nat → Nat → Int32} (ix : Int32) (r1 : Int32) (hd : 5 ≤ d) (hw : 111 ≤ w) (hT : zT S) (hV : zV (mI S)) (ht : T + 1 ≤ 512) (r_W : zW (mI S 94 7) (mI S 98) (mI S 101) (mI S 102) (mI S 108)) (r_GW : zGW T (mI S 94 55) (mI S 109)) (r_GU : zGU T (mI S 94 46) (mI S 99)) (r_OW : zOw (mI S 99) (mI S 103) (mI S 111)) (r_GG : zGG (mI S 94 58) (mI S 94 56) (mI S 94 57) (mI S 106)) (h8 : (mI S 94 8).toInt = 1) (hp : (mI S 94 10).toInt = 6) (hz : zN6 (mI S) aa)  : ma_wp X d w 252 0 [(0, .inr (.inr (some 94))), (1, .inl ix), (2, .inl r1)] [] S (zRj S (fun _ m₉ => zN6 m₉ (oSg aa ix r1))) := by
  obtain ⟨r_RB, r_RV, r_RL, r_MK, r_WTS, h58⟩ := hz
  have k8 : aa 87 8 = 0 := r_MK.trans (i_zer h58)
  have eF := Sg_o (i := ix) (r := r1) k8
  exact sp_252rm (P := fun o m₉ => zRj S (fun _ m₉ => zN6 m₉ (oSg aa ix r1)) (.inl o) (zst S m₉)) (T := T) (aa := aa) (ro := (aa 87 0)) (fo := 0) (le := 0) (ra := 0) (pi := 1) ix r1 hV (by omega) r_W r_GW r_GU r_OW r_GG (by omega) (by omega) r_RB r_RV.1 (fun z => absurd h58 z) r_MK r_WTS (fun v m₉ hV₉ q0 q1 q2 q3 q4 q5 q6 q7 q8 q9 => Rj_i v (zov wr_252 (mI S) m₉) ⟨(by rw [← eF]; exact (RB_87o q5)), (Rv_rw r_RV Rw_sg (by rw [← eF]; exact q6)), (RL_rw r_RL Rw_sg), (by rw [← eF]; exact q8), q9, h58⟩) d w S _ hd hw hT rfl (fun _ _ z => z)
theorem n1_255 {X : Nat × (Nat → Int32)} {d w T : Nat} {S : ma_S} {aa : Nat → Nat → Int32} (r1 : Int32) (hd : 5 ≤ d) (hw : 111 ≤ w) (hT : zT S) (hV : zV (mI S)) (ht : T + 1 ≤ 512) (r_W : zW (mI S 94 7) (mI S 98) (mI S 101) (mI S 102) (mI S 108)) (r_GW : zGW T (mI S 94 55) (mI S 109)) (r_GU : zGU T (mI S 94 46) (mI S 99)) (r_OW : zOw (mI S 99) (mI S 103) (mI S 111)) (r_GG : zGG (mI S 94 58) (mI S 94 56) (mI S 94 57) (mI S 106)) (h8 : (mI S 94 8).toInt = 1) (hp : (mI S 94 10).toInt = 1) (hz : zN1 (mI S) aa)  : ma_wp X d w 255 0 [(0, .inr (.inr (some 94))), (1, .inl r1)] [] S (zRj S (fun _ m₉ => zN1 m₉ (oGr aa r1))) := by
  obtain ⟨r_RB, r_QI, r_TP, r_MK, r_WTS, h58⟩ := hz
  have k8 : aa 87 8 = 0 := r_MK.trans (i_zer h58)
  have eF := Gr_o (r := r1) k8
  exact sp_255rm (P := fun o m₉ => zRj S (fun _ m₉ => zN1 m₉ (oGr aa r1)) (.inl o) (zst S m₉)) (T := T) (aa := aa) (ro := (mI S 94 11)) (fo := 0) (le := (mI S 94 59)) (ra := 0) (pi := 1) r1 hV (by omega) r_W r_GW r_GU r_OW r_GG (by omega) (by omega) r_RB r_QI (fun z => absurd h58 z) r_MK r_WTS (fun v m₉ hV₉ q0 q1 q2 q3 q4 q5 q6 q7 q8 q9 => Rj_i v (zov wr_255 (mI S) m₉) ⟨(by rw [← eF]; exact q5), (by rw [← eF]; exact q6), (Tp_rw r_TP Rw_gr), (by rw [← eF]; exact q8), q9, h58⟩) d w S _ hd hw hT rfl (fun _ _ z => z)
theorem n2_255 {X : Nat × (Nat → Int32)} {d w T : Nat} {S : ma_S} {aa : Nat → Nat → Int32} (r1 : Int32) (hd : 5 ≤ d) (hw : 111 ≤ w) (hT : zT S) (hV : zV (mI S)) (ht : T + 1 ≤ 512) (r_W : zW (mI S 94 7) (mI S 98) (mI S 101) (mI S 102) (mI S 108)) (r_GW : zGW T (mI S 94 55) (mI S 109)) (r_GU : zGU T (mI S 94 46) (mI S 99)) (r_OW : zOw (mI S 99) (mI S 103) (mI S 111)) (r_GG : zGG (mI S 94 58) (mI S 94 56) (mI S 94 57) (mI S 106)) (h8 : (mI S 94 8).toInt = 1) (hp : (mI S 94 10).toInt = 2) (hz : zN2 (mI S) aa)  : ma_wp X d w 255 0 [(0, .inr (.inr (some 94))), (1, .inl r1)] [] S (zRj S (fun _ m₉ => zN2 m₉ (oGr aa r1))) := by
  obtain ⟨r_RB, r_HV, r_HL, r_MK, r_WTS, h58⟩ := hz
  have k8 : aa 87 8 = 0 := r_MK.trans (i_zer h58)
  have eF := Gr_o (r := r1) k8
  exact sp_255rm (P := fun o m₉ => zRj S (fun _ m₉ => zN2 m₉ (oGr aa r1)) (.inl o) (zst S m₉)) (T := T) (aa := aa) (ro := (aa 87 0)) (fo := 0) (le := 0) (ra := 0) (pi := 1) r1 hV (by omega) r_W r_GW r_GU r_OW r_GG (by omega) (by omega) r_RB r_HV.1 (fun z => absurd h58 z) r_MK r_WTS (fun v m₉ hV₉ q0 q1 q2 q3 q4 q5 q6 q7 q8 q9 => Rj_i v (zov wr_255 (mI S) m₉) ⟨(by rw [← eF]; exact (RB_87o q5)), (Hv_rw r_HV Rw_gr (by rw [← eF]; exact q6)), (HL_rw r_HL Rw_gr), (by rw [← eF]; exact q8), q9, h58⟩) d w S _ hd hw hT rfl (fun _ _ z => z)
theorem n3_255 {X : Nat × (Nat → Int32)} {d w T : Nat} {S : ma_S} {aa : Nat → Nat → Int32} (r1 : Int32) (hd : 5 ≤ d) (hw : 111 ≤ w) (hT : zT S) (hV : zV (mI S)) (ht : T + 1 ≤ 512) (r_W : zW (mI S 94 7) (mI S 98) (mI S 101) (mI S 102) (mI S 108)) (r_GW : zGW T (mI S 94 55) (mI S 109)) (r_GU : zGU T (mI S 94 46) (mI S 99)) (r_OW : zOw (mI S 99) (mI S 103) (mI S 111)) (r_GG : zGG (mI S 94 58) (mI S 94 56) (mI S 94 57) (mI S 106)) (h8 : (mI S 94 8).toInt = 1) (hp : (mI S 94 10).toInt = 3) (hz : zN3 (mI S) aa)  : ma_wp X d w 255 0 [(0, .inr (.inr (some 94))), (1, .inl r1)] [] S (zRj S (fun _ m₉ => zN3 m₉ (oGr aa r1))) := by
  obtain ⟨r_RB, r_AV, r_AL, r_AGq, r_DT, r_MK, r_WTS, h58⟩ := hz
  have c43 : 4 ≤ (mI S 94 16).toInt := by
    rw [← r_AL.1.2.2.2]
    exact r_AV.2.2.1.2.2.2.2
  have k8 : aa 87 8 = 0 := r_MK.trans (i_zer h58)
  have eF := Gr_o (r := r1) k8
  exact sp_255ry (P := fun o m₉ => zRj S (fun _ m₉ => zN3 m₉ (oGr aa r1)) (.inl o) (zst S m₉)) (T := T) (aa := aa) (ro := (aa 87 0)) r1 hV (by omega) r_W r_GW r_GU r_OW r_GG (by omega) (by omega) r_RB r_AV.1 (fun z => absurd h58 z) r_MK r_WTS (fun v m₉ hV₉ q0 q1 q2 q3 q4 q5 q6 q7 q8 q9 q10 => Rj_i v (zov wr_255 (mI S) m₉) ⟨(by rw [← eF]; exact (RB_87o q5)), (Av_rw r_AV Rw_gr (by rw [← eF]; exact q6) gr_71), (AL_rw r_AL Rw_gr), (Ag_us q10 (Ag_rw r_AGq Rw_gr)), (Dt_rw r_DT Rw_gr), (by rw [← eF]; exact q8), q9, h58⟩) d w S _ hd hw hT rfl (fun _ _ z => z)
theorem n6_255 {X : Nat × (Nat → Int32)} {d w T : Nat} {S : ma_S} {aa : Nat → Nat → Int32} (r1 : Int32) (hd : 5 ≤ d) (hw : 111 ≤ w) (hT : zT S) (hV : zV (mI S)) (ht : T + 1 ≤ 512) (r_W : zW (mI S 94 7) (mI S 98) (mI S 101) (mI S 102) (mI S 108)) (r_GW : zGW T (mI S 94 55) (mI S 109)) (r_GU : zGU T (mI S 94 46) (mI S 99)) (r_OW : zOw (mI S 99) (mI S 103) (mI S 111)) (r_GG : zGG (mI S 94 58) (mI S 94 56) (mI S 94 57) (mI S 106)) (h8 : (mI S 94 8).toInt = 1) (hp : (mI S 94 10).toInt = 6) (hz : zN6 (mI S) aa)  : ma_wp X d w 255 0 [(0, .inr (.inr (some 94))), (1, .inl r1)] [] S (zRj S (fun _ m₉ => zN6 m₉ (oGr aa r1))) := by
  obtain ⟨r_RB, r_RV, r_RL, r_MK, r_WTS, h58⟩ := hz
  have k8 : aa 87 8 = 0 := r_MK.trans (i_zer h58)
  have eF := Gr_o (r := r1) k8
  exact sp_255rm (P := fun o m₉ => zRj S (fun _ m₉ => zN6 m₉ (oGr aa r1)) (.inl o) (zst S m₉)) (T := T) (aa := aa) (ro := (aa 87 0)) (fo := 0) (le := 0) (ra := 0) (pi := 1) r1 hV (by omega) r_W r_GW r_GU r_OW r_GG (by omega) (by omega) r_RB r_RV.1 (fun z => absurd h58 z) r_MK r_WTS (fun v m₉ hV₉ q0 q1 q2 q3 q4 q5 q6 q7 q8 q9 => Rj_i v (zov wr_255 (mI S) m₉) ⟨(by rw [← eF]; exact (RB_87o q5)), (Rv_rw r_RV Rw_gr (by rw [← eF]; exact q6)), (RL_rw r_RL Rw_gr), (by rw [← eF]; exact q8), q9, h58⟩) d w S _ hd hw hT rfl (fun _ _ z => z)
theorem n1_247 {X : Nat × (Nat → Int32)} {d w T : Nat} {S : ma_S} {aa : Nat → Nat → Int32} (ob : Int32) (ix : Int32) (oo : Int32) (hd : 5 ≤ d) (hw : 109 ≤ w) (hT : zT S) (hV : zV (mI S)) (ht : T + 1 ≤ 512) (r_W : zW (mI S 94 7) (mI S 98) (mI S 101) (mI S 102) (mI S 108)) (r_GW : zGW T (mI S 94 55) (mI S 109)) (r_GU : zGU T (mI S 94 46) (mI S 99)) (r_OW : zOw (mI S 99) (mI S 103) (mI S 111)) (r_GG : zGG (mI S 94 58) (mI S 94 56) (mI S 94 57) (mI S 106)) (h8 : (mI S 94 8).toInt = 1) (hp : (mI S 94 10).toInt = 1) (hz : zN1 (mI S) aa)  : ma_wp X d w 247 0 [(0, .inr (.inr (some 94))), (1, .inl ob), (2, .inl ix), (3, .inl oo)] [] S (zRj S (fun _ m₉ => zN1 m₉ (oLi aa ob ix oo))) := by
  obtain ⟨r_RB, r_QI, r_TP, r_MK, r_WTS, h58⟩ := hz
  have k8 : aa 87 8 = 0 := r_MK.trans (i_zer h58)
  have eF := Li_o (o := ob) (i := ix) (t := oo) k8
  exact sp_247rk (P := fun o m₉ => zRj S (fun _ m₉ => zN1 m₉ (oLi aa ob ix oo)) (.inl o) (zst S m₉)) (T := T) (aa := aa) (ro := (mI S 94 11)) (fo := 0) (le := (mI S 94 59)) (ra := 0) (pi := 1) ob ix oo hV (by omega) r_W r_GW r_GU r_OW r_GG (by omega) (by omega) r_RB r_QI (fun z => absurd h58 z) r_MK r_WTS (fun v m₉ hV₉ q0 q1 q2 q3 q4 q5 q6 q7 q8 q9 => Rj_i v (zov wr_247 (mI S) m₉) ⟨(by rw [← eF]; exact q5), (by rw [← eF]; exact q6), (Tp_rw r_TP Rw_li), (by rw [← eF]; exact q8), q9, h58⟩) d w S _ hd hw hT rfl (fun _ _ z => z)
theorem n2_247 {X : Nat × (Nat → Int32)} {d w T : Nat} {S : ma_S} {aa : Nat → Nat → Int32} (ob : Int32) (ix : Int32) (oo : Int32) (hd : 5 ≤ d) (hw : 109 ≤ w) (hT : zT S) (hV : zV (mI S)) (ht : T + 1 ≤ 512) (r_W : zW (mI S 94 7) (mI S 98) (mI S 101) (mI S 102) (mI S 108)) (r_GW : zGW T (mI S 94 55) (mI S 109)) (r_GU : zGU T (mI S 94 46) (mI S 99)) (r_OW : zOw (mI S 99) (mI S 103) (mI S 111)) (r_GG : zGG (mI S 94 58) (mI S 94 56) (mI S 94 57) (mI S 106)) (h8 : (mI S 94 8).toInt = 1) (hp : (mI S 94 10).toInt = 2) (hz : zN2 (mI S) aa)  : ma_wp X d w 247 0 [(0, .inr (.inr (some 94))), (1, .inl ob), (2, .inl ix), (3, .inl oo)] [] S (zRj S (fun _ m₉ => zN2 m₉ (oLi aa ob ix oo))) := by
  obtain ⟨r_RB, r_HV, r_HL, r_MK, r_WTS, h58⟩ := hz
  have k8 : aa 87 8 = 0 := r_MK.trans (i_zer h58)
  have eF := Li_o (o := ob) (i := ix) (t := oo) k8
  exact sp_247rk (P := fun o m₉ => zRj S (fun _ m₉ => zN2 m₉ (oLi aa ob ix oo)) (.inl o) (zst S m₉)) (T := T) (aa := aa) (ro := (aa 87 0)) (fo := 0) (le := 0) (ra := 0) (pi := 1) ob ix oo hV (by omega) r_W r_GW r_GU r_OW r_GG (by omega) (by omega) r_RB r_HV.1 (fun z => absurd h58 z) r_MK r_WTS (fun v m₉ hV₉ q0 q1 q2 q3 q4 q5 q6 q7 q8 q9 => Rj_i v (zov wr_247 (mI S) m₉) ⟨(by rw [← eF]; exact (RB_87o q5)), (Hv_rw r_HV Rw_li (by rw [← eF]; exact q6)), (HL_rw r_HL Rw_li), (by rw [← eF]; exact q8), q9, h58⟩) d w S _ hd hw hT rfl (fun _ _ z => z)
theorem n3_247 {X : Nat × (Nat → Int32)} {d w T : Nat} {S : ma_S} {aa : Nat → Nat → Int32} (ob : Int32) (ix : Int32) (oo : Int32) (hd : 5 ≤ d) (hw : 109 ≤ w) (hT : zT S) (hV : zV (mI S)) (ht : T + 1 ≤ 512) (r_W : zW (mI S 94 7) (mI S 98) (mI S 101) (mI S 102) (mI S 108)) (r_GW : zGW T (mI S 94 55) (mI S 109)) (r_GU : zGU T (mI S 94 46) (mI S 99)) (r_OW : zOw (mI S 99) (mI S 103) (mI S 111)) (r_GG : zGG (mI S 94 58) (mI S 94 56) (mI S 94 57) (mI S 106)) (h8 : (mI S 94 8).toInt = 1) (hp : (mI S 94 10).toInt = 3) (hz : zN3 (mI S) aa)  : ma_wp X d w 247 0 [(0, .inr (.inr (some 94))), (1, .inl ob), (2, .inl ix), (3, .inl oo)] [] S (zRj S (fun _ m₉ => zN3 m₉ (yLi aa ob ix oo))) := by
  obtain ⟨r_RB, r_AV, r_AL, r_AGq, r_DT, r_MK, r_WTS, h58⟩ := hz
  have c43 : 4 ≤ (mI S 94 16).toInt := by
    rw [← r_AL.1.2.2.2]
    exact r_AV.2.2.1.2.2.2.2
  have k8 : aa 87 8 = 0 := r_MK.trans (i_zer h58)
  have eF := Li_o (o := ob) (i := ix) (t := oo) k8
  exact sp_247ry (P := fun o m₉ => zRj S (fun _ m₉ => zN3 m₉ (yLi aa ob ix oo)) (.inl o) (zst S m₉)) (T := T) (aa := aa) (ro := (aa 87 0)) ob ix oo hV (by omega) r_W r_GW r_GU r_OW r_GG (by omega) (by omega) r_RB r_AV.1 (fun z => absurd h58 z) r_MK r_WTS (by omega) r_AV r_AL.1 r_DT (fun v m₉ hV₉ q0 q1 q2 q3 q4 q5 q6 q7 q8 q9 q10 q11 => Rj_i v (zov wr_247 (mI S) m₉) ⟨(RB_87o (RB_ll (a := aa) (o := ob) (i := ix) (t := oo) (eF ▸ q5))), (Av_li r_AV (by rw [← eF]; exact q6)), (AL_cg r_AL (yli_r (by decide) (by decide))), (Ag_us q11 (Ag_cg r_AGq (yli_r (by decide) (by decide)))), (Dt_cg q10 Ll_83), ((congrFun (Ll_o (by decide)) 8).trans (by rw [← eF]; exact q8)), q9, h58⟩) d w S _ hd hw hT rfl (fun _ _ z => z)
theorem n6_247 {X : Nat × (Nat → Int32)} {d w T : Nat} {S : ma_S} {aa : Nat → Nat → Int32} (ob : Int32) (ix : Int32) (oo : Int32) (hd : 5 ≤ d) (hw : 109 ≤ w) (hT : zT S) (hV : zV (mI S)) (ht : T + 1 ≤ 512) (r_W : zW (mI S 94 7) (mI S 98) (mI S 101) (mI S 102) (mI S 108)) (r_GW : zGW T (mI S 94 55) (mI S 109)) (r_GU : zGU T (mI S 94 46) (mI S 99)) (r_OW : zOw (mI S 99) (mI S 103) (mI S 111)) (r_GG : zGG (mI S 94 58) (mI S 94 56) (mI S 94 57) (mI S 106)) (h8 : (mI S 94 8).toInt = 1) (hp : (mI S 94 10).toInt = 6) (hz : zN6 (mI S) aa)  : ma_wp X d w 247 0 [(0, .inr (.inr (some 94))), (1, .inl ob), (2, .inl ix), (3, .inl oo)] [] S (zRj S (fun _ m₉ => zN6 m₉ (oLi aa ob ix oo))) := by
  obtain ⟨r_RB, r_RV, r_RL, r_MK, r_WTS, h58⟩ := hz
  have k8 : aa 87 8 = 0 := r_MK.trans (i_zer h58)
  have eF := Li_o (o := ob) (i := ix) (t := oo) k8
  exact sp_247rk (P := fun o m₉ => zRj S (fun _ m₉ => zN6 m₉ (oLi aa ob ix oo)) (.inl o) (zst S m₉)) (T := T) (aa := aa) (ro := (aa 87 0)) (fo := 0) (le := 0) (ra := 0) (pi := 1) ob ix oo hV (by omega) r_W r_GW r_GU r_OW r_GG (by omega) (by omega) r_RB r_RV.1 (fun z => absurd h58 z) r_MK r_WTS (fun v m₉ hV₉ q0 q1 q2 q3 q4 q5 q6 q7 q8 q9 => Rj_i v (zov wr_247 (mI S) m₉) ⟨(by rw [← eF]; exact (RB_87o q5)), (Rv_rw r_RV Rw_li (by rw [← eF]; exact q6)), (RL_rw r_RL Rw_li), (by rw [← eF]; exact q8), q9, h58⟩) d w S _ hd hw hT rfl (fun _ _ z => z)
theorem n1_253 {X : Nat × (Nat → Int32)} {d w T : Nat} {S : ma_S} {aa : Nat → Nat → Int32} (ob : Int32) (on : Int32) (hd : 5 ≤ d) (hw : 109 ≤ w) (hT : zT S) (hV : zV (mI S)) (ht : T + 1 ≤ 512) (r_W : zW (mI S 94 7) (mI S 98) (mI S 101) (mI S 102) (mI S 108)) (r_GW : zGW T (mI S 94 55) (mI S 109)) (r_GU : zGU T (mI S 94 46) (mI S 99)) (r_OW : zOw (mI S 99) (mI S 103) (mI S 111)) (r_GG : zGG (mI S 94 58) (mI S 94 56) (mI S 94 57) (mI S 106)) (h8 : (mI S 94 8).toInt = 1) (hp : (mI S 94 10).toInt = 1) (hz : zN1 (mI S) aa) (hb0 : 0 ≤ on.toInt) (hb1 : on.toInt ≤ 1) : ma_wp X d w 253 0 [(0, .inr (.inr (some 94))), (1, .inl ob), (2, .inl on)] [] S (zRj S (fun _ m₉ => zN1 m₉ (xHo aa ob on))) := by
  obtain ⟨r_RB, r_QI, r_TP, r_MK, r_WTS, h58⟩ := hz
  exact sp_253rh (P := fun o m₉ => zRj S (fun _ m₉ => zN1 m₉ (xHo aa ob on)) (.inl o) (zst S m₉)) (T := T) (aa := aa) (ro := (mI S 94 11)) (fo := 0) (le := (mI S 94 59)) (ra := 0) (pi := 1) ob on hV hb0 hb1 (by omega) r_W r_GW r_GU r_OW r_GG (by omega) (by omega) r_RB r_QI (fun z => absurd h58 z) r_MK r_WTS (fun v m₉ hV₉ q0 q1 q2 q3 q4 q5 q6 q7 q8 q9 => Rj_i v (zov wr_253 (mI S) m₉) ⟨q5, q6, (Tp_cg r_TP (Ho_r (by decide)) (Ho_r (by decide)) (Ho_r (by decide)) (congrFun (Ho_r (c := 87) (by decide)) 2)), q8, q9, h58⟩) d w S _ hd hw hT rfl (fun _ _ z => z)
theorem n2_253 {X : Nat × (Nat → Int32)} {d w T : Nat} {S : ma_S} {aa : Nat → Nat → Int32} (ob : Int32) (on : Int32) (hd : 5 ≤ d) (hw : 109 ≤ w) (hT : zT S) (hV : zV (mI S)) (ht : T + 1 ≤ 512) (r_W : zW (mI S 94 7) (mI S 98) (mI S 101) (mI S 102) (mI S 108)) (r_GW : zGW T (mI S 94 55) (mI S 109)) (r_GU : zGU T (mI S 94 46) (mI S 99)) (r_OW : zOw (mI S 99) (mI S 103) (mI S 111)) (r_GG : zGG (mI S 94 58) (mI S 94 56) (mI S 94 57) (mI S 106)) (h8 : (mI S 94 8).toInt = 1) (hp : (mI S 94 10).toInt = 2) (hz : zN2 (mI S) aa) (hb0 : 0 ≤ on.toInt) (hb1 : on.toInt ≤ 1) : ma_wp X d w 253 0 [(0, .inr (.inr (some 94))), (1, .inl ob), (2, .inl on)] [] S (zRj S (fun _ m₉ => zN2 m₉ aa)) := by
  obtain ⟨r_RB, r_HV, r_HL, r_MK, r_WTS, h58⟩ := hz
  exact sp_253rv (P := fun o m₉ => zRj S (fun _ m₉ => zN2 m₉ aa) (.inl o) (zst S m₉)) (T := T) (aa := aa) (ro := (aa 87 0)) ob on hV hb0 hb1 (by omega) r_W r_GW r_GU r_OW r_GG (by omega) (by omega) r_RB r_HV.1 (fun z => absurd h58 z) r_MK r_WTS (fun v m₉ hV₉ q0 q1 q2 q3 q4 q5 q6 q7 q8 q9 => Rj_i v (zov wr_253 (mI S) m₉) ⟨(RB_87o q5), r_HV, r_HL, q8, q9, h58⟩) d w S _ hd hw hT rfl (fun _ _ z => z)
theorem n3_253 {X : Nat × (Nat → Int32)} {d w T : Nat} {S : ma_S} {aa : Nat → Nat → Int32} (ob : Int32) (on : Int32) (hd : 5 ≤ d) (hw : 109 ≤ w) (hT : zT S) (hV : zV (mI S)) (ht : T + 1 ≤ 512) (r_W : zW (mI S 94 7) (mI S 98) (mI S 101) (mI S 102) (mI S 108)) (r_GW : zGW T (mI S 94 55) (mI S 109)) (r_GU : zGU T (mI S 94 46) (mI S 99)) (r_OW : zOw (mI S 99) (mI S 103) (mI S 111)) (r_GG : zGG (mI S 94 58) (mI S 94 56) (mI S 94 57) (mI S 106)) (h8 : (mI S 94 8).toInt = 1) (hp : (mI S 94 10).toInt = 3) (hz : zN3 (mI S) aa) (hb0 : 0 ≤ on.toInt) (hb1 : on.toInt ≤ 1) : ma_wp X d w 253 0 [(0, .inr (.inr (some 94))), (1, .inl ob), (2, .inl on)] [] S (zRj S (fun _ m₉ => zN3 m₉ (yHo aa ob on))) := by
  obtain ⟨r_RB, r_AV, r_AL, r_AGq, r_DT, r_MK, r_WTS, h58⟩ := hz
  have c43 : 4 ≤ (mI S 94 16).toInt := by
    rw [← r_AL.1.2.2.2]
    exact r_AV.2.2.1.2.2.2.2
  exact sp_253ry (P := fun o m₉ => zRj S (fun _ m₉ => zN3 m₉ (yHo aa ob on)) (.inl o) (zst S m₉)) (T := T) (aa := aa) (ro := (aa 87 0)) ob on hV hb0 hb1 (by omega) r_W r_GW r_GU r_OW r_GG (by omega) (by omega) r_RB r_AV.1 (fun z => absurd h58 z) r_MK r_WTS r_AL.1 (fun v m₉ hV₉ q0 q1 q2 q3 q4 q5 q6 q7 q8 q9 q10 => Rj_i v (zov wr_253 (mI S) m₉) ⟨(RB_87o q5), (Av_ho r_AV), (AL_cg r_AL (yHo_r (by decide))), (Ag_us q10 (Ag_cg r_AGq (yHo_r (by decide)))), (Dt_cg r_DT (yHo_r (by decide))), q8, q9, h58⟩) d w S _ hd hw hT rfl (fun _ _ z => z)
theorem n6_253 {X : Nat × (Nat → Int32)} {d w T : Nat} {S : ma_S} {aa : Nat → Nat → Int32} (ob : Int32) (on : Int32) (hd : 5 ≤ d) (hw : 109 ≤ w) (hT : zT S) (hV : zV (mI S)) (ht : T + 1 ≤ 512) (r_W : zW (mI S 94 7) (mI S 98) (mI S 101) (mI S 102) (mI S 108)) (r_GW : zGW T (mI S 94 55) (mI S 109)) (r_GU : zGU T (mI S 94 46) (mI S 99)) (r_OW : zOw (mI S 99) (mI S 103) (mI S 111)) (r_GG : zGG (mI S 94 58) (mI S 94 56) (mI S 94 57) (mI S 106)) (h8 : (mI S 94 8).toInt = 1) (hp : (mI S 94 10).toInt = 6) (hz : zN6 (mI S) aa) (hb0 : 0 ≤ on.toInt) (hb1 : on.toInt ≤ 1) : ma_wp X d w 253 0 [(0, .inr (.inr (some 94))), (1, .inl ob), (2, .inl on)] [] S (zRj S (fun _ m₉ => zN6 m₉ (xHo aa ob on))) := by
  obtain ⟨r_RB, r_RV, r_RL, r_MK, r_WTS, h58⟩ := hz
  exact sp_253rh (P := fun o m₉ => zRj S (fun _ m₉ => zN6 m₉ (xHo aa ob on)) (.inl o) (zst S m₉)) (T := T) (aa := aa) (ro := (aa 87 0)) (fo := 0) (le := 0) (ra := 0) (pi := 1) ob on hV hb0 hb1 (by omega) r_W r_GW r_GU r_OW r_GG (by omega) (by omega) r_RB r_RV.1 (fun z => absurd h58 z) r_MK r_WTS (fun v m₉ hV₉ q0 q1 q2 q3 q4 q5 q6 q7 q8 q9 => Rj_i v (zov wr_253 (mI S) m₉) ⟨(RB_87o q5), (Rv_cg r_RV (Ho_r (by decide)) (Ho_r (by decide)) (Ho_r (by decide)) (Ho_r (by decide)) (Ho_r (by decide)) q6), (RL_cg r_RL (Ho_r (by decide)) (Ho_r (by decide))), q8, q9, h58⟩) d w S _ hd hw hT rfl (fun _ _ z => z)
theorem n1_256 {X : Nat × (Nat → Int32)} {d w T : Nat} {S : ma_S} {aa : Nat → Nat → Int32}  (hd : 7 ≤ d) (hw : 152 ≤ w) (hT : zT S) (hV : zV (mI S)) (ht : T + 1 ≤ 512) (r_W : zW (mI S 94 7) (mI S 98) (mI S 101) (mI S 102) (mI S 108)) (r_GW : zGW T (mI S 94 55) (mI S 109)) (r_GU : zGU T (mI S 94 46) (mI S 99)) (r_OW : zOw (mI S 99) (mI S 103) (mI S 111)) (r_GG : zGG (mI S 94 58) (mI S 94 56) (mI S 94 57) (mI S 106)) (h8 : (mI S 94 8).toInt = 1) (hp : (mI S 94 10).toInt = 1) (hz : zN1 (mI S) aa)  : ma_wp X d w 256 0 [(0, .inr (.inr (some 94)))] [] S (zRj S (fun _ m₉ => zN1 m₉ (lCl aa))) := by
  obtain ⟨r_RB, r_QI, r_TP, r_MK, r_WTS, h58⟩ := hz
  exact sp_256rl (P := fun o m₉ => zRj S (fun _ m₉ => zN1 m₉ (lCl aa)) (.inl o) (zst S m₉)) (T := T) (aa := aa)  hV (by omega) r_W r_GW r_GU r_OW r_GG (by omega) (by omega) r_RB r_QI (fun z => absurd h58 z) r_MK r_WTS (fun v m₉ hV₉ q0 q1 q2 q3 q4 q5 q6 q7 q8 q9 q10 q11 => Rj_i v (zov wr_256 (mI S) m₉) ⟨q5, q6, q10, q8, q9, q11⟩) d w S _ hd hw hT rfl (fun _ _ z => z)
theorem n2_256 {X : Nat × (Nat → Int32)} {d w T : Nat} {S : ma_S} {aa : Nat → Nat → Int32}  (hd : 7 ≤ d) (hw : 152 ≤ w) (hT : zT S) (hV : zV (mI S)) (ht : T + 1 ≤ 512) (r_W : zW (mI S 94 7) (mI S 98) (mI S 101) (mI S 102) (mI S 108)) (r_GW : zGW T (mI S 94 55) (mI S 109)) (r_GU : zGU T (mI S 94 46) (mI S 99)) (r_OW : zOw (mI S 99) (mI S 103) (mI S 111)) (r_GG : zGG (mI S 94 58) (mI S 94 56) (mI S 94 57) (mI S 106)) (h8 : (mI S 94 8).toInt = 1) (hp : (mI S 94 10).toInt = 2) (hz : zN2 (mI S) aa)  : ma_wp X d w 256 0 [(0, .inr (.inr (some 94)))] [] S (zRj S (fun _ m₉ => zN2 m₉ (hCl aa))) := by
  obtain ⟨r_RB, r_HV, r_HL, r_MK, r_WTS, h58⟩ := hz
  exact sp_256rv (P := fun o m₉ => zRj S (fun _ m₉ => zN2 m₉ (hCl aa)) (.inl o) (zst S m₉)) (T := T) (aa := aa) (ro := (aa 87 0))  hV (by omega) r_W r_GW r_GU r_OW r_GG (by omega) (by omega) r_RB r_HV r_HL (fun z => absurd h58 z) r_MK r_WTS (fun v m₉ hV₉ q0 q1 q2 q3 q4 q5 q6 q7 q8 q9 q10 q11 => Rj_i v (zov wr_256 (mI S) m₉) ⟨(RB_87o q5), q6, q7, q9, q10, q11⟩) d w S _ hd hw hT rfl (fun _ _ z => z)
theorem n3_256 {X : Nat × (Nat → Int32)} {d w T : Nat} {S : ma_S} {aa : Nat → Nat → Int32}  (hd : 7 ≤ d) (hw : 152 ≤ w) (hT : zT S) (hV : zV (mI S)) (ht : T + 1 ≤ 512) (r_W : zW (mI S 94 7) (mI S 98) (mI S 101) (mI S 102) (mI S 108)) (r_GW : zGW T (mI S 94 55) (mI S 109)) (r_GU : zGU T (mI S 94 46) (mI S 99)) (r_OW : zOw (mI S 99) (mI S 103) (mI S 111)) (r_GG : zGG (mI S 94 58) (mI S 94 56) (mI S 94 57) (mI S 106)) (h8 : (mI S 94 8).toInt = 1) (hp : (mI S 94 10).toInt = 3) (hz : zN3 (mI S) aa)  : ma_wp X d w 256 0 [(0, .inr (.inr (some 94)))] [] S (zRj S (fun _ m₉ => zN3 m₉ (gMi (gMa aa)))) := by
  obtain ⟨r_RB, r_AV, r_AL, r_AGq, r_DT, r_MK, r_WTS, h58⟩ := hz
  have c43 : 4 ≤ (mI S 94 16).toInt := by
    rw [← r_AL.1.2.2.2]
    exact r_AV.2.2.1.2.2.2.2
  exact sp_256ry (P := fun o m₉ => zRj S (fun _ m₉ => zN3 m₉ (gMi (gMa aa))) (.inl o) (zst S m₉)) (T := T) (aa := aa) (ro := (aa 87 0))  hV (by omega) r_W r_GW r_GU r_OW r_GG (by omega) (by omega) r_RB r_AV r_AL r_AGq r_DT (fun z => absurd h58 z) r_MK r_WTS (fun v m₉ hV₉ q0 q1 q2 q3 q4 q5 q6 q7 q8 q9 q10 q11 q12 q13 => Rj_i v (zov wr_256 (mI S) m₉) ⟨(RB_87o q5), q6, q7, q8, q9, q11, q12, q13⟩) d w S _ hd hw hT rfl (fun _ _ z => z)
theorem n6_256 {X : Nat × (Nat → Int32)} {d w T : Nat} {S : ma_S} {aa : Nat → Nat → Int32}  (hd : 7 ≤ d) (hw : 152 ≤ w) (hT : zT S) (hV : zV (mI S)) (ht : T + 1 ≤ 512) (r_W : zW (mI S 94 7) (mI S 98) (mI S 101) (mI S 102) (mI S 108)) (r_GW : zGW T (mI S 94 55) (mI S 109)) (r_GU : zGU T (mI S 94 46) (mI S 99)) (r_OW : zOw (mI S 99) (mI S 103) (mI S 111)) (r_GG : zGG (mI S 94 58) (mI S 94 56) (mI S 94 57) (mI S 106)) (h8 : (mI S 94 8).toInt = 1) (hp : (mI S 94 10).toInt = 6) (hz : zN6 (mI S) aa)  : ma_wp X d w 256 0 [(0, .inr (.inr (some 94)))] [] S (zRj S (fun _ m₉ => zN6 m₉ (rCl aa))) := by
  obtain ⟨r_RB, r_RV, r_RL, r_MK, r_WTS, h58⟩ := hz
  exact sp_256rz (P := fun o m₉ => zRj S (fun _ m₉ => zN6 m₉ (rCl aa)) (.inl o) (zst S m₉)) (T := T) (aa := aa) (ro := (aa 87 0))  hV (by omega) r_W r_GW r_GU r_OW r_GG (by omega) (by omega) r_RB r_RV r_RL (fun z => absurd h58 z) r_MK r_WTS (fun v m₉ hV₉ q0 q1 q2 q3 q4 q5 q6 q7 q8 q9 q10 q11 => Rj_i v (zov wr_256 (mI S) m₉) ⟨(RB_87o q5), q6, q7, q9, q10, q11⟩) d w S _ hd hw hT rfl (fun _ _ z => z)
theorem n1_181 {X : Nat × (Nat → Int32)} {d w T : Nat} {S : ma_S} {aa : Nat → Nat → Int32} {LL : Int64} (kk : Int32) (r1 : Int32) (hd : 10 ≤ d) (hw : 224 ≤ w) (hT : zT S) (hV : zV (mI S)) (ht : T + 1 ≤ 512) (r_W : zW (mI S 94 7) (mI S 98) (mI S 101) (mI S 102) (mI S 108)) (r_GW : zGW T (mI S 94 55) (mI S 109)) (r_GU : zGU T (mI S 94 46) (mI S 99)) (r_OW : zOw (mI S 99) (mI S 103) (mI S 111)) (r_GG : zGG (mI S 94 58) (mI S 94 56) (mI S 94 57) (mI S 106)) (h8 : (mI S 94 8).toInt = 1) (hp : (mI S 94 10).toInt = 1) (hz : zN1 (mI S) aa) (hbts : (0 ≤ kk.toInt ∧ kk.toInt < (mI S 94 7).toInt) → ∀ j : Nat, (j : Int) < ((mI S 97) kk.toNatClampNeg).toInt → (zbit LL (Int32.ofNat j) ≠ 0 ↔ (kk = 16 ∨ (kk < 16 ∧ (((mI S 98) kk.toNatClampNeg >>> (Int32.ofNat j &&& 31)) &&& 1) = 1)))) : ma_wp X d w 181 0 [(0, .inr (.inr (some 94))), (1, .inl kk), (2, .inl r1)] [] S (zRj S (fun _ m₉ => zN1 m₉ (qIf (0 ≤ kk.toInt ∧ kk.toInt < (mI S 94 7).toInt ∧ zSl r1) (lMk aa kk ((mI S 97) kk.toNatClampNeg) LL r1) aa))) := by
  obtain ⟨r_RB, r_QI, r_TP, r_MK, r_WTS, h58⟩ := hz
  exact sp_181rl (P := fun o m₉ => zRj S (fun _ m₉ => zN1 m₉ (qIf (0 ≤ kk.toInt ∧ kk.toInt < (mI S 94 7).toInt ∧ zSl r1) (lMk aa kk ((mI S 97) kk.toNatClampNeg) LL r1) aa)) (.inl o) (zst S m₉)) (T := T) (aa := aa) (LL := LL) kk r1 hV (by omega) (by omega) r_W r_GW r_GU r_OW r_GG (by omega) (by omega) r_RB r_QI r_TP (fun z => absurd h58 z) r_MK r_WTS hbts (fun v m₉ hV₉ q0 q1 q2 q3 q4 q5 q6 q7 q8 q9 q10 q11 => Rj_i v (zov wr_181 (mI S) m₉) ⟨q5, q6, q11, q8, q9, q10⟩) d w S _ hd hw hT rfl (fun _ _ z => z)
theorem n2_181 {X : Nat × (Nat → Int32)} {d w T : Nat} {S : ma_S} {aa : Nat → Nat → Int32} {LL : Int64} (kk : Int32) (r1 : Int32) (hd : 10 ≤ d) (hw : 224 ≤ w) (hT : zT S) (hV : zV (mI S)) (ht : T + 1 ≤ 512) (r_W : zW (mI S 94 7) (mI S 98) (mI S 101) (mI S 102) (mI S 108)) (r_GW : zGW T (mI S 94 55) (mI S 109)) (r_GU : zGU T (mI S 94 46) (mI S 99)) (r_OW : zOw (mI S 99) (mI S 103) (mI S 111)) (r_GG : zGG (mI S 94 58) (mI S 94 56) (mI S 94 57) (mI S 106)) (h8 : (mI S 94 8).toInt = 1) (hp : (mI S 94 10).toInt = 2) (hz : zN2 (mI S) aa) (hbts : (0 ≤ kk.toInt ∧ kk.toInt < (mI S 94 7).toInt) → ∀ j : Nat, (j : Int) < ((mI S 97) kk.toNatClampNeg).toInt → (zbit LL (Int32.ofNat j) ≠ 0 ↔ (kk = 16 ∨ (kk < 16 ∧ (((mI S 98) kk.toNatClampNeg >>> (Int32.ofNat j &&& 31)) &&& 1) = 1)))) : ma_wp X d w 181 0 [(0, .inr (.inr (some 94))), (1, .inl kk), (2, .inl r1)] [] S (zRj S (fun _ m₉ => zN2 m₉ (qIf (0 ≤ kk.toInt ∧ kk.toInt < (mI S 94 7).toInt ∧ zSl r1) (hMk aa kk ((mI S 97) kk.toNatClampNeg) LL r1) aa))) := by
  obtain ⟨r_RB, r_HV, r_HL, r_MK, r_WTS, h58⟩ := hz
  exact sp_181rv (P := fun o m₉ => zRj S (fun _ m₉ => zN2 m₉ (qIf (0 ≤ kk.toInt ∧ kk.toInt < (mI S 94 7).toInt ∧ zSl r1) (hMk aa kk ((mI S 97) kk.toNatClampNeg) LL r1) aa)) (.inl o) (zst S m₉)) (T := T) (aa := aa) (ro := (aa 87 0)) (LL := LL) kk r1 hV (by omega) (by omega) r_W r_GW r_GU r_OW r_GG (by omega) (by omega) r_RB r_HV r_HL (fun z => absurd h58 z) r_MK r_WTS hbts (fun v m₉ hV₉ q0 q1 q2 q3 q4 q5 q6 q7 q8 q9 q10 q11 => Rj_i v (zov wr_181 (mI S) m₉) ⟨(RB_87o q5), q10, q11, q7, q8, q9⟩) d w S _ hd hw hT rfl (fun _ _ z => z)
theorem n3_181 {X : Nat × (Nat → Int32)} {d w T : Nat} {S : ma_S} {aa : Nat → Nat → Int32} {LL : Int64} (kk : Int32) (r1 : Int32) (hd : 10 ≤ d) (hw : 224 ≤ w) (hT : zT S) (hV : zV (mI S)) (ht : T + 1 ≤ 512) (r_W : zW (mI S 94 7) (mI S 98) (mI S 101) (mI S 102) (mI S 108)) (r_GW : zGW T (mI S 94 55) (mI S 109)) (r_GU : zGU T (mI S 94 46) (mI S 99)) (r_OW : zOw (mI S 99) (mI S 103) (mI S 111)) (r_GG : zGG (mI S 94 58) (mI S 94 56) (mI S 94 57) (mI S 106)) (h8 : (mI S 94 8).toInt = 1) (hp : (mI S 94 10).toInt = 3) (hz : zN3 (mI S) aa) (hbts : (0 ≤ kk.toInt ∧ kk.toInt < (mI S 94 7).toInt) → ∀ j : Nat, (j : Int) < ((mI S 97) kk.toNatClampNeg).toInt → (zbit LL (Int32.ofNat j) ≠ 0 ↔ (kk = 16 ∨ (kk < 16 ∧ (((mI S 98) kk.toNatClampNeg >>> (Int32.ofNat j &&& 31)) &&& 1) = 1)))) : ma_wp X d w 181 0 [(0, .inr (.inr (some 94))), (1, .inl kk), (2, .inl r1)] [] S (zRj S (fun _ m₉ => zN3 m₉ (qIf (0 ≤ kk.toInt ∧ kk.toInt < (mI S 94 7).toInt ∧ zSl r1) (yMk aa kk ((mI S 97) kk.toNatClampNeg) LL r1) aa))) := by
  obtain ⟨r_RB, r_AV, r_AL, r_AGq, r_DT, r_MK, r_WTS, h58⟩ := hz
  have c43 : 4 ≤ (mI S 94 16).toInt := by
    rw [← r_AL.1.2.2.2]
    exact r_AV.2.2.1.2.2.2.2
  exact sp_181ry (P := fun o m₉ => zRj S (fun _ m₉ => zN3 m₉ (qIf (0 ≤ kk.toInt ∧ kk.toInt < (mI S 94 7).toInt ∧ zSl r1) (yMk aa kk ((mI S 97) kk.toNatClampNeg) LL r1) aa)) (.inl o) (zst S m₉)) (T := T) (aa := aa) (ro := (aa 87 0)) (LL := LL) kk r1 hV (by omega) (by omega) r_W r_GW r_GU r_OW r_GG (by omega) (by omega) r_RB r_AV r_AL r_AGq r_DT (fun z => absurd h58 z) r_MK r_WTS hbts (fun v m₉ hV₉ q0 q1 q2 q3 q4 q5 q6 q7 q8 q9 q10 q11 q12 q13 => Rj_i v (zov wr_181 (mI S) m₉) ⟨(RB_87o q5), q10, q11, q12, q13, q7, q8, q9⟩) d w S _ hd hw hT rfl (fun _ _ z => z)
theorem n6_181 {X : Nat × (Nat → Int32)} {d w T : Nat} {S : ma_S} {aa : Nat → Nat → Int32} {LL : Int64} (kk : Int32) (r1 : Int32) (hd : 10 ≤ d) (hw : 224 ≤ w) (hT : zT S) (hV : zV (mI S)) (ht : T + 1 ≤ 512) (r_W : zW (mI S 94 7) (mI S 98) (mI S 101) (mI S 102) (mI S 108)) (r_GW : zGW T (mI S 94 55) (mI S 109)) (r_GU : zGU T (mI S 94 46) (mI S 99)) (r_OW : zOw (mI S 99) (mI S 103) (mI S 111)) (r_GG : zGG (mI S 94 58) (mI S 94 56) (mI S 94 57) (mI S 106)) (h8 : (mI S 94 8).toInt = 1) (hp : (mI S 94 10).toInt = 6) (hz : zN6 (mI S) aa) (hbts : (0 ≤ kk.toInt ∧ kk.toInt < (mI S 94 7).toInt) → ∀ j : Nat, (j : Int) < ((mI S 97) kk.toNatClampNeg).toInt → (zbit LL (Int32.ofNat j) ≠ 0 ↔ (kk = 16 ∨ (kk < 16 ∧ (((mI S 98) kk.toNatClampNeg >>> (Int32.ofNat j &&& 31)) &&& 1) = 1)))) : ma_wp X d w 181 0 [(0, .inr (.inr (some 94))), (1, .inl kk), (2, .inl r1)] [] S (zRj S (fun _ m₉ => zN6 m₉ (qIf (0 ≤ kk.toInt ∧ kk.toInt < (mI S 94 7).toInt ∧ zSl r1) (rMk aa kk ((mI S 97) kk.toNatClampNeg) LL r1) aa))) := by
  obtain ⟨r_RB, r_RV, r_RL, r_MK, r_WTS, h58⟩ := hz
  exact sp_181rz (P := fun o m₉ => zRj S (fun _ m₉ => zN6 m₉ (qIf (0 ≤ kk.toInt ∧ kk.toInt < (mI S 94 7).toInt ∧ zSl r1) (rMk aa kk ((mI S 97) kk.toNatClampNeg) LL r1) aa)) (.inl o) (zst S m₉)) (T := T) (aa := aa) (ro := (aa 87 0)) (LL := LL) kk r1 hV (by omega) (by omega) r_W r_GW r_GU r_OW r_GG (by omega) (by omega) r_RB r_RV r_RL (fun z => absurd h58 z) r_MK r_WTS hbts (fun v m₉ hV₉ q0 q1 q2 q3 q4 q5 q6 q7 q8 q9 q10 q11 => Rj_i v (zov wr_181 (mI S) m₉) ⟨(RB_87o q5), q10, q11, q7, q8, q9⟩) d w S _ hd hw hT rfl (fun _ _ z => z)
theorem n1_243 {X : Nat × (Nat → Int32)} {d w T : Nat} {S : ma_S} {aa : Nat → Nat → Int32} (rf : Int32) (nn : Int32) (r1 : Int32) (hd : 10 ≤ d) (hw : 224 ≤ w) (hT : zT S) (hV : zV (mI S)) (ht : T + 1 ≤ 512) (r_W : zW (mI S 94 7) (mI S 98) (mI S 101) (mI S 102) (mI S 108)) (r_GW : zGW T (mI S 94 55) (mI S 109)) (r_GU : zGU T (mI S 94 46) (mI S 99)) (r_OW : zOw (mI S 99) (mI S 103) (mI S 111)) (r_GG : zGG (mI S 94 58) (mI S 94 56) (mI S 94 57) (mI S 106)) (h8 : (mI S 94 8).toInt = 1) (hp : (mI S 94 10).toInt = 1) (hz : zN1 (mI S) aa) (hb0 : 0 ≤ rf.toInt) (hb1 : rf.toInt ≤ 1) : ma_wp X d w 243 0 [(0, .inr (.inr (some 94))), (1, .inl rf), (2, .inl nn), (3, .inl r1)] [] S (zRj S (fun _ m₉ => zN1 m₉ (qIf (0 ≤ nn.toInt ∧ nn.toInt ≤ 60 ∧ zSl r1) (if rf = 0 then lMk aa 17 nn 0 r1 else lMk aa 16 nn (-1) r1) aa))) := by
  obtain ⟨r_RB, r_QI, r_TP, r_MK, r_WTS, h58⟩ := hz
  exact sp_243rl (P := fun o m₉ => zRj S (fun _ m₉ => zN1 m₉ (qIf (0 ≤ nn.toInt ∧ nn.toInt ≤ 60 ∧ zSl r1) (if rf = 0 then lMk aa 17 nn 0 r1 else lMk aa 16 nn (-1) r1) aa)) (.inl o) (zst S m₉)) (T := T) (aa := aa) rf nn r1 hV (by omega) hb0 hb1 (by omega) r_W r_GW r_GU r_OW r_GG (by omega) (by omega) r_RB r_QI r_TP (fun z => absurd h58 z) r_MK r_WTS (fun v m₉ hV₉ q0 q1 q2 q3 q4 q5 q6 q7 q8 q9 q10 q11 => Rj_i v (zov wr_243 (mI S) m₉) ⟨q5, q6, q11, q8, q9, q10⟩) d w S _ hd hw hT rfl (fun _ _ z => z)
theorem n2_243 {X : Nat × (Nat → Int32)} {d w T : Nat} {S : ma_S} {aa : Nat → Nat → Int32} (rf : Int32) (nn : Int32) (r1 : Int32) (hd : 10 ≤ d) (hw : 224 ≤ w) (hT : zT S) (hV : zV (mI S)) (ht : T + 1 ≤ 512) (r_W : zW (mI S 94 7) (mI S 98) (mI S 101) (mI S 102) (mI S 108)) (r_GW : zGW T (mI S 94 55) (mI S 109)) (r_GU : zGU T (mI S 94 46) (mI S 99)) (r_OW : zOw (mI S 99) (mI S 103) (mI S 111)) (r_GG : zGG (mI S 94 58) (mI S 94 56) (mI S 94 57) (mI S 106)) (h8 : (mI S 94 8).toInt = 1) (hp : (mI S 94 10).toInt = 2) (hz : zN2 (mI S) aa) (hb0 : 0 ≤ rf.toInt) (hb1 : rf.toInt ≤ 1) : ma_wp X d w 243 0 [(0, .inr (.inr (some 94))), (1, .inl rf), (2, .inl nn), (3, .inl r1)] [] S (zRj S (fun _ m₉ => zN2 m₉ (qIf (0 ≤ nn.toInt ∧ nn.toInt ≤ 60 ∧ zSl r1) (if rf = 0 then hMk aa 17 nn 0 r1 else hMk aa 16 nn (-1) r1) aa))) := by
  obtain ⟨r_RB, r_HV, r_HL, r_MK, r_WTS, h58⟩ := hz
  exact sp_243rv (P := fun o m₉ => zRj S (fun _ m₉ => zN2 m₉ (qIf (0 ≤ nn.toInt ∧ nn.toInt ≤ 60 ∧ zSl r1) (if rf = 0 then hMk aa 17 nn 0 r1 else hMk aa 16 nn (-1) r1) aa)) (.inl o) (zst S m₉)) (T := T) (aa := aa) (ro := (aa 87 0)) rf nn r1 hV (by omega) hb0 hb1 (by omega) r_W r_GW r_GU r_OW r_GG (by omega) (by omega) r_RB r_HV r_HL (fun z => absurd h58 z) r_MK r_WTS (fun v m₉ hV₉ q0 q1 q2 q3 q4 q5 q6 q7 q8 q9 q10 q11 => Rj_i v (zov wr_243 (mI S) m₉) ⟨(RB_87o q5), q10, q11, q7, q8, q9⟩) d w S _ hd hw hT rfl (fun _ _ z => z)
theorem n3_243 {X : Nat × (Nat → Int32)} {d w T : Nat} {S : ma_S} {aa : Nat → Nat → Int32} (rf : Int32) (nn : Int32) (r1 : Int32) (hd : 10 ≤ d) (hw : 224 ≤ w) (hT : zT S) (hV : zV (mI S)) (ht : T + 1 ≤ 512) (r_W : zW (mI S 94 7) (mI S 98) (mI S 101) (mI S 102) (mI S 108)) (r_GW : zGW T (mI S 94 55) (mI S 109)) (r_GU : zGU T (mI S 94 46) (mI S 99)) (r_OW : zOw (mI S 99) (mI S 103) (mI S 111)) (r_GG : zGG (mI S 94 58) (mI S 94 56) (mI S 94 57) (mI S 106)) (h8 : (mI S 94 8).toInt = 1) (hp : (mI S 94 10).toInt = 3) (hz : zN3 (mI S) aa) (hb0 : 0 ≤ rf.toInt) (hb1 : rf.toInt ≤ 1) : ma_wp X d w 243 0 [(0, .inr (.inr (some 94))), (1, .inl rf), (2, .inl nn), (3, .inl r1)] [] S (zRj S (fun _ m₉ => zN3 m₉ (qIf (0 ≤ nn.toInt ∧ nn.toInt ≤ 60 ∧ zSl r1) (if rf = 0 then yMk aa 17 nn 0 r1 else yMk aa 16 nn (-1) r1) aa))) := by
  obtain ⟨r_RB, r_AV, r_AL, r_AGq, r_DT, r_MK, r_WTS, h58⟩ := hz
  have c43 : 4 ≤ (mI S 94 16).toInt := by
    rw [← r_AL.1.2.2.2]
    exact r_AV.2.2.1.2.2.2.2
  exact sp_243ry (P := fun o m₉ => zRj S (fun _ m₉ => zN3 m₉ (qIf (0 ≤ nn.toInt ∧ nn.toInt ≤ 60 ∧ zSl r1) (if rf = 0 then yMk aa 17 nn 0 r1 else yMk aa 16 nn (-1) r1) aa)) (.inl o) (zst S m₉)) (T := T) (aa := aa) (ro := (aa 87 0)) rf nn r1 hV (by omega) hb0 hb1 (by omega) r_W r_GW r_GU r_OW r_GG (by omega) (by omega) r_RB r_AV r_AL r_AGq r_DT (fun z => absurd h58 z) r_MK r_WTS (fun v m₉ hV₉ q0 q1 q2 q3 q4 q5 q6 q7 q8 q9 q10 q11 q12 q13 => Rj_i v (zov wr_243 (mI S) m₉) ⟨(RB_87o q5), q10, q11, q12, q13, q7, q8, q9⟩) d w S _ hd hw hT rfl (fun _ _ z => z)
theorem n6_243 {X : Nat × (Nat → Int32)} {d w T : Nat} {S : ma_S} {aa : Nat → Nat → Int32} (rf : Int32) (nn : Int32) (r1 : Int32) (hd : 10 ≤ d) (hw : 224 ≤ w) (hT : zT S) (hV : zV (mI S)) (ht : T + 1 ≤ 512) (r_W : zW (mI S 94 7) (mI S 98) (mI S 101) (mI S 102) (mI S 108)) (r_GW : zGW T (mI S 94 55) (mI S 109)) (r_GU : zGU T (mI S 94 46) (mI S 99)) (r_OW : zOw (mI S 99) (mI S 103) (mI S 111)) (r_GG : zGG (mI S 94 58) (mI S 94 56) (mI S 94 57) (mI S 106)) (h8 : (mI S 94 8).toInt = 1) (hp : (mI S 94 10).toInt = 6) (hz : zN6 (mI S) aa) (hb0 : 0 ≤ rf.toInt) (hb1 : rf.toInt ≤ 1) : ma_wp X d w 243 0 [(0, .inr (.inr (some 94))), (1, .inl rf), (2, .inl nn), (3, .inl r1)] [] S (zRj S (fun _ m₉ => zN6 m₉ (qIf (0 ≤ nn.toInt ∧ nn.toInt ≤ 60 ∧ zSl r1) (if rf = 0 then rMk aa 17 nn 0 r1 else rMk aa 16 nn (-1) r1) aa))) := by
  obtain ⟨r_RB, r_RV, r_RL, r_MK, r_WTS, h58⟩ := hz
  exact sp_243rz (P := fun o m₉ => zRj S (fun _ m₉ => zN6 m₉ (qIf (0 ≤ nn.toInt ∧ nn.toInt ≤ 60 ∧ zSl r1) (if rf = 0 then rMk aa 17 nn 0 r1 else rMk aa 16 nn (-1) r1) aa)) (.inl o) (zst S m₉)) (T := T) (aa := aa) (ro := (aa 87 0)) rf nn r1 hV (by omega) hb0 hb1 (by omega) r_W r_GW r_GU r_OW r_GG (by omega) (by omega) r_RB r_RV r_RL (fun z => absurd h58 z) r_MK r_WTS (fun v m₉ hV₉ q0 q1 q2 q3 q4 q5 q6 q7 q8 q9 q10 q11 => Rj_i v (zov wr_243 (mI S) m₉) ⟨(RB_87o q5), q10, q11, q7, q8, q9⟩) d w S _ hd hw hT rfl (fun _ _ z => z)

/-! from 95.z03 -/
/-! class and reference held against each other under the moving collectors -/
/-- the class's heap has stayed, under any moving collector -/
def zKm (S S₉ : ma_S) : Prop := (xB S (mR S 70) → xB S₉ (mR S₉ 70)) ∧ aL S₉ = aL S ∧ aH S₉ = aH S ∧ aG S₉ = aG S ∧ aZ S₉ = aZ S
def zS1m (S : ma_S) : Prop := xB S (mR S 70) ∧ zN1 (mI S) (aL S)
def zS2m (S : ma_S) : Prop := xB S (mR S 70) ∧ zN2 (mI S) (aH S)
def zS3m (S : ma_S) : Prop := xB S (mR S 70) ∧ zN3 (mI S) (aG S)
def zS6m (S : ma_S) : Prop := xB S (mR S 70) ∧ zN6 (mI S) (aZ S)
section F44
variable {a b X m m₉ : Nat → Nat → Int32} {S S₉ S2 : ma_S} {f f₉ : Nat → Nat → Int32} {r r₉ : Nat → Nat → Option Nat} {C Z N C₉ Z₉ N₉ : Nat} {g : Nat → Int32}
theorem N1_of (h : zN1 m X) (o : zOf X b) : zN1 m b := by
  obtain ⟨r, i, t, k, w, z⟩ := h
  exact ⟨RB_of r o, qI_of i o, Tp_of t o, (congrFun (Of_rx (c := 87) o (by decide)) 8).trans k, w, z⟩
theorem N2_of (h : zN2 m X) (o : zOf X b) : zN2 m b := by
  obtain ⟨r, i, t, k, w, z⟩ := h
  exact ⟨RB_87o (RB_of r o), Hv_of i o, HL_of t o, (congrFun (Of_rx (c := 87) o (by decide)) 8).trans k, w, z⟩
theorem N3_of (h : zN3 m X) (o : zOf X b) : zN3 m b := by
  obtain ⟨r, i, t, u, v, k, w, z⟩ := h
  exact ⟨RB_87o (RB_of r o), Av_of i o, AL_of t o, Ag_of u o, Dt_of v o, (congrFun (Of_rx (c := 87) o (by decide)) 8).trans k, w, z⟩
theorem N6_of (h : zN6 m X) (o : zOf X b) : zN6 m b := by
  obtain ⟨r, i, t, k, w, z⟩ := h
  exact ⟨RB_87o (RB_of r o), Rv_of i o, RL_of t o, (congrFun (Of_rx (c := 87) o (by decide)) 8).trans k, w, z⟩
theorem N6_93 (h : zN6 m X) : zN6 m (zX93 X g) := by
  obtain ⟨r, i, t, k, w, z⟩ := h
  exact ⟨RB_87o (RB_93 r), Rv_93 i, RL_93 t, (congrFun (X93 (X := X) (f := g) (c := 87) (by decide)) 8).trans k, w, z⟩
/-! the collectors' own heaps -/
theorem O_cg (h : aS 75 S₉ = aS 75 S) (hr : ∀ c k, 80 ≤ c → c ≤ 93 → mI S₉ c k = mI S c k) : aL S₉ = aL S ∧ aH S₉ = aH S ∧ aG S₉ = aG S ∧ aZ S₉ = aZ S := by
  have e8 : zf8 (mI S₉) = zf8 (mI S) := funext (fun k => by
    unfold zf8
    rw [hr 80 2 (by decide) (by decide), hr 80 3 (by decide) (by decide)])
  have eH : zfH (mI S₉) = zfH (mI S) := funext (fun k => by
    unfold zfH
    rw [hr 81 2 (by decide) (by decide), hr 81 3 (by decide) (by decide), hr 81 4 (by decide) (by decide)])
  have eG : zfG (mI S₉) = zfG (mI S) := funext (fun k => by
    unfold zfG
    rw [hr 82 2 (by decide) (by decide), hr 82 3 (by decide) (by decide), hr 82 4 (by decide) (by decide), hr 82 5 (by decide) (by decide), hr 82 6 (by decide) (by decide), hr 82 7 (by decide) (by decide), hr 82 8 (by decide) (by decide)])
  have eZ : zfZ (mI S₉) = zfZ (mI S) := funext (fun k => by
    unfold zfZ
    rw [hr 91 2 (by decide) (by decide), hr 91 3 (by decide) (by decide), hr 91 4 (by decide) (by decide), hr 91 5 (by decide) (by decide)])
  refine ⟨?_, ?_, ?_, ?_⟩
  · unfold aL
    rw [e8, aM_c h]
  · unfold aH
    rw [eH, aM_c h]
  · funext c k
    unfold aG
    rw [eG, aM_c h, hr 83 k (by decide) (by decide)]
  · funext c k
    unfold aZ
    rw [eZ, aM_c h]
    by_cases w : c = 92 ∨ c = 93
    · rw [if_pos w, if_pos w, hr c k (by omega) (by omega)]
    · rw [if_neg w, if_neg w]
theorem O_zst (h : zA f r C Z N S) (ho : ∀ c k, c < 94 ∨ 124 < c → m₉ c k = mI S c k) : aL (zst S m₉) = aL S ∧ aH (zst S m₉) = aH S ∧ aG (zst S m₉) = aG S ∧ aZ (zst S m₉) = aZ S :=
  O_cg (aF_c5 ho (fun _ _ => rfl) (fun n b e => h70 (S := S) h n b e)) (fun c k _ h2 => ho c k (Or.inl (by omega)))
theorem O_o5 (h : zA f r C Z N S) {x : Int64} : aL (ma_put S 125 0 (.inr (.inl x))) = aL S ∧ aH (ma_put S 125 0 (.inr (.inl x))) = aH S ∧ aG (ma_put S 125 0 (.inr (.inl x))) = aG S ∧ aZ (ma_put S 125 0 (.inr (.inl x))) = aZ S := O_cg (S_o5 h) (fun _ _ _ _ => rfl)
theorem fm_km (h : zFm (mI S) (mL S) (mR S 70) S₉) (hA : zA f r C Z N S) : zKm S S₉ := ⟨fun b => fn9_xB h b, O_cg (fm_75 h (h70 hA)) (fun c k h1 _ => h.2.2 c k (by omega))⟩
theorem km_o5 (h : zKm S S₉) (hA : zA f₉ r₉ C₉ Z₉ N₉ S₉) {x : Int64} : zKm S (ma_put S₉ 125 0 (.inr (.inl x))) := by
  have o := O_o5 hA (x := x)
  exact ⟨fun b => h.1 b, o.1.trans h.2.1, o.2.1.trans h.2.2.1, o.2.2.1.trans h.2.2.2.1, o.2.2.2.trans h.2.2.2.2⟩
/-! both behind a call -/
theorem Of_rfl : zOf a a := fun _ _ _ _ _ => rfl
theorem s1_mst (h : zA f r C Z N S2) (hB : xB S2 (mR S2 70)) (ho : ∀ c k, c < 94 ∨ 124 < c → m₉ c k = mI S2 c k) (hq : zOf X (aL S2)) (hz : zN1 m₉ X) : zS1m (zst S2 m₉) := ⟨xB_zst hB ho, by rw [(O_zst h ho).1]; exact N1_of hz hq⟩
theorem s2_mst (h : zA f r C Z N S2) (hB : xB S2 (mR S2 70)) (ho : ∀ c k, c < 94 ∨ 124 < c → m₉ c k = mI S2 c k) (hq : zOf X (aH S2)) (hz : zN2 m₉ X) : zS2m (zst S2 m₉) := ⟨xB_zst hB ho, by rw [(O_zst h ho).2.1]; exact N2_of hz hq⟩
theorem s3_mst (h : zA f r C Z N S2) (hB : xB S2 (mR S2 70)) (ho : ∀ c k, c < 94 ∨ 124 < c → m₉ c k = mI S2 c k) (hq : zOf X (aG S2)) (hz : zN3 m₉ X) : zS3m (zst S2 m₉) := ⟨xB_zst hB ho, by rw [(O_zst h ho).2.2.1]; exact N3_of hz hq⟩
theorem s6_mst (h : zA f r C Z N S2) (hB : xB S2 (mR S2 70)) (ho : ∀ c k, c < 94 ∨ 124 < c → m₉ c k = mI S2 c k) (hq : zOf (zX93 X (mI S2 93)) (aZ S2)) (hz : zN6 m₉ X) : zS6m (zst S2 m₉) := ⟨xB_zst hB ho, by rw [(O_zst h ho).2.2.2]; exact N6_of (N6_93 hz) hq⟩
theorem s6_mst' (h : zA f r C Z N S2) (hB : xB S2 (mR S2 70)) (ho : ∀ c k, c < 94 ∨ 124 < c → m₉ c k = mI S2 c k) (hq : zOf X (aZ S2)) (hz : zN6 m₉ X) : zS6m (zst S2 m₉) := ⟨xB_zst hB ho, by rw [(O_zst h ho).2.2.2]; exact N6_of hz hq⟩
theorem s1_kp (hs : zS1m S) (hk : zKm S S2) (h : zA f r C Z N S2) (ho : ∀ c k, c < 94 ∨ 124 < c → m₉ c k = mI S2 c k) (hz : zN1 m₉ (aL S)) : zS1m (zst S2 m₉) := s1_mst h (hk.1 hs.1) ho (by rw [hk.2.1]; exact Of_rfl) hz
theorem s2_kp (hs : zS2m S) (hk : zKm S S2) (h : zA f r C Z N S2) (ho : ∀ c k, c < 94 ∨ 124 < c → m₉ c k = mI S2 c k) (hz : zN2 m₉ (aH S)) : zS2m (zst S2 m₉) := s2_mst h (hk.1 hs.1) ho (by rw [hk.2.2.1]; exact Of_rfl) hz
theorem s3_kp (hs : zS3m S) (hk : zKm S S2) (h : zA f r C Z N S2) (ho : ∀ c k, c < 94 ∨ 124 < c → m₉ c k = mI S2 c k) (hz : zN3 m₉ (aG S)) : zS3m (zst S2 m₉) := s3_mst h (hk.1 hs.1) ho (by rw [hk.2.2.2.1]; exact Of_rfl) hz
theorem s6_kp (hs : zS6m S) (hk : zKm S S2) (h : zA f r C Z N S2) (ho : ∀ c k, c < 94 ∨ 124 < c → m₉ c k = mI S2 c k) (hz : zN6 m₉ (aZ S)) : zS6m (zst S2 m₉) := s6_mst' h (hk.1 hs.1) ho (by rw [hk.2.2.2.2]; exact Of_rfl) hz
end F44
theorem n1_tr {m m₉ aa : Nat → Nat → Int32} (H : zN1 m aa) (h : ∀ c k, 94 ≤ c → c ≤ 125 → m₉ c k = m c k) : zN1 m₉ aa := by
  have e98 : m₉ 98 = m 98 := funext (fun k => h 98 k (by decide) (by decide))
  have e99 : m₉ 99 = m 99 := funext (fun k => h 99 k (by decide) (by decide))
  have e100 : m₉ 100 = m 100 := funext (fun k => h 100 k (by decide) (by decide))
  have e101 : m₉ 101 = m 101 := funext (fun k => h 101 k (by decide) (by decide))
  have e102 : m₉ 102 = m 102 := funext (fun k => h 102 k (by decide) (by decide))
  have e103 : m₉ 103 = m 103 := funext (fun k => h 103 k (by decide) (by decide))
  have e107 : m₉ 107 = m 107 := funext (fun k => h 107 k (by decide) (by decide))
  have e108 : m₉ 108 = m 108 := funext (fun k => h 108 k (by decide) (by decide))
  have e109 : m₉ 109 = m 109 := funext (fun k => h 109 k (by decide) (by decide))
  have e111 : m₉ 111 = m 111 := funext (fun k => h 111 k (by decide) (by decide))
  have e112 : m₉ 112 = m 112 := funext (fun k => h 112 k (by decide) (by decide))
  have e113 : m₉ 113 = m 113 := funext (fun k => h 113 k (by decide) (by decide))
  have e114 : m₉ 114 = m 114 := funext (fun k => h 114 k (by decide) (by decide))
  have f11 : m₉ 94 11 = m 94 11 := h 94 11 (by decide) (by decide)
  have f45 : m₉ 94 45 = m 94 45 := h 94 45 (by decide) (by decide)
  have f46 : m₉ 94 46 = m 94 46 := h 94 46 (by decide) (by decide)
  have f55 : m₉ 94 55 = m 94 55 := h 94 55 (by decide) (by decide)
  have f58 : m₉ 94 58 = m 94 58 := h 94 58 (by decide) (by decide)
  have f59 : m₉ 94 59 = m 94 59 := h 94 59 (by decide) (by decide)
  unfold zN1 at H ⊢
  rw [e98, e99, e100, e101, e102, e103, e107, e108, e109, e111, e112, e113, e114, f11, f45, f46, f55, f58, f59]
  exact H
theorem n2_tr {m m₉ aa : Nat → Nat → Int32} (H : zN2 m aa) (h : ∀ c k, 94 ≤ c → c ≤ 125 → m₉ c k = m c k) : zN2 m₉ aa := by
  have e98 : m₉ 98 = m 98 := funext (fun k => h 98 k (by decide) (by decide))
  have e99 : m₉ 99 = m 99 := funext (fun k => h 99 k (by decide) (by decide))
  have e100 : m₉ 100 = m 100 := funext (fun k => h 100 k (by decide) (by decide))
  have e101 : m₉ 101 = m 101 := funext (fun k => h 101 k (by decide) (by decide))
  have e102 : m₉ 102 = m 102 := funext (fun k => h 102 k (by decide) (by decide))
  have e103 : m₉ 103 = m 103 := funext (fun k => h 103 k (by decide) (by decide))
  have e107 : m₉ 107 = m 107 := funext (fun k => h 107 k (by decide) (by decide))
  have e108 : m₉ 108 = m 108 := funext (fun k => h 108 k (by decide) (by decide))
  have e109 : m₉ 109 = m 109 := funext (fun k => h 109 k (by decide) (by decide))
  have e111 : m₉ 111 = m 111 := funext (fun k => h 111 k (by decide) (by decide))
  have e112 : m₉ 112 = m 112 := funext (fun k => h 112 k (by decide) (by decide))
  have e113 : m₉ 113 = m 113 := funext (fun k => h 113 k (by decide) (by decide))
  have e114 : m₉ 114 = m 114 := funext (fun k => h 114 k (by decide) (by decide))
  have f11 : m₉ 94 11 = m 94 11 := h 94 11 (by decide) (by decide)
  have f45 : m₉ 94 45 = m 94 45 := h 94 45 (by decide) (by decide)
  have f46 : m₉ 94 46 = m 94 46 := h 94 46 (by decide) (by decide)
  have f55 : m₉ 94 55 = m 94 55 := h 94 55 (by decide) (by decide)
  have f58 : m₉ 94 58 = m 94 58 := h 94 58 (by decide) (by decide)
  have f59 : m₉ 94 59 = m 94 59 := h 94 59 (by decide) (by decide)
  have f61 : m₉ 94 61 = m 94 61 := h 94 61 (by decide) (by decide)
  unfold zN2 at H ⊢
  rw [e98, e99, e100, e101, e102, e103, e107, e108, e109, e111, e112, e113, e114, f11, f45, f46, f55, f58, f59, f61]
  exact H
theorem n3_tr {m m₉ aa : Nat → Nat → Int32} (H : zN3 m aa) (h : ∀ c k, 94 ≤ c → c ≤ 125 → m₉ c k = m c k) : zN3 m₉ aa := by
  have e98 : m₉ 98 = m 98 := funext (fun k => h 98 k (by decide) (by decide))
  have e99 : m₉ 99 = m 99 := funext (fun k => h 99 k (by decide) (by decide))
  have e100 : m₉ 100 = m 100 := funext (fun k => h 100 k (by decide) (by decide))
  have e101 : m₉ 101 = m 101 := funext (fun k => h 101 k (by decide) (by decide))
  have e102 : m₉ 102 = m 102 := funext (fun k => h 102 k (by decide) (by decide))
  have e103 : m₉ 103 = m 103 := funext (fun k => h 103 k (by decide) (by decide))
  have e104 : m₉ 104 = m 104 := funext (fun k => h 104 k (by decide) (by decide))
  have e107 : m₉ 107 = m 107 := funext (fun k => h 107 k (by decide) (by decide))
  have e108 : m₉ 108 = m 108 := funext (fun k => h 108 k (by decide) (by decide))
  have e109 : m₉ 109 = m 109 := funext (fun k => h 109 k (by decide) (by decide))
  have e111 : m₉ 111 = m 111 := funext (fun k => h 111 k (by decide) (by decide))
  have e112 : m₉ 112 = m 112 := funext (fun k => h 112 k (by decide) (by decide))
  have e113 : m₉ 113 = m 113 := funext (fun k => h 113 k (by decide) (by decide))
  have e114 : m₉ 114 = m 114 := funext (fun k => h 114 k (by decide) (by decide))
  have e117 : m₉ 117 = m 117 := funext (fun k => h 117 k (by decide) (by decide))
  have f13 : m₉ 94 13 = m 94 13 := h 94 13 (by decide) (by decide)
  have f14 : m₉ 94 14 = m 94 14 := h 94 14 (by decide) (by decide)
  have f15 : m₉ 94 15 = m 94 15 := h 94 15 (by decide) (by decide)
  have f16 : m₉ 94 16 = m 94 16 := h 94 16 (by decide) (by decide)
  have f45 : m₉ 94 45 = m 94 45 := h 94 45 (by decide) (by decide)
  have f46 : m₉ 94 46 = m 94 46 := h 94 46 (by decide) (by decide)
  have f55 : m₉ 94 55 = m 94 55 := h 94 55 (by decide) (by decide)
  have f58 : m₉ 94 58 = m 94 58 := h 94 58 (by decide) (by decide)
  have f59 : m₉ 94 59 = m 94 59 := h 94 59 (by decide) (by decide)
  have f60 : m₉ 94 60 = m 94 60 := h 94 60 (by decide) (by decide)
  have f61 : m₉ 94 61 = m 94 61 := h 94 61 (by decide) (by decide)
  unfold zN3 at H ⊢
  rw [e98, e99, e100, e101, e102, e103, e104, e107, e108, e109, e111, e112, e113, e114, e117, f13, f14, f15, f16, f45, f46, f55, f58, f59, f60, f61]
  exact H
theorem n6_tr {m m₉ aa : Nat → Nat → Int32} (H : zN6 m aa) (h : ∀ c k, 94 ≤ c → c ≤ 125 → m₉ c k = m c k) : zN6 m₉ aa := by
  have e98 : m₉ 98 = m 98 := funext (fun k => h 98 k (by decide) (by decide))
  have e99 : m₉ 99 = m 99 := funext (fun k => h 99 k (by decide) (by decide))
  have e100 : m₉ 100 = m 100 := funext (fun k => h 100 k (by decide) (by decide))
  have e101 : m₉ 101 = m 101 := funext (fun k => h 101 k (by decide) (by decide))
  have e102 : m₉ 102 = m 102 := funext (fun k => h 102 k (by decide) (by decide))
  have e103 : m₉ 103 = m 103 := funext (fun k => h 103 k (by decide) (by decide))
  have e107 : m₉ 107 = m 107 := funext (fun k => h 107 k (by decide) (by decide))
  have e108 : m₉ 108 = m 108 := funext (fun k => h 108 k (by decide) (by decide))
  have e109 : m₉ 109 = m 109 := funext (fun k => h 109 k (by decide) (by decide))
  have e111 : m₉ 111 = m 111 := funext (fun k => h 111 k (by decide) (by decide))
  have e112 : m₉ 112 = m 112 := funext (fun k => h 112 k (by decide) (by decide))
  have e113 : m₉ 113 = m 113 := funext (fun k => h 113 k (by decide) (by decide))
  have e114 : m₉ 114 = m 114 := funext (fun k => h 114 k (by decide) (by decide))
  have e116 : m₉ 116 = m 116 := funext (fun k => h 116 k (by decide) (by decide))
  have f18 : m₉ 94 18 = m 94 18 := h 94 18 (by decide) (by decide)
  have f19 : m₉ 94 19 = m 94 19 := h 94 19 (by decide) (by decide)
  have f45 : m₉ 94 45 = m 94 45 := h 94 45 (by decide) (by decide)
  have f46 : m₉ 94 46 = m 94 46 := h 94 46 (by decide) (by decide)
  have f55 : m₉ 94 55 = m 94 55 := h 94 55 (by decide) (by decide)
  have f58 : m₉ 94 58 = m 94 58 := h 94 58 (by decide) (by decide)
  have f63 : m₉ 94 63 = m 94 63 := h 94 63 (by decide) (by decide)
  have f64 : m₉ 94 64 = m 94 64 := h 94 64 (by decide) (by decide)
  unfold zN6 at H ⊢
  rw [e98, e99, e100, e101, e102, e103, e107, e108, e109, e111, e112, e113, e114, e116, f18, f19, f45, f46, f55, f58, f63, f64]
  exact H

/-! from 95.z04 -/
/-! a heap that was just opened, under the moving collectors -/
/-- nothing is there -/
def zEmp (a : Nat → Nat → Int32) : Prop := (∀ n, ¬ xAl a n) ∧ (∀ p : Nat, p < 4500 → a 71 p = -1) ∧ (∀ p : Nat, p < 16 → a 72 p = -1) ∧ (∀ p : Nat, p < 16 → a 73 p = -1) ∧ (∀ n k, a (1000 + n) k = 0) ∧ a 69 5 = 0 ∧ a 69 6 = 0 ∧ a 69 8 = 0
/-- the reference has nothing -/
def zEmr (m : Nat → Nat → Int32) : Prop := (∀ s : Nat, s < 3100 → m 99 s = 0) ∧ (∀ s : Nat, (s : Int) < 16 → (m 112 s).toInt < 0) ∧ (∀ s : Nat, (s : Int) < 16 → (m 113 s).toInt < 0) ∧ (m 94 45).toInt = 0 ∧ (m 94 46).toInt = 0 ∧ (m 94 55).toInt = 0 ∧ (m 94 58).toInt = 0 ∧ (m 94 62).toInt = 0
section F45
variable {a b a8 m : Nat → Nat → Int32} {ro fo le ra pi : Int32} {S₉ : ma_S}
theorem z0_i {x : Int32} (h : x.toInt = 0) : x = 0 := Int32.toInt_inj.mp h
theorem fg_o {c k : Nat} (h : c ≠ 69) (h1 : c ≠ 71) (h2 : c ≠ 72) (h3 : c ≠ 73) : aFg a8 c k = zDe a8 512 c k := by
  unfold aFg zFl
  rw [xu_o (by omega), xu_o (by omega), xu_o (by omega), xu_o (by omega), if_neg (by omega), if_neg (by omega), if_neg (by omega)]
theorem Em_fg (ha : ∀ n k, 512 ≤ n → a8 (1000 + n) k = 0) : zEmp (aFg a8) := by
  refine ⟨fun n h => h.2 ?_, fun p hp => ?_, fun p hp => ?_, fun p hp => ?_, fun n k => ?_, rfl, rfl, rfl⟩
  · have := h.1
    rw [fg_o (by decide) (by decide) (by decide) (by decide)]
    unfold zDe
    rw [if_pos (Or.inl ⟨by omega, by omega, by omega⟩)]
  · unfold aFg zFl
    rw [xu_o (by omega), xu_o (by omega), xu_o (by omega), xu_o (by omega), if_neg (by omega), if_neg (by omega), if_pos ⟨rfl, by omega⟩]
  · show (if 72 = 73 ∧ (p : Int) < 16 then (-1 : Int32) else if 72 = 72 ∧ (p : Int) < 16 then -1 else zFl (zDe a8 512) 71 (-1) 4500 72 p) = -1
    rw [if_neg (by omega), if_pos ⟨rfl, by omega⟩]
  · show (if 73 = 73 ∧ (p : Int) < 16 then (-1 : Int32) else zFl (zFl (zDe a8 512) 71 (-1) 4500) 72 (-1) 16 73 p) = -1
    rw [if_pos ⟨rfl, by omega⟩]
  · rw [fg_o (by omega) (by omega) (by omega) (by omega)]
    unfold zDe
    by_cases w : n < 512
    · rw [if_pos (Or.inr ⟨by omega, by omega⟩)]
    · rw [if_neg (by omega)]
      exact ha n k (by omega)
theorem Em_6 (h : zEmp a) (o : zO6 b a) : zEmp b := by
  obtain ⟨h1, h2, h3, h4, h5, h6, h7, h8⟩ := h
  refine ⟨fun n hn => h1 n ⟨hn.1, ?_⟩, fun p hp => ?_, fun p hp => ?_, fun p hp => ?_, fun n k => ?_, ?_, ?_, ?_⟩
  · rw [← o 126 n (by decide) (by decide) (by decide) (by decide)]
    exact hn.2
  · rw [o 71 p (by decide) (by decide) (by decide) (by decide)]
    exact h2 p hp
  · rw [o 72 p (by decide) (by decide) (by decide) (by decide)]
    exact h3 p hp
  · rw [o 73 p (by decide) (by decide) (by decide) (by decide)]
    exact h4 p hp
  · rw [o (1000 + n) k (by omega) (by omega) (by omega) (by omega)]
    exact h5 n k
  · rw [o 69 5 (by decide) (by decide) (by decide) (by decide)]
    exact h6
  · rw [o 69 6 (by decide) (by decide) (by decide) (by decide)]
    exact h7
  · rw [o 69 8 (by decide) (by decide) (by decide) (by decide)]
    exact h8
theorem Em_RB (h : zEmp a) (r : zEmr m) (e0 : a 87 0 = ro) (e1 : a 87 1 = fo) (e2 : a 87 2 = le) (e6 : a 87 6 = ra) (e7 : a 87 7 = if pi = 0 then 1 else 0) : qRB (m 99) (m 100) (m 98) (m 101) (m 102) (m 103) (m 107) (m 108) (m 109) (m 111) (m 112) (m 113) (m 114) (m 94 55) (m 94 46) ro fo le ra pi a := by
  obtain ⟨al, i71, i72, i73, i1, g5, g6, g8⟩ := h
  obtain ⟨h9, h2, h3, f45, f46, f55, f58, f62⟩ := r
  refine ⟨⟨fun s hs hu => absurd (h9 s hs) hu, fun s t hs _ hu => absurd (h9 s hs) hu, fun n hn hx => absurd ⟨hn, hx⟩ (al n)⟩, fun s hs hu => absurd (h9 s hs) hu, fun k hk => ?_, fun k hk => ?_, ⟨?_, fun k hk => ?_⟩, fun s hs hu => absurd (h9 s hs) hu, fun s hs hu => absurd (h9 s hs) hu, ?_, e0, e1, e2, e6, e7⟩
  · have q := h2 k (by omega)
    refine ⟨Or.inl q, ?_⟩
    rw [i72 k hk, No_n q]
  · have q := h3 k (by omega)
    refine ⟨Or.inl q, ?_⟩
    rw [i73 k hk, No_n q]
  · rw [g5, z0_i f55]
  · rw [f55] at hk
    omega
  · rw [g6, z0_i f46]
theorem Em_I (h : zEmp a) (h0 : 0 ≤ (a 87 0).toInt) (h1 : (a 87 0).toInt ≤ 4500) (e2 : a 87 2 = 0) (e6 : a 87 6 = 0) : qI a := by
  obtain ⟨al, i71, i72, i73, i1, g5, g6, g8⟩ := h
  have i0 : (0 : Int32).toInt = 0 := rfl
  refine ⟨fun n hn => absurd hn (al n), fun n n₉ hn => absurd hn (al n), fun p hp _ => i71 p hp, ?_, ?_, fun n _ k => i1 n k⟩
  · unfold qI4
    rw [g6, g5, e2, e6]
    exact ⟨⟨by omega, by omega⟩, ⟨by omega, by omega⟩, ⟨by omega, by omega⟩, ⟨by omega, by omega⟩, fun n hn => absurd hn (al n), by omega⟩
  · rw [g8, Su_0 512 (fun x hx => Decidable.byContradiction (fun w => al x ⟨hx, w⟩))]
    rfl
theorem Em_su (h : zEmp a) : qSu a 512 = 0 := Su_0 512 (fun x hx => Decidable.byContradiction (fun w => h.1 x ⟨hx, w⟩))
theorem Em_wt (r : zEmr m) : (m 94 45).toInt = sm (zbU (m 99)) (m 102) 3100 := by
  rw [r.2.2.2.1, sm_zero (fun t ht => by
      unfold zbU
      rw [r.1 t ht]
      rfl)]
theorem op_1 (hV : zV m) (ha : ∀ n k, 512 ≤ n → a8 (1000 + n) k = 0) (hs : aS 88 S₉ = aFg a8) (r : zEmr m) (e : mI S₉ 80 2 = m 94 11) (e3 : mI S₉ 80 3 = 0) (f59 : (m 94 59).toInt = 0) : zN1 m (aL S₉) := by
  have E : zEmp (aL S₉) := Em_6 (Em_fg ha) (by rw [← hs]; exact M_88)
  have k0 : aL S₉ 87 0 = m 94 11 := by
    rw [← e]
    exact aM_7
  have k2 : aL S₉ 87 2 = 0 := by
    rw [← e3]
    exact aM_7
  have k1 : aL S₉ 87 1 = 0 := aM_7
  have k6 : aL S₉ 87 6 = 0 := aM_7
  have k7 : aL S₉ 87 7 = 0 := aM_7
  have k8 : aL S₉ 87 8 = 0 := aM_7
  have rr := rs_94_11 hV
  refine ⟨Em_RB E r k0 k1 (k2.trans (z0_i f59).symm) k6 k7, Em_I E (by rw [k0]; omega) (by rw [k0]; omega) k2 k6, fun n hn => absurd hn (E.1 n), ?_, Em_wt r, r.2.2.2.2.2.2.1⟩
  rw [k8, z0_i r.2.2.2.2.2.2.1]
theorem op_2 (hV : zV m) (ha : ∀ n k, 512 ≤ n → a8 (1000 + n) k = 0) (hs : aS 88 S₉ = aFg a8) (r : zEmr m) (e : mI S₉ 81 2 = m 94 11) (e3 : mI S₉ 81 3 = 0) (e4 : mI S₉ 81 4 = 0) (f59 : (m 94 59).toInt = 0) (f61 : (m 94 61).toInt = 0) : zN2 m (aH S₉) := by
  have E : zEmp (aH S₉) := Em_6 (Em_fg ha) (by rw [← hs]; exact M_88)
  have i0 : (0 : Int32).toInt = 0 := rfl
  have k5 : aH S₉ 87 5 = m 94 11 := by
    rw [← e]
    exact aM_7
  have k0 : aH S₉ 87 0 = m 94 11 + m 94 11 := by
    rw [← e]
    exact aM_7
  have k3 : aH S₉ 87 3 = 0 := by
    rw [← e3]
    exact aM_7
  have k4 : aH S₉ 87 4 = 0 := by
    rw [← e4]
    exact aM_7
  have k2 : aH S₉ 87 2 = 0 := aM_7
  have k1 : aH S₉ 87 1 = 0 := aM_7
  have k6 : aH S₉ 87 6 = 0 := aM_7
  have k7 : aH S₉ 87 7 = 0 := aM_7
  have k8 : aH S₉ 87 8 = 0 := aM_7
  have rr := rs_94_11 hV
  have ad : (m 94 11 + m 94 11).toInt = (m 94 11).toInt + (m 94 11).toInt := i_add (by omega) (by omega)
  have hI : qI (aH S₉) := Em_I E (by rw [k0]; omega) (by rw [k0]; omega) k2 k6
  refine ⟨Em_RB E r rfl k1 k2 k6 k7, ⟨hI, k2, ?_, ?_, ?_, fun n hn => absurd hn (E.1 n), fun n hn => absurd hn (E.1 n)⟩, ⟨k5, Or.inl f61, fun _ => by rw [k3]; rfl, fun z => by omega, k4.trans (z0_i f59).symm⟩, ?_, Em_wt r, r.2.2.2.2.2.2.1⟩
  · rw [k0, k5]
    omega
  · rw [k3]
    exact Or.inl rfl
  · rw [Em_su E, k3, k4, k5]
    omega
  · rw [k8, z0_i r.2.2.2.2.2.2.1]
end F45
/-! a heap that was just opened: AGES, REGIONS -/
section F46
variable {a a8 m : Nat → Nat → Int32} {S₉ : ma_S}
theorem Em_sy (h : zEmp a) : ∀ n, n ≤ 512 → gSy a n = 0 := by
  intro n
  induction n with
  | zero => intro _; rfl
  | succ n ih =>
    intro hn
    have e := ih (by omega)
    have z : ¬ a 126 n ≠ 0 := fun w => h.1 n ⟨by omega, w⟩
    show gSy a n + (if a 126 n ≠ 0 ∧ (a 87 9).toInt ≤ (a 130 n).toInt then (a 128 n).toInt else 0) = 0
    rw [e, if_neg (fun w => z w.1)]
    rfl
theorem rg_b {ro si q : Int} (h1 : 16 ≤ si) (h2 : 4 * si ≤ ro) (h3 : ro ≤ 1500) (e : q = ro / si) : 1 ≤ q ∧ q ≤ 93 ∧ q * si ≤ 1500 := by
  have a1 : q * si ≤ ro := by
    rw [e]
    exact Int.ediv_mul_le ro (by omega)
  have a2 : 1 ≤ q := by
    rw [e]
    exact (Int.le_ediv_iff_mul_le (by omega)).mpr (by omega)
  have a3 : q * 16 ≤ q * si := Int.mul_le_mul_of_nonneg_left h1 (by omega)
  exact ⟨a2, by omega, by omega⟩
theorem op_3 (hV : zV m) (ha : ∀ n k, 512 ≤ n → a8 (1000 + n) k = 0) (hs : aS 88 S₉ = aFg a8) (r : zEmr m) (e2 : mI S₉ 82 2 = m 94 13) (e3 : mI S₉ 82 3 = m 94 14) (e4 : mI S₉ 82 4 = m 94 15) (e5 : mI S₉ 82 5 = m 94 16) (e6 : mI S₉ 82 6 = 0) (e7 : mI S₉ 82 7 = m 94 14) (e8 : mI S₉ 82 8 = m 94 14) (e83 : ∀ k : Nat, k < 375 → mI S₉ 83 k = 0) (d0 : ∀ s : Nat, s < 512 → m 117 s = 0) (f59 : (m 94 59).toInt = (m 94 14).toInt) (f60 : (m 94 60).toInt = 0) (f61 : (m 94 61).toInt = 0) (ba : 1 ≤ (m 94 15).toInt ∧ (m 94 15).toInt ≤ 1000) (bc : 4 ≤ (m 94 16).toInt) : zN3 m (aG S₉) := by
  have E : zEmp (aG S₉) := Em_6 (Em_fg ha) (by rw [← hs]; exact G_88)
  have i0 : (0 : Int32).toInt = 0 := rfl
  have k0 : aG S₉ 87 0 = m 94 14 + (m 94 13 + m 94 13) := by
    rw [← e2, ← e3]
    exact aG_7
  have k3 : aG S₉ 87 3 = m 94 14 := by
    rw [← e7]
    exact aG_7
  have k4 : aG S₉ 87 4 = m 94 14 := by
    rw [← e8]
    exact aG_7
  have k5 : aG S₉ 87 5 = m 94 13 := by
    rw [← e2]
    exact aG_7
  have k9 : aG S₉ 87 9 = m 94 14 := by
    rw [← e3]
    exact aG_7
  have k10 : aG S₉ 87 10 = 0 := by
    rw [← e6]
    exact aG_7
  have k11 : aG S₉ 87 11 = m 94 15 := by
    rw [← e4]
    exact aG_7
  have k12 : aG S₉ 87 12 = m 94 16 := by
    rw [← e5]
    exact aG_7
  have k2 : aG S₉ 87 2 = 0 := aG_7
  have k1 : aG S₉ 87 1 = 0 := aG_7
  have k6 : aG S₉ 87 6 = 0 := aG_7
  have k7 : aG S₉ 87 7 = 0 := aG_7
  have k8 : aG S₉ 87 8 = 0 := aG_7
  have r3 := rs_94_13 hV
  have r4 := rs_94_14 hV
  have d1 : (m 94 13 + m 94 13).toInt = (m 94 13).toInt + (m 94 13).toInt := i_add (by omega) (by omega)
  have d2 : (m 94 14 + (m 94 13 + m 94 13)).toInt = (m 94 14).toInt + (m 94 13 + m 94 13).toInt := i_add (by omega) (by omega)
  have hI : qI (aG S₉) := Em_I E (by rw [k0]; omega) (by rw [k0]; omega) k2 k6
  refine ⟨Em_RB E r rfl k1 k2 k6 k7, ⟨hI, k2, ?_, ?_, ?_, ?_, fun n hn => absurd hn (E.1 n), fun n hn => absurd hn (E.1 n)⟩, ⟨⟨k5, k9, k11, k12⟩, k4.trans (Int32.toInt_inj.mp f59).symm, k10.trans (z0_i f60).symm, Or.inl f61, fun _ => by rw [k3], fun z => by omega⟩, fun s hs u => absurd (r.1 s hs) u, fun k hk => ?_, ?_, Em_wt r, r.2.2.2.2.2.2.1⟩
  · rw [k0, k5, k9, k11, k12]
    exact ⟨⟨by omega, by omega⟩, ⟨by omega, by omega⟩, by omega, ba, bc⟩
  · rw [k3, k9]
    exact Or.inl rfl
  · rw [Em_sy E 512 (Nat.le_refl _), k3, k4, k5]
    omega
  · rw [k10, k9]
    omega
  · rw [d0 k (by omega), aG_8, e83 k hk]
  · rw [k8, z0_i r.2.2.2.2.2.2.1]
theorem op_6 (hV : zV m) (ha : ∀ n k, 512 ≤ n → a8 (1000 + n) k = 0) (hs : aS 88 S₉ = aFg a8) (r : zEmr m) (e2 : mI S₉ 91 2 = m 94 18) (e3 : mI S₉ 91 3 = m 94 64) (e4 : mI S₉ 91 4 = m 94 19) (e5 : mI S₉ 91 5 = 0) (e92 : ∀ k : Nat, k < 93 → mI S₉ 92 k = 0) (t0 : ∀ s : Nat, s < 128 → m 116 s = 0) (f63 : (m 94 63).toInt = 0) (dv : (m 94 64).toInt = (m 94 11).toInt / (m 94 18).toInt) (b1 : 16 ≤ (m 94 18).toInt) (b4 : 4 * (m 94 18).toInt ≤ (m 94 11).toInt) (bh : 0 ≤ (m 94 19).toInt ∧ (m 94 19).toInt ≤ 100) : zN6 m (aZ S₉) := by
  have E : zEmp (aZ S₉) := Em_6 (Em_fg ha) (by rw [← hs]; exact Z_88)
  have i0 : (0 : Int32).toInt = 0 := rfl
  have k0 : aZ S₉ 87 0 = m 94 64 * m 94 18 := by
    rw [← e2, ← e3]
    exact aZ_7
  have k3 : aZ S₉ 87 3 = m 94 18 := by
    rw [← e2]
    exact aZ_7
  have k4 : aZ S₉ 87 4 = m 94 64 := by
    rw [← e3]
    exact aZ_7
  have k5 : aZ S₉ 87 5 = m 94 19 := by
    rw [← e4]
    exact aZ_7
  have k9 : aZ S₉ 87 9 = 0 := by
    rw [← e5]
    exact aZ_7
  have k2 : aZ S₉ 87 2 = 0 := aZ_7
  have k1 : aZ S₉ 87 1 = 0 := aZ_7
  have k6 : aZ S₉ 87 6 = 0 := aZ_7
  have k7 : aZ S₉ 87 7 = 0 := aZ_7
  have k8 : aZ S₉ 87 8 = 0 := aZ_7
  have k92 : ∀ k : Nat, k < 93 → aZ S₉ 92 k = 0 := fun k hk => (aZ_9 (Or.inl rfl)).trans (e92 k hk)
  have r1 := rs_94_11 hV
  have r8 := rs_94_18 hV
  have g := rg_b b1 b4 r1.2 dv
  have g0 : 0 ≤ (m 94 64).toInt * (m 94 18).toInt := Int.mul_nonneg (by omega) (by omega)
  have d0 : (m 94 64 * m 94 18).toInt = (m 94 64).toInt * (m 94 18).toInt := i_mul (by omega) (by omega)
  have hI : qI (aZ S₉) := Em_I E (by rw [k0, d0]; exact g0) (by rw [k0, d0]; omega) k2 k6
  refine ⟨Em_RB E r rfl k1 k2 k6 k7, ⟨hI, k2, ?_, fun q hq => ?_, fun n hn => absurd hn (E.1 n)⟩, ⟨k3, k4, k5, k9.trans (z0_i f63).symm, fun q hq => ?_⟩, ?_, Em_wt r, r.2.2.2.2.2.2.1⟩
  · rw [k0, k3, k4, k5, k9, d0]
    exact ⟨⟨b1, r8.2⟩, ⟨g.1, g.2.1⟩, ⟨by omega, by omega⟩, bh, rfl, g.2.2⟩
  · rw [k92 q hq, k3]
    exact ⟨⟨by omega, by omega⟩, fun _ => rfl⟩
  · rw [k92 q (by omega), t0 q (by omega)]
  · rw [k8, z0_i r.2.2.2.2.2.2.1]
end F46

/-! from 95.z05 -/
/-! the class's own heap behind a call, under the moving collectors -/
section F47
variable {X Y ab : Nat → Nat → Int32} {S S₉ : ma_S} {o i t x e : Int32} {p q : Nat → Int32}
theorem L_kp (hx : zAy X Y (aL S)) (hs : aS 88 S₉ = Y) (e : mI S₉ 80 = mI S 80) : zOf X (aL S₉) := M_kp2 hx hs (funext (fun k => by
  unfold zf8
  rw [e]))
theorem H_kp (hx : zAy X Y (aH S)) (hs : aS 88 S₉ = Y) (e : mI S₉ 81 = mI S 81) : zOf X (aH S₉) := M_kp2 hx hs (funext (fun k => by
  unfold zfH
  rw [e]))
/-- nothing changes -/
theorem Ay_L : zAy (aL S) (aS 88 S) (aL S) := ⟨M_88, fun _ _ _ _ => rfl⟩
theorem Ay_H : zAy (aH S) (aS 88 S) (aH S) := ⟨M_88, fun _ _ _ _ => rfl⟩
theorem Ay_G : zAy (aG S) (aS 88 S) (aG S) := ⟨G_88, fun _ _ _ _ => rfl⟩
theorem Ay_Z : zAy (aZ S) (aS 88 S) (aZ S) := ⟨Z_88, fun _ _ _ _ => rfl⟩
theorem Li_c6 (h : zO6 X Y) : (zRq X o ∧ (t = -1 ∨ zRq X t) ∧ zHw X o i ∧ zIr X o i) ↔ (zRq Y o ∧ (t = -1 ∨ zRq Y t) ∧ zHw Y o i ∧ zIr Y o i) := by rw [O6_Rq h, O6_Rq h, O6_Hw h, O6_Ir h]
theorem Gl_y (c : zRq (aS 88 S) o ∧ (t = -1 ∨ zRq (aS 88 S) t) ∧ zHw (aS 88 S) o i ∧ zIr (aS 88 S) o i) (hs : aS 88 S₉ = oLi (aS 88 S) o i t) (e2 : mI S₉ 82 = mI S 82) (e3 : mI S₉ 83 = gNr (aG S) o.toNatClampNeg i.toInt t 83) : zOf (yLi (aG S) o i t) (aG S₉) := by
  have cG := (Li_c6 (t := t) (o := o) (i := i) (G_88 (S := S))).mpr c
  have ey : yNl (aG S) o i t = gNr (aG S) o.toNatClampNeg i.toInt t := qIf_y cG
  exact G_kl (Ay_li G_88) hs e2 (yNl (aG S) o i t 83) (e3.trans (by rw [ey]))
theorem Gl_x (c : ¬ (zRq (aS 88 S) o ∧ (t = -1 ∨ zRq (aS 88 S) t) ∧ zHw (aS 88 S) o i ∧ zIr (aS 88 S) o i)) (hs : aS 88 S₉ = oLi (aS 88 S) o i t) (e2 : mI S₉ 82 = mI S 82) (e3 : mI S₉ 83 = mI S 83) : zOf (yLi (aG S) o i t) (aG S₉) := by
  have cG : ¬ _ := fun w => c ((Li_c6 (t := t) (o := o) (i := i) (G_88 (S := S))).mp w)
  have ey : yNl (aG S) o i t = aG S := qIf_n cG
  exact G_kl (Ay_li G_88) hs e2 (yNl (aG S) o i t 83) (e3.trans (by
    rw [ey]
    exact funext (fun k => aG_8.symm)))
/-! a hold under AGES -/
theorem Gh_y (h : zRq (aS 88 S) o ∧ (aS 88 S 130 o.toNatClampNeg).toInt < (mI S 82 3).toInt ∧ (¬ x = 0 ∨ ¬ aS 88 S 133 o.toNatClampNeg = 0) ∧ aS 88 S₉ = ma_u (aS 88 S) 133 o.toNatClampNeg (aS 88 S 133 o.toNatClampNeg + (if x = 0 then -1 else 1))) (e2 : mI S₉ 82 = mI S 82) (e3 : mI S₉ 83 = mI S 83) : zOf (yHo (aG S) o x) (aG S₉) := by
  have hs : aS 88 S₉ = xHo (aS 88 S) o x := h.2.2.2.trans (qIf_y ⟨h.1, h.2.2.1⟩).symm
  have ey : yHo (aG S) o x = xHo (aG S) o x := qIf_y (by
    rw [G_88 130 o.toNatClampNeg (by decide) (by decide) (by decide) (by decide)]
    exact h.2.1)
  rw [ey]
  exact G_kp (Ay_ho G_88) hs e2 e3
theorem Gh_x (h : (e = 4 ∧ ¬ zRq (aS 88 S) o) ∨ (e = 6 ∧ zRq (aS 88 S) o ∧ (¬ (aS 88 S 130 o.toNatClampNeg).toInt < (mI S 82 3).toInt ∨ (x = 0 ∧ aS 88 S 133 o.toNatClampNeg = 0)))) (hs : aS 88 S₉ = aS 88 S) (e2 : mI S₉ 82 = mI S 82) (e3 : mI S₉ 83 = mI S 83) : zOf (yHo (aG S) o x) (aG S₉) := by
  have ey : yHo (aG S) o x = aG S := by
    unfold yHo
    by_cases w : (aG S 130 o.toNatClampNeg).toInt < (aG S 87 9).toInt
    · rw [qIf_y w]
      refine qIf_n (fun z => ?_)
      rw [O6_Rq G_88, G_88 133 o.toNatClampNeg (by decide) (by decide) (by decide) (by decide)] at z
      rw [G_88 130 o.toNatClampNeg (by decide) (by decide) (by decide) (by decide)] at w
      rcases h with h | h
      · exact h.2 z.1
      · rcases h.2.2 with q | q
        · exact q w
        · exact z.2.elim (fun k => k q.1) (fun k => k q.2)
    · exact qIf_n w
  rw [ey]
  exact G_kp Ay_G hs e2 e3
end F47

