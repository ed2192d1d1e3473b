/-! the reference: texts (written by wip/tools/gen94n.py) -/
set_option maxHeartbeats 8000000 in
theorem lp_171n_148 {X : Nat × (Nat → Int32)} {P : Option ma_V → (Nat → Nat → Int32) → Prop} {T : Nat} {m0 : Nat → Nat → Int32} (h0 : zV m0) (K : ∀ v m', zF wr_171 m0 m' → zV m' → (zW (m' 94 7) (m' 98) (m' 101) (m' 102) (m' 108)) → (zGW T (m' 94 55) (m' 109)) → (zGU T (m' 94 46) (m' 99)) → (zOw (m' 99) (m' 103) (m' 111)) → (zDX (m' 94 10) (m' 99) (m' 112) (m' 113) (m' 114) (m' 94 55) (m' 98) (m' 101) (m' 102) (m' 108)) → (zGG (m' 94 58) (m' 94 56) (m' 94 57) (m' 106)) → (zHA (m' 94 10) (m' 94 11) (m' 94 13) (m' 94 14) (m' 94 16) (m' 94 61) (m' 94 59) (m' 94 60) (m' 99) (m' 102) (m' 103) (m' 111) (m' 117) (m' 98) (m' 101) (m' 108)) → (zRG (m' 94 10) (m' 94 18) (m' 94 64) (m' 94 63) (m' 99) (m' 103) (m' 102) (m' 116)) → ((m' 94 58).toInt = 0 ∨ (m' 94 10).toInt = 5) → ((m' 94 3).toInt = 0) → (v.toInt = zAns (m0 95) (m0 94 3).toInt) → P (some (.inl v)) m') : ∀ (n : Nat) (m : Nat → Nat → Int32) , ((0 : Int)).toNat = n → zF wr_171 m0 m → zV m → (zW (m 94 7) (m 98) (m 101) (m 102) (m 108)) → (zGW T (m 94 55) (m 109)) → ((m 94 3).toInt = 0) → (0 ≤ (m 94 20).toInt ∧ ((m 94 20).toInt ≠ 3 ∨ (4 ≤ (m 94 26).toInt ∧ 16 ≤ (m 94 23).toInt ∧ 16 ≤ (m 94 24).toInt)) ∧ ((m 94 20).toInt = 3 ∨ 16 ≤ (m 94 21).toInt)) → (((m 94 20).toInt ≠ 6 ∨ (16 ≤ (m 94 28).toInt ∧ 4 * (m 94 28).toInt ≤ (m 94 21).toInt))) → (zJ5 (zAns (m0 95) (m0 94 3).toInt) (m 94 20).toInt (m 94 23).toInt (m 94 24).toInt (m 94 21).toInt (m 94 28).toInt) → ((m 94 10).toInt = (m 94 20).toInt ∧ (m 94 11).toInt = (m 94 21).toInt ∧ (m 94 13).toInt = (m 94 23).toInt ∧ (m 94 14).toInt = (m 94 24).toInt ∧ (m 94 16).toInt = (m 94 26).toInt ∧ (m 94 18).toInt = (m 94 28).toInt) → zm X 4 90 171 148 [(0, .inr (.inr (some 94)))] m P := by
  intro n
  induction n using Nat.strongRecOn with
  | _ n IH =>
    intro m  hmu hF hV r_W r_GW hi2 hi3 hi4 r_JH hi6
    refine g_171_148  ?_
    have f1 : 0 ≤ (m 94 3).toInt ∧ (m 94 3).toInt ≤ 100 := rs_94_3 (m := m) hV
    have f2 : -1 ≤ (m 94 20).toInt ∧ (m 94 20).toInt ≤ 6 := rs_94_20 (m := m) hV
    have f3 : 0 ≤ (m 94 26).toInt ∧ (m 94 26).toInt ≤ 64 := rs_94_26 (m := m) hV
    have f4 : 0 ≤ (m 94 23).toInt ∧ (m 94 23).toInt ≤ 1500 := rs_94_23 (m := m) hV
    have f5 : 0 ≤ (m 94 24).toInt ∧ (m 94 24).toInt ≤ 1500 := rs_94_24 (m := m) hV
    have f6 : 0 ≤ (m 94 21).toInt ∧ (m 94 21).toInt ≤ 1500 := rs_94_21 (m := m) hV
    have f7 : 0 ≤ (m 94 28).toInt ∧ (m 94 28).toInt ≤ 256 := rs_94_28 (m := m) hV
    have f8 : 0 ≤ (m 94 10).toInt ∧ (m 94 10).toInt ≤ 6 := rs_94_10 (m := m) hV
    have f9 : 0 ≤ (m 94 11).toInt ∧ (m 94 11).toInt ≤ 1500 := rs_94_11 (m := m) hV
    have f10 : 0 ≤ (m 94 13).toInt ∧ (m 94 13).toInt ≤ 1500 := rs_94_13 (m := m) hV
    have f11 : 0 ≤ (m 94 14).toInt ∧ (m 94 14).toInt ≤ 1500 := rs_94_14 (m := m) hV
    have f12 : 0 ≤ (m 94 16).toInt ∧ (m 94 16).toInt ≤ 64 := rs_94_16 (m := m) hV
    have f13 : 0 ≤ (m 94 18).toInt ∧ (m 94 18).toInt ≤ 256 := rs_94_18 (m := m) hV
    refine sp_180n  hV r_GW (show ((m 94 10).toInt ≠ 3 ∨ 4 ≤ (m 94 16).toInt) ∧ ((m 94 10).toInt ≠ 6 ∨ (16 ≤ (m 94 18).toInt ∧ 4 * (m 94 18).toInt ≤ (m 94 11).toInt)) ∧ (m 94 11).toInt ≤ 1500 ∧ 0 ≤ (m 94 13).toInt ∧ 0 ≤ (m 94 14).toInt ∧ 0 ≤ (m 94 11).toInt from by omega) (fun m1 hV_m1 p0_m1 p1_m1 p2_m1 p3_m1 p4_m1 p5_m1 p6_m1 p7_m1 p8_m1 => zmv_n ?_)
    have p0_m1 : zGW T (m1 94 55) (m 109) := p0_m1
    have p1_m1 : zGU T (m1 94 46) (m1 99) := p1_m1
    have p2_m1 : zOw (m1 99) (m 103) (m1 111) := p2_m1
    have p3_m1 : zDX (m 94 10) (m1 99) (m1 112) (m1 113) (m 114) (m1 94 55) (m 98) (m 101) (m 102) (m 108) := p3_m1
    have p4_m1 : zGG (m1 94 58) (m1 94 56) (m1 94 57) (m 106) := p4_m1
    have p5_m1 : zHA (m 94 10) (m 94 11) (m 94 13) (m 94 14) (m 94 16) (m1 94 61) (m1 94 59) (m1 94 60) (m1 99) (m 102) (m 103) (m1 111) (m1 117) (m 98) (m 101) (m 108) := p5_m1
    have p6_m1 : zRG (m 94 10) (m 94 18) (m1 94 64) (m1 94 63) (m1 99) (m 103) (m 102) (m1 116) := p6_m1
    have p7_m1 : (m1 94 58).toInt = 0 ∨ (m 94 10).toInt = 5 := p7_m1
    have p8_m1 : (m 94 10).toInt = 6 → (m1 94 64) = (m 94 11) / (m 94 18) := p8_m1
    have f14 : 0 ≤ (m1 94 58).toInt ∧ (m1 94 58).toInt ≤ 1 := rs_94_58 (m := (zov wr_180 m m1)) hV_m1
    have li15 : (2 : Int32).toInt = 2 := rfl
    refine zd (fun (h16 : (m 94 10) = (2 : Int32)) => ?_) (fun (h16 : ¬ (m 94 10) = (2 : Int32)) => ?_)
    · skip
      have g17 := i_eq h16
      first | have e18 : ((2 : Int32) * (m 94 11)).toInt = 2 * (m 94 11).toInt := i_mulk2 rfl (by omega) (by omega) | have b19 := i_bd ((2 : Int32) * (m 94 11))
      exact K (((2 : Int32) * (m 94 11))) _ (zF_zov hF ws_180_171) hV_m1 r_W p0_m1 p1_m1 p2_m1 p3_m1 p4_m1 p5_m1 p6_m1 (show (m1 94 58).toInt = 0 ∨ (m 94 10).toInt = 5 from by omega) (show (m 94 3).toInt = 0 from by omega) (show ((2 : Int32) * (m 94 11)).toInt = zAns (m0 95) (m0 94 3).toInt from by first | (have z := J5_2 r_JH (by omega); omega; done) | (have z := J5_3 r_JH (by omega); omega; done) | (have z := J5_6 r_JH (by omega); exact rg_tot (p8_m1 (by omega)) (by omega) (by omega) (by omega) (by omega) (by omega) (by omega) z; done) | (have z := J5_0 r_JH (by omega); omega; done) | (exfalso; omega; done) | (exfalso; contradiction; done))
    · skip
      have g20 := i_ne h16
      have li21 : (3 : Int32).toInt = 3 := rfl
      refine zd (fun (h22 : (m 94 10) = (3 : Int32)) => ?_) (fun (h22 : ¬ (m 94 10) = (3 : Int32)) => ?_)
      · skip
        have g23 := i_eq h22
        first | have e24 : ((2 : Int32) * (m 94 13)).toInt = 2 * (m 94 13).toInt := i_mulk2 rfl (by omega) (by omega) | have b25 := i_bd ((2 : Int32) * (m 94 13))
        first | have e26 : ((m 94 14) + ((2 : Int32) * (m 94 13))).toInt = (m 94 14).toInt + ((2 : Int32) * (m 94 13)).toInt := i_add (by omega) (by omega) | have b27 := i_bd ((m 94 14) + ((2 : Int32) * (m 94 13)))
        exact K (((m 94 14) + ((2 : Int32) * (m 94 13)))) _ (zF_zov hF ws_180_171) hV_m1 r_W p0_m1 p1_m1 p2_m1 p3_m1 p4_m1 p5_m1 p6_m1 (show (m1 94 58).toInt = 0 ∨ (m 94 10).toInt = 5 from by omega) (show (m 94 3).toInt = 0 from by omega) (show ((m 94 14) + ((2 : Int32) * (m 94 13))).toInt = zAns (m0 95) (m0 94 3).toInt from by first | (have z := J5_2 r_JH (by omega); omega; done) | (have z := J5_3 r_JH (by omega); omega; done) | (have z := J5_6 r_JH (by omega); exact rg_tot (p8_m1 (by omega)) (by omega) (by omega) (by omega) (by omega) (by omega) (by omega) z; done) | (have z := J5_0 r_JH (by omega); omega; done) | (exfalso; omega; done) | (exfalso; contradiction; done))
      · skip
        have g28 := i_ne h22
        have li29 : (6 : Int32).toInt = 6 := rfl
        refine zd (fun (h30 : (m 94 10) = (6 : Int32)) => ?_) (fun (h30 : ¬ (m 94 10) = (6 : Int32)) => ?_)
        · skip
          have g31 := i_eq h30
          have f32 : 0 ≤ (m1 94 64).toInt ∧ (m1 94 64).toInt ≤ 93 := rs_94_64 (m := (zov wr_180 m m1)) hV_m1
          first | have f33 := i_muln (x := (m1 94 64)) (y := (m 94 18)) (by omega) (by omega) (by omega) (by omega) | have b34 := i_bd ((m1 94 64) * (m 94 18))
          exact K (((m1 94 64) * (m 94 18))) _ (zF_zov hF ws_180_171) hV_m1 r_W p0_m1 p1_m1 p2_m1 p3_m1 p4_m1 p5_m1 p6_m1 (show (m1 94 58).toInt = 0 ∨ (m 94 10).toInt = 5 from by omega) (show (m 94 3).toInt = 0 from by omega) (show ((m1 94 64) * (m 94 18)).toInt = zAns (m0 95) (m0 94 3).toInt from by first | (have z := J5_2 r_JH (by omega); omega; done) | (have z := J5_3 r_JH (by omega); omega; done) | (have z := J5_6 r_JH (by omega); exact rg_tot (p8_m1 (by omega)) (by omega) (by omega) (by omega) (by omega) (by omega) (by omega) z; done) | (have z := J5_0 r_JH (by omega); omega; done) | (exfalso; omega; done) | (exfalso; contradiction; done))
        · skip
          have g35 := i_ne h30
          exact K ((m 94 11)) _ (zF_zov hF ws_180_171) hV_m1 r_W p0_m1 p1_m1 p2_m1 p3_m1 p4_m1 p5_m1 p6_m1 (show (m1 94 58).toInt = 0 ∨ (m 94 10).toInt = 5 from by omega) (show (m 94 3).toInt = 0 from by omega) (show (m 94 11).toInt = zAns (m0 95) (m0 94 3).toInt from by first | (have z := J5_2 r_JH (by omega); omega; done) | (have z := J5_3 r_JH (by omega); omega; done) | (have z := J5_6 r_JH (by omega); exact rg_tot (p8_m1 (by omega)) (by omega) (by omega) (by omega) (by omega) (by omega) (by omega) z; done) | (have z := J5_0 r_JH (by omega); omega; done) | (exfalso; omega; done) | (exfalso; contradiction; done))
set_option maxHeartbeats 8000000 in
theorem lp_171n_124 {X : Nat × (Nat → Int32)} {P : Option ma_V → (Nat → Nat → Int32) → Prop} {T : Nat} {m0 : Nat → Nat → Int32} (h0 : zV m0) (K : ∀ v m', zF wr_171 m0 m' → zV m' → (zW (m' 94 7) (m' 98) (m' 101) (m' 102) (m' 108)) → (zGW T (m' 94 55) (m' 109)) → (zGU T (m' 94 46) (m' 99)) → (zOw (m' 99) (m' 103) (m' 111)) → (zDX (m' 94 10) (m' 99) (m' 112) (m' 113) (m' 114) (m' 94 55) (m' 98) (m' 101) (m' 102) (m' 108)) → (zGG (m' 94 58) (m' 94 56) (m' 94 57) (m' 106)) → (zHA (m' 94 10) (m' 94 11) (m' 94 13) (m' 94 14) (m' 94 16) (m' 94 61) (m' 94 59) (m' 94 60) (m' 99) (m' 102) (m' 103) (m' 111) (m' 117) (m' 98) (m' 101) (m' 108)) → (zRG (m' 94 10) (m' 94 18) (m' 94 64) (m' 94 63) (m' 99) (m' 103) (m' 102) (m' 116)) → ((m' 94 58).toInt = 0 ∨ (m' 94 10).toInt = 5) → ((m' 94 3).toInt = 0) → (v.toInt = zAns (m0 95) (m0 94 3).toInt) → P (some (.inl v)) m') : ∀ (n : Nat) (m : Nat → Nat → Int32) , ((0 : Int)).toNat = n → zF wr_171 m0 m → zV m → (zW (m 94 7) (m 98) (m 101) (m 102) (m 108)) → (zGW T (m 94 55) (m 109)) → ((m 94 3).toInt = 0) → (0 ≤ (m 94 20).toInt ∧ ((m 94 20).toInt ≠ 3 ∨ (4 ≤ (m 94 26).toInt ∧ 16 ≤ (m 94 23).toInt ∧ 16 ≤ (m 94 24).toInt)) ∧ ((m 94 20).toInt = 3 ∨ 16 ≤ (m 94 21).toInt)) → (((m 94 20).toInt ≠ 6 ∨ (16 ≤ (m 94 28).toInt ∧ 4 * (m 94 28).toInt ≤ (m 94 21).toInt))) → (zJ5 (zAns (m0 95) (m0 94 3).toInt) (m 94 20).toInt (m 94 23).toInt (m 94 24).toInt (m 94 21).toInt (m 94 28).toInt) → ((m 94 10).toInt = (m 94 20).toInt ∧ (m 94 11).toInt = (m 94 21).toInt ∧ (m 94 13).toInt = (m 94 23).toInt ∧ (m 94 14).toInt = (m 94 24).toInt ∧ (m 94 16).toInt = (m 94 26).toInt) → zm X 4 90 171 124 [(0, .inr (.inr (some 94)))] m P := by
  intro n
  induction n using Nat.strongRecOn with
  | _ n IH =>
    intro m  hmu hF hV r_W r_GW hi2 hi3 hi4 r_JH hi6
    refine g_171_124  ?_
    have f1 : 0 ≤ (m 94 3).toInt ∧ (m 94 3).toInt ≤ 100 := rs_94_3 (m := m) hV
    have f2 : -1 ≤ (m 94 20).toInt ∧ (m 94 20).toInt ≤ 6 := rs_94_20 (m := m) hV
    have f3 : 0 ≤ (m 94 26).toInt ∧ (m 94 26).toInt ≤ 64 := rs_94_26 (m := m) hV
    have f4 : 0 ≤ (m 94 23).toInt ∧ (m 94 23).toInt ≤ 1500 := rs_94_23 (m := m) hV
    have f5 : 0 ≤ (m 94 24).toInt ∧ (m 94 24).toInt ≤ 1500 := rs_94_24 (m := m) hV
    have f6 : 0 ≤ (m 94 21).toInt ∧ (m 94 21).toInt ≤ 1500 := rs_94_21 (m := m) hV
    have f7 : 0 ≤ (m 94 28).toInt ∧ (m 94 28).toInt ≤ 256 := rs_94_28 (m := m) hV
    have f8 : 0 ≤ (m 94 10).toInt ∧ (m 94 10).toInt ≤ 6 := rs_94_10 (m := m) hV
    have f9 : 0 ≤ (m 94 11).toInt ∧ (m 94 11).toInt ≤ 1500 := rs_94_11 (m := m) hV
    have f10 : 0 ≤ (m 94 13).toInt ∧ (m 94 13).toInt ≤ 1500 := rs_94_13 (m := m) hV
    have f11 : 0 ≤ (m 94 14).toInt ∧ (m 94 14).toInt ≤ 1500 := rs_94_14 (m := m) hV
    have f12 : 0 ≤ (m 94 16).toInt ∧ (m 94 16).toInt ≤ 64 := rs_94_16 (m := m) hV
    have f13 : 0 ≤ (m 94 30).toInt ∧ (m 94 30).toInt ≤ 1 := rs_94_30 (m := m) hV
    have hg14 : ((m 94 30) = 0 ∨ (m 94 30) = 1) := (i_bool (by omega) (by omega))
    refine ⟨hg14, ?_⟩
    have hV15 : zV (ma_u m 94 18 (m 94 28)) := us_94_18 hV (by omega) (by omega)
    have hV16 : zV (ma_u (ma_u m 94 18 (m 94 28)) 94 19 (m 94 29)) := uf_94_19 hV15
    have hV17 : zV (ma_u (ma_u (ma_u m 94 18 (m 94 28)) 94 19 (m 94 29)) 94 9 (m 94 30)) := us_94_9 hV16 (by omega) (by omega)
    exact lp_171n_148 h0 K _ _  rfl (zF_u (zF_u (zF_u hF rfl) rfl) rfl) hV17 r_W r_GW (show (m 94 3).toInt = 0 from by omega) (show 0 ≤ (m 94 20).toInt ∧ ((m 94 20).toInt ≠ 3 ∨ (4 ≤ (m 94 26).toInt ∧ 16 ≤ (m 94 23).toInt ∧ 16 ≤ (m 94 24).toInt)) ∧ ((m 94 20).toInt = 3 ∨ 16 ≤ (m 94 21).toInt) from by omega) (show ((m 94 20).toInt ≠ 6 ∨ (16 ≤ (m 94 28).toInt ∧ 4 * (m 94 28).toInt ≤ (m 94 21).toInt)) from by omega) r_JH (show (m 94 10).toInt = (m 94 20).toInt ∧ (m 94 11).toInt = (m 94 21).toInt ∧ (m 94 13).toInt = (m 94 23).toInt ∧ (m 94 14).toInt = (m 94 24).toInt ∧ (m 94 16).toInt = (m 94 26).toInt ∧ (m 94 28).toInt = (m 94 28).toInt from by omega)
set_option maxHeartbeats 8000000 in
theorem lp_171n_92 {X : Nat × (Nat → Int32)} {P : Option ma_V → (Nat → Nat → Int32) → Prop} {T : Nat} {m0 : Nat → Nat → Int32} (h0 : zV m0) (K : ∀ v m', zF wr_171 m0 m' → zV m' → (zW (m' 94 7) (m' 98) (m' 101) (m' 102) (m' 108)) → (zGW T (m' 94 55) (m' 109)) → (zGU T (m' 94 46) (m' 99)) → (zOw (m' 99) (m' 103) (m' 111)) → (zDX (m' 94 10) (m' 99) (m' 112) (m' 113) (m' 114) (m' 94 55) (m' 98) (m' 101) (m' 102) (m' 108)) → (zGG (m' 94 58) (m' 94 56) (m' 94 57) (m' 106)) → (zHA (m' 94 10) (m' 94 11) (m' 94 13) (m' 94 14) (m' 94 16) (m' 94 61) (m' 94 59) (m' 94 60) (m' 99) (m' 102) (m' 103) (m' 111) (m' 117) (m' 98) (m' 101) (m' 108)) → (zRG (m' 94 10) (m' 94 18) (m' 94 64) (m' 94 63) (m' 99) (m' 103) (m' 102) (m' 116)) → ((m' 94 58).toInt = 0 ∨ (m' 94 10).toInt = 5) → ((m' 94 3).toInt = 0) → (v.toInt = zAns (m0 95) (m0 94 3).toInt) → P (some (.inl v)) m') : ∀ (n : Nat) (m : Nat → Nat → Int32) , ((0 : Int)).toNat = n → zF wr_171 m0 m → zV m → (zW (m 94 7) (m 98) (m 101) (m 102) (m 108)) → (zGW T (m 94 55) (m 109)) → ((m 94 3).toInt = 0) → (0 ≤ (m 94 20).toInt ∧ ((m 94 20).toInt ≠ 3 ∨ (4 ≤ (m 94 26).toInt ∧ 16 ≤ (m 94 23).toInt ∧ 16 ≤ (m 94 24).toInt)) ∧ ((m 94 20).toInt = 3 ∨ 16 ≤ (m 94 21).toInt)) → (((m 94 20).toInt ≠ 6 ∨ (16 ≤ (m 94 28).toInt ∧ 4 * (m 94 28).toInt ≤ (m 94 21).toInt))) → (zJ5 (zAns (m0 95) (m0 94 3).toInt) (m 94 20).toInt (m 94 23).toInt (m 94 24).toInt (m 94 21).toInt (m 94 28).toInt) → ((m 94 10).toInt = (m 94 20).toInt ∧ (m 94 11).toInt = (m 94 21).toInt ∧ (m 94 13).toInt = (m 94 23).toInt) → zm X 4 90 171 92 [(0, .inr (.inr (some 94)))] m P := by
  intro n
  induction n using Nat.strongRecOn with
  | _ n IH =>
    intro m  hmu hF hV r_W r_GW hi2 hi3 hi4 r_JH hi6
    refine g_171_92  ?_
    have f1 : 0 ≤ (m 94 3).toInt ∧ (m 94 3).toInt ≤ 100 := rs_94_3 (m := m) hV
    have f2 : -1 ≤ (m 94 20).toInt ∧ (m 94 20).toInt ≤ 6 := rs_94_20 (m := m) hV
    have f3 : 0 ≤ (m 94 26).toInt ∧ (m 94 26).toInt ≤ 64 := rs_94_26 (m := m) hV
    have f4 : 0 ≤ (m 94 23).toInt ∧ (m 94 23).toInt ≤ 1500 := rs_94_23 (m := m) hV
    have f5 : 0 ≤ (m 94 24).toInt ∧ (m 94 24).toInt ≤ 1500 := rs_94_24 (m := m) hV
    have f6 : 0 ≤ (m 94 21).toInt ∧ (m 94 21).toInt ≤ 1500 := rs_94_21 (m := m) hV
    have f7 : 0 ≤ (m 94 28).toInt ∧ (m 94 28).toInt ≤ 256 := rs_94_28 (m := m) hV
    have f8 : 0 ≤ (m 94 10).toInt ∧ (m 94 10).toInt ≤ 6 := rs_94_10 (m := m) hV
    have f9 : 0 ≤ (m 94 11).toInt ∧ (m 94 11).toInt ≤ 1500 := rs_94_11 (m := m) hV
    have f10 : 0 ≤ (m 94 13).toInt ∧ (m 94 13).toInt ≤ 1500 := rs_94_13 (m := m) hV
    have hV11 : zV (ma_u m 94 14 (m 94 24)) := us_94_14 hV (by omega) (by omega)
    have hV12 : zV (ma_u (ma_u m 94 14 (m 94 24)) 94 15 (m 94 25)) := uf_94_15 hV11
    have hV13 : zV (ma_u (ma_u (ma_u m 94 14 (m 94 24)) 94 15 (m 94 25)) 94 16 (m 94 26)) := us_94_16 hV12 (by omega) (by omega)
    have hV14 : zV (ma_u (ma_u (ma_u (ma_u m 94 14 (m 94 24)) 94 15 (m 94 25)) 94 16 (m 94 26)) 94 17 (m 94 27)) := uf_94_17 hV13
    exact lp_171n_124 h0 K _ _  rfl (zF_u (zF_u (zF_u (zF_u hF rfl) rfl) rfl) rfl) hV14 r_W r_GW (show (m 94 3).toInt = 0 from by omega) (show 0 ≤ (m 94 20).toInt ∧ ((m 94 20).toInt ≠ 3 ∨ (4 ≤ (m 94 26).toInt ∧ 16 ≤ (m 94 23).toInt ∧ 16 ≤ (m 94 24).toInt)) ∧ ((m 94 20).toInt = 3 ∨ 16 ≤ (m 94 21).toInt) from by omega) (show ((m 94 20).toInt ≠ 6 ∨ (16 ≤ (m 94 28).toInt ∧ 4 * (m 94 28).toInt ≤ (m 94 21).toInt)) from by omega) r_JH (show (m 94 10).toInt = (m 94 20).toInt ∧ (m 94 11).toInt = (m 94 21).toInt ∧ (m 94 13).toInt = (m 94 23).toInt ∧ (m 94 24).toInt = (m 94 24).toInt ∧ (m 94 26).toInt = (m 94 26).toInt from by omega)
set_option maxHeartbeats 8000000 in
theorem lp_171n_60 {X : Nat × (Nat → Int32)} {P : Option ma_V → (Nat → Nat → Int32) → Prop} {T : Nat} {m0 : Nat → Nat → Int32} (h0 : zV m0) (K : ∀ v m', zF wr_171 m0 m' → zV m' → (zW (m' 94 7) (m' 98) (m' 101) (m' 102) (m' 108)) → (zGW T (m' 94 55) (m' 109)) → (zGU T (m' 94 46) (m' 99)) → (zOw (m' 99) (m' 103) (m' 111)) → (zDX (m' 94 10) (m' 99) (m' 112) (m' 113) (m' 114) (m' 94 55) (m' 98) (m' 101) (m' 102) (m' 108)) → (zGG (m' 94 58) (m' 94 56) (m' 94 57) (m' 106)) → (zHA (m' 94 10) (m' 94 11) (m' 94 13) (m' 94 14) (m' 94 16) (m' 94 61) (m' 94 59) (m' 94 60) (m' 99) (m' 102) (m' 103) (m' 111) (m' 117) (m' 98) (m' 101) (m' 108)) → (zRG (m' 94 10) (m' 94 18) (m' 94 64) (m' 94 63) (m' 99) (m' 103) (m' 102) (m' 116)) → ((m' 94 58).toInt = 0 ∨ (m' 94 10).toInt = 5) → ((m' 94 3).toInt = 0) → (v.toInt = zAns (m0 95) (m0 94 3).toInt) → P (some (.inl v)) m') : ∀ (n : Nat) (m : Nat → Nat → Int32) , ((0 : Int)).toNat = n → zF wr_171 m0 m → zV m → (zW (m 94 7) (m 98) (m 101) (m 102) (m 108)) → (zGW T (m 94 55) (m 109)) → ((m 94 3).toInt = 0) → (0 ≤ (m 94 20).toInt ∧ ((m 94 20).toInt ≠ 3 ∨ (4 ≤ (m 94 26).toInt ∧ 16 ≤ (m 94 23).toInt ∧ 16 ≤ (m 94 24).toInt)) ∧ ((m 94 20).toInt = 3 ∨ 16 ≤ (m 94 21).toInt)) → (((m 94 20).toInt ≠ 6 ∨ (16 ≤ (m 94 28).toInt ∧ 4 * (m 94 28).toInt ≤ (m 94 21).toInt))) → (zJ5 (zAns (m0 95) (m0 94 3).toInt) (m 94 20).toInt (m 94 23).toInt (m 94 24).toInt (m 94 21).toInt (m 94 28).toInt) → zm X 4 90 171 60 [(0, .inr (.inr (some 94)))] m P := by
  intro n
  induction n using Nat.strongRecOn with
  | _ n IH =>
    intro m  hmu hF hV r_W r_GW hi2 hi3 hi4 r_JH
    refine g_171_60  ?_
    have f1 : 0 ≤ (m 94 3).toInt ∧ (m 94 3).toInt ≤ 100 := rs_94_3 (m := m) hV
    have f2 : -1 ≤ (m 94 20).toInt ∧ (m 94 20).toInt ≤ 6 := rs_94_20 (m := m) hV
    have f3 : 0 ≤ (m 94 26).toInt ∧ (m 94 26).toInt ≤ 64 := rs_94_26 (m := m) hV
    have f4 : 0 ≤ (m 94 23).toInt ∧ (m 94 23).toInt ≤ 1500 := rs_94_23 (m := m) hV
    have f5 : 0 ≤ (m 94 24).toInt ∧ (m 94 24).toInt ≤ 1500 := rs_94_24 (m := m) hV
    have f6 : 0 ≤ (m 94 21).toInt ∧ (m 94 21).toInt ≤ 1500 := rs_94_21 (m := m) hV
    have f7 : 0 ≤ (m 94 28).toInt ∧ (m 94 28).toInt ≤ 256 := rs_94_28 (m := m) hV
    have hV8 : zV (ma_u m 94 10 (m 94 20)) := us_94_10 hV (by omega) (by omega)
    have hV9 : zV (ma_u (ma_u m 94 10 (m 94 20)) 94 11 (m 94 21)) := us_94_11 hV8 (by omega) (by omega)
    have hV10 : zV (ma_u (ma_u (ma_u m 94 10 (m 94 20)) 94 11 (m 94 21)) 94 12 (m 94 22)) := uf_94_12 hV9
    have hV11 : zV (ma_u (ma_u (ma_u (ma_u m 94 10 (m 94 20)) 94 11 (m 94 21)) 94 12 (m 94 22)) 94 13 (m 94 23)) := us_94_13 hV10 (by omega) (by omega)
    exact lp_171n_92 h0 K _ _  rfl (zF_u (zF_u (zF_u (zF_u hF rfl) rfl) rfl) rfl) hV11 r_W r_GW (show (m 94 3).toInt = 0 from by omega) (show 0 ≤ (m 94 20).toInt ∧ ((m 94 20).toInt ≠ 3 ∨ (4 ≤ (m 94 26).toInt ∧ 16 ≤ (m 94 23).toInt ∧ 16 ≤ (m 94 24).toInt)) ∧ ((m 94 20).toInt = 3 ∨ 16 ≤ (m 94 21).toInt) from by omega) (show ((m 94 20).toInt ≠ 6 ∨ (16 ≤ (m 94 28).toInt ∧ 4 * (m 94 28).toInt ≤ (m 94 21).toInt)) from by omega) r_JH (show (m 94 20).toInt = (m 94 20).toInt ∧ (m 94 21).toInt = (m 94 21).toInt ∧ (m 94 23).toInt = (m 94 23).toInt from by omega)
set_option maxHeartbeats 8000000 in
theorem lp_171n_20 {X : Nat × (Nat → Int32)} {P : Option ma_V → (Nat → Nat → Int32) → Prop} {T : Nat} {m0 : Nat → Nat → Int32} (h0 : zV m0) (K : ∀ v m', zF wr_171 m0 m' → zV m' → (zW (m' 94 7) (m' 98) (m' 101) (m' 102) (m' 108)) → (zGW T (m' 94 55) (m' 109)) → (zGU T (m' 94 46) (m' 99)) → (zOw (m' 99) (m' 103) (m' 111)) → (zDX (m' 94 10) (m' 99) (m' 112) (m' 113) (m' 114) (m' 94 55) (m' 98) (m' 101) (m' 102) (m' 108)) → (zGG (m' 94 58) (m' 94 56) (m' 94 57) (m' 106)) → (zHA (m' 94 10) (m' 94 11) (m' 94 13) (m' 94 14) (m' 94 16) (m' 94 61) (m' 94 59) (m' 94 60) (m' 99) (m' 102) (m' 103) (m' 111) (m' 117) (m' 98) (m' 101) (m' 108)) → (zRG (m' 94 10) (m' 94 18) (m' 94 64) (m' 94 63) (m' 99) (m' 103) (m' 102) (m' 116)) → ((m' 94 58).toInt = 0 ∨ (m' 94 10).toInt = 5) → ((m' 94 3).toInt = 0) → (v.toInt = zAns (m0 95) (m0 94 3).toInt) → P (some (.inl v)) m') : ∀ (n : Nat) (m : Nat → Nat → Int32) (l1 : Int32), (100 - l1.toInt).toNat = n → zF wr_171 m0 m → zV m → (0 ≤ l1.toInt) → ((m 94 4).toInt = (m0 94 3).toInt) → (l1.toInt ≤ (m 94 4).toInt) → ((m 95) = (m0 95)) → (∀ k : Nat, (k : Int) < (m 94 4).toInt → vp_nar .byte ((m 95) k) = (m 95) k) → (∀ k : Nat, (k : Int) < l1.toInt → (m 96) k = (m 95) k) → (zW (m 94 7) (m 98) (m 101) (m 102) (m 108)) → (zGW T (m 94 55) (m 109)) → (zGU T (m 94 46) (m 99)) → (zOw (m 99) (m 103) (m 111)) → (zDX (m 94 10) (m 99) (m 112) (m 113) (m 114) (m 94 55) (m 98) (m 101) (m 102) (m 108)) → (zGG (m 94 58) (m 94 56) (m 94 57) (m 106)) → (zHA (m 94 10) (m 94 11) (m 94 13) (m 94 14) (m 94 16) (m 94 61) (m 94 59) (m 94 60) (m 99) (m 102) (m 103) (m 111) (m 117) (m 98) (m 101) (m 108)) → (zRG (m 94 10) (m 94 18) (m 94 64) (m 94 63) (m 99) (m 103) (m 102) (m 116)) → ((m 94 58).toInt = 0 ∨ (m 94 10).toInt = 5) → ((m 94 3).toInt = 0) → zm X 4 90 171 20 [(0, .inr (.inr (some 94))), (1, .inl l1)] m P := by
  intro n
  induction n using Nat.strongRecOn with
  | _ n IH =>
    intro m l1 hmu hF hV hi0 hi1 hi2 r_T95 r_BY r_SR r_W r_GW r_GU r_OW r_DX r_GG r_HA r_RGc hi14 hi15
    refine g_171_20 l1 ?_
    have f1 : 0 ≤ (m 94 4).toInt ∧ (m 94 4).toInt ≤ 100 := rs_94_4 (m := m) hV
    have f2 : 0 ≤ (m0 94 3).toInt ∧ (m0 94 3).toInt ≤ 100 := rs_94_3 (m := m0) h0
    have f3 : 0 ≤ (m 94 58).toInt ∧ (m 94 58).toInt ≤ 1 := rs_94_58 (m := m) hV
    have f4 : 0 ≤ (m 94 10).toInt ∧ (m 94 10).toInt ≤ 6 := rs_94_10 (m := m) hV
    have f5 : 0 ≤ (m 94 3).toInt ∧ (m 94 3).toInt ≤ 100 := rs_94_3 (m := m) hV
    have b6 := i_bd l1
    refine zd (fun (h7 : (m 94 4) ≤ l1) => ?_) (fun (h7 : ¬ (m 94 4) ≤ l1) => ?_)
    · skip
      have g8 := i_le h7
      refine sp_172n  hV  (fun v2 m1 hV_m1 hb_m1 p0_m1 p1_m1 => zmi_n ?_)
      have p0_m1 : v2.toInt = 0 ∨ (0 ≤ (m1 94 20).toInt ∧ ((m1 94 20).toInt ≠ 3 ∨ (4 ≤ (m1 94 26).toInt ∧ 16 ≤ (m1 94 23).toInt ∧ 16 ≤ (m1 94 24).toInt)) ∧ ((m1 94 20).toInt = 3 ∨ 16 ≤ (m1 94 21).toInt) ∧ ((m1 94 20).toInt ≠ 6 ∨ (16 ≤ (m1 94 28).toInt ∧ 4 * (m1 94 28).toInt ≤ (m1 94 21).toInt))) := p0_m1
      have p1_m1 : zRPr v2 (m1 94 70).toInt (zAns (m 96) (m 94 4).toInt) (zJ5 (zAns (m 96) (m 94 4).toInt) (m1 94 20).toInt (m1 94 23).toInt (m1 94 24).toInt (m1 94 21).toInt (m1 94 28).toInt) := p1_m1
      have f9 : -1 ≤ (m1 94 20).toInt ∧ (m1 94 20).toInt ≤ 6 := rs_94_20 (m := (zov wr_172 m m1)) hV_m1
      have f10 : 0 ≤ (m1 94 26).toInt ∧ (m1 94 26).toInt ≤ 64 := rs_94_26 (m := (zov wr_172 m m1)) hV_m1
      have f11 : 0 ≤ (m1 94 23).toInt ∧ (m1 94 23).toInt ≤ 1500 := rs_94_23 (m := (zov wr_172 m m1)) hV_m1
      have f12 : 0 ≤ (m1 94 24).toInt ∧ (m1 94 24).toInt ≤ 1500 := rs_94_24 (m := (zov wr_172 m m1)) hV_m1
      have f13 : 0 ≤ (m1 94 21).toInt ∧ (m1 94 21).toInt ≤ 1500 := rs_94_21 (m := (zov wr_172 m m1)) hV_m1
      have f14 : 0 ≤ (m1 94 28).toInt ∧ (m1 94 28).toInt ≤ 256 := rs_94_28 (m := (zov wr_172 m m1)) hV_m1
      have f15 := i_01 hb_m1
      have li16 : (0 : Int32).toInt = 0 := rfl
      refine zd (fun (h17 : v2 = (0 : Int32)) => ?_) (fun (h17 : ¬ v2 = (0 : Int32)) => ?_)
      · skip
        have g18 := i_eq h17
        have li19 : (-1 : Int32).toInt = -1 := rfl
        have f20 : 0 ≤ (m1 94 70).toInt ∧ (m1 94 70).toInt ≤ 100 := rs_94_70 (m := (zov wr_172 m m1)) hV_m1
        first | have e21 : ((-1 : Int32) - (m1 94 70)).toInt = (-1 : Int32).toInt - (m1 94 70).toInt := i_sub (by omega) (by omega) | have b22 := i_bd ((-1 : Int32) - (m1 94 70))
        exact K (((-1 : Int32) - (m1 94 70))) _ (zF_zov hF ws_172_171) hV_m1 r_W r_GW r_GU r_OW r_DX r_GG r_HA r_RGc (show (m 94 58).toInt = 0 ∨ (m 94 10).toInt = 5 from by omega) (show (m 94 3).toInt = 0 from by omega) (show ((-1 : Int32) - (m1 94 70)).toInt = zAns (m0 95) (m0 94 3).toInt from by first | (have z2 : zAns (m 96) (m 94 4).toInt = zAns (m0 95) (m0 94 3).toInt := (by rw [zAns_cg (t' := (m 95)) (fun k hk => r_SR k (by omega)) (by omega) (by omega), r_T95, show (m 94 4).toInt = (m0 94 3).toInt from by omega]); exact hp_sub ((RP_no p1_m1 (by omega)).trans z2) (rs_94_70 hV_m1).1 (rs_94_70 hV_m1).2; done) | (exfalso; omega; done) | (exfalso; contradiction; done))
      · skip
        have g23 := i_ne h17
        exact lp_171n_60 h0 K _ _  rfl (zF_zov hF ws_172_171) hV_m1 r_W r_GW (show (m 94 3).toInt = 0 from by omega) (show 0 ≤ (m1 94 20).toInt ∧ ((m1 94 20).toInt ≠ 3 ∨ (4 ≤ (m1 94 26).toInt ∧ 16 ≤ (m1 94 23).toInt ∧ 16 ≤ (m1 94 24).toInt)) ∧ ((m1 94 20).toInt = 3 ∨ 16 ≤ (m1 94 21).toInt) from by omega) (show ((m1 94 20).toInt ≠ 6 ∨ (16 ≤ (m1 94 28).toInt ∧ 4 * (m1 94 28).toInt ≤ (m1 94 21).toInt)) from by omega) (show zJ5 (zAns (m0 95) (m0 94 3).toInt) (m1 94 20).toInt (m1 94 23).toInt (m1 94 24).toInt (m1 94 21).toInt (m1 94 28).toInt from by first | (have z2 : zAns (m 96) (m 94 4).toInt = zAns (m0 95) (m0 94 3).toInt := (by rw [zAns_cg (t' := (m 95)) (fun k hk => r_SR k (by omega)) (by omega) (by omega), r_T95, show (m 94 4).toInt = (m0 94 3).toInt from by omega]); have r := RP_ok p1_m1 (by omega); rw [z2] at r; exact r; done) | (exfalso; omega; done) | (exfalso; contradiction; done))
    · skip
      have g24 := i_nle h7
      have hg25 : (0 ≤ l1 ∧ l1.toNatClampNeg < 100) := i_ix (by omega) (by omega)
      refine ⟨hg25, ?_⟩
      have hg26 : (0 ≤ l1 ∧ l1.toNatClampNeg < 100) := i_ix (by omega) (by omega)
      refine ⟨hg26, ?_⟩
      have hV27 : zV (ma_u m 96 l1.toNatClampNeg (vp_nar .byte (m 95 l1.toNatClampNeg))) := ua_96 hV
      first | have e28 : (l1 + (1 : Int32)).toInt = l1.toInt + (1) := i_addk rfl (by omega) (by omega) | have b29 := i_bd (l1 + (1 : Int32))
      exact IH (100 - (l1 + (1 : Int32)).toInt).toNat (by omega) _ ((l1 + (1 : Int32))) rfl (zF_u hF rfl) hV27 (by omega) (show (m 94 4).toInt = (m0 94 3).toInt from by omega) (show (l1 + (1 : Int32)).toInt ≤ (m 94 4).toInt from by omega) r_T95 r_BY (show ∀ k : Nat, (k : Int) < (l1 + (1 : Int32)).toInt → ((ma_u m 96 l1.toNatClampNeg (vp_nar .byte (m 95 l1.toNatClampNeg))) 96) k = (m 95) k from by first | (exact fun k hk => by omega) | (exact sr_put r_SR (r_BY _ (by rw [tn_cast (by omega)]; omega)) (by omega) (by omega)) | (exfalso; omega; done) | (exfalso; contradiction; done)) r_W r_GW r_GU r_OW r_DX r_GG r_HA r_RGc (show (m 94 58).toInt = 0 ∨ (m 94 10).toInt = 5 from by omega) (show (m 94 3).toInt = 0 from by omega)
set_option maxHeartbeats 8000000 in
theorem sp_171n {X : Nat × (Nat → Int32)} {P : Option ma_V → (Nat → Nat → Int32) → Prop} {T : Nat} {m : Nat → Nat → Int32}  (hV : zV m) (r_BY0 : ∀ k : Nat, (k : Int) < (m 94 3).toInt → vp_nar .byte ((m 95) k) = (m 95) k) (r_W : zW (m 94 7) (m 98) (m 101) (m 102) (m 108)) (r_GW : zGW T (m 94 55) (m 109)) (r_GU : zGU T (m 94 46) (m 99)) (r_OW : zOw (m 99) (m 103) (m 111)) (r_DX : zDX (m 94 10) (m 99) (m 112) (m 113) (m 114) (m 94 55) (m 98) (m 101) (m 102) (m 108)) (r_GG : zGG (m 94 58) (m 94 56) (m 94 57) (m 106)) (r_HA : zHA (m 94 10) (m 94 11) (m 94 13) (m 94 14) (m 94 16) (m 94 61) (m 94 59) (m 94 60) (m 99) (m 102) (m 103) (m 111) (m 117) (m 98) (m 101) (m 108)) (r_RGc : zRG (m 94 10) (m 94 18) (m 94 64) (m 94 63) (m 99) (m 103) (m 102) (m 116)) (hpre9 : (m 94 58).toInt = 0 ∨ (m 94 10).toInt = 5) (KZ : ∀ v m', zV (zov wr_171 m m') → (zW (m 94 7) (m 98) (m 101) (m 102) (m 108)) → (zGW T (m' 94 55) (m 109)) → (zGU T (m' 94 46) (m' 99)) → (zOw (m' 99) (m 103) (m' 111)) → (zDX (m' 94 10) (m' 99) (m' 112) (m' 113) (m 114) (m' 94 55) (m 98) (m 101) (m 102) (m 108)) → (zGG (m' 94 58) (m' 94 56) (m' 94 57) (m 106)) → (zHA (m' 94 10) (m' 94 11) (m' 94 13) (m' 94 14) (m' 94 16) (m' 94 61) (m' 94 59) (m' 94 60) (m' 99) (m 102) (m 103) (m' 111) (m' 117) (m 98) (m 101) (m 108)) → (zRG (m' 94 10) (m' 94 18) (m' 94 64) (m' 94 63) (m' 99) (m 103) (m 102) (m' 116)) → ((m' 94 58).toInt = 0 ∨ (m' 94 10).toInt = 5) → ((m' 94 3).toInt = 0) → (v.toInt = zAns (m 95) (m 94 3).toInt) → P (some (.inl v)) (zov wr_171 m m')) : zm X 4 90 171 0 [(0, .inr (.inr (some 94)))] m P := by
  have K : ∀ v m', zF wr_171 m m' → zV m' → (zW (m' 94 7) (m' 98) (m' 101) (m' 102) (m' 108)) → (zGW T (m' 94 55) (m' 109)) → (zGU T (m' 94 46) (m' 99)) → (zOw (m' 99) (m' 103) (m' 111)) → (zDX (m' 94 10) (m' 99) (m' 112) (m' 113) (m' 114) (m' 94 55) (m' 98) (m' 101) (m' 102) (m' 108)) → (zGG (m' 94 58) (m' 94 56) (m' 94 57) (m' 106)) → (zHA (m' 94 10) (m' 94 11) (m' 94 13) (m' 94 14) (m' 94 16) (m' 94 61) (m' 94 59) (m' 94 60) (m' 99) (m' 102) (m' 103) (m' 111) (m' 117) (m' 98) (m' 101) (m' 108)) → (zRG (m' 94 10) (m' 94 18) (m' 94 64) (m' 94 63) (m' 99) (m' 103) (m' 102) (m' 116)) → ((m' 94 58).toInt = 0 ∨ (m' 94 10).toInt = 5) → ((m' 94 3).toInt = 0) → (v.toInt = zAns (m 95) (m 94 3).toInt) → P (some (.inl v)) m' := by
    intro v m' hf z q0 q1 q2 q3 q4 q5 q6 q7 q8 q9 q10
    have e := zov_eq hf
    rw [e] at z ⊢
    try rw [e] at q0
    try rw [e] at q1
    try rw [e] at q2
    try rw [e] at q3
    try rw [e] at q4
    try rw [e] at q5
    try rw [e] at q6
    try rw [e] at q7
    try rw [e] at q8
    try rw [e] at q9
    try rw [e] at q10
    exact KZ v m' z q0 q1 q2 q3 q4 q5 q6 q7 q8 q9 q10
  refine g_171_0  ?_
  have f1 : 0 ≤ (m 94 58).toInt ∧ (m 94 58).toInt ≤ 1 := rs_94_58 (m := m) hV
  have f2 : 0 ≤ (m 94 10).toInt ∧ (m 94 10).toInt ≤ 6 := rs_94_10 (m := m) hV
  have hV3 : zV (ma_u m 94 0 (0 : Int32)) := uf_94_0 hV
  have f5 : 0 ≤ (m 94 3).toInt ∧ (m 94 3).toInt ≤ 100 := rs_94_3 (m := m) hV
  have hV4 : zV (ma_u (ma_u m 94 0 (0 : Int32)) 94 4 (m 94 3)) := us_94_4 hV3 (by omega) (by omega)
  have li7 : (0 : Int32).toInt = 0 := rfl
  have hV6 : zV (ma_u (ma_u (ma_u m 94 0 (0 : Int32)) 94 4 (m 94 3)) 94 3 (0 : Int32)) := us_94_3 hV4 (by omega) (by omega)
  exact lp_171n_20 hV K _ _ ((0 : Int32)) rfl (zF_u (zF_u (zF_u zF_rfl rfl) rfl) rfl) hV6 (by omega) (show (m 94 3).toInt = (m 94 3).toInt from by omega) (show (0 : Int32).toInt ≤ (m 94 3).toInt from by omega) (show (m 95) = (m 95) from by first | (exact rfl) | (exfalso; omega; done) | (exfalso; contradiction; done)) (show ∀ k : Nat, (k : Int) < (m 94 3).toInt → vp_nar .byte ((m 95) k) = (m 95) k from by first | (exact r_BY0) | (exfalso; omega; done) | (exfalso; contradiction; done)) (show ∀ k : Nat, (k : Int) < (0 : Int32).toInt → (m 96) k = (m 95) k from by first | (exact fun k hk => by omega) | (exfalso; omega; done) | (exfalso; contradiction; done)) r_W r_GW r_GU r_OW r_DX r_GG r_HA r_RGc (show (m 94 58).toInt = 0 ∨ (m 94 10).toInt = 5 from by omega) (show (0 : Int32).toInt = 0 from by omega)
theorem lp_168n_3 {X : Nat × (Nat → Int32)} {P : Option ma_V → (Nat → Nat → Int32) → Prop} {a : Int32} {m0 : Nat → Nat → Int32} (h0 : zV m0) (K : ∀ m', zF wr_168 m0 m' → zV m' → ((m' 94 3).toInt = (m0 94 3).toInt + 4) → (zFq (m0 95) (m' 95) (m0 94 3).toInt a) → P none m') : ∀ (n : Nat) (m : Nat → Nat → Int32) (l1 : Int32) (l2 : Int32), (l2.toInt + 8).toNat = n → zF wr_168 m0 m → zV m → ((l2.toInt = 24 ∧ (m 94 3).toInt = (m0 94 3).toInt + 0) ∨ (l2.toInt = 16 ∧ (m 94 3).toInt = (m0 94 3).toInt + 1) ∨ (l2.toInt = 8 ∧ (m 94 3).toInt = (m0 94 3).toInt + 2) ∨ (l2.toInt = 0 ∧ (m 94 3).toInt = (m0 94 3).toInt + 3) ∨ (l2.toInt = -8 ∧ (m 94 3).toInt = (m0 94 3).toInt + 4)) → ((m0 94 3).toInt ≤ 96) → (l1 = a) → (zFp (m0 95) (m 95) (m0 94 3).toInt a ((m 94 3).toInt - (m0 94 3).toInt)) → zm X 0 0 168 3 [(0, .inr (.inr (some 94))), (1, .inl l1), (2, .inl l2)] m P := by
  intro n
  induction n using Nat.strongRecOn with
  | _ n IH =>
    intro m l1 l2 hmu hF hV hi0 hi1 r_LA r_FP
    refine g_168_3 l1 l2 ?_
    have f1 : 0 ≤ (m 94 3).toInt ∧ (m 94 3).toInt ≤ 100 := rs_94_3 (m := m) hV
    have f2 : 0 ≤ (m0 94 3).toInt ∧ (m0 94 3).toInt ≤ 100 := rs_94_3 (m := m0) h0
    have b3 := i_bd l2
    have li4 : (0 : Int32).toInt = 0 := rfl
    refine zd (fun (h5 : l2 < (0 : Int32)) => ?_) (fun (h5 : ¬ l2 < (0 : Int32)) => ?_)
    · skip
      have g6 := i_lt h5
      exact K _ hF hV (show (m 94 3).toInt = (m0 94 3).toInt + 4 from by omega) (show zFq (m0 95) (m 95) (m0 94 3).toInt a from by first | (exact fp_e r_FP (by omega)) | (exfalso; omega; done) | (exfalso; contradiction; done))
    · skip
      have g7 := i_nlt h5
      have hg8 : (0 ≤ (m 94 3) ∧ (m 94 3).toNatClampNeg < 100) := i_ix (by omega) (by omega)
      refine ⟨hg8, ?_⟩
      have hV9 : zV (ma_u m 95 (m 94 3).toNatClampNeg (vp_nar .byte ((l1 >>> (l2 &&& 31)).toInt8.toInt32))) := ua_95 hV
      first | have e11 : ((m 94 3) + (1 : Int32)).toInt = (m 94 3).toInt + (1) := i_addk rfl (by omega) (by omega) | have b12 := i_bd ((m 94 3) + (1 : Int32))
      have hV10 : zV (ma_u (ma_u m 95 (m 94 3).toNatClampNeg (vp_nar .byte ((l1 >>> (l2 &&& 31)).toInt8.toInt32))) 94 3 ((m 94 3) + (1 : Int32))) := us_94_3 hV9 (by omega) (by omega)
      first | have e13 : (l2 + (-8 : Int32)).toInt = l2.toInt + (-8) := i_addk rfl (by omega) (by omega) | have b14 := i_bd (l2 + (-8 : Int32))
      exact IH ((l2 + (-8 : Int32)).toInt + 8).toNat (by omega) _ (l1) ((l2 + (-8 : Int32))) rfl (zF_u (zF_u hF rfl) rfl) hV10 (show ((l2 + (-8 : Int32)).toInt = 24 ∧ ((m 94 3) + (1 : Int32)).toInt = (m0 94 3).toInt + 0) ∨ ((l2 + (-8 : Int32)).toInt = 16 ∧ ((m 94 3) + (1 : Int32)).toInt = (m0 94 3).toInt + 1) ∨ ((l2 + (-8 : Int32)).toInt = 8 ∧ ((m 94 3) + (1 : Int32)).toInt = (m0 94 3).toInt + 2) ∨ ((l2 + (-8 : Int32)).toInt = 0 ∧ ((m 94 3) + (1 : Int32)).toInt = (m0 94 3).toInt + 3) ∨ ((l2 + (-8 : Int32)).toInt = -8 ∧ ((m 94 3) + (1 : Int32)).toInt = (m0 94 3).toInt + 4) from by omega) (show (m0 94 3).toInt ≤ 96 from by omega) r_LA (show zFp (m0 95) ((ma_u m 95 (m 94 3).toNatClampNeg (vp_nar .byte ((l1 >>> (l2 &&& 31)).toInt8.toInt32))) 95) (m0 94 3).toInt a (((m 94 3) + (1 : Int32)).toInt - (m0 94 3).toInt) from by first | (exact fp_0 (by omega)) | (exact fp_s (s := l2) r_FP (by omega) (by omega) (by rw [tn_cast (by omega)]; omega) (by rw [r_LA]; rfl) (by omega) (by omega)) | (exfalso; omega; done) | (exfalso; contradiction; done))
theorem sp_168n {X : Nat × (Nat → Int32)} {P : Option ma_V → (Nat → Nat → Int32) → Prop} {m : Nat → Nat → Int32} (a : Int32) (hV : zV m) (hpre0 : (m 94 3).toInt ≤ 96) (KZ : ∀ m', zV (zov wr_168 m m') → ((m' 94 3).toInt = (m 94 3).toInt + 4) → (zFq (m 95) (m' 95) (m 94 3).toInt a) → P none (zov wr_168 m m')) : zm X 0 0 168 0 [(0, .inr (.inr (some 94))), (1, .inl a)] m P := by
  have K : ∀ m', zF wr_168 m m' → zV m' → ((m' 94 3).toInt = (m 94 3).toInt + 4) → (zFq (m 95) (m' 95) (m 94 3).toInt a) → P none m' := by
    intro m' hf z q0 q1
    have e := zov_eq hf
    rw [e] at z ⊢
    try rw [e] at q0
    try rw [e] at q1
    exact KZ m' z q0 q1
  refine g_168_0 a ?_
  have f1 : 0 ≤ (m 94 3).toInt ∧ (m 94 3).toInt ≤ 100 := rs_94_3 (m := m) hV
  have li2 : (24 : Int32).toInt = 24 := rfl
  exact lp_168n_3 (a := a) hV K _ _ (a) ((24 : Int32)) rfl zF_rfl hV (show ((24 : Int32).toInt = 24 ∧ (m 94 3).toInt = (m 94 3).toInt + 0) ∨ ((24 : Int32).toInt = 16 ∧ (m 94 3).toInt = (m 94 3).toInt + 1) ∨ ((24 : Int32).toInt = 8 ∧ (m 94 3).toInt = (m 94 3).toInt + 2) ∨ ((24 : Int32).toInt = 0 ∧ (m 94 3).toInt = (m 94 3).toInt + 3) ∨ ((24 : Int32).toInt = -8 ∧ (m 94 3).toInt = (m 94 3).toInt + 4) from by omega) (show (m 94 3).toInt ≤ 96 from by omega) (show a = a from by first | (exact rfl) | (exfalso; omega; done) | (exfalso; contradiction; done)) (show zFp (m 95) (m 95) (m 94 3).toInt a ((m 94 3).toInt - (m 94 3).toInt) from by first | (exact fp_0 (by omega)) | (exfalso; omega; done) | (exfalso; contradiction; done))
