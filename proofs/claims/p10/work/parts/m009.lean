/-! from 95.zu08 -/
/-! the reference: who is used, words (written by wip/tools/gen15u.py) -/
set_option maxHeartbeats 8000000 in
theorem sp_184uw {X : Nat × (Nat → Int32)} {P : Option ma_V → (Nat → Nat → Int32) → Prop} {T : Nat} {m : Nat → Nat → Int32} (nw : Int32) (hV : zV m) (hpre0 : 1 ≤ nw.toInt) (hpre1 : nw.toInt ≤ 61) (r_W : zW (m 94 7) (m 98) (m 101) (m 102) (m 108)) (r_GW : zGW T (m 94 55) (m 109)) (r_GU : zGU T (m 94 46) (m 99)) (r_OW : zOw (m 99) (m 103) (m 111)) (r_DX : zDX (m 94 10) (m 99) (m 112) (m 113) (m 114) (m 94 55) (m 98) (m 101) (m 102) (m 108)) (r_GG : zGG (m 94 58) (m 94 56) (m 94 57) (m 106)) (r_HA : zHA (m 94 10) (m 94 11) (m 94 13) (m 94 14) (m 94 16) (m 94 61) (m 94 59) (m 94 60) (m 99) (m 102) (m 103) (m 111) (m 117) (m 98) (m 101) (m 108)) (r_RGc : zRG (m 94 10) (m 94 18) (m 94 64) (m 94 63) (m 99) (m 103) (m 102) (m 116)) (hpre10 : (m 94 58).toInt = 0 ∨ (m 94 10).toInt = 5) (KZ : ∀ v m₉, zV (zov wr_184 m m₉) → (zGW T (m₉ 94 55) (m₉ 109)) → (zGU T (m 94 46) (m₉ 99)) → (zOw (m₉ 99) (m₉ 103) (m₉ 111)) → (zDX (m 94 10) (m₉ 99) (m 112) (m₉ 113) (m₉ 114) (m₉ 94 55) (m 98) (m 101) (m 102) (m 108)) → (zGG (m₉ 94 58) (m₉ 94 56) (m₉ 94 57) (m₉ 106)) → (zHA (m 94 10) (m 94 11) (m 94 13) (m 94 14) (m 94 16) (m₉ 94 61) (m₉ 94 59) (m₉ 94 60) (m₉ 99) (m 102) (m₉ 103) (m₉ 111) (m₉ 117) (m 98) (m 101) (m 108)) → (zRG (m 94 10) (m 94 18) (m 94 64) (m₉ 94 63) (m₉ 99) (m₉ 103) (m 102) (m₉ 116)) → ((m₉ 94 58).toInt = 0 ∨ (m 94 10).toInt = 5) → (zPL (m 94 10) (m 94 11) (m 94 13) (m 94 14) (m₉ 94 61) (m₉ 94 59) (m₉ 94 60) (m 94 18) (m 94 64) (m₉ 99) (m 102) (m₉ 103) (m₉ 111) v nw) → (zUs (m 99) (m₉ 99)) → P (some (.inl v)) (zov wr_184 m m₉)) : zm X 8 175 184 0 [(0, .inr (.inr (some 94))), (1, .inl nw)] m P := by
  have K : ∀ v m₉, zF wr_184 m m₉ → zV m₉ → (zGW T (m₉ 94 55) (m₉ 109)) → (zGU T (m₉ 94 46) (m₉ 99)) → (zOw (m₉ 99) (m₉ 103) (m₉ 111)) → (zDX (m₉ 94 10) (m₉ 99) (m₉ 112) (m₉ 113) (m₉ 114) (m₉ 94 55) (m₉ 98) (m₉ 101) (m₉ 102) (m₉ 108)) → (zGG (m₉ 94 58) (m₉ 94 56) (m₉ 94 57) (m₉ 106)) → (zHA (m₉ 94 10) (m₉ 94 11) (m₉ 94 13) (m₉ 94 14) (m₉ 94 16) (m₉ 94 61) (m₉ 94 59) (m₉ 94 60) (m₉ 99) (m₉ 102) (m₉ 103) (m₉ 111) (m₉ 117) (m₉ 98) (m₉ 101) (m₉ 108)) → (zRG (m₉ 94 10) (m₉ 94 18) (m₉ 94 64) (m₉ 94 63) (m₉ 99) (m₉ 103) (m₉ 102) (m₉ 116)) → ((m₉ 94 58).toInt = 0 ∨ (m₉ 94 10).toInt = 5) → (zPL (m₉ 94 10) (m₉ 94 11) (m₉ 94 13) (m₉ 94 14) (m₉ 94 61) (m₉ 94 59) (m₉ 94 60) (m₉ 94 18) (m₉ 94 64) (m₉ 99) (m₉ 102) (m₉ 103) (m₉ 111) v nw) → (zUs (m 99) (m₉ 99)) → P (some (.inl v)) m₉ := by
    intro v m₉ hf z q0 q1 q2 q3 q4 q5 q6 q7 q8 q9
    have e := zov_eq hf
    rw [e] at z ⊢
    try rw [e] at q0
    try rw [e] at q1
    try rw [e] at q2
    try rw [e] at q3
    try rw [e] at q4
    try rw [e] at q5
    try rw [e] at q6
    try rw [e] at q7
    try rw [e] at q8
    try rw [e] at q9
    exact KZ v m₉ z q0 q1 q2 q3 q4 q5 q6 q7 q8 q9
  refine g_184_0 nw ?_
  have f1 : 0 ≤ (m 94 58).toInt ∧ (m 94 58).toInt ≤ 1 := rs_94_58 (m := m) hV
  have f2 : 0 ≤ (m 94 10).toInt ∧ (m 94 10).toInt ≤ 6 := rs_94_10 (m := m) hV
  have li3 : (1 : Int32).toInt = 1 := rfl
  refine zd (fun (h4 : (m 94 10) = (1 : Int32)) => ?_) (fun (h4 : ¬ (m 94 10) = (1 : Int32)) => ?_)
  · skip
    have g5 := i_eq h4
    have f6 : 0 ≤ (m 94 59).toInt ∧ (m 94 59).toInt ≤ 4600 := rs_94_59 (m := m) hV
    have b7 := i_bd nw
    first | have e8 : ((m 94 59) + nw).toInt = (m 94 59).toInt + nw.toInt := i_add (by omega) (by omega) | have b9 := i_bd ((m 94 59) + nw)
    have f10 : 0 ≤ (m 94 11).toInt ∧ (m 94 11).toInt ≤ 1500 := rs_94_11 (m := m) hV
    refine zd (fun (h11 : ((m 94 59) + nw) ≤ (m 94 11)) => ?_) (fun (h11 : ¬ ((m 94 59) + nw) ≤ (m 94 11)) => ?_)
    · skip
      have g12 := i_le h11
      have li13 : (0 : Int32).toInt = 0 := rfl
      refine zd (fun (h14 : (m 94 59) < (0 : Int32)) => ?_) (fun (h14 : ¬ (m 94 59) < (0 : Int32)) => ?_)
      · skip
        have g15 := i_lt h14
        have hV16 : zV (ma_u m 94 59 ((m 94 59) + nw)) := us_94_59 hV (by omega) (by omega)
        refine sp_186uw  hV16 r_W r_GW r_GU r_OW r_DX (fun v2 m1 hV_m1 p0_m1 p1_m1 p2_m1 p3_m1 p4_m1 => zmi_n ?_)
        have p0_m1 : zGW T (m1 94 55) (m1 109) := p0_m1
        have p1_m1 : zGU T (m 94 46) (m1 99) := p1_m1
        have p2_m1 : zOw (m1 99) (m1 103) (m1 111) := p2_m1
        have p3_m1 : zDX (m 94 10) (m1 99) (m 112) (m1 113) (m1 114) (m1 94 55) (m 98) (m 101) (m 102) (m 108) := p3_m1
        have p4_m1 : zUs (m 99) (m1 99) := p4_m1
        have f17 : 0 ≤ (m1 94 59).toInt ∧ (m1 94 59).toInt ≤ 4600 := rs_94_59 (m := (zov wr_186 (ma_u m 94 59 ((m 94 59) + nw)) m1)) hV_m1
        first | have e18 : ((m1 94 59) + nw).toInt = (m1 94 59).toInt + nw.toInt := i_add (by omega) (by omega) | have b19 := i_bd ((m1 94 59) + nw)
        refine zd (fun (h20 : ((m1 94 59) + nw) ≤ (m 94 11)) => ?_) (fun (h20 : ¬ ((m1 94 59) + nw) ≤ (m 94 11)) => ?_)
        · skip
          have g21 := i_le h20
          have hV22 : zV (ma_u (zov wr_186 (ma_u m 94 59 ((m 94 59) + nw)) m1) 94 59 ((m1 94 59) + nw)) := us_94_59 hV_m1 (by omega) (by omega)
          exact K ((m1 94 59)) _ (zF_u (zF_zov (zF_u zF_rfl rfl) ws_186_184) rfl) hV22 p0_m1 p1_m1 p2_m1 p3_m1 r_GG (show zHA (m 94 10) (m 94 11) (m 94 13) (m 94 14) (m 94 16) (m 94 61) ((m1 94 59) + nw) (m 94 60) (m1 99) (m 102) (m1 103) (m1 111) (m 117) (m 98) (m 101) (m 108) from by first | (exact ⟨fun z => absurd z (by omega), fun z => absurd z (by omega)⟩) | (exact HA_up2 r_HA (by omega) (by omega) (by omega) (by omega) (by omega) (by omega) (by omega)) | (exfalso; omega; done) | (exfalso; contradiction; done)) (show zRG (m 94 10) (m 94 18) (m 94 64) (m 94 63) (m1 99) (m1 103) (m 102) (m 116) from by first | (exact fun z => absurd z (by omega)) | (exfalso; omega; done) | (exfalso; contradiction; done)) (show (m 94 58).toInt = 0 ∨ (m 94 10).toInt = 5 from by omega) (show zPL (m 94 10) (m 94 11) (m 94 13) (m 94 14) (m 94 61) ((m1 94 59) + nw) (m 94 60) (m 94 18) (m 94 64) (m1 99) (m 102) (m1 103) (m1 111) (m1 94 59) nw from by first | (exact PL_no (by decide)) | (exact PL_o (by omega) (by omega) (by omega) (by omega) (by omega)) | (exact PL_2 r_HA (by omega) (by omega) (by omega) (by omega)) | (exfalso; omega; done) | (exfalso; contradiction; done)) p4_m1
        · skip
          have g23 := i_nle h20
          have li24 : (-1 : Int32).toInt = -1 := rfl
          exact K ((-1 : Int32)) _ (zF_zov (zF_u zF_rfl rfl) ws_186_184) hV_m1 p0_m1 p1_m1 p2_m1 p3_m1 r_GG (show zHA (m 94 10) (m 94 11) (m 94 13) (m 94 14) (m 94 16) (m 94 61) (m1 94 59) (m 94 60) (m1 99) (m 102) (m1 103) (m1 111) (m 117) (m 98) (m 101) (m 108) from by first | (exact ⟨fun z => absurd z (by omega), fun z => absurd z (by omega)⟩) | (exact HA_up2 r_HA (by omega) (by omega) (by omega) (by omega) (by omega) (by omega) (by omega)) | (exfalso; omega; done) | (exfalso; contradiction; done)) (show zRG (m 94 10) (m 94 18) (m 94 64) (m 94 63) (m1 99) (m1 103) (m 102) (m 116) from by first | (exact fun z => absurd z (by omega)) | (exfalso; omega; done) | (exfalso; contradiction; done)) (show (m 94 58).toInt = 0 ∨ (m 94 10).toInt = 5 from by omega) (show zPL (m 94 10) (m 94 11) (m 94 13) (m 94 14) (m 94 61) (m1 94 59) (m 94 60) (m 94 18) (m 94 64) (m1 99) (m 102) (m1 103) (m1 111) (-1 : Int32) nw from by first | (exact PL_no (by decide)) | (exact PL_o (by omega) (by omega) (by omega) (by omega) (by omega)) | (exact PL_2 r_HA (by omega) (by omega) (by omega) (by omega)) | (exfalso; omega; done) | (exfalso; contradiction; done)) p4_m1
      · skip
        have g25 := i_nlt h14
        have hV26 : zV (ma_u m 94 59 ((m 94 59) + nw)) := us_94_59 hV (by omega) (by omega)
        exact K ((m 94 59)) _ (zF_u zF_rfl rfl) hV26 r_GW r_GU r_OW r_DX r_GG (show zHA (m 94 10) (m 94 11) (m 94 13) (m 94 14) (m 94 16) (m 94 61) ((m 94 59) + nw) (m 94 60) (m 99) (m 102) (m 103) (m 111) (m 117) (m 98) (m 101) (m 108) from by first | (exact ⟨fun z => absurd z (by omega), fun z => absurd z (by omega)⟩) | (exact HA_up2 r_HA (by omega) (by omega) (by omega) (by omega) (by omega) (by omega) (by omega)) | (exfalso; omega; done) | (exfalso; contradiction; done)) r_RGc (show (m 94 58).toInt = 0 ∨ (m 94 10).toInt = 5 from by omega) (show zPL (m 94 10) (m 94 11) (m 94 13) (m 94 14) (m 94 61) ((m 94 59) + nw) (m 94 60) (m 94 18) (m 94 64) (m 99) (m 102) (m 103) (m 111) (m 94 59) nw from by first | (exact PL_no (by decide)) | (exact PL_o (by omega) (by omega) (by omega) (by omega) (by omega)) | (exact PL_2 r_HA (by omega) (by omega) (by omega) (by omega)) | (exfalso; omega; done) | (exfalso; contradiction; done)) (show zUs (m 99) (m 99) from by first | (exact Us_rfl) | (exact Us_w0 Us_rfl) | (exact Us_rfl) | (exfalso; omega; done) | (exfalso; contradiction; done))
    · skip
      have g27 := i_nle h11
      refine sp_186uw  hV r_W r_GW r_GU r_OW r_DX (fun v4 m3 hV_m3 p0_m3 p1_m3 p2_m3 p3_m3 p4_m3 => zmi_n ?_)
      have p0_m3 : zGW T (m3 94 55) (m3 109) := p0_m3
      have p1_m3 : zGU T (m 94 46) (m3 99) := p1_m3
      have p2_m3 : zOw (m3 99) (m3 103) (m3 111) := p2_m3
      have p3_m3 : zDX (m 94 10) (m3 99) (m 112) (m3 113) (m3 114) (m3 94 55) (m 98) (m 101) (m 102) (m 108) := p3_m3
      have p4_m3 : zUs (m 99) (m3 99) := p4_m3
      have f28 : 0 ≤ (m3 94 59).toInt ∧ (m3 94 59).toInt ≤ 4600 := rs_94_59 (m := (zov wr_186 m m3)) hV_m3
      first | have e29 : ((m3 94 59) + nw).toInt = (m3 94 59).toInt + nw.toInt := i_add (by omega) (by omega) | have b30 := i_bd ((m3 94 59) + nw)
      refine zd (fun (h31 : ((m3 94 59) + nw) ≤ (m 94 11)) => ?_) (fun (h31 : ¬ ((m3 94 59) + nw) ≤ (m 94 11)) => ?_)
      · skip
        have g32 := i_le h31
        have hV33 : zV (ma_u (zov wr_186 m m3) 94 59 ((m3 94 59) + nw)) := us_94_59 hV_m3 (by omega) (by omega)
        exact K ((m3 94 59)) _ (zF_u (zF_zov zF_rfl ws_186_184) rfl) hV33 p0_m3 p1_m3 p2_m3 p3_m3 r_GG (show zHA (m 94 10) (m 94 11) (m 94 13) (m 94 14) (m 94 16) (m 94 61) ((m3 94 59) + nw) (m 94 60) (m3 99) (m 102) (m3 103) (m3 111) (m 117) (m 98) (m 101) (m 108) from by first | (exact ⟨fun z => absurd z (by omega), fun z => absurd z (by omega)⟩) | (exact HA_up2 r_HA (by omega) (by omega) (by omega) (by omega) (by omega) (by omega) (by omega)) | (exfalso; omega; done) | (exfalso; contradiction; done)) (show zRG (m 94 10) (m 94 18) (m 94 64) (m 94 63) (m3 99) (m3 103) (m 102) (m 116) from by first | (exact fun z => absurd z (by omega)) | (exfalso; omega; done) | (exfalso; contradiction; done)) (show (m 94 58).toInt = 0 ∨ (m 94 10).toInt = 5 from by omega) (show zPL (m 94 10) (m 94 11) (m 94 13) (m 94 14) (m 94 61) ((m3 94 59) + nw) (m 94 60) (m 94 18) (m 94 64) (m3 99) (m 102) (m3 103) (m3 111) (m3 94 59) nw from by first | (exact PL_no (by decide)) | (exact PL_o (by omega) (by omega) (by omega) (by omega) (by omega)) | (exact PL_2 r_HA (by omega) (by omega) (by omega) (by omega)) | (exfalso; omega; done) | (exfalso; contradiction; done)) p4_m3
      · skip
        have g34 := i_nle h31
        have li35 : (-1 : Int32).toInt = -1 := rfl
        exact K ((-1 : Int32)) _ (zF_zov zF_rfl ws_186_184) hV_m3 p0_m3 p1_m3 p2_m3 p3_m3 r_GG (show zHA (m 94 10) (m 94 11) (m 94 13) (m 94 14) (m 94 16) (m 94 61) (m3 94 59) (m 94 60) (m3 99) (m 102) (m3 103) (m3 111) (m 117) (m 98) (m 101) (m 108) from by first | (exact ⟨fun z => absurd z (by omega), fun z => absurd z (by omega)⟩) | (exact HA_up2 r_HA (by omega) (by omega) (by omega) (by omega) (by omega) (by omega) (by omega)) | (exfalso; omega; done) | (exfalso; contradiction; done)) (show zRG (m 94 10) (m 94 18) (m 94 64) (m 94 63) (m3 99) (m3 103) (m 102) (m 116) from by first | (exact fun z => absurd z (by omega)) | (exfalso; omega; done) | (exfalso; contradiction; done)) (show (m 94 58).toInt = 0 ∨ (m 94 10).toInt = 5 from by omega) (show zPL (m 94 10) (m 94 11) (m 94 13) (m 94 14) (m 94 61) (m3 94 59) (m 94 60) (m 94 18) (m 94 64) (m3 99) (m 102) (m3 103) (m3 111) (-1 : Int32) nw from by first | (exact PL_no (by decide)) | (exact PL_o (by omega) (by omega) (by omega) (by omega) (by omega)) | (exact PL_2 r_HA (by omega) (by omega) (by omega) (by omega)) | (exfalso; omega; done) | (exfalso; contradiction; done)) p4_m3
  · skip
    have g36 := i_ne h4
    have li37 : (2 : Int32).toInt = 2 := rfl
    refine zd (fun (h38 : (m 94 10) = (2 : Int32)) => ?_) (fun (h38 : ¬ (m 94 10) = (2 : Int32)) => ?_)
    · skip
      have g39 := i_eq h38
      have f40 : 0 ≤ (m 94 59).toInt ∧ (m 94 59).toInt ≤ 4600 := rs_94_59 (m := m) hV
      have b41 := i_bd nw
      first | have e42 : ((m 94 59) + nw).toInt = (m 94 59).toInt + nw.toInt := i_add (by omega) (by omega) | have b43 := i_bd ((m 94 59) + nw)
      have f44 : 0 ≤ (m 94 61).toInt ∧ (m 94 61).toInt ≤ 1 := rs_94_61 (m := m) hV
      first | have e45 : ((m 94 61) + (1 : Int32)).toInt = (m 94 61).toInt + (1) := i_addk rfl (by omega) (by omega) | have b46 := i_bd ((m 94 61) + (1 : Int32))
      have f47 : 0 ≤ (m 94 11).toInt ∧ (m 94 11).toInt ≤ 1500 := rs_94_11 (m := m) hV
      first | have f48 := i_mul01 (x := ((m 94 61) + (1 : Int32))) (y := (m 94 11)) (by omega) (by omega) (by omega) (by omega) | have b49 := i_bd (((m 94 61) + (1 : Int32)) * (m 94 11))
      refine zd (fun (h50 : ((m 94 59) + nw) ≤ (((m 94 61) + (1 : Int32)) * (m 94 11))) => ?_) (fun (h50 : ¬ ((m 94 59) + nw) ≤ (((m 94 61) + (1 : Int32)) * (m 94 11))) => ?_)
      · skip
        have g51 := i_le h50
        have li52 : (0 : Int32).toInt = 0 := rfl
        refine zd (fun (h53 : (m 94 59) < (0 : Int32)) => ?_) (fun (h53 : ¬ (m 94 59) < (0 : Int32)) => ?_)
        · skip
          have g54 := i_lt h53
          have hV55 : zV (ma_u m 94 59 ((m 94 59) + nw)) := us_94_59 hV (by omega) (by omega)
          refine sp_206uw  hV55 r_W r_GW r_GU r_OW r_DX (show zHA (m 94 10) (m 94 11) (m 94 13) (m 94 14) (m 94 16) (m 94 61) ((m 94 59) + nw) (m 94 60) (m 99) (m 102) (m 103) (m 111) (m 117) (m 98) (m 101) (m 108) from by first | (exact ⟨fun z => absurd z (by omega), fun z => absurd z (by omega)⟩) | (exact HA_up2 r_HA (by omega) (by omega) (by omega) (by omega) (by omega) (by omega) (by omega)) | (exfalso; omega; done) | (exfalso; contradiction; done)) (show (m 94 10).toInt = 2 from by omega) (fun v6 m5 hV_m5 p0_m5 p1_m5 p2_m5 p3_m5 p4_m5 p5_m5 => zmi_n ?_)
          have p0_m5 : zGW T (m5 94 55) (m5 109) := p0_m5
          have p1_m5 : zGU T (m 94 46) (m5 99) := p1_m5
          have p2_m5 : zOw (m5 99) (m5 103) (m5 111) := p2_m5
          have p3_m5 : zDX (m 94 10) (m5 99) (m 112) (m5 113) (m5 114) (m5 94 55) (m 98) (m 101) (m 102) (m 108) := p3_m5
          have p4_m5 : zHA (m 94 10) (m 94 11) (m 94 13) (m 94 14) (m 94 16) (m5 94 61) (m5 94 59) (m5 94 60) (m5 99) (m 102) (m5 103) (m5 111) (m 117) (m 98) (m 101) (m 108) := p4_m5
          have p5_m5 : zUs (m 99) (m5 99) := p5_m5
          have f56 : 0 ≤ (m5 94 59).toInt ∧ (m5 94 59).toInt ≤ 4600 := rs_94_59 (m := (zov wr_206 (ma_u m 94 59 ((m 94 59) + nw)) m5)) hV_m5
          first | have e57 : ((m5 94 59) + nw).toInt = (m5 94 59).toInt + nw.toInt := i_add (by omega) (by omega) | have b58 := i_bd ((m5 94 59) + nw)
          have f59 : 0 ≤ (m5 94 61).toInt ∧ (m5 94 61).toInt ≤ 1 := rs_94_61 (m := (zov wr_206 (ma_u m 94 59 ((m 94 59) + nw)) m5)) hV_m5
          first | have e60 : ((m5 94 61) + (1 : Int32)).toInt = (m5 94 61).toInt + (1) := i_addk rfl (by omega) (by omega) | have b61 := i_bd ((m5 94 61) + (1 : Int32))
          first | have f62 := i_mul01 (x := ((m5 94 61) + (1 : Int32))) (y := (m 94 11)) (by omega) (by omega) (by omega) (by omega) | have b63 := i_bd (((m5 94 61) + (1 : Int32)) * (m 94 11))
          refine zd (fun (h64 : ((m5 94 59) + nw) ≤ (((m5 94 61) + (1 : Int32)) * (m 94 11))) => ?_) (fun (h64 : ¬ ((m5 94 59) + nw) ≤ (((m5 94 61) + (1 : Int32)) * (m 94 11))) => ?_)
          · skip
            have g65 := i_le h64
            have hV66 : zV (ma_u (zov wr_206 (ma_u m 94 59 ((m 94 59) + nw)) m5) 94 59 ((m5 94 59) + nw)) := us_94_59 hV_m5 (by omega) (by omega)
            exact K ((m5 94 59)) _ (zF_u (zF_zov (zF_u zF_rfl rfl) ws_206_184) rfl) hV66 p0_m5 p1_m5 p2_m5 p3_m5 r_GG (show zHA (m 94 10) (m 94 11) (m 94 13) (m 94 14) (m 94 16) (m5 94 61) ((m5 94 59) + nw) (m5 94 60) (m5 99) (m 102) (m5 103) (m5 111) (m 117) (m 98) (m 101) (m 108) from by first | (exact ⟨fun z => absurd z (by omega), fun z => absurd z (by omega)⟩) | (exact HA_up2 p4_m5 (by omega) (by omega) (by omega) (by omega) (by omega) (by omega) (by omega)) | (exfalso; omega; done) | (exfalso; contradiction; done)) (show zRG (m 94 10) (m 94 18) (m 94 64) (m 94 63) (m5 99) (m5 103) (m 102) (m 116) from by first | (exact fun z => absurd z (by omega)) | (exfalso; omega; done) | (exfalso; contradiction; done)) (show (m 94 58).toInt = 0 ∨ (m 94 10).toInt = 5 from by omega) (show zPL (m 94 10) (m 94 11) (m 94 13) (m 94 14) (m5 94 61) ((m5 94 59) + nw) (m5 94 60) (m 94 18) (m 94 64) (m5 99) (m 102) (m5 103) (m5 111) (m5 94 59) nw from by first | (exact PL_no (by decide)) | (exact PL_o (by omega) (by omega) (by omega) (by omega) (by omega)) | (exact PL_2 p4_m5 (by omega) (by omega) (by omega) (by omega)) | (exfalso; omega; done) | (exfalso; contradiction; done)) p5_m5
          · skip
            have g67 := i_nle h64
            have li68 : (-1 : Int32).toInt = -1 := rfl
            exact K ((-1 : Int32)) _ (zF_zov (zF_u zF_rfl rfl) ws_206_184) hV_m5 p0_m5 p1_m5 p2_m5 p3_m5 r_GG p4_m5 (show zRG (m 94 10) (m 94 18) (m 94 64) (m 94 63) (m5 99) (m5 103) (m 102) (m 116) from by first | (exact fun z => absurd z (by omega)) | (exfalso; omega; done) | (exfalso; contradiction; done)) (show (m 94 58).toInt = 0 ∨ (m 94 10).toInt = 5 from by omega) (show zPL (m 94 10) (m 94 11) (m 94 13) (m 94 14) (m5 94 61) (m5 94 59) (m5 94 60) (m 94 18) (m 94 64) (m5 99) (m 102) (m5 103) (m5 111) (-1 : Int32) nw from by first | (exact PL_no (by decide)) | (exact PL_o (by omega) (by omega) (by omega) (by omega) (by omega)) | (exact PL_2 p4_m5 (by omega) (by omega) (by omega) (by omega)) | (exfalso; omega; done) | (exfalso; contradiction; done)) p5_m5
        · skip
          have g69 := i_nlt h53
          have hV70 : zV (ma_u m 94 59 ((m 94 59) + nw)) := us_94_59 hV (by omega) (by omega)
          exact K ((m 94 59)) _ (zF_u zF_rfl rfl) hV70 r_GW r_GU r_OW r_DX r_GG (show zHA (m 94 10) (m 94 11) (m 94 13) (m 94 14) (m 94 16) (m 94 61) ((m 94 59) + nw) (m 94 60) (m 99) (m 102) (m 103) (m 111) (m 117) (m 98) (m 101) (m 108) from by first | (exact ⟨fun z => absurd z (by omega), fun z => absurd z (by omega)⟩) | (exact HA_up2 r_HA (by omega) (by omega) (by omega) (by omega) (by omega) (by omega) (by omega)) | (exfalso; omega; done) | (exfalso; contradiction; done)) r_RGc (show (m 94 58).toInt = 0 ∨ (m 94 10).toInt = 5 from by omega) (show zPL (m 94 10) (m 94 11) (m 94 13) (m 94 14) (m 94 61) ((m 94 59) + nw) (m 94 60) (m 94 18) (m 94 64) (m 99) (m 102) (m 103) (m 111) (m 94 59) nw from by first | (exact PL_no (by decide)) | (exact PL_o (by omega) (by omega) (by omega) (by omega) (by omega)) | (exact PL_2 r_HA (by omega) (by omega) (by omega) (by omega)) | (exfalso; omega; done) | (exfalso; contradiction; done)) (show zUs (m 99) (m 99) from by first | (exact Us_rfl) | (exact Us_w0 Us_rfl) | (exact Us_rfl) | (exfalso; omega; done) | (exfalso; contradiction; done))
      · skip
        have g71 := i_nle h50
        refine sp_206uw  hV r_W r_GW r_GU r_OW r_DX r_HA (show (m 94 10).toInt = 2 from by omega) (fun v8 m7 hV_m7 p0_m7 p1_m7 p2_m7 p3_m7 p4_m7 p5_m7 => zmi_n ?_)
        have p0_m7 : zGW T (m7 94 55) (m7 109) := p0_m7
        have p1_m7 : zGU T (m 94 46) (m7 99) := p1_m7
        have p2_m7 : zOw (m7 99) (m7 103) (m7 111) := p2_m7
        have p3_m7 : zDX (m 94 10) (m7 99) (m 112) (m7 113) (m7 114) (m7 94 55) (m 98) (m 101) (m 102) (m 108) := p3_m7
        have p4_m7 : zHA (m 94 10) (m 94 11) (m 94 13) (m 94 14) (m 94 16) (m7 94 61) (m7 94 59) (m7 94 60) (m7 99) (m 102) (m7 103) (m7 111) (m 117) (m 98) (m 101) (m 108) := p4_m7
        have p5_m7 : zUs (m 99) (m7 99) := p5_m7
        have f72 : 0 ≤ (m7 94 59).toInt ∧ (m7 94 59).toInt ≤ 4600 := rs_94_59 (m := (zov wr_206 m m7)) hV_m7
        first | have e73 : ((m7 94 59) + nw).toInt = (m7 94 59).toInt + nw.toInt := i_add (by omega) (by omega) | have b74 := i_bd ((m7 94 59) + nw)
        have f75 : 0 ≤ (m7 94 61).toInt ∧ (m7 94 61).toInt ≤ 1 := rs_94_61 (m := (zov wr_206 m m7)) hV_m7
        first | have e76 : ((m7 94 61) + (1 : Int32)).toInt = (m7 94 61).toInt + (1) := i_addk rfl (by omega) (by omega) | have b77 := i_bd ((m7 94 61) + (1 : Int32))
        first | have f78 := i_mul01 (x := ((m7 94 61) + (1 : Int32))) (y := (m 94 11)) (by omega) (by omega) (by omega) (by omega) | have b79 := i_bd (((m7 94 61) + (1 : Int32)) * (m 94 11))
        refine zd (fun (h80 : ((m7 94 59) + nw) ≤ (((m7 94 61) + (1 : Int32)) * (m 94 11))) => ?_) (fun (h80 : ¬ ((m7 94 59) + nw) ≤ (((m7 94 61) + (1 : Int32)) * (m 94 11))) => ?_)
        · skip
          have g81 := i_le h80
          have hV82 : zV (ma_u (zov wr_206 m m7) 94 59 ((m7 94 59) + nw)) := us_94_59 hV_m7 (by omega) (by omega)
          exact K ((m7 94 59)) _ (zF_u (zF_zov zF_rfl ws_206_184) rfl) hV82 p0_m7 p1_m7 p2_m7 p3_m7 r_GG (show zHA (m 94 10) (m 94 11) (m 94 13) (m 94 14) (m 94 16) (m7 94 61) ((m7 94 59) + nw) (m7 94 60) (m7 99) (m 102) (m7 103) (m7 111) (m 117) (m 98) (m 101) (m 108) from by first | (exact ⟨fun z => absurd z (by omega), fun z => absurd z (by omega)⟩) | (exact HA_up2 p4_m7 (by omega) (by omega) (by omega) (by omega) (by omega) (by omega) (by omega)) | (exfalso; omega; done) | (exfalso; contradiction; done)) (show zRG (m 94 10) (m 94 18) (m 94 64) (m 94 63) (m7 99) (m7 103) (m 102) (m 116) from by first | (exact fun z => absurd z (by omega)) | (exfalso; omega; done) | (exfalso; contradiction; done)) (show (m 94 58).toInt = 0 ∨ (m 94 10).toInt = 5 from by omega) (show zPL (m 94 10) (m 94 11) (m 94 13) (m 94 14) (m7 94 61) ((m7 94 59) + nw) (m7 94 60) (m 94 18) (m 94 64) (m7 99) (m 102) (m7 103) (m7 111) (m7 94 59) nw from by first | (exact PL_no (by decide)) | (exact PL_o (by omega) (by omega) (by omega) (by omega) (by omega)) | (exact PL_2 p4_m7 (by omega) (by omega) (by omega) (by omega)) | (exfalso; omega; done) | (exfalso; contradiction; done)) p5_m7
        · skip
          have g83 := i_nle h80
          have li84 : (-1 : Int32).toInt = -1 := rfl
          exact K ((-1 : Int32)) _ (zF_zov zF_rfl ws_206_184) hV_m7 p0_m7 p1_m7 p2_m7 p3_m7 r_GG p4_m7 (show zRG (m 94 10) (m 94 18) (m 94 64) (m 94 63) (m7 99) (m7 103) (m 102) (m 116) from by first | (exact fun z => absurd z (by omega)) | (exfalso; omega; done) | (exfalso; contradiction; done)) (show (m 94 58).toInt = 0 ∨ (m 94 10).toInt = 5 from by omega) (show zPL (m 94 10) (m 94 11) (m 94 13) (m 94 14) (m7 94 61) (m7 94 59) (m7 94 60) (m 94 18) (m 94 64) (m7 99) (m 102) (m7 103) (m7 111) (-1 : Int32) nw from by first | (exact PL_no (by decide)) | (exact PL_o (by omega) (by omega) (by omega) (by omega) (by omega)) | (exact PL_2 p4_m7 (by omega) (by omega) (by omega) (by omega)) | (exfalso; omega; done) | (exfalso; contradiction; done)) p5_m7
    · skip
      have g85 := i_ne h38
      have li86 : (3 : Int32).toInt = 3 := rfl
      refine zd (fun (h87 : (m 94 10) = (3 : Int32)) => ?_) (fun (h87 : ¬ (m 94 10) = (3 : Int32)) => ?_)
      · skip
        have g88 := i_eq h87
        have b89 := i_bd nw
        refine sp_210uw (nw) hV (by omega) (by omega) r_W r_GW r_GU r_OW r_DX r_HA (show (m 94 10).toInt = 3 from by omega) (fun v10 m9 hV_m9 p0_m9 p1_m9 p2_m9 p3_m9 p4_m9 p5_m9 p6_m9 => zmi_n ?_)
        have p0_m9 : zGW T (m9 94 55) (m9 109) := p0_m9
        have p1_m9 : zGU T (m 94 46) (m9 99) := p1_m9
        have p2_m9 : zOw (m9 99) (m9 103) (m9 111) := p2_m9
        have p3_m9 : zDX (m 94 10) (m9 99) (m 112) (m9 113) (m9 114) (m9 94 55) (m 98) (m 101) (m 102) (m 108) := p3_m9
        have p4_m9 : zHA (m 94 10) (m 94 11) (m 94 13) (m 94 14) (m 94 16) (m9 94 61) (m9 94 59) (m9 94 60) (m9 99) (m 102) (m9 103) (m9 111) (m9 117) (m 98) (m 101) (m 108) := p4_m9
        have p5_m9 : zPL (m 94 10) (m 94 11) (m 94 13) (m 94 14) (m9 94 61) (m9 94 59) (m9 94 60) (m 94 18) (m 94 64) (m9 99) (m 102) (m9 103) (m9 111) v10 nw := p5_m9
        have p6_m9 : zUs (m 99) (m9 99) := p6_m9
        have b90 := i_bd v10
        exact K (v10) _ (zF_zov zF_rfl ws_210_184) hV_m9 p0_m9 p1_m9 p2_m9 p3_m9 r_GG p4_m9 (show zRG (m 94 10) (m 94 18) (m 94 64) (m 94 63) (m9 99) (m9 103) (m 102) (m 116) from by first | (exact fun z => absurd z (by omega)) | (exfalso; omega; done) | (exfalso; contradiction; done)) (show (m 94 58).toInt = 0 ∨ (m 94 10).toInt = 5 from by omega) p5_m9 p6_m9
      · skip
        have g91 := i_ne h87
        have li92 : (4 : Int32).toInt = 4 := rfl
        refine zd (fun (h93 : (m 94 10) = (4 : Int32)) => ?_) (fun (h93 : ¬ (m 94 10) = (4 : Int32)) => ?_)
        · skip
          have g94 := i_eq h93
          have b95 := i_bd nw
          refine sp_237uw (nw) hV r_W r_GW r_GU r_OW r_DX (fun v12 m11 hV_m11 p0_m11 p1_m11 p2_m11 p3_m11 p4_m11 p5_m11 => zmi_n ?_)
          have p0_m11 : zGW T (m11 94 55) (m11 109) := p0_m11
          have p1_m11 : zGU T (m 94 46) (m11 99) := p1_m11
          have p2_m11 : zOw (m11 99) (m 103) (m11 111) := p2_m11
          have p3_m11 : zDX (m 94 10) (m11 99) (m 112) (m11 113) (m11 114) (m11 94 55) (m 98) (m 101) (m 102) (m 108) := p3_m11
          have p4_m11 : -1 ≤ v12.toInt ∧ v12.toInt ≤ 1500 := p4_m11
          have p5_m11 : zUs (m 99) (m11 99) := p5_m11
          have b96 := i_bd v12
          exact K (v12) _ (zF_zov zF_rfl ws_237_184) hV_m11 p0_m11 p1_m11 p2_m11 p3_m11 r_GG (show zHA (m 94 10) (m 94 11) (m 94 13) (m 94 14) (m 94 16) (m 94 61) (m 94 59) (m 94 60) (m11 99) (m 102) (m 103) (m11 111) (m 117) (m 98) (m 101) (m 108) from by first | (exact ⟨fun z => absurd z (by omega), fun z => absurd z (by omega)⟩) | (exact HA_up2 r_HA (by omega) (by omega) (by omega) (by omega) (by omega) (by omega) (by omega)) | (exfalso; omega; done) | (exfalso; contradiction; done)) (show zRG (m 94 10) (m 94 18) (m 94 64) (m 94 63) (m11 99) (m 103) (m 102) (m 116) from by first | (exact fun z => absurd z (by omega)) | (exfalso; omega; done) | (exfalso; contradiction; done)) (show (m 94 58).toInt = 0 ∨ (m 94 10).toInt = 5 from by omega) (show zPL (m 94 10) (m 94 11) (m 94 13) (m 94 14) (m 94 61) (m 94 59) (m 94 60) (m 94 18) (m 94 64) (m11 99) (m 102) (m 103) (m11 111) v12 nw from by first | (exact PL_no (by decide)) | (exact PL_o (by omega) (by omega) (by omega) (by omega) (by omega)) | (exact PL_2 r_HA (by omega) (by omega) (by omega) (by omega)) | (exfalso; omega; done) | (exfalso; contradiction; done)) p5_m11
        · skip
          have g97 := i_ne h93
          have li98 : (5 : Int32).toInt = 5 := rfl
          refine zd (fun (h99 : (m 94 10) = (5 : Int32)) => ?_) (fun (h99 : ¬ (m 94 10) = (5 : Int32)) => ?_)
          · skip
            have g100 := i_eq h99
            have b101 := i_bd nw
            refine sp_217uw (nw) hV r_W r_GW r_GU r_OW r_DX r_GG (show (m 94 10).toInt = 5 from by omega) (fun v14 m13 hV_m13 p0_m13 p1_m13 p2_m13 p3_m13 p4_m13 p5_m13 p6_m13 => zmi_n ?_)
            have p0_m13 : zGW T (m13 94 55) (m13 109) := p0_m13
            have p1_m13 : zGU T (m 94 46) (m13 99) := p1_m13
            have p2_m13 : zOw (m13 99) (m 103) (m13 111) := p2_m13
            have p3_m13 : zDX (m 94 10) (m13 99) (m 112) (m13 113) (m13 114) (m13 94 55) (m 98) (m 101) (m 102) (m 108) := p3_m13
            have p4_m13 : zGG (m13 94 58) (m13 94 56) (m13 94 57) (m13 106) := p4_m13
            have p5_m13 : -1 ≤ v14.toInt ∧ v14.toInt ≤ 1500 := p5_m13
            have p6_m13 : zUs (m 99) (m13 99) := p6_m13
            have b102 := i_bd v14
            have f103 : 0 ≤ (m13 94 58).toInt ∧ (m13 94 58).toInt ≤ 1 := rs_94_58 (m := (zov wr_217 m m13)) hV_m13
            exact K (v14) _ (zF_zov zF_rfl ws_217_184) hV_m13 p0_m13 p1_m13 p2_m13 p3_m13 p4_m13 (show zHA (m 94 10) (m 94 11) (m 94 13) (m 94 14) (m 94 16) (m 94 61) (m 94 59) (m 94 60) (m13 99) (m 102) (m 103) (m13 111) (m 117) (m 98) (m 101) (m 108) from by first | (exact ⟨fun z => absurd z (by omega), fun z => absurd z (by omega)⟩) | (exact HA_up2 r_HA (by omega) (by omega) (by omega) (by omega) (by omega) (by omega) (by omega)) | (exfalso; omega; done) | (exfalso; contradiction; done)) (show zRG (m 94 10) (m 94 18) (m 94 64) (m 94 63) (m13 99) (m 103) (m 102) (m 116) from by first | (exact fun z => absurd z (by omega)) | (exfalso; omega; done) | (exfalso; contradiction; done)) (show (m13 94 58).toInt = 0 ∨ (m 94 10).toInt = 5 from by omega) (show zPL (m 94 10) (m 94 11) (m 94 13) (m 94 14) (m 94 61) (m 94 59) (m 94 60) (m 94 18) (m 94 64) (m13 99) (m 102) (m 103) (m13 111) v14 nw from by first | (exact PL_no (by decide)) | (exact PL_o (by omega) (by omega) (by omega) (by omega) (by omega)) | (exact PL_2 r_HA (by omega) (by omega) (by omega) (by omega)) | (exfalso; omega; done) | (exfalso; contradiction; done)) p6_m13
          · skip
            have g104 := i_ne h99
            have li105 : (6 : Int32).toInt = 6 := rfl
            refine zd (fun (h106 : (m 94 10) = (6 : Int32)) => ?_) (fun (h106 : ¬ (m 94 10) = (6 : Int32)) => ?_)
            · skip
              have g107 := i_eq h106
              have b108 := i_bd nw
              refine sp_231uw (nw) hV (by omega) (by omega) r_W r_GW r_GU r_OW r_DX (show zRG1 (m 94 18) (m 94 64) (m 94 63) (m 99) (m 103) (m 102) (m 116) from by first | (exact r_RGc (by omega)) | (exfalso; omega; done) | (exfalso; contradiction; done)) (show (m 94 10).toInt = 6 from by omega) (fun v16 m15 hV_m15 p0_m15 p1_m15 p2_m15 p3_m15 p4_m15 p5_m15 p6_m15 p7_m15 => zmi_n ?_)
              have p0_m15 : zGW T (m15 94 55) (m15 109) := p0_m15
              have p1_m15 : zGU T (m 94 46) (m15 99) := p1_m15
              have p2_m15 : zOw (m15 99) (m15 103) (m15 111) := p2_m15
              have p3_m15 : zDX (m 94 10) (m15 99) (m 112) (m15 113) (m15 114) (m15 94 55) (m 98) (m 101) (m 102) (m 108) := p3_m15
              have p4_m15 : zRG1 (m 94 18) (m 94 64) (m15 94 63) (m15 99) (m15 103) (m 102) (m15 116) := p4_m15
              have p5_m15 : v16.toInt = -1 ∨ (0 ≤ v16.toInt ∧ v16.toInt + nw.toInt ≤ (m 94 64).toInt * (m 94 18).toInt ∧ nw.toInt ≤ (m 94 18).toInt) := p5_m15
              have p6_m15 : -1 ≤ v16.toInt ∧ v16.toInt ≤ 1500 := p6_m15
              have p7_m15 : zUs (m 99) (m15 99) := p7_m15
              have b109 := i_bd v16
              exact K (v16) _ (zF_zov zF_rfl ws_231_184) hV_m15 p0_m15 p1_m15 p2_m15 p3_m15 r_GG (show zHA (m 94 10) (m 94 11) (m 94 13) (m 94 14) (m 94 16) (m 94 61) (m 94 59) (m 94 60) (m15 99) (m 102) (m15 103) (m15 111) (m 117) (m 98) (m 101) (m 108) from by first | (exact ⟨fun z => absurd z (by omega), fun z => absurd z (by omega)⟩) | (exact HA_up2 r_HA (by omega) (by omega) (by omega) (by omega) (by omega) (by omega) (by omega)) | (exfalso; omega; done) | (exfalso; contradiction; done)) (show zRG (m 94 10) (m 94 18) (m 94 64) (m15 94 63) (m15 99) (m15 103) (m 102) (m15 116) from by first | (exact fun z => absurd z (by omega)) | (exact fun _ => p4_m15) | (exfalso; omega; done) | (exfalso; contradiction; done)) (show (m 94 58).toInt = 0 ∨ (m 94 10).toInt = 5 from by omega) (show zPL (m 94 10) (m 94 11) (m 94 13) (m 94 14) (m 94 61) (m 94 59) (m 94 60) (m 94 18) (m 94 64) (m15 99) (m 102) (m15 103) (m15 111) v16 nw from by first | (exact PL_6 p5_m15 (by omega) (by omega) (by omega)) | (exact PL_no (by decide)) | (exact PL_o (by omega) (by omega) (by omega) (by omega) (by omega)) | (exact PL_2 r_HA (by omega) (by omega) (by omega) (by omega)) | (exfalso; omega; done) | (exfalso; contradiction; done)) p7_m15
            · skip
              have g110 := i_ne h106
              have b111 := i_bd nw
              refine sp_237uw (nw) hV r_W r_GW r_GU r_OW r_DX (fun v18 m17 hV_m17 p0_m17 p1_m17 p2_m17 p3_m17 p4_m17 p5_m17 => zmi_n ?_)
              have p0_m17 : zGW T (m17 94 55) (m17 109) := p0_m17
              have p1_m17 : zGU T (m 94 46) (m17 99) := p1_m17
              have p2_m17 : zOw (m17 99) (m 103) (m17 111) := p2_m17
              have p3_m17 : zDX (m 94 10) (m17 99) (m 112) (m17 113) (m17 114) (m17 94 55) (m 98) (m 101) (m 102) (m 108) := p3_m17
              have p4_m17 : -1 ≤ v18.toInt ∧ v18.toInt ≤ 1500 := p4_m17
              have p5_m17 : zUs (m 99) (m17 99) := p5_m17
              have b112 := i_bd v18
              exact K (v18) _ (zF_zov zF_rfl ws_237_184) hV_m17 p0_m17 p1_m17 p2_m17 p3_m17 r_GG (show zHA (m 94 10) (m 94 11) (m 94 13) (m 94 14) (m 94 16) (m 94 61) (m 94 59) (m 94 60) (m17 99) (m 102) (m 103) (m17 111) (m 117) (m 98) (m 101) (m 108) from by first | (exact ⟨fun z => absurd z (by omega), fun z => absurd z (by omega)⟩) | (exact HA_up2 r_HA (by omega) (by omega) (by omega) (by omega) (by omega) (by omega) (by omega)) | (exfalso; omega; done) | (exfalso; contradiction; done)) (show zRG (m 94 10) (m 94 18) (m 94 64) (m 94 63) (m17 99) (m 103) (m 102) (m 116) from by first | (exact fun z => absurd z (by omega)) | (exfalso; omega; done) | (exfalso; contradiction; done)) (show (m 94 58).toInt = 0 ∨ (m 94 10).toInt = 5 from by omega) (show zPL (m 94 10) (m 94 11) (m 94 13) (m 94 14) (m 94 61) (m 94 59) (m 94 60) (m 94 18) (m 94 64) (m17 99) (m 102) (m 103) (m17 111) v18 nw from by first | (exact PL_no (by decide)) | (exact PL_o (by omega) (by omega) (by omega) (by omega) (by omega)) | (exact PL_2 r_HA (by omega) (by omega) (by omega) (by omega)) | (exfalso; omega; done) | (exfalso; contradiction; done)) p5_m17

