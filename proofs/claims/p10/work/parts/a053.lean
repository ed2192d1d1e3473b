/-! from 95.v12 -/
/-! AGES, the reference (written by wip/tools/gen15v.py) -/
set_option maxHeartbeats 8000000 in
theorem sp_184ry {X : Nat × (Nat → Int32)} {P : Option ma_V → (Nat → Nat → Int32) → Prop} {T : Nat} {aa : Nat→Nat→Int32} {ro : Int32} {m : Nat → Nat → Int32} (nz : Int32) (hV : zV m) (hpre0 : 1 ≤ nz.toInt) (hpre1 : nz.toInt ≤ 61) (hpre2 : T ≤ 512) (r_W : zW (m 94 7) (m 98) (m 101) (m 102) (m 108)) (r_GW : zGW T (m 94 55) (m 109)) (r_GU : zGU T (m 94 46) (m 99)) (r_OW : zOw (m 99) (m 103) (m 111)) (r_GG : zGG (m 94 58) (m 94 56) (m 94 57) (m 106)) (hpre8 : (m 94 10).toInt = 3 ∧ (m 94 58).toInt = 0) (r_RB : qRB (m 99) (m 100) (m 98) (m 101) (m 102) (m 103) (m 107) (m 108) (m 109) (m 111) (m 112) (m 113) (m 114) (m 94 55) (m 94 46) ro 0 0 0 1 aa) (r_AV : qAv aa) (r_AL : qAL aa (m 94 13) (m 94 14) (m 94 15) (m 94 16) (m 94 59) (m 94 60) (m 94 61)) (r_AGq : qAg (m 99) (m 100) (m 104) aa) (r_DT : qDt (m 117) aa) (r_MG : qMG (m 94 58) (m 106) (m 115) (m 94 57) (m 94 56) (m 99) (m 100) aa) (r_MK : aa 87 8 = (m 94 58)) (r_WTS : (m 94 45).toInt = sm (zbU (m 99)) (m 102) 3100) (KZ : ∀ v m₉, zV (zov wr_184 m m₉) → (zGW T (m₉ 94 55) (m₉ 109)) → (zGU T (m 94 46) (m₉ 99)) → (zOw (m₉ 99) (m₉ 103) (m₉ 111)) → (zGG (m₉ 94 58) (m₉ 94 56) (m₉ 94 57) (m₉ 106)) → (-1 ≤ v.toInt ∧ v.toInt ≤ 4500) → (qRB (m₉ 99) (m 100) (m 98) (m 101) (m 102) (m₉ 103) (m 107) (m 108) (m₉ 109) (m₉ 111) (m 112) (m₉ 113) (m₉ 114) (m₉ 94 55) (m 94 46) ro 0 0 0 1 (yFt aa nz v)) → (qI (yFt aa nz v)) → (qAL (yFt aa nz v) (m 94 13) (m 94 14) (m 94 15) (m 94 16) (m₉ 94 59) (m₉ 94 60) (m₉ 94 61)) → (qAg (m₉ 99) (m 100) (m₉ 104) (yFt aa nz v)) → (qDt (m₉ 117) (yFt aa nz v)) → (qMG (m₉ 94 58) (m₉ 106) (m₉ 115) (m₉ 94 57) (m₉ 94 56) (m₉ 99) (m 100) (yFt aa nz v)) → ((yFt aa nz v) 87 8 = (m₉ 94 58)) → ((m₉ 94 45).toInt = sm (zbU (m₉ 99)) (m 102) 3100) → (qEq v.toInt (gRp aa nz.toInt)) → (qAv (gRs aa nz.toInt)) → ((m₉ 94 58).toInt = 0) → P (some (.inl v)) (zov wr_184 m m₉)) : zm X 8 175 184 0 [(0, .inr (.inr (some 94))), (1, .inl nz)] m P := by
  have K : ∀ v m₉, zF wr_184 m m₉ → zV m₉ → (zGW T (m₉ 94 55) (m₉ 109)) → (zGU T (m₉ 94 46) (m₉ 99)) → (zOw (m₉ 99) (m₉ 103) (m₉ 111)) → (zGG (m₉ 94 58) (m₉ 94 56) (m₉ 94 57) (m₉ 106)) → (-1 ≤ v.toInt ∧ v.toInt ≤ 4500) → (qRB (m₉ 99) (m₉ 100) (m₉ 98) (m₉ 101) (m₉ 102) (m₉ 103) (m₉ 107) (m₉ 108) (m₉ 109) (m₉ 111) (m₉ 112) (m₉ 113) (m₉ 114) (m₉ 94 55) (m₉ 94 46) ro 0 0 0 1 (yFt aa nz v)) → (qI (yFt aa nz v)) → (qAL (yFt aa nz v) (m₉ 94 13) (m₉ 94 14) (m₉ 94 15) (m₉ 94 16) (m₉ 94 59) (m₉ 94 60) (m₉ 94 61)) → (qAg (m₉ 99) (m₉ 100) (m₉ 104) (yFt aa nz v)) → (qDt (m₉ 117) (yFt aa nz v)) → (qMG (m₉ 94 58) (m₉ 106) (m₉ 115) (m₉ 94 57) (m₉ 94 56) (m₉ 99) (m₉ 100) (yFt aa nz v)) → ((yFt aa nz v) 87 8 = (m₉ 94 58)) → ((m₉ 94 45).toInt = sm (zbU (m₉ 99)) (m₉ 102) 3100) → (qEq v.toInt (gRp aa nz.toInt)) → (qAv (gRs aa nz.toInt)) → ((m₉ 94 58).toInt = 0) → P (some (.inl v)) m₉ := by
    intro v m₉ hf z q0 q1 q2 q3 q4 q5 q6 q7 q8 q9 q10 q11 q12 q13 q14 q15
    have e := zov_eq hf
    rw [e] at z ⊢
    try rw [e] at q0
    try rw [e] at q1
    try rw [e] at q2
    try rw [e] at q3
    try rw [e] at q4
    try rw [e] at q5
    try rw [e] at q6
    try rw [e] at q7
    try rw [e] at q8
    try rw [e] at q9
    try rw [e] at q10
    try rw [e] at q11
    try rw [e] at q12
    try rw [e] at q13
    try rw [e] at q14
    try rw [e] at q15
    exact KZ v m₉ z q0 q1 q2 q3 q4 q5 q6 q7 q8 q9 q10 q11 q12 q13 q14 q15
  refine g_184_0 nz ?_
  have f1 : 0 ≤ (m 94 10).toInt ∧ (m 94 10).toInt ≤ 6 := rs_94_10 (m := m) hV
  have f2 : 0 ≤ (m 94 58).toInt ∧ (m 94 58).toInt ≤ 1 := rs_94_58 (m := m) hV
  have li3 : (1 : Int32).toInt = 1 := rfl
  refine zd (fun (h4 : (m 94 10) = (1 : Int32)) => ?_) (fun (h4 : ¬ (m 94 10) = (1 : Int32)) => ?_)
  · skip
    have g5 := i_eq h4
    exfalso; omega
  · skip
    have g6 := i_ne h4
    have li7 : (2 : Int32).toInt = 2 := rfl
    refine zd (fun (h8 : (m 94 10) = (2 : Int32)) => ?_) (fun (h8 : ¬ (m 94 10) = (2 : Int32)) => ?_)
    · skip
      have g9 := i_eq h8
      exfalso; omega
    · skip
      have g10 := i_ne h8
      have li11 : (3 : Int32).toInt = 3 := rfl
      refine zd (fun (h12 : (m 94 10) = (3 : Int32)) => ?_) (fun (h12 : ¬ (m 94 10) = (3 : Int32)) => ?_)
      · skip
        have g13 := i_eq h12
        have b14 := i_bd nz
        refine sp_210ry (aa := aa) (nz) hV (by omega) (by omega) (by omega) r_W r_GW r_GU r_OW (show (m 94 10).toInt = 3 from by omega) r_RB r_AV r_AL r_AGq r_DT r_WTS (fun v10 m9 hV_m9 p0_m9 p1_m9 p2_m9 p3_m9 p4_m9 p5_m9 p6_m9 p7_m9 p8_m9 p9_m9 p10_m9 p11_m9 => zmi_n ?_)
        have p0_m9 : zGW T (m9 94 55) (m9 109) := p0_m9
        have p1_m9 : zGU T (m 94 46) (m9 99) := p1_m9
        have p2_m9 : zOw (m9 99) (m9 103) (m9 111) := p2_m9
        have p3_m9 : -1 ≤ v10.toInt ∧ v10.toInt ≤ 4500 := p3_m9
        have p4_m9 : qRB (m9 99) (m 100) (m 98) (m 101) (m 102) (m9 103) (m 107) (m 108) (m9 109) (m9 111) (m 112) (m9 113) (m9 114) (m9 94 55) (m 94 46) ro 0 0 0 1 (yFt aa nz v10) := p4_m9
        have p5_m9 : qI (yFt aa nz v10) := p5_m9
        have p6_m9 : qAL (yFt aa nz v10) (m 94 13) (m 94 14) (m 94 15) (m 94 16) (m9 94 59) (m9 94 60) (m9 94 61) := p6_m9
        have p7_m9 : qAg (m9 99) (m 100) (m9 104) (yFt aa nz v10) := p7_m9
        have p8_m9 : qDt (m9 117) (yFt aa nz v10) := p8_m9
        have p9_m9 : qEq v10.toInt (gRp aa nz.toInt) := p9_m9
        have p10_m9 : qAv (gRs aa nz.toInt) := p10_m9
        have p11_m9 : (m9 94 45).toInt = sm (zbU (m9 99)) (m 102) 3100 := p11_m9
        have b15 := i_bd v10
        exact K (v10) _ (zF_zov zF_rfl ws_210_184) hV_m9 p0_m9 p1_m9 p2_m9 r_GG (show -1 ≤ v10.toInt ∧ v10.toInt ≤ 4500 from by omega) p4_m9 p5_m9 p6_m9 p7_m9 p8_m9 (show qMG (m 94 58) (m 106) (m 115) (m 94 57) (m 94 56) (m9 99) (m 100) (yFt aa nz v10) from by first | (exact fun z => absurd (by omega) z) | (exfalso; omega; done) | (exfalso; contradiction; done)) (show (yFt aa nz v10) 87 8 = (m 94 58) from by first | (rw [Yf_7 (by decide) (by decide) (by decide)]; exact r_MK; done) | (exfalso; omega; done) | (exfalso; contradiction; done)) p11_m9 p9_m9 p10_m9 (show (m 94 58).toInt = 0 from by omega)
      · skip
        have g16 := i_ne h12
        exfalso; omega
set_option maxHeartbeats 8000000 in
theorem sp_256ry {X : Nat × (Nat → Int32)} {P : Option ma_V → (Nat → Nat → Int32) → Prop} {T : Nat} {aa : Nat→Nat→Int32} {ro : Int32} {m : Nat → Nat → Int32}  (hV : zV m) (hpre0 : T ≤ 512) (r_W : zW (m 94 7) (m 98) (m 101) (m 102) (m 108)) (r_GW : zGW T (m 94 55) (m 109)) (r_GU : zGU T (m 94 46) (m 99)) (r_OW : zOw (m 99) (m 103) (m 111)) (r_GG : zGG (m 94 58) (m 94 56) (m 94 57) (m 106)) (hpre6 : (m 94 10).toInt = 3 ∧ (m 94 58).toInt = 0) (hpre7 : (m 94 8).toInt = 1) (r_RB : qRB (m 99) (m 100) (m 98) (m 101) (m 102) (m 103) (m 107) (m 108) (m 109) (m 111) (m 112) (m 113) (m 114) (m 94 55) (m 94 46) ro 0 0 0 1 aa) (r_AV : qAv aa) (r_AL : qAL aa (m 94 13) (m 94 14) (m 94 15) (m 94 16) (m 94 59) (m 94 60) (m 94 61)) (r_AGq : qAg (m 99) (m 100) (m 104) aa) (r_DT : qDt (m 117) aa) (r_MG : qMG (m 94 58) (m 106) (m 115) (m 94 57) (m 94 56) (m 99) (m 100) aa) (r_MK : aa 87 8 = (m 94 58)) (r_WTS : (m 94 45).toInt = sm (zbU (m 99)) (m 102) 3100) (KZ : ∀ v m₉, zV (zov wr_256 m m₉) → (zW (m 94 7) (m 98) (m 101) (m 102) (m 108)) → (zGW T (m₉ 94 55) (m₉ 109)) → (zGU T (m 94 46) (m₉ 99)) → (zOw (m₉ 99) (m₉ 103) (m₉ 111)) → (zGG (m₉ 94 58) (m₉ 94 56) (m₉ 94 57) (m₉ 106)) → (qRB (m₉ 99) (m 100) (m 98) (m 101) (m 102) (m₉ 103) (m 107) (m 108) (m₉ 109) (m₉ 111) (m 112) (m₉ 113) (m₉ 114) (m₉ 94 55) (m 94 46) ro 0 0 0 1 (gMi (gMa aa))) → (qAv (gMi (gMa aa))) → (qAL (gMi (gMa aa)) (m 94 13) (m 94 14) (m 94 15) (m 94 16) (m₉ 94 59) (m₉ 94 60) (m₉ 94 61)) → (qAg (m₉ 99) (m 100) (m₉ 104) (gMi (gMa aa))) → (qDt (m₉ 117) (gMi (gMa aa))) → (qMG (m₉ 94 58) (m₉ 106) (m₉ 115) (m₉ 94 57) (m₉ 94 56) (m₉ 99) (m 100) (gMi (gMa aa))) → ((gMi (gMa aa)) 87 8 = (m₉ 94 58)) → ((m₉ 94 45).toInt = sm (zbU (m₉ 99)) (m 102) 3100) → ((m₉ 94 58).toInt = 0) → P (some (.inl v)) (zov wr_256 m m₉)) : zm X 7 152 256 0 [(0, .inr (.inr (some 94)))] m P := by
  have K : ∀ v m₉, zF wr_256 m m₉ → zV m₉ → (zW (m₉ 94 7) (m₉ 98) (m₉ 101) (m₉ 102) (m₉ 108)) → (zGW T (m₉ 94 55) (m₉ 109)) → (zGU T (m₉ 94 46) (m₉ 99)) → (zOw (m₉ 99) (m₉ 103) (m₉ 111)) → (zGG (m₉ 94 58) (m₉ 94 56) (m₉ 94 57) (m₉ 106)) → (qRB (m₉ 99) (m₉ 100) (m₉ 98) (m₉ 101) (m₉ 102) (m₉ 103) (m₉ 107) (m₉ 108) (m₉ 109) (m₉ 111) (m₉ 112) (m₉ 113) (m₉ 114) (m₉ 94 55) (m₉ 94 46) ro 0 0 0 1 (gMi (gMa aa))) → (qAv (gMi (gMa aa))) → (qAL (gMi (gMa aa)) (m₉ 94 13) (m₉ 94 14) (m₉ 94 15) (m₉ 94 16) (m₉ 94 59) (m₉ 94 60) (m₉ 94 61)) → (qAg (m₉ 99) (m₉ 100) (m₉ 104) (gMi (gMa aa))) → (qDt (m₉ 117) (gMi (gMa aa))) → (qMG (m₉ 94 58) (m₉ 106) (m₉ 115) (m₉ 94 57) (m₉ 94 56) (m₉ 99) (m₉ 100) (gMi (gMa aa))) → ((gMi (gMa aa)) 87 8 = (m₉ 94 58)) → ((m₉ 94 45).toInt = sm (zbU (m₉ 99)) (m₉ 102) 3100) → ((m₉ 94 58).toInt = 0) → P (some (.inl v)) m₉ := by
    intro v m₉ hf z q0 q1 q2 q3 q4 q5 q6 q7 q8 q9 q10 q11 q12 q13
    have e := zov_eq hf
    rw [e] at z ⊢
    try rw [e] at q0
    try rw [e] at q1
    try rw [e] at q2
    try rw [e] at q3
    try rw [e] at q4
    try rw [e] at q5
    try rw [e] at q6
    try rw [e] at q7
    try rw [e] at q8
    try rw [e] at q9
    try rw [e] at q10
    try rw [e] at q11
    try rw [e] at q12
    try rw [e] at q13
    exact KZ v m₉ z q0 q1 q2 q3 q4 q5 q6 q7 q8 q9 q10 q11 q12 q13
  refine g_256_0  ?_
  have f1 : 0 ≤ (m 94 10).toInt ∧ (m 94 10).toInt ≤ 6 := rs_94_10 (m := m) hV
  have f2 : 0 ≤ (m 94 58).toInt ∧ (m 94 58).toInt ≤ 1 := rs_94_58 (m := m) hV
  have f3 : 0 ≤ (m 94 8).toInt ∧ (m 94 8).toInt ≤ 1 := rs_94_8 (m := m) hV
  have li4 : (0 : Int32).toInt = 0 := rfl
  refine zd (fun (h5 : (m 94 8) = (0 : Int32)) => ?_) (fun (h5 : ¬ (m 94 8) = (0 : Int32)) => ?_)
  · skip
    have g6 := i_eq h5
    exfalso; omega
  · skip
    have g7 := i_ne h5
    have li8 : (1 : Int32).toInt = 1 := rfl
    refine zd (fun (h9 : (m 94 10) = (1 : Int32)) => ?_) (fun (h9 : ¬ (m 94 10) = (1 : Int32)) => ?_)
    · skip
      have g10 := i_eq h9
      exfalso; omega
    · skip
      have g11 := i_ne h9
      have li12 : (2 : Int32).toInt = 2 := rfl
      refine zd (fun (h13 : (m 94 10) = (2 : Int32)) => ?_) (fun (h13 : ¬ (m 94 10) = (2 : Int32)) => ?_)
      · skip
        have g14 := i_eq h13
        exfalso; omega
      · skip
        have g15 := i_ne h13
        have li16 : (3 : Int32).toInt = 3 := rfl
        refine zd (fun (h17 : (m 94 10) = (3 : Int32)) => ?_) (fun (h17 : ¬ (m 94 10) = (3 : Int32)) => ?_)
        · skip
          have g18 := i_eq h17
          have hV19 : zV (ma_u m 94 0 (0 : Int32)) := uf_94_0 hV
          refine sp_211ry (aa := aa)  hV19 (by omega) r_W r_GW r_GU r_OW (show (m 94 10).toInt = 3 from by omega) r_RB r_AV r_AL r_AGq r_WTS (fun v6 m5 hV_m5 p0_m5 p1_m5 p2_m5 p3_m5 p4_m5 p5_m5 p6_m5 p7_m5 p8_m5 => zmi_n ?_)
          have p0_m5 : zGW T (m5 94 55) (m5 109) := p0_m5
          have p1_m5 : zGU T (m 94 46) (m5 99) := p1_m5
          have p2_m5 : zOw (m5 99) (m5 103) (m5 111) := p2_m5
          have p3_m5 : qRB (m5 99) (m 100) (m 98) (m 101) (m 102) (m5 103) (m 107) (m 108) (m5 109) (m5 111) (m 112) (m5 113) (m5 114) (m5 94 55) (m 94 46) ro 0 0 0 1 (gMa aa) := p3_m5
          have p4_m5 : qAv (gMa aa) := p4_m5
          have p5_m5 : qAL (gMa aa) (m 94 13) (m 94 14) (m 94 15) (m 94 16) (m 94 59) (m5 94 60) (m 94 61) := p5_m5
          have p6_m5 : qAg (m5 99) (m 100) (m 104) (gMa aa) := p6_m5
          have p7_m5 : qDt (m5 117) (gMa aa) := p7_m5
          have p8_m5 : (m5 94 45).toInt = sm (zbU (m5 99)) (m 102) 3100 := p8_m5
          refine sp_214ry (aa := (gMa aa))  hV_m5 (by omega) r_W p0_m5 p1_m5 p2_m5 (show (m 94 10).toInt = 3 from by omega) p3_m5 p4_m5 p5_m5 p6_m5 p7_m5 p8_m5 (fun v8 m7 hV_m7 p0_m7 p1_m7 p2_m7 p3_m7 p4_m7 p5_m7 p6_m7 p7_m7 p8_m7 => zmi_n ?_)
          have p0_m7 : zGW T (m7 94 55) (m7 109) := p0_m7
          have p1_m7 : zGU T (m 94 46) (m7 99) := p1_m7
          have p2_m7 : zOw (m7 99) (m7 103) (m7 111) := p2_m7
          have p3_m7 : qRB (m7 99) (m 100) (m 98) (m 101) (m 102) (m7 103) (m 107) (m 108) (m7 109) (m7 111) (m 112) (m7 113) (m7 114) (m7 94 55) (m 94 46) ro 0 0 0 1 (gMi (gMa aa)) := p3_m7
          have p4_m7 : qAv (gMi (gMa aa)) := p4_m7
          have p5_m7 : qAL (gMi (gMa aa)) (m 94 13) (m 94 14) (m 94 15) (m 94 16) (m7 94 59) (m7 94 60) (m7 94 61) := p5_m7
          have p6_m7 : qAg (m7 99) (m 100) (m7 104) (gMi (gMa aa)) := p6_m7
          have p7_m7 : qDt (m7 117) (gMi (gMa aa)) := p7_m7
          have p8_m7 : (m7 94 45).toInt = sm (zbU (m7 99)) (m 102) 3100 := p8_m7
          have b20 := i_bd v6
          have b21 := i_bd v8
          first | have e22 : (v6 + v8).toInt = v6.toInt + v8.toInt := i_add (by omega) (by omega) | have b23 := i_bd (v6 + v8)
          exact K ((v6 + v8)) _ (zF_zov (zF_zov (zF_u zF_rfl rfl) ws_211_256) ws_214_256) hV_m7 r_W p0_m7 p1_m7 p2_m7 r_GG p3_m7 p4_m7 p5_m7 p6_m7 p7_m7 (show qMG (m 94 58) (m 106) (m 115) (m 94 57) (m 94 56) (m7 99) (m 100) (gMi (gMa aa)) from by first | (exact fun z => absurd (by omega) z) | (exfalso; omega; done) | (exfalso; contradiction; done)) (show (gMi (gMa aa)) 87 8 = (m 94 58) from by first | (rw [gMi_7 (by decide) (by decide) (by decide), Ma_87 (by decide)]; exact r_MK; done) | (exfalso; omega; done) | (exfalso; contradiction; done)) p8_m7 (show (m 94 58).toInt = 0 from by omega)
        · skip
          have g24 := i_ne h17
          exfalso; omega
theorem sp_238ry {X : Nat × (Nat → Int32)} {P : Option ma_V → (Nat → Nat → Int32) → Prop} {T : Nat} {aa : Nat→Nat→Int32} {ro : Int32} {m : Nat → Nat → Int32} (r1 : Int32) (s : Int32) (hV : zV m) (hpre0 : 0 ≤ r1.toInt) (hpre1 : r1.toInt ≤ 15) (hpre2 : -1 ≤ s.toInt) (hpre3 : s.toInt ≤ 3099) (hpre4 : (m 94 10).toInt = 3 ∧ (m 94 58).toInt = 0) (r_W : zW (m 94 7) (m 98) (m 101) (m 102) (m 108)) (r_GW : zGW T (m 94 55) (m 109)) (r_GU : zGU T (m 94 46) (m 99)) (r_OW : zOw (m 99) (m 103) (m 111)) (r_GG : zGG (m 94 58) (m 94 56) (m 94 57) (m 106)) (r_RB : qRB (m 99) (m 100) (m 98) (m 101) (m 102) (m 103) (m 107) (m 108) (m 109) (m 111) (m 112) (m 113) (m 114) (m 94 55) (m 94 46) ro 0 0 0 1 aa) (r_QI : qI aa) (r_MG : qMG (m 94 58) (m 106) (m 115) (m 94 57) (m 94 56) (m 99) (m 100) aa) (r_MK : aa 87 8 = (m 94 58)) (r_WTS : (m 94 45).toInt = sm (zbU (m 99)) (m 102) 3100) (r_US : qU (m 99) s) (r_MS : qMS (m 94 58) aa (qNo (m 100) s)) (KZ : ∀ m₉, zV (zov wr_238 m m₉) → (zGW T (m₉ 94 55) (m₉ 109)) → (zGU T (m 94 46) (m₉ 99)) → (zOw (m₉ 99) (m 103) (m₉ 111)) → (zGG (m 94 58) (m₉ 94 56) (m 94 57) (m₉ 106)) → (qRB (m₉ 99) (m 100) (m 98) (m 101) (m 102) (m 103) (m 107) (m 108) (m₉ 109) (m₉ 111) (m₉ 112) (m₉ 113) (m₉ 114) (m₉ 94 55) (m 94 46) ro 0 0 0 1 (aRt aa r1 (qNo (m 100) s))) → (qI (aRt aa r1 (qNo (m 100) s))) → (qMG (m 94 58) (m₉ 106) (m₉ 115) (m 94 57) (m₉ 94 56) (m₉ 99) (m 100) (aRt aa r1 (qNo (m 100) s))) → ((aRt aa r1 (qNo (m 100) s)) 87 8 = (m 94 58)) → ((m₉ 94 45).toInt = sm (zbU (m₉ 99)) (m 102) 3100) → ((m₉ 99) = (m 99)) → P none (zov wr_238 m m₉)) : zm X 4 88 238 0 [(0, .inr (.inr (some 94))), (1, .inl r1), (2, .inl s)] m P := by
  have K : ∀ m₉, zF wr_238 m m₉ → zV m₉ → (zGW T (m₉ 94 55) (m₉ 109)) → (zGU T (m₉ 94 46) (m₉ 99)) → (zOw (m₉ 99) (m₉ 103) (m₉ 111)) → (zGG (m₉ 94 58) (m₉ 94 56) (m₉ 94 57) (m₉ 106)) → (qRB (m₉ 99) (m₉ 100) (m₉ 98) (m₉ 101) (m₉ 102) (m₉ 103) (m₉ 107) (m₉ 108) (m₉ 109) (m₉ 111) (m₉ 112) (m₉ 113) (m₉ 114) (m₉ 94 55) (m₉ 94 46) ro 0 0 0 1 (aRt aa r1 (qNo (m₉ 100) s))) → (qI (aRt aa r1 (qNo (m₉ 100) s))) → (qMG (m₉ 94 58) (m₉ 106) (m₉ 115) (m₉ 94 57) (m₉ 94 56) (m₉ 99) (m₉ 100) (aRt aa r1 (qNo (m₉ 100) s))) → ((aRt aa r1 (qNo (m₉ 100) s)) 87 8 = (m₉ 94 58)) → ((m₉ 94 45).toInt = sm (zbU (m₉ 99)) (m₉ 102) 3100) → ((m₉ 99) = (m 99)) → P none m₉ := by
    intro m₉ hf z q0 q1 q2 q3 q4 q5 q6 q7 q8 q9
    have e := zov_eq hf
    rw [e] at z ⊢
    try rw [e] at q0
    try rw [e] at q1
    try rw [e] at q2
    try rw [e] at q3
    try rw [e] at q4
    try rw [e] at q5
    try rw [e] at q6
    try rw [e] at q7
    try rw [e] at q8
    try rw [e] at q9
    exact KZ m₉ z q0 q1 q2 q3 q4 q5 q6 q7 q8 q9
  refine g_238_0 r1 s ?_
  have f1 : 0 ≤ (m 94 10).toInt ∧ (m 94 10).toInt ≤ 6 := rs_94_10 (m := m) hV
  have f2 : 0 ≤ (m 94 58).toInt ∧ (m 94 58).toInt ≤ 1 := rs_94_58 (m := m) hV
  have b3 := i_bd r1
  have hg4 : (0 ≤ r1 ∧ r1.toNatClampNeg < 16) := i_ix (by omega) (by omega)
  refine ⟨hg4, ?_⟩
  have b5 := i_bd s
  have li6 : (0 : Int32).toInt = 0 := rfl
  refine zd (fun (h7 : s < (0 : Int32)) => ?_) (fun (h7 : ¬ s < (0 : Int32)) => ?_)
  · skip
    have g8 := i_lt h7
    have hg9 : (0 ≤ r1 ∧ r1.toNatClampNeg < 16) := i_ix (by omega) (by omega)
    refine ⟨hg9, ?_⟩
    first | have f10 : -1 ≤ (m 112 r1.toNatClampNeg).toInt ∧ (m 112 r1.toNatClampNeg).toInt ≤ 3099 := ra_112 (m := m) hV (k := r1.toNatClampNeg) (i_ix (n := 16) (by omega) (by omega)).2 | have b11 := i_bd (m 112 r1.toNatClampNeg)
    have hV12 : zV (ma_u m 112 r1.toNatClampNeg s) := ua_112 hV (by omega) (by omega)
    refine sp_240rm (aa := (ma_u aa 72 r1.toNatClampNeg (qNo (m 100) s))) ((m 112 r1.toNatClampNeg)) (s) hV12 (show ((m 94 10).toInt = 1 ∨ (m 94 10).toInt = 2 ∨ (m 94 10).toInt = 3 ∨ (m 94 10).toInt = 6) ∧ (m 94 58).toInt = 0 from by omega) (by omega) (by omega) (by omega) (by omega) r_GG (show qRB (m 99) (m 100) (m 98) (m 101) (m 102) (m 103) (m 107) (m 108) (m 109) (m 111) ((ma_u m 112 r1.toNatClampNeg s) 112) (m 113) (m 114) (m 94 55) (m 94 46) ro 0 0 0 1 (ma_u aa 72 r1.toNatClampNeg (qNo (m 100) s)) from by first | (exact RB_rt r_RB r_US) | (exfalso; omega; done) | (exfalso; contradiction; done)) (show qI (ma_u aa 72 r1.toNatClampNeg (qNo (m 100) s)) from by first | (exact I_u r_QI (Or.inl rfl)) | (exfalso; omega; done) | (exfalso; contradiction; done)) (show (ma_u aa 72 r1.toNatClampNeg (qNo (m 100) s)) 87 8 = (m 94 58) from by first | (exact (xu_o (by decide)).trans r_MK) | (rw [un (by decide)]; exact r_MK; done) | (exfalso; omega; done) | (exfalso; contradiction; done)) (show qU (m 99) (m 112 r1.toNatClampNeg) from by first | (exact (r_RB.2.2.1 r1.toNatClampNeg (by omega)).1) | (exfalso; omega; done) | (exfalso; contradiction; done)) (show qU (m 99) s from by first | (exact r_US) | (exfalso; omega; done) | (exfalso; contradiction; done)) (show qGQ (m 94 58) (m 106) (m 115) (m 94 57) (m 94 56) (m 99) (m 100) (ma_u aa 72 r1.toNatClampNeg (qNo (m 100) s)) from by first | (exact fun z => MQ_u (r_MG z).1 (by decide)) | (exfalso; omega; done) | (exfalso; contradiction; done)) (fun m1 hV_m1 p0_m1 p1_m1 p2_m1 p3_m1 p4_m1 => zmv_n ?_)
    have p0_m1 : zGG (m 94 58) (m1 94 56) (m 94 57) (m1 106) := p0_m1
    have p1_m1 : qRB (m 99) (m 100) (m 98) (m 101) (m 102) (m 103) (m 107) (m 108) (m 109) (m 111) ((ma_u m 112 r1.toNatClampNeg s) 112) (m 113) (m 114) (m 94 55) (m 94 46) ro 0 0 0 1 (aNc (ma_u aa 72 r1.toNatClampNeg (qNo (m 100) s)) (qNo (m 100) (m 112 r1.toNatClampNeg)) (qNo (m 100) s)) := p1_m1
    have p2_m1 : qI (aNc (ma_u aa 72 r1.toNatClampNeg (qNo (m 100) s)) (qNo (m 100) (m 112 r1.toNatClampNeg)) (qNo (m 100) s)) := p2_m1
    have p3_m1 : (aNc (ma_u aa 72 r1.toNatClampNeg (qNo (m 100) s)) (qNo (m 100) (m 112 r1.toNatClampNeg)) (qNo (m 100) s)) 87 8 = (m 94 58) := p3_m1
    have p4_m1 : qGQ (m 94 58) (m1 106) (m1 115) (m 94 57) (m1 94 56) (m 99) (m 100) (aNc (ma_u aa 72 r1.toNatClampNeg (qNo (m 100) s)) (qNo (m 100) (m 112 r1.toNatClampNeg)) (qNo (m 100) s)) := p4_m1
    refine sp_241rm ((m 112 r1.toNatClampNeg)) hV_m1 (show ((m 94 10).toInt = 1 ∨ (m 94 10).toInt = 2 ∨ (m 94 10).toInt = 3 ∨ (m 94 10).toInt = 6) ∧ (m 94 58).toInt = 0 from by omega) (fun m3 hV_m3 p0_m3 => zmv_n ?_)
    have p0_m3 : (m3 99) = (m 99) ∧ (m3 105) = (m 105) ∧ (m3 109) = (m 109) ∧ (m3 111) = (m 111) ∧ (m3 113) = (m 113) ∧ (m3 114) = (m 114) ∧ (m3 94 55) = (m 94 55) ∧ (m3 94 45) = (m 94 45) := p0_m3
    try have rgb := rs_94_64 hV
    try have lel := LE_lo p0_m3
    try have lex3 := LE_ex p0_m3 (lexi (by omega))
    try have lexi := LE_some p0_m3
    exact K _ (zF_zov (zF_zov (zF_u zF_rfl rfl) ws_240_238) ws_241_238) hV_m3 (show zGW T (m3 94 55) (m3 109) from by first | (rw [p0_m3.2.2.1, p0_m3.2.2.2.2.2.2.1]; exact r_GW; done) | (exfalso; omega; done) | (exfalso; contradiction; done)) (show zGU T (m 94 46) (m3 99) from by first | (rw [p0_m3.1]; exact r_GU; done) | (exact GU_0 r_GU) | (exfalso; omega; done) | (exfalso; contradiction; done)) (show zOw (m3 99) (m 103) (m3 111) from by first | (rw [p0_m3.1, p0_m3.2.2.2.1]; exact r_OW; done) | (exact Ow_rm r_OW (by decide) (tn_cast (by omega)).symm) | (exfalso; omega; done) | (exfalso; contradiction; done)) p0_m1 (show qRB (m3 99) (m 100) (m 98) (m 101) (m 102) (m 103) (m 107) (m 108) (m3 109) (m3 111) ((ma_u m 112 r1.toNatClampNeg s) 112) (m3 113) (m3 114) (m3 94 55) (m 94 46) ro 0 0 0 1 (aRt aa r1 (qNo (m 100) s)) from by first | (rw [(show aRt aa r1 (qNo (m 100) s) = aNc (ma_u aa 72 r1.toNatClampNeg (qNo (m 100) s)) (qNo (m 100) (m 112 r1.toNatClampNeg)) (qNo (m 100) s) from by unfold aRt; rw [Nm_no r_RB.1 r_US, (r_RB.2.2.1 r1.toNatClampNeg (by omega)).2]), p0_m3.1, p0_m3.2.2.1, p0_m3.2.2.2.1, p0_m3.2.2.2.2.1, p0_m3.2.2.2.2.2.1, p0_m3.2.2.2.2.2.2.1]; exact p1_m1; done) | (exfalso; omega; done) | (exfalso; contradiction; done)) (show qI (aRt aa r1 (qNo (m 100) s)) from by first | (rw [(show aRt aa r1 (qNo (m 100) s) = aNc (ma_u aa 72 r1.toNatClampNeg (qNo (m 100) s)) (qNo (m 100) (m 112 r1.toNatClampNeg)) (qNo (m 100) s) from by unfold aRt; rw [Nm_no r_RB.1 r_US, (r_RB.2.2.1 r1.toNatClampNeg (by omega)).2])]; exact p2_m1; done) | (exfalso; omega; done) | (exfalso; contradiction; done)) (show qMG (m 94 58) (m1 106) (m1 115) (m 94 57) (m1 94 56) (m3 99) (m 100) (aRt aa r1 (qNo (m 100) s)) from by first | (rw [(show aRt aa r1 (qNo (m 100) s) = aNc (ma_u aa 72 r1.toNatClampNeg (qNo (m 100) s)) (qNo (m 100) (m 112 r1.toNatClampNeg)) (qNo (m 100) s) from by unfold aRt; rw [Nm_no r_RB.1 r_US, (r_RB.2.2.1 r1.toNatClampNeg (by omega)).2]), p0_m3.1]; exact fun z => ⟨p4_m1 z, MI_rt (r_MG z).2 (r_MG z).1.2.2.2.2 (r_MS z)⟩; done) | (exfalso; omega; done) | (exfalso; contradiction; done)) (show (aRt aa r1 (qNo (m 100) s)) 87 8 = (m 94 58) from by first | (rw [(show aRt aa r1 (qNo (m 100) s) = aNc (ma_u aa 72 r1.toNatClampNeg (qNo (m 100) s)) (qNo (m 100) (m 112 r1.toNatClampNeg)) (qNo (m 100) s) from by unfold aRt; rw [Nm_no r_RB.1 r_US, (r_RB.2.2.1 r1.toNatClampNeg (by omega)).2])]; exact p3_m1; done) | (exfalso; omega; done) | (exfalso; contradiction; done)) (show (m3 94 45).toInt = sm (zbU (m3 99)) (m 102) 3100 from by first | (rw [p0_m3.1, p0_m3.2.2.2.2.2.2.2]; exact r_WTS; done) | (exfalso; omega; done) | (exfalso; contradiction; done)) (show (m3 99) = (m 99) from by first | (exact p0_m3.1) | (exfalso; omega; done) | (exfalso; contradiction; done))
  · skip
    have g13 := i_nlt h7
    have li14 : (4 : Int32).toInt = 4 := rfl
    refine zd (fun (h15 : (m 94 10) = (4 : Int32)) => ?_) (fun (h15 : ¬ (m 94 10) = (4 : Int32)) => ?_)
    · skip
      have g16 := i_eq h15
      exfalso; omega
    · skip
      have g17 := i_ne h15
      have hg18 : (0 ≤ r1 ∧ r1.toNatClampNeg < 16) := i_ix (by omega) (by omega)
      refine ⟨hg18, ?_⟩
      first | have f19 : -1 ≤ (m 112 r1.toNatClampNeg).toInt ∧ (m 112 r1.toNatClampNeg).toInt ≤ 3099 := ra_112 (m := m) hV (k := r1.toNatClampNeg) (i_ix (n := 16) (by omega) (by omega)).2 | have b20 := i_bd (m 112 r1.toNatClampNeg)
      have hV21 : zV (ma_u m 112 r1.toNatClampNeg s) := ua_112 hV (by omega) (by omega)
      refine sp_240rm (aa := (ma_u aa 72 r1.toNatClampNeg (qNo (m 100) s))) ((m 112 r1.toNatClampNeg)) (s) hV21 (show ((m 94 10).toInt = 1 ∨ (m 94 10).toInt = 2 ∨ (m 94 10).toInt = 3 ∨ (m 94 10).toInt = 6) ∧ (m 94 58).toInt = 0 from by omega) (by omega) (by omega) (by omega) (by omega) r_GG (show qRB (m 99) (m 100) (m 98) (m 101) (m 102) (m 103) (m 107) (m 108) (m 109) (m 111) ((ma_u m 112 r1.toNatClampNeg s) 112) (m 113) (m 114) (m 94 55) (m 94 46) ro 0 0 0 1 (ma_u aa 72 r1.toNatClampNeg (qNo (m 100) s)) from by first | (exact RB_rt r_RB r_US) | (exfalso; omega; done) | (exfalso; contradiction; done)) (show qI (ma_u aa 72 r1.toNatClampNeg (qNo (m 100) s)) from by first | (exact I_u r_QI (Or.inl rfl)) | (exfalso; omega; done) | (exfalso; contradiction; done)) (show (ma_u aa 72 r1.toNatClampNeg (qNo (m 100) s)) 87 8 = (m 94 58) from by first | (exact (xu_o (by decide)).trans r_MK) | (rw [un (by decide)]; exact r_MK; done) | (exfalso; omega; done) | (exfalso; contradiction; done)) (show qU (m 99) (m 112 r1.toNatClampNeg) from by first | (exact (r_RB.2.2.1 r1.toNatClampNeg (by omega)).1) | (exfalso; omega; done) | (exfalso; contradiction; done)) (show qU (m 99) s from by first | (exact r_US) | (exfalso; omega; done) | (exfalso; contradiction; done)) (show qGQ (m 94 58) (m 106) (m 115) (m 94 57) (m 94 56) (m 99) (m 100) (ma_u aa 72 r1.toNatClampNeg (qNo (m 100) s)) from by first | (exact fun z => MQ_u (r_MG z).1 (by decide)) | (exfalso; omega; done) | (exfalso; contradiction; done)) (fun m5 hV_m5 p0_m5 p1_m5 p2_m5 p3_m5 p4_m5 => zmv_n ?_)
      have p0_m5 : zGG (m 94 58) (m5 94 56) (m 94 57) (m5 106) := p0_m5
      have p1_m5 : qRB (m 99) (m 100) (m 98) (m 101) (m 102) (m 103) (m 107) (m 108) (m 109) (m 111) ((ma_u m 112 r1.toNatClampNeg s) 112) (m 113) (m 114) (m 94 55) (m 94 46) ro 0 0 0 1 (aNc (ma_u aa 72 r1.toNatClampNeg (qNo (m 100) s)) (qNo (m 100) (m 112 r1.toNatClampNeg)) (qNo (m 100) s)) := p1_m5
      have p2_m5 : qI (aNc (ma_u aa 72 r1.toNatClampNeg (qNo (m 100) s)) (qNo (m 100) (m 112 r1.toNatClampNeg)) (qNo (m 100) s)) := p2_m5
      have p3_m5 : (aNc (ma_u aa 72 r1.toNatClampNeg (qNo (m 100) s)) (qNo (m 100) (m 112 r1.toNatClampNeg)) (qNo (m 100) s)) 87 8 = (m 94 58) := p3_m5
      have p4_m5 : qGQ (m 94 58) (m5 106) (m5 115) (m 94 57) (m5 94 56) (m 99) (m 100) (aNc (ma_u aa 72 r1.toNatClampNeg (qNo (m 100) s)) (qNo (m 100) (m 112 r1.toNatClampNeg)) (qNo (m 100) s)) := p4_m5
      refine sp_241rm ((m 112 r1.toNatClampNeg)) hV_m5 (show ((m 94 10).toInt = 1 ∨ (m 94 10).toInt = 2 ∨ (m 94 10).toInt = 3 ∨ (m 94 10).toInt = 6) ∧ (m 94 58).toInt = 0 from by omega) (fun m7 hV_m7 p0_m7 => zmv_n ?_)
      have p0_m7 : (m7 99) = (m 99) ∧ (m7 105) = (m 105) ∧ (m7 109) = (m 109) ∧ (m7 111) = (m 111) ∧ (m7 113) = (m 113) ∧ (m7 114) = (m 114) ∧ (m7 94 55) = (m 94 55) ∧ (m7 94 45) = (m 94 45) := p0_m7
      try have rgb := rs_94_64 hV
      try have lel := LE_lo p0_m7
      try have lex3 := LE_ex p0_m7 (lexi (by omega))
      try have lexi := LE_some p0_m7
      exact K _ (zF_zov (zF_zov (zF_u zF_rfl rfl) ws_240_238) ws_241_238) hV_m7 (show zGW T (m7 94 55) (m7 109) from by first | (rw [p0_m7.2.2.1, p0_m7.2.2.2.2.2.2.1]; exact r_GW; done) | (exfalso; omega; done) | (exfalso; contradiction; done)) (show zGU T (m 94 46) (m7 99) from by first | (rw [p0_m7.1]; exact r_GU; done) | (exact GU_0 r_GU) | (exfalso; omega; done) | (exfalso; contradiction; done)) (show zOw (m7 99) (m 103) (m7 111) from by first | (rw [p0_m7.1, p0_m7.2.2.2.1]; exact r_OW; done) | (exact Ow_rm r_OW (by decide) (tn_cast (by omega)).symm) | (exfalso; omega; done) | (exfalso; contradiction; done)) p0_m5 (show qRB (m7 99) (m 100) (m 98) (m 101) (m 102) (m 103) (m 107) (m 108) (m7 109) (m7 111) ((ma_u m 112 r1.toNatClampNeg s) 112) (m7 113) (m7 114) (m7 94 55) (m 94 46) ro 0 0 0 1 (aRt aa r1 (qNo (m 100) s)) from by first | (rw [(show aRt aa r1 (qNo (m 100) s) = aNc (ma_u aa 72 r1.toNatClampNeg (qNo (m 100) s)) (qNo (m 100) (m 112 r1.toNatClampNeg)) (qNo (m 100) s) from by unfold aRt; rw [Nm_no r_RB.1 r_US, (r_RB.2.2.1 r1.toNatClampNeg (by omega)).2]), p0_m7.1, p0_m7.2.2.1, p0_m7.2.2.2.1, p0_m7.2.2.2.2.1, p0_m7.2.2.2.2.2.1, p0_m7.2.2.2.2.2.2.1]; exact p1_m5; done) | (exfalso; omega; done) | (exfalso; contradiction; done)) (show qI (aRt aa r1 (qNo (m 100) s)) from by first | (rw [(show aRt aa r1 (qNo (m 100) s) = aNc (ma_u aa 72 r1.toNatClampNeg (qNo (m 100) s)) (qNo (m 100) (m 112 r1.toNatClampNeg)) (qNo (m 100) s) from by unfold aRt; rw [Nm_no r_RB.1 r_US, (r_RB.2.2.1 r1.toNatClampNeg (by omega)).2])]; exact p2_m5; done) | (exfalso; omega; done) | (exfalso; contradiction; done)) (show qMG (m 94 58) (m5 106) (m5 115) (m 94 57) (m5 94 56) (m7 99) (m 100) (aRt aa r1 (qNo (m 100) s)) from by first | (rw [(show aRt aa r1 (qNo (m 100) s) = aNc (ma_u aa 72 r1.toNatClampNeg (qNo (m 100) s)) (qNo (m 100) (m 112 r1.toNatClampNeg)) (qNo (m 100) s) from by unfold aRt; rw [Nm_no r_RB.1 r_US, (r_RB.2.2.1 r1.toNatClampNeg (by omega)).2]), p0_m7.1]; exact fun z => ⟨p4_m5 z, MI_rt (r_MG z).2 (r_MG z).1.2.2.2.2 (r_MS z)⟩; done) | (exfalso; omega; done) | (exfalso; contradiction; done)) (show (aRt aa r1 (qNo (m 100) s)) 87 8 = (m 94 58) from by first | (rw [(show aRt aa r1 (qNo (m 100) s) = aNc (ma_u aa 72 r1.toNatClampNeg (qNo (m 100) s)) (qNo (m 100) (m 112 r1.toNatClampNeg)) (qNo (m 100) s) from by unfold aRt; rw [Nm_no r_RB.1 r_US, (r_RB.2.2.1 r1.toNatClampNeg (by omega)).2])]; exact p3_m5; done) | (exfalso; omega; done) | (exfalso; contradiction; done)) (show (m7 94 45).toInt = sm (zbU (m7 99)) (m 102) 3100 from by first | (rw [p0_m7.1, p0_m7.2.2.2.2.2.2.2]; exact r_WTS; done) | (exfalso; omega; done) | (exfalso; contradiction; done)) (show (m7 99) = (m 99) from by first | (exact p0_m7.1) | (exfalso; omega; done) | (exfalso; contradiction; done))

/-! from 95.v13 -/
/-! AGES, the reference (written by wip/tools/gen15v.py) -/
theorem sp_250ry {X : Nat × (Nat → Int32)} {P : Option ma_V → (Nat → Nat → Int32) → Prop} {T : Nat} {aa : Nat→Nat→Int32} {ro : Int32} {m : Nat → Nat → Int32} (ix : Int32) (ob : Int32) (hV : zV m) (hpre0 : T ≤ 512) (r_W : zW (m 94 7) (m 98) (m 101) (m 102) (m 108)) (r_GW : zGW T (m 94 55) (m 109)) (r_GU : zGU T (m 94 46) (m 99)) (r_OW : zOw (m 99) (m 103) (m 111)) (r_GG : zGG (m 94 58) (m 94 56) (m 94 57) (m 106)) (hpre6 : (m 94 10).toInt = 3 ∧ (m 94 58).toInt = 0) (hpre7 : (m 94 8).toInt = 1) (r_RB : qRB (m 99) (m 100) (m 98) (m 101) (m 102) (m 103) (m 107) (m 108) (m 109) (m 111) (m 112) (m 113) (m 114) (m 94 55) (m 94 46) ro 0 0 0 1 aa) (r_QI : qI aa) (r_MG : qMG (m 94 58) (m 106) (m 115) (m 94 57) (m 94 56) (m 99) (m 100) aa) (r_MK : aa 87 8 = (m 94 58)) (r_WTS : (m 94 45).toInt = sm (zbU (m 99)) (m 102) 3100) (KZ : ∀ v m₉, zV (zov wr_250 m m₉) → (zW (m 94 7) (m 98) (m 101) (m 102) (m 108)) → (zGW T (m₉ 94 55) (m₉ 109)) → (zGU T (m 94 46) (m₉ 99)) → (zOw (m₉ 99) (m 103) (m₉ 111)) → (zGG (m 94 58) (m₉ 94 56) (m 94 57) (m₉ 106)) → (qRB (m₉ 99) (m 100) (m 98) (m 101) (m 102) (m 103) (m 107) (m 108) (m₉ 109) (m₉ 111) (m₉ 112) (m₉ 113) (m₉ 114) (m₉ 94 55) (m 94 46) ro 0 0 0 1 (xRo aa ix ob)) → (qI (xRo aa ix ob)) → (qMG (m 94 58) (m₉ 106) (m₉ 115) (m 94 57) (m₉ 94 56) (m₉ 99) (m 100) (xRo aa ix ob)) → ((xRo aa ix ob) 87 8 = (m 94 58)) → ((m₉ 94 45).toInt = sm (zbU (m₉ 99)) (m 102) 3100) → ((m₉ 99) = (m 99)) → P (some (.inl v)) (zov wr_250 m m₉)) : zm X 5 111 250 0 [(0, .inr (.inr (some 94))), (1, .inl ix), (2, .inl ob)] m P := by
  have K : ∀ v m₉, zF wr_250 m m₉ → zV m₉ → (zW (m₉ 94 7) (m₉ 98) (m₉ 101) (m₉ 102) (m₉ 108)) → (zGW T (m₉ 94 55) (m₉ 109)) → (zGU T (m₉ 94 46) (m₉ 99)) → (zOw (m₉ 99) (m₉ 103) (m₉ 111)) → (zGG (m₉ 94 58) (m₉ 94 56) (m₉ 94 57) (m₉ 106)) → (qRB (m₉ 99) (m₉ 100) (m₉ 98) (m₉ 101) (m₉ 102) (m₉ 103) (m₉ 107) (m₉ 108) (m₉ 109) (m₉ 111) (m₉ 112) (m₉ 113) (m₉ 114) (m₉ 94 55) (m₉ 94 46) ro 0 0 0 1 (xRo aa ix ob)) → (qI (xRo aa ix ob)) → (qMG (m₉ 94 58) (m₉ 106) (m₉ 115) (m₉ 94 57) (m₉ 94 56) (m₉ 99) (m₉ 100) (xRo aa ix ob)) → ((xRo aa ix ob) 87 8 = (m₉ 94 58)) → ((m₉ 94 45).toInt = sm (zbU (m₉ 99)) (m₉ 102) 3100) → ((m₉ 99) = (m 99)) → P (some (.inl v)) m₉ := by
    intro v m₉ hf z q0 q1 q2 q3 q4 q5 q6 q7 q8 q9 q10
    have e := zov_eq hf
    rw [e] at z ⊢
    try rw [e] at q0
    try rw [e] at q1
    try rw [e] at q2
    try rw [e] at q3
    try rw [e] at q4
    try rw [e] at q5
    try rw [e] at q6
    try rw [e] at q7
    try rw [e] at q8
    try rw [e] at q9
    try rw [e] at q10
    exact KZ v m₉ z q0 q1 q2 q3 q4 q5 q6 q7 q8 q9 q10
  refine g_250_0 ix ob ?_
  have f1 : 0 ≤ (m 94 10).toInt ∧ (m 94 10).toInt ≤ 6 := rs_94_10 (m := m) hV
  have f2 : 0 ≤ (m 94 58).toInt ∧ (m 94 58).toInt ≤ 1 := rs_94_58 (m := m) hV
  have f3 : 0 ≤ (m 94 8).toInt ∧ (m 94 8).toInt ≤ 1 := rs_94_8 (m := m) hV
  have b4 := i_bd ix
  have li5 : (0 : Int32).toInt = 0 := rfl
  refine zd (fun (h6 : ix < (0 : Int32)) => ?_) (fun (h6 : ¬ ix < (0 : Int32)) => ?_)
  · skip
    have g7 := i_lt h6
    have hV8 : zV (ma_u m 94 0 (1 : Int32)) := uf_94_0 hV
    exact K ((0 : Int32)) _ (zF_u zF_rfl rfl) hV8 r_W r_GW r_GU r_OW r_GG (show qRB (m 99) (m 100) (m 98) (m 101) (m 102) (m 103) (m 107) (m 108) (m 109) (m 111) (m 112) (m 113) (m 114) (m 94 55) (m 94 46) ro 0 0 0 1 (xRo aa ix ob) from by first | (unfold xRo; rw [qIf_n (Sl_n (Or.inl (by omega)))]; exact r_RB; done) | (unfold xRo; rw [qIf_n (Sl_n (Or.inr (by omega)))]; exact r_RB; done) | (exfalso; omega; done) | (exfalso; contradiction; done)) (show qI (xRo aa ix ob) from by first | (unfold xRo; rw [qIf_n (Sl_n (Or.inl (by omega)))]; exact r_QI; done) | (unfold xRo; rw [qIf_n (Sl_n (Or.inr (by omega)))]; exact r_QI; done) | (exfalso; omega; done) | (exfalso; contradiction; done)) (show qMG (m 94 58) (m 106) (m 115) (m 94 57) (m 94 56) (m 99) (m 100) (xRo aa ix ob) from by first | (unfold xRo; rw [qIf_n (Sl_n (Or.inl (by omega)))]; exact r_MG; done) | (unfold xRo; rw [qIf_n (Sl_n (Or.inr (by omega)))]; exact r_MG; done) | (exfalso; omega; done) | (exfalso; contradiction; done)) (show (xRo aa ix ob) 87 8 = (m 94 58) from by first | (unfold xRo; rw [qIf_n (Sl_n (Or.inl (by omega)))]; exact r_MK; done) | (unfold xRo; rw [qIf_n (Sl_n (Or.inr (by omega)))]; exact r_MK; done) | (exfalso; omega; done) | (exfalso; contradiction; done)) r_WTS (show (m 99) = (m 99) from by first | (exact rfl) | (exfalso; omega; done) | (exfalso; contradiction; done))
  · skip
    have g9 := i_nlt h6
    have li10 : (16 : Int32).toInt = 16 := rfl
    refine zd (fun (h11 : (16 : Int32) ≤ ix) => ?_) (fun (h11 : ¬ (16 : Int32) ≤ ix) => ?_)
    · skip
      have g12 := i_le h11
      have hV13 : zV (ma_u m 94 0 (1 : Int32)) := uf_94_0 hV
      exact K ((0 : Int32)) _ (zF_u zF_rfl rfl) hV13 r_W r_GW r_GU r_OW r_GG (show qRB (m 99) (m 100) (m 98) (m 101) (m 102) (m 103) (m 107) (m 108) (m 109) (m 111) (m 112) (m 113) (m 114) (m 94 55) (m 94 46) ro 0 0 0 1 (xRo aa ix ob) from by first | (unfold xRo; rw [qIf_n (Sl_n (Or.inl (by omega)))]; exact r_RB; done) | (unfold xRo; rw [qIf_n (Sl_n (Or.inr (by omega)))]; exact r_RB; done) | (exfalso; omega; done) | (exfalso; contradiction; done)) (show qI (xRo aa ix ob) from by first | (unfold xRo; rw [qIf_n (Sl_n (Or.inl (by omega)))]; exact r_QI; done) | (unfold xRo; rw [qIf_n (Sl_n (Or.inr (by omega)))]; exact r_QI; done) | (exfalso; omega; done) | (exfalso; contradiction; done)) (show qMG (m 94 58) (m 106) (m 115) (m 94 57) (m 94 56) (m 99) (m 100) (xRo aa ix ob) from by first | (unfold xRo; rw [qIf_n (Sl_n (Or.inl (by omega)))]; exact r_MG; done) | (unfold xRo; rw [qIf_n (Sl_n (Or.inr (by omega)))]; exact r_MG; done) | (exfalso; omega; done) | (exfalso; contradiction; done)) (show (xRo aa ix ob) 87 8 = (m 94 58) from by first | (unfold xRo; rw [qIf_n (Sl_n (Or.inl (by omega)))]; exact r_MK; done) | (unfold xRo; rw [qIf_n (Sl_n (Or.inr (by omega)))]; exact r_MK; done) | (exfalso; omega; done) | (exfalso; contradiction; done)) r_WTS (show (m 99) = (m 99) from by first | (exact rfl) | (exfalso; omega; done) | (exfalso; contradiction; done))
    · skip
      have g14 := i_nle h11
      refine zd (fun (h15 : (m 94 8) = (0 : Int32)) => ?_) (fun (h15 : ¬ (m 94 8) = (0 : Int32)) => ?_)
      · skip
        have g16 := i_eq h15
        exfalso; omega
      · skip
        have g17 := i_ne h15
        have b18 := i_bd ob
        have li19 : (-1 : Int32).toInt = -1 := rfl
        refine zd (fun (h20 : ob = (-1 : Int32)) => ?_) (fun (h20 : ¬ ob = (-1 : Int32)) => ?_)
        · skip
          have g21 := i_eq h20
          refine zd (fun (h22 : ob = (-1 : Int32)) => ?_) (fun (h22 : ¬ ob = (-1 : Int32)) => ?_)
          · skip
            have g23 := i_eq h22
            have hg24 : (0 ≤ ix ∧ ix.toNatClampNeg < 16) := i_ix (by omega) (by omega)
            refine ⟨hg24, ?_⟩
            first | have f25 : -1 ≤ (m 112 ix.toNatClampNeg).toInt ∧ (m 112 ix.toNatClampNeg).toInt ≤ 3099 := ra_112 (m := m) hV (k := ix.toNatClampNeg) (i_ix (n := 16) (by omega) (by omega)).2 | have b26 := i_bd (m 112 ix.toNatClampNeg)
            refine zd (fun (h27 : (0 : Int32) ≤ (m 112 ix.toNatClampNeg)) => ?_) (fun (h27 : ¬ (0 : Int32) ≤ (m 112 ix.toNatClampNeg)) => ?_)
            · skip
              have g28 := i_le h27
              have hg29 : (0 ≤ (m 112 ix.toNatClampNeg) ∧ (m 112 ix.toNatClampNeg).toNatClampNeg < 3100) := i_ix (by omega) (by omega)
              refine ⟨hg29, ?_⟩
              have hV30 : zV (ma_u m 94 0 (0 : Int32)) := uf_94_0 hV
              have hV31 : zV (ma_u (ma_u m 94 0 (0 : Int32)) 94 0 (0 : Int32)) := uf_94_0 hV30
              refine sp_238ry (aa := aa) (ix) ((-1 : Int32)) hV31 (by omega) (by omega) (by omega) (by omega) (show (m 94 10).toInt = 3 ∧ (m 94 58).toInt = 0 from by omega) r_W r_GW r_GU r_OW r_GG r_RB r_QI r_MG r_MK r_WTS (show qU (m 99) (-1 : Int32) from by first | (exact As_u (As_n (us := (m 99)) (nr := (m 100)) (a := aa) (o := ob) (by assumption))) | (assumption; done) | (exact ow5.1) | (exact ow3.1) | (exfalso; omega; done) | (exfalso; contradiction; done)) (show qMS (m 94 58) aa (qNo (m 100) (-1 : Int32)) from by first | (exact As_s (As_n (us := (m 99)) (nr := (m 100)) (a := aa) (o := ob) (by assumption)) r_MG r_QI) | (exfalso; omega; done) | (exfalso; contradiction; done)) (fun m11 hV_m11 p0_m11 p1_m11 p2_m11 p3_m11 p4_m11 p5_m11 p6_m11 p7_m11 p8_m11 p9_m11 => zmv_n ?_)
              have p0_m11 : zGW T (m11 94 55) (m11 109) := p0_m11
              have p1_m11 : zGU T (m 94 46) (m11 99) := p1_m11
              have p2_m11 : zOw (m11 99) (m 103) (m11 111) := p2_m11
              have p3_m11 : zGG (m 94 58) (m11 94 56) (m 94 57) (m11 106) := p3_m11
              have p4_m11 : qRB (m11 99) (m 100) (m 98) (m 101) (m 102) (m 103) (m 107) (m 108) (m11 109) (m11 111) (m11 112) (m11 113) (m11 114) (m11 94 55) (m 94 46) ro 0 0 0 1 (aRt aa ix (qNo (m 100) (-1 : Int32))) := p4_m11
              have p5_m11 : qI (aRt aa ix (qNo (m 100) (-1 : Int32))) := p5_m11
              have p6_m11 : qMG (m 94 58) (m11 106) (m11 115) (m 94 57) (m11 94 56) (m11 99) (m 100) (aRt aa ix (qNo (m 100) (-1 : Int32))) := p6_m11
              have p7_m11 : (aRt aa ix (qNo (m 100) (-1 : Int32))) 87 8 = (m 94 58) := p7_m11
              have p8_m11 : (m11 94 45).toInt = sm (zbU (m11 99)) (m 102) 3100 := p8_m11
              have p9_m11 : (m11 99) = (m 99) := p9_m11
              first | have f32 : 0 ≤ (m 100 (m 112 ix.toNatClampNeg).toNatClampNeg).toInt ∧ (m 100 (m 112 ix.toNatClampNeg).toNatClampNeg).toInt ≤ 100000 := ra_100 (m := m) hV (k := (m 112 ix.toNatClampNeg).toNatClampNeg) (i_ix (n := 3100) (by omega) (by omega)).2 | have b33 := i_bd (m 100 (m 112 ix.toNatClampNeg).toNatClampNeg)
              exact K ((m 100 (m 112 ix.toNatClampNeg).toNatClampNeg)) _ (zF_zov (zF_u (zF_u zF_rfl rfl) rfl) ws_238_250) hV_m11 r_W p0_m11 p1_m11 p2_m11 p3_m11 (show qRB (m11 99) (m 100) (m 98) (m 101) (m 102) (m 103) (m 107) (m 108) (m11 109) (m11 111) (m11 112) (m11 113) (m11 114) (m11 94 55) (m 94 46) ro 0 0 0 1 (xRo aa ix ob) from by first | (rw [Ro_y (by omega) (by omega) (As_n (us := (m 99)) (nr := (m 100)) (a := aa) (o := ob) (by assumption))]; exact p4_m11; done) | (exfalso; omega; done) | (exfalso; contradiction; done)) (show qI (xRo aa ix ob) from by first | (rw [Ro_y (by omega) (by omega) (As_n (us := (m 99)) (nr := (m 100)) (a := aa) (o := ob) (by assumption))]; exact p5_m11; done) | (exfalso; omega; done) | (exfalso; contradiction; done)) (show qMG (m 94 58) (m11 106) (m11 115) (m 94 57) (m11 94 56) (m11 99) (m 100) (xRo aa ix ob) from by first | (rw [Ro_y (by omega) (by omega) (As_n (us := (m 99)) (nr := (m 100)) (a := aa) (o := ob) (by assumption))]; exact p6_m11; done) | (exfalso; omega; done) | (exfalso; contradiction; done)) (show (xRo aa ix ob) 87 8 = (m 94 58) from by first | (rw [Ro_y (by omega) (by omega) (As_n (us := (m 99)) (nr := (m 100)) (a := aa) (o := ob) (by assumption))]; exact p7_m11; done) | (exfalso; omega; done) | (exfalso; contradiction; done)) p8_m11 p9_m11
            · skip
              have g34 := i_nle h27
              have hV35 : zV (ma_u m 94 0 (0 : Int32)) := uf_94_0 hV
              have hV36 : zV (ma_u (ma_u m 94 0 (0 : Int32)) 94 0 (0 : Int32)) := uf_94_0 hV35
              refine sp_238ry (aa := aa) (ix) ((-1 : Int32)) hV36 (by omega) (by omega) (by omega) (by omega) (show (m 94 10).toInt = 3 ∧ (m 94 58).toInt = 0 from by omega) r_W r_GW r_GU r_OW r_GG r_RB r_QI r_MG r_MK r_WTS (show qU (m 99) (-1 : Int32) from by first | (exact As_u (As_n (us := (m 99)) (nr := (m 100)) (a := aa) (o := ob) (by assumption))) | (assumption; done) | (exact ow5.1) | (exact ow3.1) | (exfalso; omega; done) | (exfalso; contradiction; done)) (show qMS (m 94 58) aa (qNo (m 100) (-1 : Int32)) from by first | (exact As_s (As_n (us := (m 99)) (nr := (m 100)) (a := aa) (o := ob) (by assumption)) r_MG r_QI) | (exfalso; omega; done) | (exfalso; contradiction; done)) (fun m13 hV_m13 p0_m13 p1_m13 p2_m13 p3_m13 p4_m13 p5_m13 p6_m13 p7_m13 p8_m13 p9_m13 => zmv_n ?_)
              have p0_m13 : zGW T (m13 94 55) (m13 109) := p0_m13
              have p1_m13 : zGU T (m 94 46) (m13 99) := p1_m13
              have p2_m13 : zOw (m13 99) (m 103) (m13 111) := p2_m13
              have p3_m13 : zGG (m 94 58) (m13 94 56) (m 94 57) (m13 106) := p3_m13
              have p4_m13 : qRB (m13 99) (m 100) (m 98) (m 101) (m 102) (m 103) (m 107) (m 108) (m13 109) (m13 111) (m13 112) (m13 113) (m13 114) (m13 94 55) (m 94 46) ro 0 0 0 1 (aRt aa ix (qNo (m 100) (-1 : Int32))) := p4_m13
              have p5_m13 : qI (aRt aa ix (qNo (m 100) (-1 : Int32))) := p5_m13
              have p6_m13 : qMG (m 94 58) (m13 106) (m13 115) (m 94 57) (m13 94 56) (m13 99) (m 100) (aRt aa ix (qNo (m 100) (-1 : Int32))) := p6_m13
              have p7_m13 : (aRt aa ix (qNo (m 100) (-1 : Int32))) 87 8 = (m 94 58) := p7_m13
              have p8_m13 : (m13 94 45).toInt = sm (zbU (m13 99)) (m 102) 3100 := p8_m13
              have p9_m13 : (m13 99) = (m 99) := p9_m13
              exact K ((-1 : Int32)) _ (zF_zov (zF_u (zF_u zF_rfl rfl) rfl) ws_238_250) hV_m13 r_W p0_m13 p1_m13 p2_m13 p3_m13 (show qRB (m13 99) (m 100) (m 98) (m 101) (m 102) (m 103) (m 107) (m 108) (m13 109) (m13 111) (m13 112) (m13 113) (m13 114) (m13 94 55) (m 94 46) ro 0 0 0 1 (xRo aa ix ob) from by first | (rw [Ro_y (by omega) (by omega) (As_n (us := (m 99)) (nr := (m 100)) (a := aa) (o := ob) (by assumption))]; exact p4_m13; done) | (exfalso; omega; done) | (exfalso; contradiction; done)) (show qI (xRo aa ix ob) from by first | (rw [Ro_y (by omega) (by omega) (As_n (us := (m 99)) (nr := (m 100)) (a := aa) (o := ob) (by assumption))]; exact p5_m13; done) | (exfalso; omega; done) | (exfalso; contradiction; done)) (show qMG (m 94 58) (m13 106) (m13 115) (m 94 57) (m13 94 56) (m13 99) (m 100) (xRo aa ix ob) from by first | (rw [Ro_y (by omega) (by omega) (As_n (us := (m 99)) (nr := (m 100)) (a := aa) (o := ob) (by assumption))]; exact p6_m13; done) | (exfalso; omega; done) | (exfalso; contradiction; done)) (show (xRo aa ix ob) 87 8 = (m 94 58) from by first | (rw [Ro_y (by omega) (by omega) (As_n (us := (m 99)) (nr := (m 100)) (a := aa) (o := ob) (by assumption))]; exact p7_m13; done) | (exfalso; omega; done) | (exfalso; contradiction; done)) p8_m13 p9_m13
          · skip
            have g37 := i_ne h22
            have hV38 : zV (ma_u m 94 0 (0 : Int32)) := uf_94_0 hV
            have hV39 : zV (ma_u (ma_u m 94 0 (0 : Int32)) 94 0 (3 : Int32)) := uf_94_0 hV38
            exact K ((0 : Int32)) _ (zF_u (zF_u zF_rfl rfl) rfl) hV39 r_W r_GW r_GU r_OW r_GG (show qRB (m 99) (m 100) (m 98) (m 101) (m 102) (m 103) (m 107) (m 108) (m 109) (m 111) (m 112) (m 113) (m 114) (m 94 55) (m 94 46) ro 0 0 0 1 (xRo aa ix ob) from by first | (unfold xRo; rw [qIf_n (Sl_n (Or.inl (by omega)))]; exact r_RB; done) | (unfold xRo; rw [qIf_n (Sl_n (Or.inr (by omega)))]; exact r_RB; done) | (exfalso; omega; done) | (exfalso; contradiction; done)) (show qI (xRo aa ix ob) from by first | (unfold xRo; rw [qIf_n (Sl_n (Or.inl (by omega)))]; exact r_QI; done) | (unfold xRo; rw [qIf_n (Sl_n (Or.inr (by omega)))]; exact r_QI; done) | (exfalso; omega; done) | (exfalso; contradiction; done)) (show qMG (m 94 58) (m 106) (m 115) (m 94 57) (m 94 56) (m 99) (m 100) (xRo aa ix ob) from by first | (unfold xRo; rw [qIf_n (Sl_n (Or.inl (by omega)))]; exact r_MG; done) | (unfold xRo; rw [qIf_n (Sl_n (Or.inr (by omega)))]; exact r_MG; done) | (exfalso; omega; done) | (exfalso; contradiction; done)) (show (xRo aa ix ob) 87 8 = (m 94 58) from by first | (unfold xRo; rw [qIf_n (Sl_n (Or.inl (by omega)))]; exact r_MK; done) | (unfold xRo; rw [qIf_n (Sl_n (Or.inr (by omega)))]; exact r_MK; done) | (exfalso; omega; done) | (exfalso; contradiction; done)) r_WTS (show (m 99) = (m 99) from by first | (exact rfl) | (exfalso; omega; done) | (exfalso; contradiction; done))
        · skip
          have g40 := i_ne h20
          have hV41 : zV (ma_u m 94 0 (0 : Int32)) := uf_94_0 hV
          refine sp_245rm (aa := aa) (ob) hV41 r_W r_RB r_QI (fun v2 m1 hV_m1 p0_m1 p1_m1 p2_m1 => zmi_n ?_)
          have p0_m1 : -1 ≤ v2.toInt ∧ v2.toInt ≤ 3099 := p0_m1
          have p1_m1 : v2.toInt < 0 ∨ (m 99) v2.toNatClampNeg ≠ 0 := p1_m1
          have p2_m1 : qRe (m 99) (m 100) aa ob v2 := p2_m1
          refine zd (fun (h42 : ob = (-1 : Int32)) => ?_) (fun (h42 : ¬ ob = (-1 : Int32)) => ?_)
          · skip
            have g43 := i_eq h42
            have hg44 : (0 ≤ ix ∧ ix.toNatClampNeg < 16) := i_ix (by omega) (by omega)
            refine ⟨hg44, ?_⟩
            first | have f45 : -1 ≤ (m 112 ix.toNatClampNeg).toInt ∧ (m 112 ix.toNatClampNeg).toInt ≤ 3099 := ra_112 (m := m) hV (k := ix.toNatClampNeg) (i_ix (n := 16) (by omega) (by omega)).2 | have b46 := i_bd (m 112 ix.toNatClampNeg)
            refine zd (fun (h47 : (0 : Int32) ≤ (m 112 ix.toNatClampNeg)) => ?_) (fun (h47 : ¬ (0 : Int32) ≤ (m 112 ix.toNatClampNeg)) => ?_)
            · skip
              have g48 := i_le h47
              have hg49 : (0 ≤ (m 112 ix.toNatClampNeg) ∧ (m 112 ix.toNatClampNeg).toNatClampNeg < 3100) := i_ix (by omega) (by omega)
              refine ⟨hg49, ?_⟩
              have b50 := i_bd v2
              have hV51 : zV (ma_u (zov wr_245 (ma_u m 94 0 (0 : Int32)) m1) 94 0 (0 : Int32)) := uf_94_0 hV_m1
              refine sp_238ry (aa := aa) (ix) (v2) hV51 (by omega) (by omega) (by omega) (by omega) (show (m 94 10).toInt = 3 ∧ (m 94 58).toInt = 0 from by omega) r_W r_GW r_GU r_OW r_GG r_RB r_QI r_MG r_MK r_WTS (show qU (m 99) v2 from by first | (exact As_u (As_y p2_m1 (by omega))) | (assumption; done) | (exact ow5.1) | (exact ow3.1) | (exfalso; omega; done) | (exfalso; contradiction; done)) (show qMS (m 94 58) aa (qNo (m 100) v2) from by first | (exact As_s (As_y p2_m1 (by omega)) r_MG r_QI) | (exfalso; omega; done) | (exfalso; contradiction; done)) (fun m3 hV_m3 p0_m3 p1_m3 p2_m3 p3_m3 p4_m3 p5_m3 p6_m3 p7_m3 p8_m3 p9_m3 => zmv_n ?_)
              have p0_m3 : zGW T (m3 94 55) (m3 109) := p0_m3
              have p1_m3 : zGU T (m 94 46) (m3 99) := p1_m3
              have p2_m3 : zOw (m3 99) (m 103) (m3 111) := p2_m3
              have p3_m3 : zGG (m 94 58) (m3 94 56) (m 94 57) (m3 106) := p3_m3
              have p4_m3 : qRB (m3 99) (m 100) (m 98) (m 101) (m 102) (m 103) (m 107) (m 108) (m3 109) (m3 111) (m3 112) (m3 113) (m3 114) (m3 94 55) (m 94 46) ro 0 0 0 1 (aRt aa ix (qNo (m 100) v2)) := p4_m3
              have p5_m3 : qI (aRt aa ix (qNo (m 100) v2)) := p5_m3
              have p6_m3 : qMG (m 94 58) (m3 106) (m3 115) (m 94 57) (m3 94 56) (m3 99) (m 100) (aRt aa ix (qNo (m 100) v2)) := p6_m3
              have p7_m3 : (aRt aa ix (qNo (m 100) v2)) 87 8 = (m 94 58) := p7_m3
              have p8_m3 : (m3 94 45).toInt = sm (zbU (m3 99)) (m 102) 3100 := p8_m3
              have p9_m3 : (m3 99) = (m 99) := p9_m3
              first | have f52 : 0 ≤ (m 100 (m 112 ix.toNatClampNeg).toNatClampNeg).toInt ∧ (m 100 (m 112 ix.toNatClampNeg).toNatClampNeg).toInt ≤ 100000 := ra_100 (m := m) hV (k := (m 112 ix.toNatClampNeg).toNatClampNeg) (i_ix (n := 3100) (by omega) (by omega)).2 | have b53 := i_bd (m 100 (m 112 ix.toNatClampNeg).toNatClampNeg)
              exact K ((m 100 (m 112 ix.toNatClampNeg).toNatClampNeg)) _ (zF_zov (zF_u (zF_zov (zF_u zF_rfl rfl) ws_245_250) rfl) ws_238_250) hV_m3 r_W p0_m3 p1_m3 p2_m3 p3_m3 (show qRB (m3 99) (m 100) (m 98) (m 101) (m 102) (m 103) (m 107) (m 108) (m3 109) (m3 111) (m3 112) (m3 113) (m3 114) (m3 94 55) (m 94 46) ro 0 0 0 1 (xRo aa ix ob) from by first | (rw [Ro_y (by omega) (by omega) (As_y p2_m1 (by omega))]; exact p4_m3; done) | (exfalso; omega; done) | (exfalso; contradiction; done)) (show qI (xRo aa ix ob) from by first | (rw [Ro_y (by omega) (by omega) (As_y p2_m1 (by omega))]; exact p5_m3; done) | (exfalso; omega; done) | (exfalso; contradiction; done)) (show qMG (m 94 58) (m3 106) (m3 115) (m 94 57) (m3 94 56) (m3 99) (m 100) (xRo aa ix ob) from by first | (rw [Ro_y (by omega) (by omega) (As_y p2_m1 (by omega))]; exact p6_m3; done) | (exfalso; omega; done) | (exfalso; contradiction; done)) (show (xRo aa ix ob) 87 8 = (m 94 58) from by first | (rw [Ro_y (by omega) (by omega) (As_y p2_m1 (by omega))]; exact p7_m3; done) | (exfalso; omega; done) | (exfalso; contradiction; done)) p8_m3 p9_m3
            · skip
              have g54 := i_nle h47
              have b55 := i_bd v2
              have hV56 : zV (ma_u (zov wr_245 (ma_u m 94 0 (0 : Int32)) m1) 94 0 (0 : Int32)) := uf_94_0 hV_m1
              refine sp_238ry (aa := aa) (ix) (v2) hV56 (by omega) (by omega) (by omega) (by omega) (show (m 94 10).toInt = 3 ∧ (m 94 58).toInt = 0 from by omega) r_W r_GW r_GU r_OW r_GG r_RB r_QI r_MG r_MK r_WTS (show qU (m 99) v2 from by first | (exact As_u (As_y p2_m1 (by omega))) | (assumption; done) | (exact ow5.1) | (exact ow3.1) | (exfalso; omega; done) | (exfalso; contradiction; done)) (show qMS (m 94 58) aa (qNo (m 100) v2) from by first | (exact As_s (As_y p2_m1 (by omega)) r_MG r_QI) | (exfalso; omega; done) | (exfalso; contradiction; done)) (fun m5 hV_m5 p0_m5 p1_m5 p2_m5 p3_m5 p4_m5 p5_m5 p6_m5 p7_m5 p8_m5 p9_m5 => zmv_n ?_)
              have p0_m5 : zGW T (m5 94 55) (m5 109) := p0_m5
              have p1_m5 : zGU T (m 94 46) (m5 99) := p1_m5
              have p2_m5 : zOw (m5 99) (m 103) (m5 111) := p2_m5
              have p3_m5 : zGG (m 94 58) (m5 94 56) (m 94 57) (m5 106) := p3_m5
              have p4_m5 : qRB (m5 99) (m 100) (m 98) (m 101) (m 102) (m 103) (m 107) (m 108) (m5 109) (m5 111) (m5 112) (m5 113) (m5 114) (m5 94 55) (m 94 46) ro 0 0 0 1 (aRt aa ix (qNo (m 100) v2)) := p4_m5
              have p5_m5 : qI (aRt aa ix (qNo (m 100) v2)) := p5_m5
              have p6_m5 : qMG (m 94 58) (m5 106) (m5 115) (m 94 57) (m5 94 56) (m5 99) (m 100) (aRt aa ix (qNo (m 100) v2)) := p6_m5
              have p7_m5 : (aRt aa ix (qNo (m 100) v2)) 87 8 = (m 94 58) := p7_m5
              have p8_m5 : (m5 94 45).toInt = sm (zbU (m5 99)) (m 102) 3100 := p8_m5
              have p9_m5 : (m5 99) = (m 99) := p9_m5
              exact K ((-1 : Int32)) _ (zF_zov (zF_u (zF_zov (zF_u zF_rfl rfl) ws_245_250) rfl) ws_238_250) hV_m5 r_W p0_m5 p1_m5 p2_m5 p3_m5 (show qRB (m5 99) (m 100) (m 98) (m 101) (m 102) (m 103) (m 107) (m 108) (m5 109) (m5 111) (m5 112) (m5 113) (m5 114) (m5 94 55) (m 94 46) ro 0 0 0 1 (xRo aa ix ob) from by first | (rw [Ro_y (by omega) (by omega) (As_y p2_m1 (by omega))]; exact p4_m5; done) | (exfalso; omega; done) | (exfalso; contradiction; done)) (show qI (xRo aa ix ob) from by first | (rw [Ro_y (by omega) (by omega) (As_y p2_m1 (by omega))]; exact p5_m5; done) | (exfalso; omega; done) | (exfalso; contradiction; done)) (show qMG (m 94 58) (m5 106) (m5 115) (m 94 57) (m5 94 56) (m5 99) (m 100) (xRo aa ix ob) from by first | (rw [Ro_y (by omega) (by omega) (As_y p2_m1 (by omega))]; exact p6_m5; done) | (exfalso; omega; done) | (exfalso; contradiction; done)) (show (xRo aa ix ob) 87 8 = (m 94 58) from by first | (rw [Ro_y (by omega) (by omega) (As_y p2_m1 (by omega))]; exact p7_m5; done) | (exfalso; omega; done) | (exfalso; contradiction; done)) p8_m5 p9_m5
          · skip
            have g57 := i_ne h42
            have b58 := i_bd v2
            refine zd (fun (h59 : (0 : Int32) ≤ v2) => ?_) (fun (h59 : ¬ (0 : Int32) ≤ v2) => ?_)
            · skip
              have g60 := i_le h59
              have hg61 : (0 ≤ ix ∧ ix.toNatClampNeg < 16) := i_ix (by omega) (by omega)
              refine ⟨hg61, ?_⟩
              first | have f62 : -1 ≤ (m 112 ix.toNatClampNeg).toInt ∧ (m 112 ix.toNatClampNeg).toInt ≤ 3099 := ra_112 (m := m) hV (k := ix.toNatClampNeg) (i_ix (n := 16) (by omega) (by omega)).2 | have b63 := i_bd (m 112 ix.toNatClampNeg)
              refine zd (fun (h64 : (0 : Int32) ≤ (m 112 ix.toNatClampNeg)) => ?_) (fun (h64 : ¬ (0 : Int32) ≤ (m 112 ix.toNatClampNeg)) => ?_)
              · skip
                have g65 := i_le h64
                have hg66 : (0 ≤ (m 112 ix.toNatClampNeg) ∧ (m 112 ix.toNatClampNeg).toNatClampNeg < 3100) := i_ix (by omega) (by omega)
                refine ⟨hg66, ?_⟩
                have hV67 : zV (ma_u (zov wr_245 (ma_u m 94 0 (0 : Int32)) m1) 94 0 (0 : Int32)) := uf_94_0 hV_m1
                refine sp_238ry (aa := aa) (ix) (v2) hV67 (by omega) (by omega) (by omega) (by omega) (show (m 94 10).toInt = 3 ∧ (m 94 58).toInt = 0 from by omega) r_W r_GW r_GU r_OW r_GG r_RB r_QI r_MG r_MK r_WTS (show qU (m 99) v2 from by first | (exact As_u (As_y p2_m1 (by omega))) | (assumption; done) | (exact ow5.1) | (exact ow3.1) | (exfalso; omega; done) | (exfalso; contradiction; done)) (show qMS (m 94 58) aa (qNo (m 100) v2) from by first | (exact As_s (As_y p2_m1 (by omega)) r_MG r_QI) | (exfalso; omega; done) | (exfalso; contradiction; done)) (fun m7 hV_m7 p0_m7 p1_m7 p2_m7 p3_m7 p4_m7 p5_m7 p6_m7 p7_m7 p8_m7 p9_m7 => zmv_n ?_)
                have p0_m7 : zGW T (m7 94 55) (m7 109) := p0_m7
                have p1_m7 : zGU T (m 94 46) (m7 99) := p1_m7
                have p2_m7 : zOw (m7 99) (m 103) (m7 111) := p2_m7
                have p3_m7 : zGG (m 94 58) (m7 94 56) (m 94 57) (m7 106) := p3_m7
                have p4_m7 : qRB (m7 99) (m 100) (m 98) (m 101) (m 102) (m 103) (m 107) (m 108) (m7 109) (m7 111) (m7 112) (m7 113) (m7 114) (m7 94 55) (m 94 46) ro 0 0 0 1 (aRt aa ix (qNo (m 100) v2)) := p4_m7
                have p5_m7 : qI (aRt aa ix (qNo (m 100) v2)) := p5_m7
                have p6_m7 : qMG (m 94 58) (m7 106) (m7 115) (m 94 57) (m7 94 56) (m7 99) (m 100) (aRt aa ix (qNo (m 100) v2)) := p6_m7
                have p7_m7 : (aRt aa ix (qNo (m 100) v2)) 87 8 = (m 94 58) := p7_m7
                have p8_m7 : (m7 94 45).toInt = sm (zbU (m7 99)) (m 102) 3100 := p8_m7
                have p9_m7 : (m7 99) = (m 99) := p9_m7
                first | have f68 : 0 ≤ (m 100 (m 112 ix.toNatClampNeg).toNatClampNeg).toInt ∧ (m 100 (m 112 ix.toNatClampNeg).toNatClampNeg).toInt ≤ 100000 := ra_100 (m := m) hV (k := (m 112 ix.toNatClampNeg).toNatClampNeg) (i_ix (n := 3100) (by omega) (by omega)).2 | have b69 := i_bd (m 100 (m 112 ix.toNatClampNeg).toNatClampNeg)
                exact K ((m 100 (m 112 ix.toNatClampNeg).toNatClampNeg)) _ (zF_zov (zF_u (zF_zov (zF_u zF_rfl rfl) ws_245_250) rfl) ws_238_250) hV_m7 r_W p0_m7 p1_m7 p2_m7 p3_m7 (show qRB (m7 99) (m 100) (m 98) (m 101) (m 102) (m 103) (m 107) (m 108) (m7 109) (m7 111) (m7 112) (m7 113) (m7 114) (m7 94 55) (m 94 46) ro 0 0 0 1 (xRo aa ix ob) from by first | (rw [Ro_y (by omega) (by omega) (As_y p2_m1 (by omega))]; exact p4_m7; done) | (exfalso; omega; done) | (exfalso; contradiction; done)) (show qI (xRo aa ix ob) from by first | (rw [Ro_y (by omega) (by omega) (As_y p2_m1 (by omega))]; exact p5_m7; done) | (exfalso; omega; done) | (exfalso; contradiction; done)) (show qMG (m 94 58) (m7 106) (m7 115) (m 94 57) (m7 94 56) (m7 99) (m 100) (xRo aa ix ob) from by first | (rw [Ro_y (by omega) (by omega) (As_y p2_m1 (by omega))]; exact p6_m7; done) | (exfalso; omega; done) | (exfalso; contradiction; done)) (show (xRo aa ix ob) 87 8 = (m 94 58) from by first | (rw [Ro_y (by omega) (by omega) (As_y p2_m1 (by omega))]; exact p7_m7; done) | (exfalso; omega; done) | (exfalso; contradiction; done)) p8_m7 p9_m7
              · skip
                have g70 := i_nle h64
                have hV71 : zV (ma_u (zov wr_245 (ma_u m 94 0 (0 : Int32)) m1) 94 0 (0 : Int32)) := uf_94_0 hV_m1
                refine sp_238ry (aa := aa) (ix) (v2) hV71 (by omega) (by omega) (by omega) (by omega) (show (m 94 10).toInt = 3 ∧ (m 94 58).toInt = 0 from by omega) r_W r_GW r_GU r_OW r_GG r_RB r_QI r_MG r_MK r_WTS (show qU (m 99) v2 from by first | (exact As_u (As_y p2_m1 (by omega))) | (assumption; done) | (exact ow5.1) | (exact ow3.1) | (exfalso; omega; done) | (exfalso; contradiction; done)) (show qMS (m 94 58) aa (qNo (m 100) v2) from by first | (exact As_s (As_y p2_m1 (by omega)) r_MG r_QI) | (exfalso; omega; done) | (exfalso; contradiction; done)) (fun m9 hV_m9 p0_m9 p1_m9 p2_m9 p3_m9 p4_m9 p5_m9 p6_m9 p7_m9 p8_m9 p9_m9 => zmv_n ?_)
                have p0_m9 : zGW T (m9 94 55) (m9 109) := p0_m9
                have p1_m9 : zGU T (m 94 46) (m9 99) := p1_m9
                have p2_m9 : zOw (m9 99) (m 103) (m9 111) := p2_m9
                have p3_m9 : zGG (m 94 58) (m9 94 56) (m 94 57) (m9 106) := p3_m9
                have p4_m9 : qRB (m9 99) (m 100) (m 98) (m 101) (m 102) (m 103) (m 107) (m 108) (m9 109) (m9 111) (m9 112) (m9 113) (m9 114) (m9 94 55) (m 94 46) ro 0 0 0 1 (aRt aa ix (qNo (m 100) v2)) := p4_m9
                have p5_m9 : qI (aRt aa ix (qNo (m 100) v2)) := p5_m9
                have p6_m9 : qMG (m 94 58) (m9 106) (m9 115) (m 94 57) (m9 94 56) (m9 99) (m 100) (aRt aa ix (qNo (m 100) v2)) := p6_m9
                have p7_m9 : (aRt aa ix (qNo (m 100) v2)) 87 8 = (m 94 58) := p7_m9
                have p8_m9 : (m9 94 45).toInt = sm (zbU (m9 99)) (m 102) 3100 := p8_m9
                have p9_m9 : (m9 99) = (m 99) := p9_m9
                exact K ((-1 : Int32)) _ (zF_zov (zF_u (zF_zov (zF_u zF_rfl rfl) ws_245_250) rfl) ws_238_250) hV_m9 r_W p0_m9 p1_m9 p2_m9 p3_m9 (show qRB (m9 99) (m 100) (m 98) (m 101) (m 102) (m 103) (m 107) (m 108) (m9 109) (m9 111) (m9 112) (m9 113) (m9 114) (m9 94 55) (m 94 46) ro 0 0 0 1 (xRo aa ix ob) from by first | (rw [Ro_y (by omega) (by omega) (As_y p2_m1 (by omega))]; exact p4_m9; done) | (exfalso; omega; done) | (exfalso; contradiction; done)) (show qI (xRo aa ix ob) from by first | (rw [Ro_y (by omega) (by omega) (As_y p2_m1 (by omega))]; exact p5_m9; done) | (exfalso; omega; done) | (exfalso; contradiction; done)) (show qMG (m 94 58) (m9 106) (m9 115) (m 94 57) (m9 94 56) (m9 99) (m 100) (xRo aa ix ob) from by first | (rw [Ro_y (by omega) (by omega) (As_y p2_m1 (by omega))]; exact p6_m9; done) | (exfalso; omega; done) | (exfalso; contradiction; done)) (show (xRo aa ix ob) 87 8 = (m 94 58) from by first | (rw [Ro_y (by omega) (by omega) (As_y p2_m1 (by omega))]; exact p7_m9; done) | (exfalso; omega; done) | (exfalso; contradiction; done)) p8_m9 p9_m9
            · skip
              have g72 := i_nle h59
              have hV73 : zV (ma_u (zov wr_245 (ma_u m 94 0 (0 : Int32)) m1) 94 0 (3 : Int32)) := uf_94_0 hV_m1
              exact K ((0 : Int32)) _ (zF_u (zF_zov (zF_u zF_rfl rfl) ws_245_250) rfl) hV73 r_W r_GW r_GU r_OW r_GG (show qRB (m 99) (m 100) (m 98) (m 101) (m 102) (m 103) (m 107) (m 108) (m 109) (m 111) (m 112) (m 113) (m 114) (m 94 55) (m 94 46) ro 0 0 0 1 (xRo aa ix ob) from by first | (unfold xRo; rw [qIf_n (Sl_n (Or.inl (by omega)))]; exact r_RB; done) | (unfold xRo; rw [qIf_n (Sl_n (Or.inr (by omega)))]; exact r_RB; done) | (unfold xRo; rw [qIf_n (Sl_r (by assumption) (Re_n p2_m1 (by omega)))]; exact r_RB; done) | (exfalso; omega; done) | (exfalso; contradiction; done)) (show qI (xRo aa ix ob) from by first | (unfold xRo; rw [qIf_n (Sl_n (Or.inl (by omega)))]; exact r_QI; done) | (unfold xRo; rw [qIf_n (Sl_n (Or.inr (by omega)))]; exact r_QI; done) | (unfold xRo; rw [qIf_n (Sl_r (by assumption) (Re_n p2_m1 (by omega)))]; exact r_QI; done) | (exfalso; omega; done) | (exfalso; contradiction; done)) (show qMG (m 94 58) (m 106) (m 115) (m 94 57) (m 94 56) (m 99) (m 100) (xRo aa ix ob) from by first | (unfold xRo; rw [qIf_n (Sl_n (Or.inl (by omega)))]; exact r_MG; done) | (unfold xRo; rw [qIf_n (Sl_n (Or.inr (by omega)))]; exact r_MG; done) | (unfold xRo; rw [qIf_n (Sl_r (by assumption) (Re_n p2_m1 (by omega)))]; exact r_MG; done) | (exfalso; omega; done) | (exfalso; contradiction; done)) (show (xRo aa ix ob) 87 8 = (m 94 58) from by first | (unfold xRo; rw [qIf_n (Sl_n (Or.inl (by omega)))]; exact r_MK; done) | (unfold xRo; rw [qIf_n (Sl_n (Or.inr (by omega)))]; exact r_MK; done) | (unfold xRo; rw [qIf_n (Sl_r (by assumption) (Re_n p2_m1 (by omega)))]; exact r_MK; done) | (exfalso; omega; done) | (exfalso; contradiction; done)) r_WTS (show (m 99) = (m 99) from by first | (exact rfl) | (exfalso; omega; done) | (exfalso; contradiction; done))

/-! from 95.v14 -/
/-! AGES, the reference (written by wip/tools/gen15v.py) -/
theorem sp_252ry {X : Nat × (Nat → Int32)} {P : Option ma_V → (Nat → Nat → Int32) → Prop} {T : Nat} {aa : Nat→Nat→Int32} {ro : Int32} {m : Nat → Nat → Int32} (ix : Int32) (r1 : Int32) (hV : zV m) (hpre0 : T ≤ 512) (r_W : zW (m 94 7) (m 98) (m 101) (m 102) (m 108)) (r_GW : zGW T (m 94 55) (m 109)) (r_GU : zGU T (m 94 46) (m 99)) (r_OW : zOw (m 99) (m 103) (m 111)) (r_GG : zGG (m 94 58) (m 94 56) (m 94 57) (m 106)) (hpre6 : (m 94 10).toInt = 3 ∧ (m 94 58).toInt = 0) (hpre7 : (m 94 8).toInt = 1) (r_RB : qRB (m 99) (m 100) (m 98) (m 101) (m 102) (m 103) (m 107) (m 108) (m 109) (m 111) (m 112) (m 113) (m 114) (m 94 55) (m 94 46) ro 0 0 0 1 aa) (r_QI : qI aa) (r_MG : qMG (m 94 58) (m 106) (m 115) (m 94 57) (m 94 56) (m 99) (m 100) aa) (r_MK : aa 87 8 = (m 94 58)) (r_WTS : (m 94 45).toInt = sm (zbU (m 99)) (m 102) 3100) (KZ : ∀ v m₉, zV (zov wr_252 m m₉) → (zW (m 94 7) (m 98) (m 101) (m 102) (m 108)) → (zGW T (m₉ 94 55) (m₉ 109)) → (zGU T (m 94 46) (m₉ 99)) → (zOw (m₉ 99) (m 103) (m₉ 111)) → (zGG (m 94 58) (m₉ 94 56) (m 94 57) (m₉ 106)) → (qRB (m₉ 99) (m 100) (m 98) (m 101) (m 102) (m 103) (m 107) (m 108) (m₉ 109) (m₉ 111) (m₉ 112) (m₉ 113) (m₉ 114) (m₉ 94 55) (m 94 46) ro 0 0 0 1 (ySg aa ix r1)) → (qI (ySg aa ix r1)) → (qMG (m 94 58) (m₉ 106) (m₉ 115) (m 94 57) (m₉ 94 56) (m₉ 99) (m 100) (ySg aa ix r1)) → ((ySg aa ix r1) 87 8 = (m 94 58)) → ((m₉ 94 45).toInt = sm (zbU (m₉ 99)) (m 102) 3100) → ((m₉ 99) = (m 99)) → P (some (.inl v)) (zov wr_252 m m₉)) : zm X 5 111 252 0 [(0, .inr (.inr (some 94))), (1, .inl ix), (2, .inl r1)] m P := by
  have K : ∀ v m₉, zF wr_252 m m₉ → zV m₉ → (zW (m₉ 94 7) (m₉ 98) (m₉ 101) (m₉ 102) (m₉ 108)) → (zGW T (m₉ 94 55) (m₉ 109)) → (zGU T (m₉ 94 46) (m₉ 99)) → (zOw (m₉ 99) (m₉ 103) (m₉ 111)) → (zGG (m₉ 94 58) (m₉ 94 56) (m₉ 94 57) (m₉ 106)) → (qRB (m₉ 99) (m₉ 100) (m₉ 98) (m₉ 101) (m₉ 102) (m₉ 103) (m₉ 107) (m₉ 108) (m₉ 109) (m₉ 111) (m₉ 112) (m₉ 113) (m₉ 114) (m₉ 94 55) (m₉ 94 46) ro 0 0 0 1 (ySg aa ix r1)) → (qI (ySg aa ix r1)) → (qMG (m₉ 94 58) (m₉ 106) (m₉ 115) (m₉ 94 57) (m₉ 94 56) (m₉ 99) (m₉ 100) (ySg aa ix r1)) → ((ySg aa ix r1) 87 8 = (m₉ 94 58)) → ((m₉ 94 45).toInt = sm (zbU (m₉ 99)) (m₉ 102) 3100) → ((m₉ 99) = (m 99)) → P (some (.inl v)) m₉ := by
    intro v m₉ hf z q0 q1 q2 q3 q4 q5 q6 q7 q8 q9 q10
    have e := zov_eq hf
    rw [e] at z ⊢
    try rw [e] at q0
    try rw [e] at q1
    try rw [e] at q2
    try rw [e] at q3
    try rw [e] at q4
    try rw [e] at q5
    try rw [e] at q6
    try rw [e] at q7
    try rw [e] at q8
    try rw [e] at q9
    try rw [e] at q10
    exact KZ v m₉ z q0 q1 q2 q3 q4 q5 q6 q7 q8 q9 q10
  refine g_252_0 ix r1 ?_
  have f1 : 0 ≤ (m 94 10).toInt ∧ (m 94 10).toInt ≤ 6 := rs_94_10 (m := m) hV
  have f2 : 0 ≤ (m 94 58).toInt ∧ (m 94 58).toInt ≤ 1 := rs_94_58 (m := m) hV
  have f3 : 0 ≤ (m 94 8).toInt ∧ (m 94 8).toInt ≤ 1 := rs_94_8 (m := m) hV
  have b4 := i_bd ix
  have li5 : (0 : Int32).toInt = 0 := rfl
  refine zd (fun (h6 : ix < (0 : Int32)) => ?_) (fun (h6 : ¬ ix < (0 : Int32)) => ?_)
  · skip
    have g7 := i_lt h6
    have hV8 : zV (ma_u m 94 0 (1 : Int32)) := uf_94_0 hV
    exact K ((0 : Int32)) _ (zF_u zF_rfl rfl) hV8 r_W r_GW r_GU r_OW r_GG (show qRB (m 99) (m 100) (m 98) (m 101) (m 102) (m 103) (m 107) (m 108) (m 109) (m 111) (m 112) (m 113) (m 114) (m 94 55) (m 94 46) ro 0 0 0 1 (ySg aa ix r1) from by first | (rw [Sg_n r_RB (by omega) (by omega) (by omega)]; exact r_RB; done) | (rw [Sg_x (by omega)]; exact r_RB; done) | (exfalso; omega; done) | (exfalso; contradiction; done)) (show qI (ySg aa ix r1) from by first | (rw [Sg_n r_RB (by omega) (by omega) (by omega)]; exact r_QI; done) | (rw [Sg_x (by omega)]; exact r_QI; done) | (exfalso; omega; done) | (exfalso; contradiction; done)) (show qMG (m 94 58) (m 106) (m 115) (m 94 57) (m 94 56) (m 99) (m 100) (ySg aa ix r1) from by first | (rw [Sg_n r_RB (by omega) (by omega) (by omega)]; exact r_MG; done) | (rw [Sg_x (by omega)]; exact r_MG; done) | (exfalso; omega; done) | (exfalso; contradiction; done)) (show (ySg aa ix r1) 87 8 = (m 94 58) from by first | (rw [Sg_n r_RB (by omega) (by omega) (by omega)]; exact r_MK; done) | (rw [Sg_x (by omega)]; exact r_MK; done) | (exfalso; omega; done) | (exfalso; contradiction; done)) r_WTS (show (m 99) = (m 99) from by first | (exact rfl) | (exfalso; omega; done) | (exfalso; contradiction; done))
  · skip
    have g9 := i_nlt h6
    have li10 : (16 : Int32).toInt = 16 := rfl
    refine zd (fun (h11 : (16 : Int32) ≤ ix) => ?_) (fun (h11 : ¬ (16 : Int32) ≤ ix) => ?_)
    · skip
      have g12 := i_le h11
      have hV13 : zV (ma_u m 94 0 (1 : Int32)) := uf_94_0 hV
      exact K ((0 : Int32)) _ (zF_u zF_rfl rfl) hV13 r_W r_GW r_GU r_OW r_GG (show qRB (m 99) (m 100) (m 98) (m 101) (m 102) (m 103) (m 107) (m 108) (m 109) (m 111) (m 112) (m 113) (m 114) (m 94 55) (m 94 46) ro 0 0 0 1 (ySg aa ix r1) from by first | (rw [Sg_n r_RB (by omega) (by omega) (by omega)]; exact r_RB; done) | (rw [Sg_x (by omega)]; exact r_RB; done) | (exfalso; omega; done) | (exfalso; contradiction; done)) (show qI (ySg aa ix r1) from by first | (rw [Sg_n r_RB (by omega) (by omega) (by omega)]; exact r_QI; done) | (rw [Sg_x (by omega)]; exact r_QI; done) | (exfalso; omega; done) | (exfalso; contradiction; done)) (show qMG (m 94 58) (m 106) (m 115) (m 94 57) (m 94 56) (m 99) (m 100) (ySg aa ix r1) from by first | (rw [Sg_n r_RB (by omega) (by omega) (by omega)]; exact r_MG; done) | (rw [Sg_x (by omega)]; exact r_MG; done) | (exfalso; omega; done) | (exfalso; contradiction; done)) (show (ySg aa ix r1) 87 8 = (m 94 58) from by first | (rw [Sg_n r_RB (by omega) (by omega) (by omega)]; exact r_MK; done) | (rw [Sg_x (by omega)]; exact r_MK; done) | (exfalso; omega; done) | (exfalso; contradiction; done)) r_WTS (show (m 99) = (m 99) from by first | (exact rfl) | (exfalso; omega; done) | (exfalso; contradiction; done))
    · skip
      have g14 := i_nle h11
      have b15 := i_bd r1
      refine zd (fun (h16 : r1 < (0 : Int32)) => ?_) (fun (h16 : ¬ r1 < (0 : Int32)) => ?_)
      · skip
        have g17 := i_lt h16
        have hV18 : zV (ma_u m 94 0 (1 : Int32)) := uf_94_0 hV
        exact K ((0 : Int32)) _ (zF_u zF_rfl rfl) hV18 r_W r_GW r_GU r_OW r_GG (show qRB (m 99) (m 100) (m 98) (m 101) (m 102) (m 103) (m 107) (m 108) (m 109) (m 111) (m 112) (m 113) (m 114) (m 94 55) (m 94 46) ro 0 0 0 1 (ySg aa ix r1) from by first | (rw [Sg_n r_RB (by omega) (by omega) (by omega)]; exact r_RB; done) | (rw [Sg_x (by omega)]; exact r_RB; done) | (exfalso; omega; done) | (exfalso; contradiction; done)) (show qI (ySg aa ix r1) from by first | (rw [Sg_n r_RB (by omega) (by omega) (by omega)]; exact r_QI; done) | (rw [Sg_x (by omega)]; exact r_QI; done) | (exfalso; omega; done) | (exfalso; contradiction; done)) (show qMG (m 94 58) (m 106) (m 115) (m 94 57) (m 94 56) (m 99) (m 100) (ySg aa ix r1) from by first | (rw [Sg_n r_RB (by omega) (by omega) (by omega)]; exact r_MG; done) | (rw [Sg_x (by omega)]; exact r_MG; done) | (exfalso; omega; done) | (exfalso; contradiction; done)) (show (ySg aa ix r1) 87 8 = (m 94 58) from by first | (rw [Sg_n r_RB (by omega) (by omega) (by omega)]; exact r_MK; done) | (rw [Sg_x (by omega)]; exact r_MK; done) | (exfalso; omega; done) | (exfalso; contradiction; done)) r_WTS (show (m 99) = (m 99) from by first | (exact rfl) | (exfalso; omega; done) | (exfalso; contradiction; done))
      · skip
        have g19 := i_nlt h16
        refine zd (fun (h20 : (16 : Int32) ≤ r1) => ?_) (fun (h20 : ¬ (16 : Int32) ≤ r1) => ?_)
        · skip
          have g21 := i_le h20
          have hV22 : zV (ma_u m 94 0 (1 : Int32)) := uf_94_0 hV
          exact K ((0 : Int32)) _ (zF_u zF_rfl rfl) hV22 r_W r_GW r_GU r_OW r_GG (show qRB (m 99) (m 100) (m 98) (m 101) (m 102) (m 103) (m 107) (m 108) (m 109) (m 111) (m 112) (m 113) (m 114) (m 94 55) (m 94 46) ro 0 0 0 1 (ySg aa ix r1) from by first | (rw [Sg_n r_RB (by omega) (by omega) (by omega)]; exact r_RB; done) | (rw [Sg_x (by omega)]; exact r_RB; done) | (exfalso; omega; done) | (exfalso; contradiction; done)) (show qI (ySg aa ix r1) from by first | (rw [Sg_n r_RB (by omega) (by omega) (by omega)]; exact r_QI; done) | (rw [Sg_x (by omega)]; exact r_QI; done) | (exfalso; omega; done) | (exfalso; contradiction; done)) (show qMG (m 94 58) (m 106) (m 115) (m 94 57) (m 94 56) (m 99) (m 100) (ySg aa ix r1) from by first | (rw [Sg_n r_RB (by omega) (by omega) (by omega)]; exact r_MG; done) | (rw [Sg_x (by omega)]; exact r_MG; done) | (exfalso; omega; done) | (exfalso; contradiction; done)) (show (ySg aa ix r1) 87 8 = (m 94 58) from by first | (rw [Sg_n r_RB (by omega) (by omega) (by omega)]; exact r_MK; done) | (rw [Sg_x (by omega)]; exact r_MK; done) | (exfalso; omega; done) | (exfalso; contradiction; done)) r_WTS (show (m 99) = (m 99) from by first | (exact rfl) | (exfalso; omega; done) | (exfalso; contradiction; done))
        · skip
          have g23 := i_nle h20
          refine zd (fun (h24 : (m 94 8) = (0 : Int32)) => ?_) (fun (h24 : ¬ (m 94 8) = (0 : Int32)) => ?_)
          · skip
            have g25 := i_eq h24
            exfalso; omega
          · skip
            have g26 := i_ne h24
            have hg27 : (0 ≤ ix ∧ ix.toNatClampNeg < 16) := i_ix (by omega) (by omega)
            refine ⟨hg27, ?_⟩
            first | have f28 : -1 ≤ (m 113 ix.toNatClampNeg).toInt ∧ (m 113 ix.toNatClampNeg).toInt ≤ 3099 := ra_113 (m := m) hV (k := ix.toNatClampNeg) (i_ix (n := 16) (by omega) (by omega)).2 | have b29 := i_bd (m 113 ix.toNatClampNeg)
            refine zd (fun (h30 : (0 : Int32) ≤ (m 113 ix.toNatClampNeg)) => ?_) (fun (h30 : ¬ (0 : Int32) ≤ (m 113 ix.toNatClampNeg)) => ?_)
            · skip
              have g31 := i_le h30
              refine zd (fun (h32 : (m 94 58) = (0 : Int32)) => ?_) (fun (h32 : ¬ (m 94 58) = (0 : Int32)) => ?_)
              · skip
                have g33 := i_eq h32
                have hV34 : zV (ma_u m 94 0 (0 : Int32)) := uf_94_0 hV
                refine sp_238ry (aa := (aSt aa (qNo (m 100) (m 113 ix.toNatClampNeg)))) (r1) ((m 113 ix.toNatClampNeg)) hV34 (by omega) (by omega) (by omega) (by omega) (show (m 94 10).toInt = 3 ∧ (m 94 58).toInt = 0 from by omega) r_W r_GW r_GU r_OW r_GG (show qRB (m 99) (m 100) (m 98) (m 101) (m 102) (m 103) (m 107) (m 108) (m 109) (m 111) (m 112) (m 113) (m 114) (m 94 55) (m 94 46) ro 0 0 0 1 (aSt aa (qNo (m 100) (m 113 ix.toNatClampNeg))) from by first | (exact RB_of r_RB St_of) | (exfalso; omega; done) | (exfalso; contradiction; done)) (show qI (aSt aa (qNo (m 100) (m 113 ix.toNatClampNeg))) from by first | (exact qI_of r_QI St_of) | (exfalso; omega; done) | (exfalso; contradiction; done)) (show qMG (m 94 58) (m 106) (m 115) (m 94 57) (m 94 56) (m 99) (m 100) (aSt aa (qNo (m 100) (m 113 ix.toNatClampNeg))) from by first | (exact fun z => absurd (by omega) z) | (exact fun z => St_skip (r_MG z) (fun w => absurd (r_MK.symm.trans w) (i_nz2 (by omega))) (r_RB.2.2.2.1 ix.toNatClampNeg (by omega)).1 (by assumption)) | (exfalso; omega; done) | (exfalso; contradiction; done)) (show (aSt aa (qNo (m 100) (m 113 ix.toNatClampNeg))) 87 8 = (m 94 58) from by first | (exact (St_of 87 8 (by decide) (by decide) (by decide)).symm.trans r_MK) | (exfalso; omega; done) | (exfalso; contradiction; done)) r_WTS (show qU (m 99) (m 113 ix.toNatClampNeg) from by first | (exact (r_RB.2.2.2.1 ix.toNatClampNeg (by omega)).1) | (assumption; done) | (exact ow5.1) | (exact ow3.1) | (exfalso; omega; done) | (exfalso; contradiction; done)) (show qMS (m 94 58) (aSt aa (qNo (m 100) (m 113 ix.toNatClampNeg))) (qNo (m 100) (m 113 ix.toNatClampNeg)) from by first | (exact MS_st r_RB r_MG r_MK (r_RB.2.2.2.1 ix.toNatClampNeg (by omega)).1 (by omega)) | (exfalso; omega; done) | (exfalso; contradiction; done)) (fun m1 hV_m1 p0_m1 p1_m1 p2_m1 p3_m1 p4_m1 p5_m1 p6_m1 p7_m1 p8_m1 p9_m1 => zmv_n ?_)
                have p0_m1 : zGW T (m1 94 55) (m1 109) := p0_m1
                have p1_m1 : zGU T (m 94 46) (m1 99) := p1_m1
                have p2_m1 : zOw (m1 99) (m 103) (m1 111) := p2_m1
                have p3_m1 : zGG (m 94 58) (m1 94 56) (m 94 57) (m1 106) := p3_m1
                have p4_m1 : qRB (m1 99) (m 100) (m 98) (m 101) (m 102) (m 103) (m 107) (m 108) (m1 109) (m1 111) (m1 112) (m1 113) (m1 114) (m1 94 55) (m 94 46) ro 0 0 0 1 (aRt (aSt aa (qNo (m 100) (m 113 ix.toNatClampNeg))) r1 (qNo (m 100) (m 113 ix.toNatClampNeg))) := p4_m1
                have p5_m1 : qI (aRt (aSt aa (qNo (m 100) (m 113 ix.toNatClampNeg))) r1 (qNo (m 100) (m 113 ix.toNatClampNeg))) := p5_m1
                have p6_m1 : qMG (m 94 58) (m1 106) (m1 115) (m 94 57) (m1 94 56) (m1 99) (m 100) (aRt (aSt aa (qNo (m 100) (m 113 ix.toNatClampNeg))) r1 (qNo (m 100) (m 113 ix.toNatClampNeg))) := p6_m1
                have p7_m1 : (aRt (aSt aa (qNo (m 100) (m 113 ix.toNatClampNeg))) r1 (qNo (m 100) (m 113 ix.toNatClampNeg))) 87 8 = (m 94 58) := p7_m1
                have p8_m1 : (m1 94 45).toInt = sm (zbU (m1 99)) (m 102) 3100 := p8_m1
                have p9_m1 : (m1 99) = (m 99) := p9_m1
                have hg35 : (0 ≤ (m 113 ix.toNatClampNeg) ∧ (m 113 ix.toNatClampNeg).toNatClampNeg < 3100) := i_ix (by omega) (by omega)
                refine ⟨hg35, ?_⟩
                first | have f36 : 0 ≤ (m 100 (m 113 ix.toNatClampNeg).toNatClampNeg).toInt ∧ (m 100 (m 113 ix.toNatClampNeg).toNatClampNeg).toInt ≤ 100000 := ra_100 (m := m) hV (k := (m 113 ix.toNatClampNeg).toNatClampNeg) (i_ix (n := 3100) (by omega) (by omega)).2 | have b37 := i_bd (m 100 (m 113 ix.toNatClampNeg).toNatClampNeg)
                exact K ((m 100 (m 113 ix.toNatClampNeg).toNatClampNeg)) _ (zF_zov (zF_u zF_rfl rfl) ws_238_252) hV_m1 r_W p0_m1 p1_m1 p2_m1 p3_m1 (show qRB (m1 99) (m 100) (m 98) (m 101) (m 102) (m 103) (m 107) (m 108) (m1 109) (m1 111) (m1 112) (m1 113) (m1 114) (m1 94 55) (m 94 46) ro 0 0 0 1 (ySg aa ix r1) from by first | (rw [Sg_y r_RB (by omega) (by omega) (by omega) (by omega) (by omega)]; exact p4_m1; done) | (exfalso; omega; done) | (exfalso; contradiction; done)) (show qI (ySg aa ix r1) from by first | (rw [Sg_y r_RB (by omega) (by omega) (by omega) (by omega) (by omega)]; exact p5_m1; done) | (exfalso; omega; done) | (exfalso; contradiction; done)) (show qMG (m 94 58) (m1 106) (m1 115) (m 94 57) (m1 94 56) (m1 99) (m 100) (ySg aa ix r1) from by first | (rw [Sg_y r_RB (by omega) (by omega) (by omega) (by omega) (by omega)]; exact p6_m1; done) | (exfalso; omega; done) | (exfalso; contradiction; done)) (show (ySg aa ix r1) 87 8 = (m 94 58) from by first | (rw [Sg_y r_RB (by omega) (by omega) (by omega) (by omega) (by omega)]; exact p7_m1; done) | (exfalso; omega; done) | (exfalso; contradiction; done)) p8_m1 p9_m1
              · skip
                have g38 := i_ne h32
                refine zd (fun (h39 : (m 113 ix.toNatClampNeg) < (0 : Int32)) => ?_) (fun (h39 : ¬ (m 113 ix.toNatClampNeg) < (0 : Int32)) => ?_)
                · skip
                  have g40 := i_lt h39
                  have hV41 : zV (ma_u m 94 0 (0 : Int32)) := uf_94_0 hV
                  refine sp_238ry (aa := (aSt aa (qNo (m 100) (m 113 ix.toNatClampNeg)))) (r1) ((m 113 ix.toNatClampNeg)) hV41 (by omega) (by omega) (by omega) (by omega) (show (m 94 10).toInt = 3 ∧ (m 94 58).toInt = 0 from by omega) r_W r_GW r_GU r_OW r_GG (show qRB (m 99) (m 100) (m 98) (m 101) (m 102) (m 103) (m 107) (m 108) (m 109) (m 111) (m 112) (m 113) (m 114) (m 94 55) (m 94 46) ro 0 0 0 1 (aSt aa (qNo (m 100) (m 113 ix.toNatClampNeg))) from by first | (exact RB_of r_RB St_of) | (exfalso; omega; done) | (exfalso; contradiction; done)) (show qI (aSt aa (qNo (m 100) (m 113 ix.toNatClampNeg))) from by first | (exact qI_of r_QI St_of) | (exfalso; omega; done) | (exfalso; contradiction; done)) (show qMG (m 94 58) (m 106) (m 115) (m 94 57) (m 94 56) (m 99) (m 100) (aSt aa (qNo (m 100) (m 113 ix.toNatClampNeg))) from by first | (exact fun z => absurd (by omega) z) | (exact fun z => St_skip (r_MG z) (fun w => absurd (r_MK.symm.trans w) (i_nz2 (by omega))) (r_RB.2.2.2.1 ix.toNatClampNeg (by omega)).1 (by assumption)) | (exfalso; omega; done) | (exfalso; contradiction; done)) (show (aSt aa (qNo (m 100) (m 113 ix.toNatClampNeg))) 87 8 = (m 94 58) from by first | (exact (St_of 87 8 (by decide) (by decide) (by decide)).symm.trans r_MK) | (exfalso; omega; done) | (exfalso; contradiction; done)) r_WTS (show qU (m 99) (m 113 ix.toNatClampNeg) from by first | (exact (r_RB.2.2.2.1 ix.toNatClampNeg (by omega)).1) | (assumption; done) | (exact ow5.1) | (exact ow3.1) | (exfalso; omega; done) | (exfalso; contradiction; done)) (show qMS (m 94 58) (aSt aa (qNo (m 100) (m 113 ix.toNatClampNeg))) (qNo (m 100) (m 113 ix.toNatClampNeg)) from by first | (exact MS_st r_RB r_MG r_MK (r_RB.2.2.2.1 ix.toNatClampNeg (by omega)).1 (by omega)) | (exfalso; omega; done) | (exfalso; contradiction; done)) (fun m3 hV_m3 p0_m3 p1_m3 p2_m3 p3_m3 p4_m3 p5_m3 p6_m3 p7_m3 p8_m3 p9_m3 => zmv_n ?_)
                  have p0_m3 : zGW T (m3 94 55) (m3 109) := p0_m3
                  have p1_m3 : zGU T (m 94 46) (m3 99) := p1_m3
                  have p2_m3 : zOw (m3 99) (m 103) (m3 111) := p2_m3
                  have p3_m3 : zGG (m 94 58) (m3 94 56) (m 94 57) (m3 106) := p3_m3
                  have p4_m3 : qRB (m3 99) (m 100) (m 98) (m 101) (m 102) (m 103) (m 107) (m 108) (m3 109) (m3 111) (m3 112) (m3 113) (m3 114) (m3 94 55) (m 94 46) ro 0 0 0 1 (aRt (aSt aa (qNo (m 100) (m 113 ix.toNatClampNeg))) r1 (qNo (m 100) (m 113 ix.toNatClampNeg))) := p4_m3
                  have p5_m3 : qI (aRt (aSt aa (qNo (m 100) (m 113 ix.toNatClampNeg))) r1 (qNo (m 100) (m 113 ix.toNatClampNeg))) := p5_m3
                  have p6_m3 : qMG (m 94 58) (m3 106) (m3 115) (m 94 57) (m3 94 56) (m3 99) (m 100) (aRt (aSt aa (qNo (m 100) (m 113 ix.toNatClampNeg))) r1 (qNo (m 100) (m 113 ix.toNatClampNeg))) := p6_m3
                  have p7_m3 : (aRt (aSt aa (qNo (m 100) (m 113 ix.toNatClampNeg))) r1 (qNo (m 100) (m 113 ix.toNatClampNeg))) 87 8 = (m 94 58) := p7_m3
                  have p8_m3 : (m3 94 45).toInt = sm (zbU (m3 99)) (m 102) 3100 := p8_m3
                  have p9_m3 : (m3 99) = (m 99) := p9_m3
                  have hg42 : (0 ≤ (m 113 ix.toNatClampNeg) ∧ (m 113 ix.toNatClampNeg).toNatClampNeg < 3100) := i_ix (by omega) (by omega)
                  refine ⟨hg42, ?_⟩
                  first | have f43 : 0 ≤ (m 100 (m 113 ix.toNatClampNeg).toNatClampNeg).toInt ∧ (m 100 (m 113 ix.toNatClampNeg).toNatClampNeg).toInt ≤ 100000 := ra_100 (m := m) hV (k := (m 113 ix.toNatClampNeg).toNatClampNeg) (i_ix (n := 3100) (by omega) (by omega)).2 | have b44 := i_bd (m 100 (m 113 ix.toNatClampNeg).toNatClampNeg)
                  exact K ((m 100 (m 113 ix.toNatClampNeg).toNatClampNeg)) _ (zF_zov (zF_u zF_rfl rfl) ws_238_252) hV_m3 r_W p0_m3 p1_m3 p2_m3 p3_m3 (show qRB (m3 99) (m 100) (m 98) (m 101) (m 102) (m 103) (m 107) (m 108) (m3 109) (m3 111) (m3 112) (m3 113) (m3 114) (m3 94 55) (m 94 46) ro 0 0 0 1 (ySg aa ix r1) from by first | (rw [Sg_y r_RB (by omega) (by omega) (by omega) (by omega) (by omega)]; exact p4_m3; done) | (exfalso; omega; done) | (exfalso; contradiction; done)) (show qI (ySg aa ix r1) from by first | (rw [Sg_y r_RB (by omega) (by omega) (by omega) (by omega) (by omega)]; exact p5_m3; done) | (exfalso; omega; done) | (exfalso; contradiction; done)) (show qMG (m 94 58) (m3 106) (m3 115) (m 94 57) (m3 94 56) (m3 99) (m 100) (ySg aa ix r1) from by first | (rw [Sg_y r_RB (by omega) (by omega) (by omega) (by omega) (by omega)]; exact p6_m3; done) | (exfalso; omega; done) | (exfalso; contradiction; done)) (show (ySg aa ix r1) 87 8 = (m 94 58) from by first | (rw [Sg_y r_RB (by omega) (by omega) (by omega) (by omega) (by omega)]; exact p7_m3; done) | (exfalso; omega; done) | (exfalso; contradiction; done)) p8_m3 p9_m3
                · skip
                  have g45 := i_nlt h39
                  have hg46 : (0 ≤ (m 113 ix.toNatClampNeg) ∧ (m 113 ix.toNatClampNeg).toNatClampNeg < 3100) := i_ix (by omega) (by omega)
                  refine ⟨hg46, ?_⟩
                  have b47 := i_bd (m 106 (m 113 ix.toNatClampNeg).toNatClampNeg)
                  refine zd (fun (h48 : (m 106 (m 113 ix.toNatClampNeg).toNatClampNeg) = (0 : Int32)) => ?_) (fun (h48 : ¬ (m 106 (m 113 ix.toNatClampNeg).toNatClampNeg) = (0 : Int32)) => ?_)
                  · skip
                    have g49 := i_eq h48
                    have hg50 : (0 ≤ (m 113 ix.toNatClampNeg) ∧ (m 113 ix.toNatClampNeg).toNatClampNeg < 3100) := i_ix (by omega) (by omega)
                    refine ⟨hg50, ?_⟩
                    have f51 : 0 ≤ (m 94 56).toInt ∧ (m 94 56).toInt ≤ 3100 := rs_94_56 (m := m) hV
                    try have gk := G1_room (r_GG (by omega)) (by assumption) (by omega)
                    have hg52 : (0 ≤ (m 94 56) ∧ (m 94 56).toNatClampNeg < 3100) := i_ix (by omega) (by omega)
                    refine ⟨hg52, ?_⟩
                    have hV53 : zV (ma_u m 94 0 (0 : Int32)) := uf_94_0 hV
                    have hV54 : zV (ma_u (ma_u m 94 0 (0 : Int32)) 106 (m 113 ix.toNatClampNeg).toNatClampNeg (1 : Int32)) := ua_106 hV53
                    have hV55 : zV (ma_u (ma_u (ma_u m 94 0 (0 : Int32)) 106 (m 113 ix.toNatClampNeg).toNatClampNeg (1 : Int32)) 115 (m 94 56).toNatClampNeg (m 113 ix.toNatClampNeg)) := ua_115 hV54 (by omega) (by omega)
                    first | have e57 : ((m 94 56) + (1 : Int32)).toInt = (m 94 56).toInt + (1) := i_addk rfl (by omega) (by omega) | have b58 := i_bd ((m 94 56) + (1 : Int32))
                    have hV56 : zV (ma_u (ma_u (ma_u (ma_u m 94 0 (0 : Int32)) 106 (m 113 ix.toNatClampNeg).toNatClampNeg (1 : Int32)) 115 (m 94 56).toNatClampNeg (m 113 ix.toNatClampNeg)) 94 56 ((m 94 56) + (1 : Int32))) := us_94_56 hV55 (by omega) (by omega)
                    refine sp_238ry (aa := (aSt aa (qNo (m 100) (m 113 ix.toNatClampNeg)))) (r1) ((m 113 ix.toNatClampNeg)) hV56 (by omega) (by omega) (by omega) (by omega) (show (m 94 10).toInt = 3 ∧ (m 94 58).toInt = 0 from by omega) r_W r_GW r_GU r_OW (show zGG (m 94 58) ((m 94 56) + (1 : Int32)) (m 94 57) ((ma_u m 106 (m 113 ix.toNatClampNeg).toNatClampNeg (1 : Int32)) 106) from by first | (exact fun z => G1_push (r_GG z) (by assumption) (by omega) (by decide) (by assumption)) | (exact r_GG) | (exact fun z => absurd z (by decide)) | (exact fun z => absurd z (by omega)) | (exfalso; omega; done) | (exfalso; contradiction; done)) (show qRB (m 99) (m 100) (m 98) (m 101) (m 102) (m 103) (m 107) (m 108) (m 109) (m 111) (m 112) (m 113) (m 114) (m 94 55) (m 94 46) ro 0 0 0 1 (aSt aa (qNo (m 100) (m 113 ix.toNatClampNeg))) from by first | (exact RB_of r_RB St_of) | (exfalso; omega; done) | (exfalso; contradiction; done)) (show qI (aSt aa (qNo (m 100) (m 113 ix.toNatClampNeg))) from by first | (exact qI_of r_QI St_of) | (exfalso; omega; done) | (exfalso; contradiction; done)) (show qMG (m 94 58) ((ma_u m 106 (m 113 ix.toNatClampNeg).toNatClampNeg (1 : Int32)) 106) ((ma_u m 115 (m 94 56).toNatClampNeg (m 113 ix.toNatClampNeg)) 115) (m 94 57) ((m 94 56) + (1 : Int32)) (m 99) (m 100) (aSt aa (qNo (m 100) (m 113 ix.toNatClampNeg))) from by first | (exact fun z => St_push r_RB (r_MG z) (fun w => absurd (r_MK.symm.trans w) (i_nz2 (by omega))) (r_RB.2.2.2.1 ix.toNatClampNeg (by omega)).1 (by omega) (by assumption)) | (exfalso; omega; done) | (exfalso; contradiction; done)) (show (aSt aa (qNo (m 100) (m 113 ix.toNatClampNeg))) 87 8 = (m 94 58) from by first | (exact (St_of 87 8 (by decide) (by decide) (by decide)).symm.trans r_MK) | (exfalso; omega; done) | (exfalso; contradiction; done)) r_WTS (show qU (m 99) (m 113 ix.toNatClampNeg) from by first | (exact (r_RB.2.2.2.1 ix.toNatClampNeg (by omega)).1) | (assumption; done) | (exact ow5.1) | (exact ow3.1) | (exfalso; omega; done) | (exfalso; contradiction; done)) (show qMS (m 94 58) (aSt aa (qNo (m 100) (m 113 ix.toNatClampNeg))) (qNo (m 100) (m 113 ix.toNatClampNeg)) from by first | (exact MS_st r_RB r_MG r_MK (r_RB.2.2.2.1 ix.toNatClampNeg (by omega)).1 (by omega)) | (exfalso; omega; done) | (exfalso; contradiction; done)) (fun m5 hV_m5 p0_m5 p1_m5 p2_m5 p3_m5 p4_m5 p5_m5 p6_m5 p7_m5 p8_m5 p9_m5 => zmv_n ?_)
                    have p0_m5 : zGW T (m5 94 55) (m5 109) := p0_m5
                    have p1_m5 : zGU T (m 94 46) (m5 99) := p1_m5
                    have p2_m5 : zOw (m5 99) (m 103) (m5 111) := p2_m5
                    have p3_m5 : zGG (m 94 58) (m5 94 56) (m 94 57) (m5 106) := p3_m5
                    have p4_m5 : qRB (m5 99) (m 100) (m 98) (m 101) (m 102) (m 103) (m 107) (m 108) (m5 109) (m5 111) (m5 112) (m5 113) (m5 114) (m5 94 55) (m 94 46) ro 0 0 0 1 (aRt (aSt aa (qNo (m 100) (m 113 ix.toNatClampNeg))) r1 (qNo (m 100) (m 113 ix.toNatClampNeg))) := p4_m5
                    have p5_m5 : qI (aRt (aSt aa (qNo (m 100) (m 113 ix.toNatClampNeg))) r1 (qNo (m 100) (m 113 ix.toNatClampNeg))) := p5_m5
                    have p6_m5 : qMG (m 94 58) (m5 106) (m5 115) (m 94 57) (m5 94 56) (m5 99) (m 100) (aRt (aSt aa (qNo (m 100) (m 113 ix.toNatClampNeg))) r1 (qNo (m 100) (m 113 ix.toNatClampNeg))) := p6_m5
                    have p7_m5 : (aRt (aSt aa (qNo (m 100) (m 113 ix.toNatClampNeg))) r1 (qNo (m 100) (m 113 ix.toNatClampNeg))) 87 8 = (m 94 58) := p7_m5
                    have p8_m5 : (m5 94 45).toInt = sm (zbU (m5 99)) (m 102) 3100 := p8_m5
                    have p9_m5 : (m5 99) = (m 99) := p9_m5
                    have hg59 : (0 ≤ (m 113 ix.toNatClampNeg) ∧ (m 113 ix.toNatClampNeg).toNatClampNeg < 3100) := i_ix (by omega) (by omega)
                    refine ⟨hg59, ?_⟩
                    first | have f60 : 0 ≤ (m 100 (m 113 ix.toNatClampNeg).toNatClampNeg).toInt ∧ (m 100 (m 113 ix.toNatClampNeg).toNatClampNeg).toInt ≤ 100000 := ra_100 (m := m) hV (k := (m 113 ix.toNatClampNeg).toNatClampNeg) (i_ix (n := 3100) (by omega) (by omega)).2 | have b61 := i_bd (m 100 (m 113 ix.toNatClampNeg).toNatClampNeg)
                    exact K ((m 100 (m 113 ix.toNatClampNeg).toNatClampNeg)) _ (zF_zov (zF_u (zF_u (zF_u (zF_u zF_rfl rfl) rfl) rfl) rfl) ws_238_252) hV_m5 r_W p0_m5 p1_m5 p2_m5 p3_m5 (show qRB (m5 99) (m 100) (m 98) (m 101) (m 102) (m 103) (m 107) (m 108) (m5 109) (m5 111) (m5 112) (m5 113) (m5 114) (m5 94 55) (m 94 46) ro 0 0 0 1 (ySg aa ix r1) from by first | (rw [Sg_y r_RB (by omega) (by omega) (by omega) (by omega) (by omega)]; exact p4_m5; done) | (exfalso; omega; done) | (exfalso; contradiction; done)) (show qI (ySg aa ix r1) from by first | (rw [Sg_y r_RB (by omega) (by omega) (by omega) (by omega) (by omega)]; exact p5_m5; done) | (exfalso; omega; done) | (exfalso; contradiction; done)) (show qMG (m 94 58) (m5 106) (m5 115) (m 94 57) (m5 94 56) (m5 99) (m 100) (ySg aa ix r1) from by first | (rw [Sg_y r_RB (by omega) (by omega) (by omega) (by omega) (by omega)]; exact p6_m5; done) | (exfalso; omega; done) | (exfalso; contradiction; done)) (show (ySg aa ix r1) 87 8 = (m 94 58) from by first | (rw [Sg_y r_RB (by omega) (by omega) (by omega) (by omega) (by omega)]; exact p7_m5; done) | (exfalso; omega; done) | (exfalso; contradiction; done)) p8_m5 p9_m5
                  · skip
                    have g62 := i_ne h48
                    have hV63 : zV (ma_u m 94 0 (0 : Int32)) := uf_94_0 hV
                    refine sp_238ry (aa := (aSt aa (qNo (m 100) (m 113 ix.toNatClampNeg)))) (r1) ((m 113 ix.toNatClampNeg)) hV63 (by omega) (by omega) (by omega) (by omega) (show (m 94 10).toInt = 3 ∧ (m 94 58).toInt = 0 from by omega) r_W r_GW r_GU r_OW r_GG (show qRB (m 99) (m 100) (m 98) (m 101) (m 102) (m 103) (m 107) (m 108) (m 109) (m 111) (m 112) (m 113) (m 114) (m 94 55) (m 94 46) ro 0 0 0 1 (aSt aa (qNo (m 100) (m 113 ix.toNatClampNeg))) from by first | (exact RB_of r_RB St_of) | (exfalso; omega; done) | (exfalso; contradiction; done)) (show qI (aSt aa (qNo (m 100) (m 113 ix.toNatClampNeg))) from by first | (exact qI_of r_QI St_of) | (exfalso; omega; done) | (exfalso; contradiction; done)) (show qMG (m 94 58) (m 106) (m 115) (m 94 57) (m 94 56) (m 99) (m 100) (aSt aa (qNo (m 100) (m 113 ix.toNatClampNeg))) from by first | (exact fun z => absurd (by omega) z) | (exact fun z => St_skip (r_MG z) (fun w => absurd (r_MK.symm.trans w) (i_nz2 (by omega))) (r_RB.2.2.2.1 ix.toNatClampNeg (by omega)).1 (by assumption)) | (exfalso; omega; done) | (exfalso; contradiction; done)) (show (aSt aa (qNo (m 100) (m 113 ix.toNatClampNeg))) 87 8 = (m 94 58) from by first | (exact (St_of 87 8 (by decide) (by decide) (by decide)).symm.trans r_MK) | (exfalso; omega; done) | (exfalso; contradiction; done)) r_WTS (show qU (m 99) (m 113 ix.toNatClampNeg) from by first | (exact (r_RB.2.2.2.1 ix.toNatClampNeg (by omega)).1) | (assumption; done) | (exact ow5.1) | (exact ow3.1) | (exfalso; omega; done) | (exfalso; contradiction; done)) (show qMS (m 94 58) (aSt aa (qNo (m 100) (m 113 ix.toNatClampNeg))) (qNo (m 100) (m 113 ix.toNatClampNeg)) from by first | (exact MS_st r_RB r_MG r_MK (r_RB.2.2.2.1 ix.toNatClampNeg (by omega)).1 (by omega)) | (exfalso; omega; done) | (exfalso; contradiction; done)) (fun m7 hV_m7 p0_m7 p1_m7 p2_m7 p3_m7 p4_m7 p5_m7 p6_m7 p7_m7 p8_m7 p9_m7 => zmv_n ?_)
                    have p0_m7 : zGW T (m7 94 55) (m7 109) := p0_m7
                    have p1_m7 : zGU T (m 94 46) (m7 99) := p1_m7
                    have p2_m7 : zOw (m7 99) (m 103) (m7 111) := p2_m7
                    have p3_m7 : zGG (m 94 58) (m7 94 56) (m 94 57) (m7 106) := p3_m7
                    have p4_m7 : qRB (m7 99) (m 100) (m 98) (m 101) (m 102) (m 103) (m 107) (m 108) (m7 109) (m7 111) (m7 112) (m7 113) (m7 114) (m7 94 55) (m 94 46) ro 0 0 0 1 (aRt (aSt aa (qNo (m 100) (m 113 ix.toNatClampNeg))) r1 (qNo (m 100) (m 113 ix.toNatClampNeg))) := p4_m7
                    have p5_m7 : qI (aRt (aSt aa (qNo (m 100) (m 113 ix.toNatClampNeg))) r1 (qNo (m 100) (m 113 ix.toNatClampNeg))) := p5_m7
                    have p6_m7 : qMG (m 94 58) (m7 106) (m7 115) (m 94 57) (m7 94 56) (m7 99) (m 100) (aRt (aSt aa (qNo (m 100) (m 113 ix.toNatClampNeg))) r1 (qNo (m 100) (m 113 ix.toNatClampNeg))) := p6_m7
                    have p7_m7 : (aRt (aSt aa (qNo (m 100) (m 113 ix.toNatClampNeg))) r1 (qNo (m 100) (m 113 ix.toNatClampNeg))) 87 8 = (m 94 58) := p7_m7
                    have p8_m7 : (m7 94 45).toInt = sm (zbU (m7 99)) (m 102) 3100 := p8_m7
                    have p9_m7 : (m7 99) = (m 99) := p9_m7
                    have hg64 : (0 ≤ (m 113 ix.toNatClampNeg) ∧ (m 113 ix.toNatClampNeg).toNatClampNeg < 3100) := i_ix (by omega) (by omega)
                    refine ⟨hg64, ?_⟩
                    first | have f65 : 0 ≤ (m 100 (m 113 ix.toNatClampNeg).toNatClampNeg).toInt ∧ (m 100 (m 113 ix.toNatClampNeg).toNatClampNeg).toInt ≤ 100000 := ra_100 (m := m) hV (k := (m 113 ix.toNatClampNeg).toNatClampNeg) (i_ix (n := 3100) (by omega) (by omega)).2 | have b66 := i_bd (m 100 (m 113 ix.toNatClampNeg).toNatClampNeg)
                    exact K ((m 100 (m 113 ix.toNatClampNeg).toNatClampNeg)) _ (zF_zov (zF_u zF_rfl rfl) ws_238_252) hV_m7 r_W p0_m7 p1_m7 p2_m7 p3_m7 (show qRB (m7 99) (m 100) (m 98) (m 101) (m 102) (m 103) (m 107) (m 108) (m7 109) (m7 111) (m7 112) (m7 113) (m7 114) (m7 94 55) (m 94 46) ro 0 0 0 1 (ySg aa ix r1) from by first | (rw [Sg_y r_RB (by omega) (by omega) (by omega) (by omega) (by omega)]; exact p4_m7; done) | (exfalso; omega; done) | (exfalso; contradiction; done)) (show qI (ySg aa ix r1) from by first | (rw [Sg_y r_RB (by omega) (by omega) (by omega) (by omega) (by omega)]; exact p5_m7; done) | (exfalso; omega; done) | (exfalso; contradiction; done)) (show qMG (m 94 58) (m7 106) (m7 115) (m 94 57) (m7 94 56) (m7 99) (m 100) (ySg aa ix r1) from by first | (rw [Sg_y r_RB (by omega) (by omega) (by omega) (by omega) (by omega)]; exact p6_m7; done) | (exfalso; omega; done) | (exfalso; contradiction; done)) (show (ySg aa ix r1) 87 8 = (m 94 58) from by first | (rw [Sg_y r_RB (by omega) (by omega) (by omega) (by omega) (by omega)]; exact p7_m7; done) | (exfalso; omega; done) | (exfalso; contradiction; done)) p8_m7 p9_m7
            · skip
              have g67 := i_nle h30
              have hV68 : zV (ma_u m 94 0 (0 : Int32)) := uf_94_0 hV
              have li69 : (-1 : Int32).toInt = -1 := rfl
              exact K ((-1 : Int32)) _ (zF_u zF_rfl rfl) hV68 r_W r_GW r_GU r_OW r_GG (show qRB (m 99) (m 100) (m 98) (m 101) (m 102) (m 103) (m 107) (m 108) (m 109) (m 111) (m 112) (m 113) (m 114) (m 94 55) (m 94 46) ro 0 0 0 1 (ySg aa ix r1) from by first | (rw [Sg_n r_RB (by omega) (by omega) (by omega)]; exact r_RB; done) | (rw [Sg_x (by omega)]; exact r_RB; done) | (exfalso; omega; done) | (exfalso; contradiction; done)) (show qI (ySg aa ix r1) from by first | (rw [Sg_n r_RB (by omega) (by omega) (by omega)]; exact r_QI; done) | (rw [Sg_x (by omega)]; exact r_QI; done) | (exfalso; omega; done) | (exfalso; contradiction; done)) (show qMG (m 94 58) (m 106) (m 115) (m 94 57) (m 94 56) (m 99) (m 100) (ySg aa ix r1) from by first | (rw [Sg_n r_RB (by omega) (by omega) (by omega)]; exact r_MG; done) | (rw [Sg_x (by omega)]; exact r_MG; done) | (exfalso; omega; done) | (exfalso; contradiction; done)) (show (ySg aa ix r1) 87 8 = (m 94 58) from by first | (rw [Sg_n r_RB (by omega) (by omega) (by omega)]; exact r_MK; done) | (rw [Sg_x (by omega)]; exact r_MK; done) | (exfalso; omega; done) | (exfalso; contradiction; done)) r_WTS (show (m 99) = (m 99) from by first | (exact rfl) | (exfalso; omega; done) | (exfalso; contradiction; done))

/-! from 95.v15 -/
/-! AGES, the reference (written by wip/tools/gen15v.py) -/
theorem lp_255ry_61 {X : Nat × (Nat → Int32)} {P : Option ma_V → (Nat → Nat → Int32) → Prop} {T : Nat} {aa : Nat→Nat→Int32} {ro : Int32} {r1 : Int32} {m0 : Nat → Nat → Int32} (h0 : zV m0) (K : ∀ v m₉, zF wr_255 m0 m₉ → zV m₉ → (zW (m₉ 94 7) (m₉ 98) (m₉ 101) (m₉ 102) (m₉ 108)) → (zGW T (m₉ 94 55) (m₉ 109)) → (zGU T (m₉ 94 46) (m₉ 99)) → (zOw (m₉ 99) (m₉ 103) (m₉ 111)) → (zGG (m₉ 94 58) (m₉ 94 56) (m₉ 94 57) (m₉ 106)) → (qRB (m₉ 99) (m₉ 100) (m₉ 98) (m₉ 101) (m₉ 102) (m₉ 103) (m₉ 107) (m₉ 108) (m₉ 109) (m₉ 111) (m₉ 112) (m₉ 113) (m₉ 114) (m₉ 94 55) (m₉ 94 46) ro 0 0 0 1 (xGr aa r1)) → (qI (xGr aa r1)) → (qMG (m₉ 94 58) (m₉ 106) (m₉ 115) (m₉ 94 57) (m₉ 94 56) (m₉ 99) (m₉ 100) (xGr aa r1)) → ((xGr aa r1) 87 8 = (m₉ 94 58)) → ((m₉ 94 45).toInt = sm (zbU (m₉ 99)) (m₉ 102) 3100) → ((m₉ 99) = (m0 99)) → P (some (.inl v)) m₉) : ∀ (n : Nat) (m : Nat → Nat → Int32) (l1 : Int32) (l2 : Int32) (l3 : Int32), (3100 - l3.toInt).toNat = n → zF wr_255 m0 m → zV m → (0 ≤ l3.toInt) → (0 ≤ l1.toInt) → (l1.toInt ≤ 15) → (l1.toInt = r1.toInt) → (l1 = r1) → (0 ≤ l2.toInt) → (l2.toInt ≤ 3099) → (T ≤ 512) → (1 ≤ (m0 94 55).toInt) → ((m 94 55).toInt = (m0 94 55).toInt - 1) → (l3.toInt ≤ (m 94 55).toInt) → (zW (m 94 7) (m 98) (m 101) (m 102) (m 108)) → (zGW T (m 94 55) (m 109)) → (zGU T (m 94 46) (m 99)) → (zOw (m 99) (m 103) (m 111)) → (zGG (m 94 58) (m 94 56) (m 94 57) (m 106)) → ((m 94 10).toInt = 3 ∧ (m 94 58).toInt = 0) → ((m 94 8).toInt = 1) → (qRB (m 99) (m 100) (m 98) (m 101) (m 102) (m 103) (m 107) (m 108) (m 109) (m 111) (m 112) (m 113) (m0 114) (m0 94 55) (m 94 46) ro 0 0 0 1 aa) → (qI aa) → (qMG (m 94 58) (m 106) (m 115) (m 94 57) (m 94 56) (m 99) (m 100) aa) → (aa 87 8 = (m 94 58)) → ((m 94 45).toInt = sm (zbU (m 99)) (m 102) 3100) → (qSh (m0 114) (m 114) l3.toInt) → ((m 94 55) = (m0 94 55) - 1) → (l2 = (m0 114) 0) → ((m 99) = (m0 99)) → zm X 5 111 255 61 [(0, .inr (.inr (some 94))), (1, .inl l1), (2, .inl l2), (3, .inl l3)] m P := by
  intro n
  induction n using Nat.strongRecOn with
  | _ n IH =>
    intro m l1 l2 l3 hmu hF hV hi0 hi1 hi2 hi3 r_R1e hi5 hi6 hi7 hi8 hi9 hi10 r_W r_GW r_GU r_OW r_GG hi16 hi17 r_RB0 r_QI r_MG r_MK r_WTS r_SHl r_WMe r_L2s r_UE
    refine g_255_61 l1 l2 l3 ?_
    have f1 : 0 ≤ (m0 94 55).toInt ∧ (m0 94 55).toInt ≤ 3100 := rs_94_55 (m := m0) h0
    have f2 : 0 ≤ (m 94 55).toInt ∧ (m 94 55).toInt ≤ 3100 := rs_94_55 (m := m) hV
    have f3 : 0 ≤ (m 94 10).toInt ∧ (m 94 10).toInt ≤ 6 := rs_94_10 (m := m) hV
    have f4 : 0 ≤ (m 94 58).toInt ∧ (m 94 58).toInt ≤ 1 := rs_94_58 (m := m) hV
    have f5 : 0 ≤ (m 94 8).toInt ∧ (m 94 8).toInt ≤ 1 := rs_94_8 (m := m) hV
    have b6 := i_bd l3
    refine zd (fun (h7 : (m 94 55) ≤ l3) => ?_) (fun (h7 : ¬ (m 94 55) ≤ l3) => ?_)
    · skip
      have g8 := i_le h7
      have b9 := i_bd l2
      have hg10 : (0 ≤ l2 ∧ l2.toNatClampNeg < 3100) := i_ix (by omega) (by omega)
      refine ⟨hg10, ?_⟩
      have b11 := i_bd l1
      refine sp_238ry (aa := (aTw aa)) (l1) (l2) hV (by omega) (by omega) (by omega) (by omega) (show (m 94 10).toInt = 3 ∧ (m 94 58).toInt = 0 from by omega) r_W r_GW r_GU r_OW r_GG (show qRB (m 99) (m 100) (m 98) (m 101) (m 102) (m 103) (m 107) (m 108) (m 109) (m 111) (m 112) (m 113) (m 114) (m 94 55) (m 94 46) ro 0 0 0 1 (aTw aa) from by first | (exact RB_tw r_RB0 (by omega) r_SHl (by rw [congrArg Int32.toInt r_WMe] at *; omega) r_WMe) | (exact RB_tw r_RB0 (by omega) r_SHl (by omega) r_WMe) | (exfalso; omega; done) | (exfalso; contradiction; done)) (show qI (aTw aa) from by first | (exact I_tw r_QI (show 0 < (aa 69 5).toInt from by rw [r_RB0.2.2.2.2.1.1]; omega)) | (exfalso; omega; done) | (exfalso; contradiction; done)) (show qMG (m 94 58) (m 106) (m 115) (m 94 57) (m 94 56) (m 99) (m 100) (aTw aa) from by first | (exact MG_tw r_MG (show 0 < (aa 69 5).toInt from by rw [r_RB0.2.2.2.2.1.1]; omega)) | (exfalso; omega; done) | (exfalso; contradiction; done)) (show (aTw aa) 87 8 = (m 94 58) from by first | (rw [(Tw_r (show 0 < (aa 69 5).toInt from by rw [r_RB0.2.2.2.2.1.1]; omega)).2.2.1 87 (by decide) (by decide)]; exact r_MK; done) | (exfalso; omega; done) | (exfalso; contradiction; done)) r_WTS (show qU (m 99) l2 from by first | (rw [r_L2s]; exact Or.inr (r_RB0.2.2.2.2.1.2 0 (by omega)).1.2; done) | (assumption; done) | (exact ow5.1) | (exact ow3.1) | (exfalso; omega; done) | (exfalso; contradiction; done)) (show qMS (m 94 58) (aTw aa) (qNo (m 100) l2) from by first | (rw [r_L2s]; exact MS_tw r_RB0 r_MG (by omega) rfl; done) | (exfalso; omega; done) | (exfalso; contradiction; done)) (fun m1 hV_m1 p0_m1 p1_m1 p2_m1 p3_m1 p4_m1 p5_m1 p6_m1 p7_m1 p8_m1 p9_m1 => zmv_n ?_)
      have p0_m1 : zGW T (m1 94 55) (m1 109) := p0_m1
      have p1_m1 : zGU T (m 94 46) (m1 99) := p1_m1
      have p2_m1 : zOw (m1 99) (m 103) (m1 111) := p2_m1
      have p3_m1 : zGG (m 94 58) (m1 94 56) (m 94 57) (m1 106) := p3_m1
      have p4_m1 : qRB (m1 99) (m 100) (m 98) (m 101) (m 102) (m 103) (m 107) (m 108) (m1 109) (m1 111) (m1 112) (m1 113) (m1 114) (m1 94 55) (m 94 46) ro 0 0 0 1 (aRt (aTw aa) l1 (qNo (m 100) l2)) := p4_m1
      have p5_m1 : qI (aRt (aTw aa) l1 (qNo (m 100) l2)) := p5_m1
      have p6_m1 : qMG (m 94 58) (m1 106) (m1 115) (m 94 57) (m1 94 56) (m1 99) (m 100) (aRt (aTw aa) l1 (qNo (m 100) l2)) := p6_m1
      have p7_m1 : (aRt (aTw aa) l1 (qNo (m 100) l2)) 87 8 = (m 94 58) := p7_m1
      have p8_m1 : (m1 94 45).toInt = sm (zbU (m1 99)) (m 102) 3100 := p8_m1
      have p9_m1 : (m1 99) = (m 99) := p9_m1
      refine sp_241rm (l2) hV_m1 (show ((m 94 10).toInt = 1 ∨ (m 94 10).toInt = 2 ∨ (m 94 10).toInt = 3 ∨ (m 94 10).toInt = 6) ∧ (m 94 58).toInt = 0 from by omega) (fun m3 hV_m3 p0_m3 => zmv_n ?_)
      have p0_m3 : (m3 99) = (m1 99) ∧ (m3 105) = (m1 105) ∧ (m3 109) = (m1 109) ∧ (m3 111) = (m1 111) ∧ (m3 113) = (m1 113) ∧ (m3 114) = (m1 114) ∧ (m3 94 55) = (m1 94 55) ∧ (m3 94 45) = (m1 94 45) := p0_m3
      try have rgb := rs_94_64 hV
      try have lel := LE_lo p0_m3
      try have lex3 := LE_ex p0_m3 (lexi (by omega))
      try have lexi := LE_some p0_m3
      first | have f12 : 0 ≤ (m 100 l2.toNatClampNeg).toInt ∧ (m 100 l2.toNatClampNeg).toInt ≤ 100000 := ra_100 (m := m) hV (k := l2.toNatClampNeg) (i_ix (n := 3100) (by omega) (by omega)).2 | have b13 := i_bd (m 100 l2.toNatClampNeg)
      exact K ((m 100 l2.toNatClampNeg)) _ (zF_zov (zF_zov hF ws_238_255) ws_241_255) hV_m3 r_W (show zGW T (m3 94 55) (m3 109) from by first | (rw [p0_m3.2.2.1, p0_m3.2.2.2.2.2.2.1]; exact p0_m1; done) | (exfalso; omega; done) | (exfalso; contradiction; done)) (show zGU T (m 94 46) (m3 99) from by first | (rw [p0_m3.1]; exact p1_m1; done) | (exact GU_0 p1_m1) | (exfalso; omega; done) | (exfalso; contradiction; done)) (show zOw (m3 99) (m 103) (m3 111) from by first | (rw [p0_m3.1, p0_m3.2.2.2.1]; exact p2_m1; done) | (exact Ow_rm p2_m1 (by decide) (tn_cast (by omega)).symm) | (exfalso; omega; done) | (exfalso; contradiction; done)) p3_m1 (show qRB (m3 99) (m 100) (m 98) (m 101) (m 102) (m 103) (m 107) (m 108) (m3 109) (m3 111) (m1 112) (m3 113) (m3 114) (m3 94 55) (m 94 46) ro 0 0 0 1 (xGr aa r1) from by first | (rw [Gr_y r_RB0 (by omega) (by omega) (by omega), ← r_L2s, ← r_R1e]; rw [p0_m3.1, p0_m3.2.2.1, p0_m3.2.2.2.1, p0_m3.2.2.2.2.1, p0_m3.2.2.2.2.2.1, p0_m3.2.2.2.2.2.2.1]; exact p4_m1; done) | (exfalso; omega; done) | (exfalso; contradiction; done)) (show qI (xGr aa r1) from by first | (rw [Gr_y r_RB0 (by omega) (by omega) (by omega), ← r_L2s, ← r_R1e]; exact p5_m1; done) | (exfalso; omega; done) | (exfalso; contradiction; done)) (show qMG (m 94 58) (m1 106) (m1 115) (m 94 57) (m1 94 56) (m3 99) (m 100) (xGr aa r1) from by first | (rw [Gr_y r_RB0 (by omega) (by omega) (by omega), ← r_L2s, ← r_R1e]; rw [p0_m3.1]; exact p6_m1; done) | (exfalso; omega; done) | (exfalso; contradiction; done)) (show (xGr aa r1) 87 8 = (m 94 58) from by first | (rw [Gr_y r_RB0 (by omega) (by omega) (by omega), ← r_L2s, ← r_R1e]; exact p7_m1; done) | (exfalso; omega; done) | (exfalso; contradiction; done)) (show (m3 94 45).toInt = sm (zbU (m3 99)) (m 102) 3100 from by first | (rw [p0_m3.1, p0_m3.2.2.2.2.2.2.2]; exact p8_m1; done) | (exfalso; omega; done) | (exfalso; contradiction; done)) (show (m3 99) = (m0 99) from by first | (exact ((p0_m3.1).trans (p9_m1)).trans (r_UE)) | (exfalso; omega; done) | (exfalso; contradiction; done))
    · skip
      have g14 := i_nle h7
      first | have e15 : (l3 + (1 : Int32)).toInt = l3.toInt + (1) := i_addk rfl (by omega) (by omega) | have b16 := i_bd (l3 + (1 : Int32))
      have hg17 : (0 ≤ (l3 + (1 : Int32)) ∧ (l3 + (1 : Int32)).toNatClampNeg < 3100) := i_ix (by omega) (by omega)
      refine ⟨hg17, ?_⟩
      have hg18 : (0 ≤ l3 ∧ l3.toNatClampNeg < 3100) := i_ix (by omega) (by omega)
      refine ⟨hg18, ?_⟩
      first | have f20 : 0 ≤ (m 114 (l3 + (1 : Int32)).toNatClampNeg).toInt ∧ (m 114 (l3 + (1 : Int32)).toNatClampNeg).toInt ≤ 3099 := ra_114 (m := m) hV (k := (l3 + (1 : Int32)).toNatClampNeg) (i_ix (n := 3100) (by omega) (by omega)).2 | have b21 := i_bd (m 114 (l3 + (1 : Int32)).toNatClampNeg)
      have hV19 : zV (ma_u m 114 l3.toNatClampNeg (m 114 (l3 + (1 : Int32)).toNatClampNeg)) := ua_114 hV (by omega) (by omega)
      have b22 := i_bd l1
      have b23 := i_bd l2
      exact IH (3100 - (l3 + (1 : Int32)).toInt).toNat (by omega) _ (l1) (l2) ((l3 + (1 : Int32))) rfl (zF_u hF rfl) hV19 (by omega) (by omega) (by omega) (by omega) r_R1e (by omega) (by omega) (by omega) (show 1 ≤ (m0 94 55).toInt from by omega) (show (m 94 55).toInt = (m0 94 55).toInt - 1 from by omega) (show (l3 + (1 : Int32)).toInt ≤ (m 94 55).toInt from by omega) r_W r_GW r_GU r_OW r_GG (show (m 94 10).toInt = 3 ∧ (m 94 58).toInt = 0 from by omega) (show (m 94 8).toInt = 1 from by omega) r_RB0 r_QI r_MG r_MK r_WTS (show qSh (m0 114) ((ma_u m 114 l3.toNatClampNeg (m 114 (l3 + (1 : Int32)).toNatClampNeg)) 114) (l3 + (1 : Int32)).toInt from by first | (exact Sh_s r_SHl (by omega) (by omega) (by omega)) | (exfalso; omega; done) | (exfalso; contradiction; done)) r_WMe r_L2s r_UE
theorem sp_255ry {X : Nat × (Nat → Int32)} {P : Option ma_V → (Nat → Nat → Int32) → Prop} {T : Nat} {aa : Nat→Nat→Int32} {ro : Int32} {m : Nat → Nat → Int32} (r1 : Int32) (hV : zV m) (hpre0 : T ≤ 512) (r_W : zW (m 94 7) (m 98) (m 101) (m 102) (m 108)) (r_GW : zGW T (m 94 55) (m 109)) (r_GU : zGU T (m 94 46) (m 99)) (r_OW : zOw (m 99) (m 103) (m 111)) (r_GG : zGG (m 94 58) (m 94 56) (m 94 57) (m 106)) (hpre6 : (m 94 10).toInt = 3 ∧ (m 94 58).toInt = 0) (hpre7 : (m 94 8).toInt = 1) (r_RB : qRB (m 99) (m 100) (m 98) (m 101) (m 102) (m 103) (m 107) (m 108) (m 109) (m 111) (m 112) (m 113) (m 114) (m 94 55) (m 94 46) ro 0 0 0 1 aa) (r_QI : qI aa) (r_MG : qMG (m 94 58) (m 106) (m 115) (m 94 57) (m 94 56) (m 99) (m 100) aa) (r_MK : aa 87 8 = (m 94 58)) (r_WTS : (m 94 45).toInt = sm (zbU (m 99)) (m 102) 3100) (KZ : ∀ v m₉, zV (zov wr_255 m m₉) → (zW (m 94 7) (m 98) (m 101) (m 102) (m 108)) → (zGW T (m₉ 94 55) (m₉ 109)) → (zGU T (m 94 46) (m₉ 99)) → (zOw (m₉ 99) (m 103) (m₉ 111)) → (zGG (m 94 58) (m₉ 94 56) (m 94 57) (m₉ 106)) → (qRB (m₉ 99) (m 100) (m 98) (m 101) (m 102) (m 103) (m 107) (m 108) (m₉ 109) (m₉ 111) (m₉ 112) (m₉ 113) (m₉ 114) (m₉ 94 55) (m 94 46) ro 0 0 0 1 (xGr aa r1)) → (qI (xGr aa r1)) → (qMG (m 94 58) (m₉ 106) (m₉ 115) (m 94 57) (m₉ 94 56) (m₉ 99) (m 100) (xGr aa r1)) → ((xGr aa r1) 87 8 = (m 94 58)) → ((m₉ 94 45).toInt = sm (zbU (m₉ 99)) (m 102) 3100) → ((m₉ 99) = (m 99)) → P (some (.inl v)) (zov wr_255 m m₉)) : zm X 5 111 255 0 [(0, .inr (.inr (some 94))), (1, .inl r1)] m P := by
  have K : ∀ v m₉, zF wr_255 m m₉ → zV m₉ → (zW (m₉ 94 7) (m₉ 98) (m₉ 101) (m₉ 102) (m₉ 108)) → (zGW T (m₉ 94 55) (m₉ 109)) → (zGU T (m₉ 94 46) (m₉ 99)) → (zOw (m₉ 99) (m₉ 103) (m₉ 111)) → (zGG (m₉ 94 58) (m₉ 94 56) (m₉ 94 57) (m₉ 106)) → (qRB (m₉ 99) (m₉ 100) (m₉ 98) (m₉ 101) (m₉ 102) (m₉ 103) (m₉ 107) (m₉ 108) (m₉ 109) (m₉ 111) (m₉ 112) (m₉ 113) (m₉ 114) (m₉ 94 55) (m₉ 94 46) ro 0 0 0 1 (xGr aa r1)) → (qI (xGr aa r1)) → (qMG (m₉ 94 58) (m₉ 106) (m₉ 115) (m₉ 94 57) (m₉ 94 56) (m₉ 99) (m₉ 100) (xGr aa r1)) → ((xGr aa r1) 87 8 = (m₉ 94 58)) → ((m₉ 94 45).toInt = sm (zbU (m₉ 99)) (m₉ 102) 3100) → ((m₉ 99) = (m 99)) → P (some (.inl v)) m₉ := by
    intro v m₉ hf z q0 q1 q2 q3 q4 q5 q6 q7 q8 q9 q10
    have e := zov_eq hf
    rw [e] at z ⊢
    try rw [e] at q0
    try rw [e] at q1
    try rw [e] at q2
    try rw [e] at q3
    try rw [e] at q4
    try rw [e] at q5
    try rw [e] at q6
    try rw [e] at q7
    try rw [e] at q8
    try rw [e] at q9
    try rw [e] at q10
    exact KZ v m₉ z q0 q1 q2 q3 q4 q5 q6 q7 q8 q9 q10
  refine g_255_0 r1 ?_
  have f1 : 0 ≤ (m 94 10).toInt ∧ (m 94 10).toInt ≤ 6 := rs_94_10 (m := m) hV
  have f2 : 0 ≤ (m 94 58).toInt ∧ (m 94 58).toInt ≤ 1 := rs_94_58 (m := m) hV
  have f3 : 0 ≤ (m 94 8).toInt ∧ (m 94 8).toInt ≤ 1 := rs_94_8 (m := m) hV
  have b4 := i_bd r1
  have li5 : (0 : Int32).toInt = 0 := rfl
  refine zd (fun (h6 : r1 < (0 : Int32)) => ?_) (fun (h6 : ¬ r1 < (0 : Int32)) => ?_)
  · skip
    have g7 := i_lt h6
    have hV8 : zV (ma_u m 94 0 (1 : Int32)) := uf_94_0 hV
    exact K ((0 : Int32)) _ (zF_u zF_rfl rfl) hV8 r_W r_GW r_GU r_OW r_GG (show qRB (m 99) (m 100) (m 98) (m 101) (m 102) (m 103) (m 107) (m 108) (m 109) (m 111) (m 112) (m 113) (m 114) (m 94 55) (m 94 46) ro 0 0 0 1 (xGr aa r1) from by first | (unfold xGr; rw [qIf_n (fun w => by have w1 := w.1; have w2 := w.2; omega)]; exact r_RB; done) | (rw [Gr_0 r_RB (i_zer (by omega))]; exact r_RB; done) | (exfalso; omega; done) | (exfalso; contradiction; done)) (show qI (xGr aa r1) from by first | (unfold xGr; rw [qIf_n (fun w => by have w1 := w.1; have w2 := w.2; omega)]; exact r_QI; done) | (rw [Gr_0 r_RB (i_zer (by omega))]; exact r_QI; done) | (exfalso; omega; done) | (exfalso; contradiction; done)) (show qMG (m 94 58) (m 106) (m 115) (m 94 57) (m 94 56) (m 99) (m 100) (xGr aa r1) from by first | (unfold xGr; rw [qIf_n (fun w => by have w1 := w.1; have w2 := w.2; omega)]; exact r_MG; done) | (rw [Gr_0 r_RB (i_zer (by omega))]; exact r_MG; done) | (exfalso; omega; done) | (exfalso; contradiction; done)) (show (xGr aa r1) 87 8 = (m 94 58) from by first | (unfold xGr; rw [qIf_n (fun w => by have w1 := w.1; have w2 := w.2; omega)]; exact r_MK; done) | (rw [Gr_0 r_RB (i_zer (by omega))]; exact r_MK; done) | (exfalso; omega; done) | (exfalso; contradiction; done)) r_WTS (show (m 99) = (m 99) from by first | (exact rfl) | (exfalso; omega; done) | (exfalso; contradiction; done))
  · skip
    have g9 := i_nlt h6
    have li10 : (16 : Int32).toInt = 16 := rfl
    refine zd (fun (h11 : (16 : Int32) ≤ r1) => ?_) (fun (h11 : ¬ (16 : Int32) ≤ r1) => ?_)
    · skip
      have g12 := i_le h11
      have hV13 : zV (ma_u m 94 0 (1 : Int32)) := uf_94_0 hV
      exact K ((0 : Int32)) _ (zF_u zF_rfl rfl) hV13 r_W r_GW r_GU r_OW r_GG (show qRB (m 99) (m 100) (m 98) (m 101) (m 102) (m 103) (m 107) (m 108) (m 109) (m 111) (m 112) (m 113) (m 114) (m 94 55) (m 94 46) ro 0 0 0 1 (xGr aa r1) from by first | (unfold xGr; rw [qIf_n (fun w => by have w1 := w.1; have w2 := w.2; omega)]; exact r_RB; done) | (rw [Gr_0 r_RB (i_zer (by omega))]; exact r_RB; done) | (exfalso; omega; done) | (exfalso; contradiction; done)) (show qI (xGr aa r1) from by first | (unfold xGr; rw [qIf_n (fun w => by have w1 := w.1; have w2 := w.2; omega)]; exact r_QI; done) | (rw [Gr_0 r_RB (i_zer (by omega))]; exact r_QI; done) | (exfalso; omega; done) | (exfalso; contradiction; done)) (show qMG (m 94 58) (m 106) (m 115) (m 94 57) (m 94 56) (m 99) (m 100) (xGr aa r1) from by first | (unfold xGr; rw [qIf_n (fun w => by have w1 := w.1; have w2 := w.2; omega)]; exact r_MG; done) | (rw [Gr_0 r_RB (i_zer (by omega))]; exact r_MG; done) | (exfalso; omega; done) | (exfalso; contradiction; done)) (show (xGr aa r1) 87 8 = (m 94 58) from by first | (unfold xGr; rw [qIf_n (fun w => by have w1 := w.1; have w2 := w.2; omega)]; exact r_MK; done) | (rw [Gr_0 r_RB (i_zer (by omega))]; exact r_MK; done) | (exfalso; omega; done) | (exfalso; contradiction; done)) r_WTS (show (m 99) = (m 99) from by first | (exact rfl) | (exfalso; omega; done) | (exfalso; contradiction; done))
    · skip
      have g14 := i_nle h11
      refine zd (fun (h15 : (m 94 8) = (0 : Int32)) => ?_) (fun (h15 : ¬ (m 94 8) = (0 : Int32)) => ?_)
      · skip
        have g16 := i_eq h15
        exfalso; omega
      · skip
        have g17 := i_ne h15
        have f18 : 0 ≤ (m 94 55).toInt ∧ (m 94 55).toInt ≤ 3100 := rs_94_55 (m := m) hV
        refine zd (fun (h19 : (m 94 55) = (0 : Int32)) => ?_) (fun (h19 : ¬ (m 94 55) = (0 : Int32)) => ?_)
        · skip
          have g20 := i_eq h19
          have hV21 : zV (ma_u m 94 0 (0 : Int32)) := uf_94_0 hV
          have li22 : (-1 : Int32).toInt = -1 := rfl
          exact K ((-1 : Int32)) _ (zF_u zF_rfl rfl) hV21 r_W r_GW r_GU r_OW r_GG (show qRB (m 99) (m 100) (m 98) (m 101) (m 102) (m 103) (m 107) (m 108) (m 109) (m 111) (m 112) (m 113) (m 114) (m 94 55) (m 94 46) ro 0 0 0 1 (xGr aa r1) from by first | (unfold xGr; rw [qIf_n (fun w => by have w1 := w.1; have w2 := w.2; omega)]; exact r_RB; done) | (rw [Gr_0 r_RB (i_zer (by omega))]; exact r_RB; done) | (exfalso; omega; done) | (exfalso; contradiction; done)) (show qI (xGr aa r1) from by first | (unfold xGr; rw [qIf_n (fun w => by have w1 := w.1; have w2 := w.2; omega)]; exact r_QI; done) | (rw [Gr_0 r_RB (i_zer (by omega))]; exact r_QI; done) | (exfalso; omega; done) | (exfalso; contradiction; done)) (show qMG (m 94 58) (m 106) (m 115) (m 94 57) (m 94 56) (m 99) (m 100) (xGr aa r1) from by first | (unfold xGr; rw [qIf_n (fun w => by have w1 := w.1; have w2 := w.2; omega)]; exact r_MG; done) | (rw [Gr_0 r_RB (i_zer (by omega))]; exact r_MG; done) | (exfalso; omega; done) | (exfalso; contradiction; done)) (show (xGr aa r1) 87 8 = (m 94 58) from by first | (unfold xGr; rw [qIf_n (fun w => by have w1 := w.1; have w2 := w.2; omega)]; exact r_MK; done) | (rw [Gr_0 r_RB (i_zer (by omega))]; exact r_MK; done) | (exfalso; omega; done) | (exfalso; contradiction; done)) r_WTS (show (m 99) = (m 99) from by first | (exact rfl) | (exfalso; omega; done) | (exfalso; contradiction; done))
        · skip
          have g23 := i_ne h19
          have hV24 : zV (ma_u m 94 0 (0 : Int32)) := uf_94_0 hV
          first | have e26 : ((m 94 55) - (1 : Int32)).toInt = (m 94 55).toInt - (1) := i_subk rfl (by omega) (by omega) | have b27 := i_bd ((m 94 55) - (1 : Int32))
          have hV25 : zV (ma_u (ma_u m 94 0 (0 : Int32)) 94 55 ((m 94 55) - (1 : Int32))) := us_94_55 hV24 (by omega) (by omega)
          have f28 : 0 ≤ (m 114 0).toInt ∧ (m 114 0).toInt ≤ 3099 := ra_114 (m := m) hV (k := 0) (by decide)
          exact lp_255ry_61 (r1 := r1) hV K _ _ (r1) ((m 114 0)) ((0 : Int32)) rfl (zF_u (zF_u zF_rfl rfl) rfl) hV25 (by omega) (by omega) (by omega) (by omega) (show r1 = r1 from by first | (exact rfl) | (exfalso; omega; done) | (exfalso; contradiction; done)) (by omega) (by omega) (by omega) (show 1 ≤ (m 94 55).toInt from by omega) (show ((m 94 55) - (1 : Int32)).toInt = (m 94 55).toInt - 1 from by omega) (show (0 : Int32).toInt ≤ ((m 94 55) - (1 : Int32)).toInt from by omega) r_W (show zGW T ((m 94 55) - (1 : Int32)) (m 109) from by first | (exact GW_le r_GW (by omega)) | (exfalso; omega; done) | (exfalso; contradiction; done)) r_GU r_OW r_GG (show (m 94 10).toInt = 3 ∧ (m 94 58).toInt = 0 from by omega) (show (m 94 8).toInt = 1 from by omega) (show qRB (m 99) (m 100) (m 98) (m 101) (m 102) (m 103) (m 107) (m 108) (m 109) (m 111) (m 112) (m 113) (m 114) (m 94 55) (m 94 46) ro 0 0 0 1 aa from by first | (exact r_RB) | (exfalso; omega; done) | (exfalso; contradiction; done)) r_QI r_MG r_MK r_WTS (show qSh (m 114) (m 114) (0 : Int32).toInt from by first | (exact Sh_0 (by decide)) | (exfalso; omega; done) | (exfalso; contradiction; done)) (show ((m 94 55) - (1 : Int32)) = (m 94 55) - 1 from by first | (exact rfl) | (exfalso; omega; done) | (exfalso; contradiction; done)) (show (m 114 0) = (m 114) 0 from by first | (exact rfl) | (exfalso; omega; done) | (exfalso; contradiction; done)) (show (m 99) = (m 99) from by first | (exact rfl) | (exfalso; omega; done) | (exfalso; contradiction; done))

/-! from 95.v16 -/
/-! AGES, the reference (written by wip/tools/gen15v.py) -/
set_option maxHeartbeats 8000000 in
theorem lp_183ry_142 {X : Nat × (Nat → Int32)} {P : Option ma_V → (Nat → Nat → Int32) → Prop} {T : Nat} {aa : Nat→Nat→Int32} {ro : Int32} {LL : Int64} {kk : Int32} {nn : Int32} {r1 : Int32} {m0 : Nat → Nat → Int32} (h0 : zV m0) (K : ∀ v m₉, zF wr_183 m0 m₉ → zV m₉ → (zW (m₉ 94 7) (m₉ 98) (m₉ 101) (m₉ 102) (m₉ 108)) → (zGW (T + 1) (m₉ 94 55) (m₉ 109)) → (zGU (T + 1) (m₉ 94 46) (m₉ 99)) → (zOw (m₉ 99) (m₉ 103) (m₉ 111)) → (zGG (m₉ 94 58) (m₉ 94 56) (m₉ 94 57) (m₉ 106)) → (qRB (m₉ 99) (m₉ 100) (m₉ 98) (m₉ 101) (m₉ 102) (m₉ 103) (m₉ 107) (m₉ 108) (m₉ 109) (m₉ 111) (m₉ 112) (m₉ 113) (m₉ 114) (m₉ 94 55) (m₉ 94 46) ro 0 0 0 1 (yMk aa kk nn LL r1)) → (qMG (m₉ 94 58) (m₉ 106) (m₉ 115) (m₉ 94 57) (m₉ 94 56) (m₉ 99) (m₉ 100) (yMk aa kk nn LL r1)) → ((yMk aa kk nn LL r1) 87 8 = (m₉ 94 58)) → ((m₉ 94 45).toInt = sm (zbU (m₉ 99)) (m₉ 102) 3100) → ((m₉ 94 58).toInt = 0) → (v = yMn aa nn) → (qAv (yMk aa kk nn LL r1)) → (qAL (yMk aa kk nn LL r1) (m₉ 94 13) (m₉ 94 14) (m₉ 94 15) (m₉ 94 16) (m₉ 94 59) (m₉ 94 60) (m₉ 94 61)) → (qAg (m₉ 99) (m₉ 100) (m₉ 104) (yMk aa kk nn LL r1)) → (qDt (m₉ 117) (yMk aa kk nn LL r1)) → P (some (.inl v)) m₉) : ∀ (n : Nat) (m : Nat → Nat → Int32) (l2 : Int32) (l3 : Int32) (l4 : Int32) (l5 : Int32) (l6 : Int32), (61 - l6.toInt).toNat = n → zF wr_183 m0 m → zV m → (l2.toInt = nn.toInt) → (0 ≤ l2.toInt) → (l2.toInt ≤ 60) → (0 ≤ l3.toInt) → (l3.toInt ≤ 15) → (0 ≤ l4.toInt) → (l4.toInt ≤ 4500) → (0 ≤ l5.toInt) → (l5.toInt ≤ 3099) → (T + 1 ≤ 512) → (0 ≤ l6.toInt) → ((m 94 10).toInt = 3 ∧ (m 94 58).toInt = 0) → ((m 94 8).toInt = 1) → ((m 94 46).toInt ≤ 511) → (l2 = nn) → (l3 = r1) → (qEq l4.toInt (gRp aa (nn + (1 : Int32)).toInt)) → ((m 102 l5.toNatClampNeg).toInt = l2.toInt) → ((m 99) l5.toNatClampNeg ≠ 0) → (zGUp T (m 94 46) (m 99)) → (zOw (m 99) (m 103) (m 111)) → (zGG (m 94 58) (m 94 56) (m 94 57) (m 106)) → (qI (yFt aa (nn + (1 : Int32)) l4)) → (qNs (m 99) (m 100) (m 98) (m 101) (m 102) (m 103) (m 107) (m 108) (m 109) (m 111) (m 112) (m 113) (m 114) (m 94 55) (m 94 46) ro 0 0 0 1 (yFt aa (nn + (1 : Int32)) l4) l5.toNatClampNeg (m 94 46) kk nn l4) → (qMG (m 94 58) (m 106) (m 115) (m 94 57) (m 94 56) (zmk (m 99) l5.toNatClampNeg) (m 100) (yFt aa (nn + (1 : Int32)) l4)) → ((yFt aa (nn + (1 : Int32)) l4) 87 8 = (m 94 58)) → ((m 94 45).toInt = sm (zbU (zmk (m 99) l5.toNatClampNeg)) (m 102) 3100) → (∀ j : Nat, (j : Int) < nn.toInt → (zbit LL (Int32.ofNat j) ≠ 0 ↔ (kk = 16 ∨ (kk < 16 ∧ (((m 98) kk.toNatClampNeg >>> (Int32.ofNat j &&& 31)) &&& 1) = 1)))) → ((aa 69 6).toInt < 512) → (aa 87 2 = 0) → (zWn (m 94 7) (m 98) (m 101) (m 102) (m 108) l5.toNatClampNeg l6.toNatClampNeg) → (zGW (T + 1) (m 94 55) (m 109)) → (qCo (m 94 58) (m 106) l5.toNatClampNeg) → ((m 107) l5.toNatClampNeg = 0) → ((m 109) l5.toNatClampNeg = 0) → (qAv (gRs aa (nn + (1 : Int32)).toInt)) → (qAL (yFt aa (nn + (1 : Int32)) l4) (m 94 13) (m 94 14) (m 94 15) (m 94 16) (m 94 59) (m 94 60) (m 94 61)) → (qDt (m 117) (yFt aa (nn + (1 : Int32)) l4)) → (qAg (zmk (m 99) l5.toNatClampNeg) (m 100) (m 104) (yFt aa (nn + (1 : Int32)) l4)) → ((m 104) l5.toNatClampNeg = 0) → zm X 9 198 183 142 [(0, .inr (.inr (some 94))), (2, .inl l2), (3, .inl l3), (4, .inl l4), (5, .inl l5), (6, .inl l6)] m P := by
  intro n
  induction n using Nat.strongRecOn with
  | _ n IH =>
    intro m l2 l3 l4 l5 l6 hmu hF hV hi0 hi1 hi2 hi3 hi4 hi5 hi6 hi7 hi8 hi9 hi10 hi11 hi12 hi13 r_L2n r_L3r r_PLq hi17 r_USn r_GUp r_OW r_GG r_QIb r_NS r_MGz r_MKb r_WTz r_BTS r_N6 r_Q0 r_WN r_GW r_COs r_HOs r_WIs r_AVs r_ALb r_DTb r_AGz r_GS0
    refine g_183_142 l2 l3 l4 l5 l6 ?_
    have f1 : 0 ≤ (m 94 10).toInt ∧ (m 94 10).toInt ≤ 6 := rs_94_10 (m := m) hV
    have f2 : 0 ≤ (m 94 58).toInt ∧ (m 94 58).toInt ≤ 1 := rs_94_58 (m := m) hV
    have f3 : 0 ≤ (m 94 8).toInt ∧ (m 94 8).toInt ≤ 1 := rs_94_8 (m := m) hV
    have f4 : 0 ≤ (m 94 46).toInt ∧ (m 94 46).toInt ≤ 100000 := rs_94_46 (m := m) hV
    have b5 := i_bd l5
    first | have f6 : 0 ≤ (m 102 l5.toNatClampNeg).toInt ∧ (m 102 l5.toNatClampNeg).toInt ≤ 60 := ra_102 (m := m) hV (k := l5.toNatClampNeg) (i_ix (n := 3100) (by omega) (by omega)).2 | have b7 := i_bd (m 102 l5.toNatClampNeg)
    have b8 := i_bd l2
    have b9 := i_bd l6
    refine zd (fun (h10 : l2 ≤ l6) => ?_) (fun (h10 : ¬ l2 ≤ l6) => ?_)
    · skip
      have g11 := i_le h10
      have b12 := i_bd l3
      first | have e14 : ((m 94 46) + (1 : Int32)).toInt = (m 94 46).toInt + (1) := i_addk rfl (by omega) (by omega) | have b15 := i_bd ((m 94 46) + (1 : Int32))
      have hV13 : zV (ma_u m 94 46 ((m 94 46) + (1 : Int32))) := us_94_46 hV (by omega) (by omega)
      have hV16 : zV (ma_u (ma_u m 94 46 ((m 94 46) + (1 : Int32))) 94 44 ((m 94 44) + (1 : Int32))) := uf_94_44 hV13
      have hV17 : zV (ma_u (ma_u (ma_u m 94 46 ((m 94 46) + (1 : Int32))) 94 44 ((m 94 44) + (1 : Int32))) 94 45 ((m 94 45) + (l2 + (1 : Int32)))) := uf_94_45 hV16
      have b19 := i_bd l4
      first | have e20 : (l4 + l2).toInt = l4.toInt + l2.toInt := i_add (by omega) (by omega) | have b21 := i_bd (l4 + l2)
      first | have e22 : ((l4 + l2) + (1 : Int32)).toInt = (l4 + l2).toInt + (1) := i_addk rfl (by omega) (by omega) | have b23 := i_bd ((l4 + l2) + (1 : Int32))
      have hV18 : zV (ma_u (ma_u (ma_u (ma_u m 94 46 ((m 94 46) + (1 : Int32))) 94 44 ((m 94 44) + (1 : Int32))) 94 45 ((m 94 45) + (l2 + (1 : Int32)))) 94 62 ((l4 + l2) + (1 : Int32))) := us_94_62 hV17 (by omega) (by omega)
      refine sp_238ry (T := (T + 1)) (aa := (aAd (yFt aa (nn + (1 : Int32)) l4) (m 94 46) (zFn (m 94 46) kk (nn + (1 : Int32)) l4) LL)) (l3) (l5) hV18 (by omega) (by omega) (by omega) (by omega) (show (m 94 10).toInt = 3 ∧ (m 94 58).toInt = 0 from by omega) (show zW (m 94 7) (m 98) (m 101) (m 102) (m 108) from by first | (exact Wn_end r_WN (by rw [tn_cast (x := l6) (by omega)]; omega)) | (exfalso; omega; done) | (exfalso; contradiction; done)) r_GW (show zGU (T + 1) ((m 94 46) + (1 : Int32)) (m 99) from by first | (exact GUp_end r_GUp (by omega)) | (exfalso; omega; done) | (exfalso; contradiction; done)) r_OW r_GG (show qRB (m 99) (m 100) (m 98) (m 101) (m 102) (m 103) (m 107) (m 108) (m 109) (m 111) (m 112) (m 113) (m 114) (m 94 55) ((m 94 46) + (1 : Int32)) ro 0 0 0 1 (aAd (yFt aa (nn + (1 : Int32)) l4) (m 94 46) (zFn (m 94 46) kk (nn + (1 : Int32)) l4) LL) from by first | (rw [← (hd_0 ((Yf_7 (by decide) (by decide) (by decide)).trans r_Q0) (r_MKb.trans (i_zer (by omega))))]; exact RB_872 (RB_nz r_NS (Ne_y r_AVs r_PLq (by omega) (by omega) (by omega) r_NS.1.2.2.2.2.2.2.2.1 (by omega)) (Ad_of (b := (yFt aa (nn + (1 : Int32)) l4)) (y := (m 94 46)) (kk := kk) (w := nn) (pl := l4) (L := LL) (by omega) (by omega) (by omega) (by omega) (by omega)) (tn_lt (by omega) (by omega)) r_HOs r_WIs (fun j hj => r_WN.2.1 j (by have := tn_cast (x := l6) (by omega); omega)) (fun j hj => (r_BTS j hj).trans (by unfold qIr; rw [r_NS.2.2.2.1])) rfl); done) | (exfalso; omega; done) | (exfalso; contradiction; done)) (show qI (aAd (yFt aa (nn + (1 : Int32)) l4) (m 94 46) (zFn (m 94 46) kk (nn + (1 : Int32)) l4) LL) from by first | (rw [← (hd_0 ((Yf_7 (by decide) (by decide) (by decide)).trans r_Q0) (r_MKb.trans (i_zer (by omega))))]; exact I_872 (I_ad (Ne_y r_AVs r_PLq (by omega) (by omega) (by omega) r_NS.1.2.2.2.2.2.2.2.1 (by omega)) (Ad_of (b := (yFt aa (nn + (1 : Int32)) l4)) (y := (m 94 46)) (kk := kk) (w := nn) (pl := l4) (L := LL) (by omega) (by omega) (by omega) (by omega) (by omega))) (by decide) (I_ad (Ne_y r_AVs r_PLq (by omega) (by omega) (by omega) r_NS.1.2.2.2.2.2.2.2.1 (by omega)) (Ad_of (b := (yFt aa (nn + (1 : Int32)) l4)) (y := (m 94 46)) (kk := kk) (w := nn) (pl := l4) (L := LL) (by omega) (by omega) (by omega) (by omega) (by omega))).2.2.2.1.2.2.1.1 (Gd_0 (I_ad (Ne_y r_AVs r_PLq (by omega) (by omega) (by omega) r_NS.1.2.2.2.2.2.2.2.1 (by omega)) (Ad_of (b := (yFt aa (nn + (1 : Int32)) l4)) (y := (m 94 46)) (kk := kk) (w := nn) (pl := l4) (L := LL) (by omega) (by omega) (by omega) (by omega) (by omega)))); done) | (exfalso; omega; done) | (exfalso; contradiction; done)) (show qMG (m 94 58) (m 106) (m 115) (m 94 57) (m 94 56) (m 99) (m 100) (aAd (yFt aa (nn + (1 : Int32)) l4) (m 94 46) (zFn (m 94 46) kk (nn + (1 : Int32)) l4) LL) from by first | (exact fun z => absurd (by omega) z) | (exfalso; omega; done) | (exfalso; contradiction; done)) (show (aAd (yFt aa (nn + (1 : Int32)) l4) (m 94 46) (zFn (m 94 46) kk (nn + (1 : Int32)) l4) LL) 87 8 = (m 94 58) from by first | (exact ad_87.trans r_MKb) | (exfalso; omega; done) | (exfalso; contradiction; done)) (show ((m 94 45) + (l2 + (1 : Int32))).toInt = sm (zbU (m 99)) (m 102) 3100 from by first | (have q := WT_ad r_WTz (tn_lt (by omega) (by omega)) r_USn (fun t ht => ra_102 hV ht); rw [r_NS.2.2.2.2.1, ← r_L2n] at q; exact q; done) | (exfalso; omega; done) | (exfalso; contradiction; done)) (show qU (m 99) l5 from by first | (exact Or.inr ⟨by omega, r_USn⟩) | (assumption; done) | (exact ow5.1) | (exact ow3.1) | (exfalso; omega; done) | (exfalso; contradiction; done)) (show qMS (m 94 58) (aAd (yFt aa (nn + (1 : Int32)) l4) (m 94 46) (zFn (m 94 46) kk (nn + (1 : Int32)) l4) LL) (qNo (m 100) l5) from by first | (exact fun z => absurd (by omega) z) | (exfalso; omega; done) | (exfalso; contradiction; done)) (fun m1 hV_m1 p0_m1 p1_m1 p2_m1 p3_m1 p4_m1 p5_m1 p6_m1 p7_m1 p8_m1 p9_m1 => zmv_n ?_)
      have p0_m1 : zGW (T + 1) (m1 94 55) (m1 109) := p0_m1
      have p1_m1 : zGU (T + 1) ((m 94 46) + (1 : Int32)) (m1 99) := p1_m1
      have p2_m1 : zOw (m1 99) (m 103) (m1 111) := p2_m1
      have p3_m1 : zGG (m 94 58) (m1 94 56) (m 94 57) (m1 106) := p3_m1
      have p4_m1 : qRB (m1 99) (m 100) (m 98) (m 101) (m 102) (m 103) (m 107) (m 108) (m1 109) (m1 111) (m1 112) (m1 113) (m1 114) (m1 94 55) ((m 94 46) + (1 : Int32)) ro 0 0 0 1 (aRt (aAd (yFt aa (nn + (1 : Int32)) l4) (m 94 46) (zFn (m 94 46) kk (nn + (1 : Int32)) l4) LL) l3 (qNo (m 100) l5)) := p4_m1
      have p5_m1 : qI (aRt (aAd (yFt aa (nn + (1 : Int32)) l4) (m 94 46) (zFn (m 94 46) kk (nn + (1 : Int32)) l4) LL) l3 (qNo (m 100) l5)) := p5_m1
      have p6_m1 : qMG (m 94 58) (m1 106) (m1 115) (m 94 57) (m1 94 56) (m1 99) (m 100) (aRt (aAd (yFt aa (nn + (1 : Int32)) l4) (m 94 46) (zFn (m 94 46) kk (nn + (1 : Int32)) l4) LL) l3 (qNo (m 100) l5)) := p6_m1
      have p7_m1 : (aRt (aAd (yFt aa (nn + (1 : Int32)) l4) (m 94 46) (zFn (m 94 46) kk (nn + (1 : Int32)) l4) LL) l3 (qNo (m 100) l5)) 87 8 = (m 94 58) := p7_m1
      have p8_m1 : (m1 94 45).toInt = sm (zbU (m1 99)) (m 102) 3100 := p8_m1
      have p9_m1 : (m1 99) = (m 99) := p9_m1
      have hg24 : (0 ≤ l5 ∧ l5.toNatClampNeg < 3100) := i_ix (by omega) (by omega)
      refine ⟨hg24, ?_⟩
      try have e21 : (l2 + (1 : Int32)).toInt = l2.toInt + 1 := i_addk rfl (by omega) (by omega)
      try have gun := GU_nu p1_m1
      first | have f25 : 0 ≤ (m 100 l5.toNatClampNeg).toInt ∧ (m 100 l5.toNatClampNeg).toInt ≤ 100000 := ra_100 (m := m) hV (k := l5.toNatClampNeg) (i_ix (n := 3100) (by omega) (by omega)).2 | have b26 := i_bd (m 100 l5.toNatClampNeg)
      exact K ((m 100 l5.toNatClampNeg)) _ (zF_zov (zF_u (zF_u (zF_u (zF_u hF rfl) rfl) rfl) rfl) ws_238_183) hV_m1 (show zW (m 94 7) (m 98) (m 101) (m 102) (m 108) from by first | (exact Wn_end r_WN (by rw [tn_cast (x := l6) (by omega)]; omega)) | (exfalso; omega; done) | (exfalso; contradiction; done)) p0_m1 p1_m1 p2_m1 p3_m1 (show qRB (m1 99) (m 100) (m 98) (m 101) (m 102) (m 103) (m 107) (m 108) (m1 109) (m1 111) (m1 112) (m1 113) (m1 114) (m1 94 55) ((m 94 46) + (1 : Int32)) ro 0 0 0 1 (yMk aa kk nn LL r1) from by first | (have e := p4_m1; rw [No_y (by omega), r_NS.2.2.1, r_L3r] at e; rw [(yMk_2b (a := aa) (kd := kk) (wd := nn) (rt := r1) (L := LL) (pl := l4) (y := (m 94 46)) r_N6 (qE r_PLq) (by omega) (by omega) (by omega) (by omega) (by omega) r_NS.1.2.2.2.2.2.2.2.1.symm (r_MKb.trans (i_zer (by omega)))).1]; exact e; done) | (exfalso; omega; done) | (exfalso; contradiction; done)) (show qMG (m 94 58) (m1 106) (m1 115) (m 94 57) (m1 94 56) (m1 99) (m 100) (yMk aa kk nn LL r1) from by first | (have e := p6_m1; rw [No_y (by omega), r_NS.2.2.1, r_L3r] at e; rw [(yMk_2b (a := aa) (kd := kk) (wd := nn) (rt := r1) (L := LL) (pl := l4) (y := (m 94 46)) r_N6 (qE r_PLq) (by omega) (by omega) (by omega) (by omega) (by omega) r_NS.1.2.2.2.2.2.2.2.1.symm (r_MKb.trans (i_zer (by omega)))).1]; exact e; done) | (exfalso; omega; done) | (exfalso; contradiction; done)) (show (yMk aa kk nn LL r1) 87 8 = (m 94 58) from by first | (have e := p7_m1; rw [No_y (by omega), r_NS.2.2.1, r_L3r] at e; rw [(yMk_2b (a := aa) (kd := kk) (wd := nn) (rt := r1) (L := LL) (pl := l4) (y := (m 94 46)) r_N6 (qE r_PLq) (by omega) (by omega) (by omega) (by omega) (by omega) r_NS.1.2.2.2.2.2.2.2.1.symm (r_MKb.trans (i_zer (by omega)))).1]; exact e; done) | (exfalso; omega; done) | (exfalso; contradiction; done)) p8_m1 (show (m 94 58).toInt = 0 from by omega) (show (m 100 l5.toNatClampNeg) = yMn aa nn from by first | (rw [r_NS.2.2.1]; exact (yMk_2b (a := aa) (kd := kk) (wd := nn) (rt := r1) (L := LL) (pl := l4) (y := (m 94 46)) r_N6 (qE r_PLq) (by omega) (by omega) (by omega) (by omega) (by omega) r_NS.1.2.2.2.2.2.2.2.1.symm (r_MKb.trans (i_zer (by omega)))).2.symm; done) | (exfalso; omega; done) | (exfalso; contradiction; done)) (show qAv (yMk aa kk nn LL r1) from by first | (have yf := Yf_av r_AVs r_PLq (by omega) (by omega) (by omega) (by omega); rw [(yMk_2b (a := aa) (kd := kk) (wd := nn) (rt := r1) (L := LL) (pl := l4) (y := (m 94 46)) r_N6 (qE r_PLq) (by omega) (by omega) (by omega) (by omega) (by omega) r_NS.1.2.2.2.2.2.2.2.1.symm (r_MKb.trans (i_zer (by omega)))).1]; exact Av_add yf.1 (Ne_y r_AVs r_PLq (by omega) (by omega) (by omega) r_NS.1.2.2.2.2.2.2.2.1 (by omega)) yf.2 (r_MKb.trans (i_zer (by omega))) (RB_hd r_NS.1); done) | (exfalso; omega; done) | (exfalso; contradiction; done)) (show qAL (yMk aa kk nn LL r1) (m 94 13) (m 94 14) (m 94 15) (m 94 16) (m 94 59) (m 94 60) (m 94 61) from by first | (rw [(yMk_2b (a := aa) (kd := kk) (wd := nn) (rt := r1) (L := LL) (pl := l4) (y := (m 94 46)) r_N6 (qE r_PLq) (by omega) (by omega) (by omega) (by omega) (by omega) r_NS.1.2.2.2.2.2.2.2.1.symm (r_MKb.trans (i_zer (by omega)))).1]; exact AL_new r_ALb; done) | (exfalso; omega; done) | (exfalso; contradiction; done)) (show qAg (m1 99) (m 100) (m 104) (yMk aa kk nn LL r1) from by first | (rw [(yMk_2b (a := aa) (kd := kk) (wd := nn) (rt := r1) (L := LL) (pl := l4) (y := (m 94 46)) r_N6 (qE r_PLq) (by omega) (by omega) (by omega) (by omega) (by omega) r_NS.1.2.2.2.2.2.2.2.1.symm (r_MKb.trans (i_zer (by omega)))).1]; exact Ag_us p9_m1 (Ag_new r_AGz r_NS (Ne_y r_AVs r_PLq (by omega) (by omega) (by omega) r_NS.1.2.2.2.2.2.2.2.1 (by omega)) r_GS0); done) | (exfalso; omega; done) | (exfalso; contradiction; done)) (show qDt (m 117) (yMk aa kk nn LL r1) from by first | (rw [(yMk_2b (a := aa) (kd := kk) (wd := nn) (rt := r1) (L := LL) (pl := l4) (y := (m 94 46)) r_N6 (qE r_PLq) (by omega) (by omega) (by omega) (by omega) (by omega) r_NS.1.2.2.2.2.2.2.2.1.symm (r_MKb.trans (i_zer (by omega)))).1]; exact Dt_new r_DTb; done) | (exfalso; omega; done) | (exfalso; contradiction; done))
    · skip
      have g27 := i_nle h10
      have hg28 : (0 ≤ l5 ∧ l5.toNatClampNeg < 3100) := i_ix (by omega) (by omega)
      refine ⟨hg28, ?_⟩
      first | have f29 : 0 ≤ (m 101 l5.toNatClampNeg).toInt ∧ (m 101 l5.toNatClampNeg).toInt ≤ 17 := ra_101 (m := m) hV (k := l5.toNatClampNeg) (i_ix (n := 3100) (by omega) (by omega)).2 | have b30 := i_bd (m 101 l5.toNatClampNeg)
      have li31 : (16 : Int32).toInt = 16 := rfl
      refine zd (fun (h32 : (m 101 l5.toNatClampNeg) = (16 : Int32)) => ?_) (fun (h32 : ¬ (m 101 l5.toNatClampNeg) = (16 : Int32)) => ?_)
      · skip
        have g33 := i_eq h32
        have li34 : (60 : Int32).toInt = 60 := rfl
        first | have e35 : (l5 * (60 : Int32)).toInt = l5.toInt * 60 := i_mulk rfl (by omega) (by omega) | have b36 := i_bd (l5 * (60 : Int32))
        first | have e37 : ((l5 * (60 : Int32)) + l6).toInt = (l5 * (60 : Int32)).toInt + l6.toInt := i_add (by omega) (by omega) | have b38 := i_bd ((l5 * (60 : Int32)) + l6)
        have hg39 : (0 ≤ ((l5 * (60 : Int32)) + l6) ∧ ((l5 * (60 : Int32)) + l6).toNatClampNeg < 186000) := i_ix (by omega) (by omega)
        refine ⟨hg39, ?_⟩
        try have e21 : (l2 + (1 : Int32)).toInt = l2.toInt + 1 := i_addk rfl (by omega) (by omega)
        have hV40 : zV (ma_u m 108 ((l5 * (60 : Int32)) + l6).toNatClampNeg (-1 : Int32)) := ua_108 hV
        have b41 := i_bd l3
        have b42 := i_bd l4
        first | have e43 : (l6 + (1 : Int32)).toInt = l6.toInt + (1) := i_addk rfl (by omega) (by omega) | have b44 := i_bd (l6 + (1 : Int32))
        exact IH (61 - (l6 + (1 : Int32)).toInt).toNat (by omega) _ (l2) (l3) (l4) (l5) ((l6 + (1 : Int32))) rfl (zF_u hF rfl) hV40 (by omega) (by omega) (by omega) (by omega) (by omega) (by omega) (by omega) (by omega) (by omega) (by omega) (by omega) (show (m 94 10).toInt = 3 ∧ (m 94 58).toInt = 0 from by omega) (show (m 94 8).toInt = 1 from by omega) (show (m 94 46).toInt ≤ 511 from by omega) r_L2n r_L3r r_PLq (show (m 102 l5.toNatClampNeg).toInt = l2.toInt from by omega) r_USn r_GUp r_OW r_GG r_QIb (show qNs (m 99) (m 100) (m 98) (m 101) (m 102) (m 103) (m 107) ((ma_u m 108 ((l5 * (60 : Int32)) + l6).toNatClampNeg (-1 : Int32)) 108) (m 109) (m 111) (m 112) (m 113) (m 114) (m 94 55) (m 94 46) ro 0 0 0 1 (yFt aa (nn + (1 : Int32)) l4) l5.toNatClampNeg (m 94 46) kk nn l4 from by first | (exact NS_h r_NS (fun _ _ => rfl) (fun _ _ => rfl) (fun t ht hne i hi => (zrf_oth (ix_word (by omega) (by omega) (by omega) (by omega)) (by rw [tn_eq]; omega) (fun t ht => (ra_102 hV ht).2)) t i hne ht hi)) | (exfalso; omega; done) | (exfalso; contradiction; done)) r_MGz r_MKb r_WTz r_BTS r_N6 r_Q0 (show zWn (m 94 7) (m 98) (m 101) (m 102) ((ma_u m 108 ((l5 * (60 : Int32)) + l6).toNatClampNeg (-1 : Int32)) 108) l5.toNatClampNeg (l6 + (1 : Int32)).toNatClampNeg from by first | (exact Wn_put r_WN (zrf_oth (ix_word (by omega) (by omega) (by omega) (by omega)) (by rw [tn_eq]; omega) (fun t ht => (ra_102 hV ht).2)) (zrf_bef (ix_word (by omega) (by omega) (by omega) (by omega))) (zrf_m1 (ix_word (by omega) (by omega) (by omega) (by omega)) rfl) (tn_succ (by omega) (by omega))) | (exact Wn_put r_WN (zrf_oth (ix_word (by omega) (by omega) (by omega) (by omega)) (by rw [tn_eq]; omega) (fun t ht => (ra_102 hV ht).2)) (zrf_bef (ix_word (by omega) (by omega) (by omega) (by omega))) (zrf_nr rfl (by omega) (by assumption) (fun z => by first | exact absurd (Int32.lt_iff_toInt_lt.mp z.1) (by omega) | exact absurd z.2 (by assumption))) (tn_succ (by omega) (by omega))) | (exfalso; omega; done) | (exfalso; contradiction; done)) r_GW r_COs r_HOs r_WIs r_AVs r_ALb r_DTb r_AGz r_GS0
      · skip
        have g45 := i_ne h32
        have hg46 : (0 ≤ l5 ∧ l5.toNatClampNeg < 3100) := i_ix (by omega) (by omega)
        refine ⟨hg46, ?_⟩
        refine zd (fun (h47 : (16 : Int32) ≤ (m 101 l5.toNatClampNeg)) => ?_) (fun (h47 : ¬ (16 : Int32) ≤ (m 101 l5.toNatClampNeg)) => ?_)
        · skip
          have g48 := i_le h47
          have li49 : (60 : Int32).toInt = 60 := rfl
          first | have e50 : (l5 * (60 : Int32)).toInt = l5.toInt * 60 := i_mulk rfl (by omega) (by omega) | have b51 := i_bd (l5 * (60 : Int32))
          first | have e52 : ((l5 * (60 : Int32)) + l6).toInt = (l5 * (60 : Int32)).toInt + l6.toInt := i_add (by omega) (by omega) | have b53 := i_bd ((l5 * (60 : Int32)) + l6)
          have hg54 : (0 ≤ ((l5 * (60 : Int32)) + l6) ∧ ((l5 * (60 : Int32)) + l6).toNatClampNeg < 186000) := i_ix (by omega) (by omega)
          refine ⟨hg54, ?_⟩
          try have e21 : (l2 + (1 : Int32)).toInt = l2.toInt + 1 := i_addk rfl (by omega) (by omega)
          have hV55 : zV (ma_u m 108 ((l5 * (60 : Int32)) + l6).toNatClampNeg (0 : Int32)) := ua_108 hV
          have b56 := i_bd l3
          have b57 := i_bd l4
          first | have e58 : (l6 + (1 : Int32)).toInt = l6.toInt + (1) := i_addk rfl (by omega) (by omega) | have b59 := i_bd (l6 + (1 : Int32))
          exact IH (61 - (l6 + (1 : Int32)).toInt).toNat (by omega) _ (l2) (l3) (l4) (l5) ((l6 + (1 : Int32))) rfl (zF_u hF rfl) hV55 (by omega) (by omega) (by omega) (by omega) (by omega) (by omega) (by omega) (by omega) (by omega) (by omega) (by omega) (show (m 94 10).toInt = 3 ∧ (m 94 58).toInt = 0 from by omega) (show (m 94 8).toInt = 1 from by omega) (show (m 94 46).toInt ≤ 511 from by omega) r_L2n r_L3r r_PLq (show (m 102 l5.toNatClampNeg).toInt = l2.toInt from by omega) r_USn r_GUp r_OW r_GG r_QIb (show qNs (m 99) (m 100) (m 98) (m 101) (m 102) (m 103) (m 107) ((ma_u m 108 ((l5 * (60 : Int32)) + l6).toNatClampNeg (0 : Int32)) 108) (m 109) (m 111) (m 112) (m 113) (m 114) (m 94 55) (m 94 46) ro 0 0 0 1 (yFt aa (nn + (1 : Int32)) l4) l5.toNatClampNeg (m 94 46) kk nn l4 from by first | (exact NS_h r_NS (fun _ _ => rfl) (fun _ _ => rfl) (fun t ht hne i hi => (zrf_oth (ix_word (by omega) (by omega) (by omega) (by omega)) (by rw [tn_eq]; omega) (fun t ht => (ra_102 hV ht).2)) t i hne ht hi)) | (exfalso; omega; done) | (exfalso; contradiction; done)) r_MGz r_MKb r_WTz r_BTS r_N6 r_Q0 (show zWn (m 94 7) (m 98) (m 101) (m 102) ((ma_u m 108 ((l5 * (60 : Int32)) + l6).toNatClampNeg (0 : Int32)) 108) l5.toNatClampNeg (l6 + (1 : Int32)).toNatClampNeg from by first | (exact Wn_put r_WN (zrf_oth (ix_word (by omega) (by omega) (by omega) (by omega)) (by rw [tn_eq]; omega) (fun t ht => (ra_102 hV ht).2)) (zrf_bef (ix_word (by omega) (by omega) (by omega) (by omega))) (zrf_m1 (ix_word (by omega) (by omega) (by omega) (by omega)) rfl) (tn_succ (by omega) (by omega))) | (exact Wn_put r_WN (zrf_oth (ix_word (by omega) (by omega) (by omega) (by omega)) (by rw [tn_eq]; omega) (fun t ht => (ra_102 hV ht).2)) (zrf_bef (ix_word (by omega) (by omega) (by omega) (by omega))) (zrf_nr rfl (by omega) (by assumption) (fun z => by first | exact absurd (Int32.lt_iff_toInt_lt.mp z.1) (by omega) | exact absurd z.2 (by assumption))) (tn_succ (by omega) (by omega))) | (exfalso; omega; done) | (exfalso; contradiction; done)) r_GW r_COs r_HOs r_WIs r_AVs r_ALb r_DTb r_AGz r_GS0
        · skip
          have g60 := i_nle h47
          have hg61 : (0 ≤ l5 ∧ l5.toNatClampNeg < 3100) := i_ix (by omega) (by omega)
          refine ⟨hg61, ?_⟩
          have hg62 : (0 ≤ (m 101 l5.toNatClampNeg) ∧ (m 101 l5.toNatClampNeg).toNatClampNeg < 16) := i_ix (by omega) (by omega)
          refine ⟨hg62, ?_⟩
          have b63 := i_bd (((m 98 (m 101 l5.toNatClampNeg).toNatClampNeg) >>> (l6 &&& 31)) &&& (1 : Int32))
          have li64 : (1 : Int32).toInt = 1 := rfl
          refine zd (fun (h65 : (((m 98 (m 101 l5.toNatClampNeg).toNatClampNeg) >>> (l6 &&& 31)) &&& (1 : Int32)) = (1 : Int32)) => ?_) (fun (h65 : ¬ (((m 98 (m 101 l5.toNatClampNeg).toNatClampNeg) >>> (l6 &&& 31)) &&& (1 : Int32)) = (1 : Int32)) => ?_)
          · skip
            have g66 := i_eq h65
            have li67 : (60 : Int32).toInt = 60 := rfl
            first | have e68 : (l5 * (60 : Int32)).toInt = l5.toInt * 60 := i_mulk rfl (by omega) (by omega) | have b69 := i_bd (l5 * (60 : Int32))
            first | have e70 : ((l5 * (60 : Int32)) + l6).toInt = (l5 * (60 : Int32)).toInt + l6.toInt := i_add (by omega) (by omega) | have b71 := i_bd ((l5 * (60 : Int32)) + l6)
            have hg72 : (0 ≤ ((l5 * (60 : Int32)) + l6) ∧ ((l5 * (60 : Int32)) + l6).toNatClampNeg < 186000) := i_ix (by omega) (by omega)
            refine ⟨hg72, ?_⟩
            try have e21 : (l2 + (1 : Int32)).toInt = l2.toInt + 1 := i_addk rfl (by omega) (by omega)
            have hV73 : zV (ma_u m 108 ((l5 * (60 : Int32)) + l6).toNatClampNeg (-1 : Int32)) := ua_108 hV
            have b74 := i_bd l3
            have b75 := i_bd l4
            first | have e76 : (l6 + (1 : Int32)).toInt = l6.toInt + (1) := i_addk rfl (by omega) (by omega) | have b77 := i_bd (l6 + (1 : Int32))
            exact IH (61 - (l6 + (1 : Int32)).toInt).toNat (by omega) _ (l2) (l3) (l4) (l5) ((l6 + (1 : Int32))) rfl (zF_u hF rfl) hV73 (by omega) (by omega) (by omega) (by omega) (by omega) (by omega) (by omega) (by omega) (by omega) (by omega) (by omega) (show (m 94 10).toInt = 3 ∧ (m 94 58).toInt = 0 from by omega) (show (m 94 8).toInt = 1 from by omega) (show (m 94 46).toInt ≤ 511 from by omega) r_L2n r_L3r r_PLq (show (m 102 l5.toNatClampNeg).toInt = l2.toInt from by omega) r_USn r_GUp r_OW r_GG r_QIb (show qNs (m 99) (m 100) (m 98) (m 101) (m 102) (m 103) (m 107) ((ma_u m 108 ((l5 * (60 : Int32)) + l6).toNatClampNeg (-1 : Int32)) 108) (m 109) (m 111) (m 112) (m 113) (m 114) (m 94 55) (m 94 46) ro 0 0 0 1 (yFt aa (nn + (1 : Int32)) l4) l5.toNatClampNeg (m 94 46) kk nn l4 from by first | (exact NS_h r_NS (fun _ _ => rfl) (fun _ _ => rfl) (fun t ht hne i hi => (zrf_oth (ix_word (by omega) (by omega) (by omega) (by omega)) (by rw [tn_eq]; omega) (fun t ht => (ra_102 hV ht).2)) t i hne ht hi)) | (exfalso; omega; done) | (exfalso; contradiction; done)) r_MGz r_MKb r_WTz r_BTS r_N6 r_Q0 (show zWn (m 94 7) (m 98) (m 101) (m 102) ((ma_u m 108 ((l5 * (60 : Int32)) + l6).toNatClampNeg (-1 : Int32)) 108) l5.toNatClampNeg (l6 + (1 : Int32)).toNatClampNeg from by first | (exact Wn_put r_WN (zrf_oth (ix_word (by omega) (by omega) (by omega) (by omega)) (by rw [tn_eq]; omega) (fun t ht => (ra_102 hV ht).2)) (zrf_bef (ix_word (by omega) (by omega) (by omega) (by omega))) (zrf_m1 (ix_word (by omega) (by omega) (by omega) (by omega)) rfl) (tn_succ (by omega) (by omega))) | (exact Wn_put r_WN (zrf_oth (ix_word (by omega) (by omega) (by omega) (by omega)) (by rw [tn_eq]; omega) (fun t ht => (ra_102 hV ht).2)) (zrf_bef (ix_word (by omega) (by omega) (by omega) (by omega))) (zrf_nr rfl (by omega) (by assumption) (fun z => by first | exact absurd (Int32.lt_iff_toInt_lt.mp z.1) (by omega) | exact absurd z.2 (by assumption))) (tn_succ (by omega) (by omega))) | (exfalso; omega; done) | (exfalso; contradiction; done)) r_GW r_COs r_HOs r_WIs r_AVs r_ALb r_DTb r_AGz r_GS0
          · skip
            have g78 := i_ne h65
            have li79 : (60 : Int32).toInt = 60 := rfl
            first | have e80 : (l5 * (60 : Int32)).toInt = l5.toInt * 60 := i_mulk rfl (by omega) (by omega) | have b81 := i_bd (l5 * (60 : Int32))
            first | have e82 : ((l5 * (60 : Int32)) + l6).toInt = (l5 * (60 : Int32)).toInt + l6.toInt := i_add (by omega) (by omega) | have b83 := i_bd ((l5 * (60 : Int32)) + l6)
            have hg84 : (0 ≤ ((l5 * (60 : Int32)) + l6) ∧ ((l5 * (60 : Int32)) + l6).toNatClampNeg < 186000) := i_ix (by omega) (by omega)
            refine ⟨hg84, ?_⟩
            try have e21 : (l2 + (1 : Int32)).toInt = l2.toInt + 1 := i_addk rfl (by omega) (by omega)
            have hV85 : zV (ma_u m 108 ((l5 * (60 : Int32)) + l6).toNatClampNeg (0 : Int32)) := ua_108 hV
            have b86 := i_bd l3
            have b87 := i_bd l4
            first | have e88 : (l6 + (1 : Int32)).toInt = l6.toInt + (1) := i_addk rfl (by omega) (by omega) | have b89 := i_bd (l6 + (1 : Int32))
            exact IH (61 - (l6 + (1 : Int32)).toInt).toNat (by omega) _ (l2) (l3) (l4) (l5) ((l6 + (1 : Int32))) rfl (zF_u hF rfl) hV85 (by omega) (by omega) (by omega) (by omega) (by omega) (by omega) (by omega) (by omega) (by omega) (by omega) (by omega) (show (m 94 10).toInt = 3 ∧ (m 94 58).toInt = 0 from by omega) (show (m 94 8).toInt = 1 from by omega) (show (m 94 46).toInt ≤ 511 from by omega) r_L2n r_L3r r_PLq (show (m 102 l5.toNatClampNeg).toInt = l2.toInt from by omega) r_USn r_GUp r_OW r_GG r_QIb (show qNs (m 99) (m 100) (m 98) (m 101) (m 102) (m 103) (m 107) ((ma_u m 108 ((l5 * (60 : Int32)) + l6).toNatClampNeg (0 : Int32)) 108) (m 109) (m 111) (m 112) (m 113) (m 114) (m 94 55) (m 94 46) ro 0 0 0 1 (yFt aa (nn + (1 : Int32)) l4) l5.toNatClampNeg (m 94 46) kk nn l4 from by first | (exact NS_h r_NS (fun _ _ => rfl) (fun _ _ => rfl) (fun t ht hne i hi => (zrf_oth (ix_word (by omega) (by omega) (by omega) (by omega)) (by rw [tn_eq]; omega) (fun t ht => (ra_102 hV ht).2)) t i hne ht hi)) | (exfalso; omega; done) | (exfalso; contradiction; done)) r_MGz r_MKb r_WTz r_BTS r_N6 r_Q0 (show zWn (m 94 7) (m 98) (m 101) (m 102) ((ma_u m 108 ((l5 * (60 : Int32)) + l6).toNatClampNeg (0 : Int32)) 108) l5.toNatClampNeg (l6 + (1 : Int32)).toNatClampNeg from by first | (exact Wn_put r_WN (zrf_oth (ix_word (by omega) (by omega) (by omega) (by omega)) (by rw [tn_eq]; omega) (fun t ht => (ra_102 hV ht).2)) (zrf_bef (ix_word (by omega) (by omega) (by omega) (by omega))) (zrf_m1 (ix_word (by omega) (by omega) (by omega) (by omega)) rfl) (tn_succ (by omega) (by omega))) | (exact Wn_put r_WN (zrf_oth (ix_word (by omega) (by omega) (by omega) (by omega)) (by rw [tn_eq]; omega) (fun t ht => (ra_102 hV ht).2)) (zrf_bef (ix_word (by omega) (by omega) (by omega) (by omega))) (zrf_nr rfl (by omega) (by assumption) (fun z => by first | exact absurd (Int32.lt_iff_toInt_lt.mp z.1) (by omega) | exact absurd z.2 (by assumption))) (tn_succ (by omega) (by omega))) | (exfalso; omega; done) | (exfalso; contradiction; done)) r_GW r_COs r_HOs r_WIs r_AVs r_ALb r_DTb r_AGz r_GS0
set_option maxHeartbeats 8000000 in
theorem lp_183ry_123 {X : Nat × (Nat → Int32)} {P : Option ma_V → (Nat → Nat → Int32) → Prop} {T : Nat} {aa : Nat→Nat→Int32} {ro : Int32} {LL : Int64} {kk : Int32} {nn : Int32} {r1 : Int32} {m0 : Nat → Nat → Int32} (h0 : zV m0) (K : ∀ v m₉, zF wr_183 m0 m₉ → zV m₉ → (zW (m₉ 94 7) (m₉ 98) (m₉ 101) (m₉ 102) (m₉ 108)) → (zGW (T + 1) (m₉ 94 55) (m₉ 109)) → (zGU (T + 1) (m₉ 94 46) (m₉ 99)) → (zOw (m₉ 99) (m₉ 103) (m₉ 111)) → (zGG (m₉ 94 58) (m₉ 94 56) (m₉ 94 57) (m₉ 106)) → (qRB (m₉ 99) (m₉ 100) (m₉ 98) (m₉ 101) (m₉ 102) (m₉ 103) (m₉ 107) (m₉ 108) (m₉ 109) (m₉ 111) (m₉ 112) (m₉ 113) (m₉ 114) (m₉ 94 55) (m₉ 94 46) ro 0 0 0 1 (yMk aa kk nn LL r1)) → (qMG (m₉ 94 58) (m₉ 106) (m₉ 115) (m₉ 94 57) (m₉ 94 56) (m₉ 99) (m₉ 100) (yMk aa kk nn LL r1)) → ((yMk aa kk nn LL r1) 87 8 = (m₉ 94 58)) → ((m₉ 94 45).toInt = sm (zbU (m₉ 99)) (m₉ 102) 3100) → ((m₉ 94 58).toInt = 0) → (v = yMn aa nn) → (qAv (yMk aa kk nn LL r1)) → (qAL (yMk aa kk nn LL r1) (m₉ 94 13) (m₉ 94 14) (m₉ 94 15) (m₉ 94 16) (m₉ 94 59) (m₉ 94 60) (m₉ 94 61)) → (qAg (m₉ 99) (m₉ 100) (m₉ 104) (yMk aa kk nn LL r1)) → (qDt (m₉ 117) (yMk aa kk nn LL r1)) → P (some (.inl v)) m₉) : ∀ (n : Nat) (m : Nat → Nat → Int32) (l2 : Int32) (l3 : Int32) (l4 : Int32) (l5 : Int32), ((0 : Int)).toNat = n → zF wr_183 m0 m → zV m → (l2.toInt = nn.toInt) → (0 ≤ l2.toInt) → (l2.toInt ≤ 60) → (0 ≤ l3.toInt) → (l3.toInt ≤ 15) → (0 ≤ l4.toInt) → (l4.toInt ≤ 4500) → (0 ≤ l5.toInt) → (l5.toInt ≤ 3099) → (T + 1 ≤ 512) → ((m 94 10).toInt = 3 ∧ (m 94 58).toInt = 0) → ((m 94 8).toInt = 1) → ((m 94 46).toInt ≤ 511) → (l2 = nn) → (l3 = r1) → (qEq l4.toInt (gRp aa (nn + (1 : Int32)).toInt)) → ((m 102 l5.toNatClampNeg).toInt = l2.toInt) → ((m 99) l5.toNatClampNeg ≠ 0) → (zGUp T (m 94 46) (m 99)) → (zOw (m 99) (m 103) (m 111)) → (zGG (m 94 58) (m 94 56) (m 94 57) (m 106)) → (qI (yFt aa (nn + (1 : Int32)) l4)) → (qNs (m 99) (m 100) (m 98) (m 101) (m 102) (m 103) (m 107) (m 108) (m 109) (m 111) (m 112) (m 113) (m 114) (m 94 55) (m 94 46) ro 0 0 0 1 (yFt aa (nn + (1 : Int32)) l4) l5.toNatClampNeg (m 94 46) kk nn l4) → (qMG (m 94 58) (m 106) (m 115) (m 94 57) (m 94 56) (zmk (m 99) l5.toNatClampNeg) (m 100) (yFt aa (nn + (1 : Int32)) l4)) → ((yFt aa (nn + (1 : Int32)) l4) 87 8 = (m 94 58)) → ((m 94 45).toInt = sm (zbU (zmk (m 99) l5.toNatClampNeg)) (m 102) 3100) → (∀ j : Nat, (j : Int) < nn.toInt → (zbit LL (Int32.ofNat j) ≠ 0 ↔ (kk = 16 ∨ (kk < 16 ∧ (((m 98) kk.toNatClampNeg >>> (Int32.ofNat j &&& 31)) &&& 1) = 1)))) → ((aa 69 6).toInt < 512) → (aa 87 2 = 0) → (zWn (m 94 7) (m 98) (m 101) (m 102) (m 108) l5.toNatClampNeg (0 : Int32).toNatClampNeg) → (zGW T (m 94 55) (m 109)) → (qCo (m 94 58) (m 106) l5.toNatClampNeg) → (qAv (gRs aa (nn + (1 : Int32)).toInt)) → (qAL (yFt aa (nn + (1 : Int32)) l4) (m 94 13) (m 94 14) (m 94 15) (m 94 16) (m 94 59) (m 94 60) (m 94 61)) → (qDt (m 117) (yFt aa (nn + (1 : Int32)) l4)) → (qAg (zmk (m 99) l5.toNatClampNeg) (m 100) (m 104) (yFt aa (nn + (1 : Int32)) l4)) → ((m 104) l5.toNatClampNeg = 0) → zm X 9 198 183 123 [(0, .inr (.inr (some 94))), (2, .inl l2), (3, .inl l3), (4, .inl l4), (5, .inl l5)] m P := by
  intro n
  induction n using Nat.strongRecOn with
  | _ n IH =>
    intro m l2 l3 l4 l5 hmu hF hV hi0 hi1 hi2 hi3 hi4 hi5 hi6 hi7 hi8 hi9 hi10 hi11 hi12 r_L2n r_L3r r_PLq hi16 r_USn r_GUp r_OW r_GG r_QIb r_NS r_MGz r_MKb r_WTz r_BTS r_N6 r_Q0 r_WN r_GW r_COs r_AVs r_ALb r_DTb r_AGz r_GS0
    refine g_183_123 l2 l3 l4 l5 ?_
    have f1 : 0 ≤ (m 94 10).toInt ∧ (m 94 10).toInt ≤ 6 := rs_94_10 (m := m) hV
    have f2 : 0 ≤ (m 94 58).toInt ∧ (m 94 58).toInt ≤ 1 := rs_94_58 (m := m) hV
    have f3 : 0 ≤ (m 94 8).toInt ∧ (m 94 8).toInt ≤ 1 := rs_94_8 (m := m) hV
    have f4 : 0 ≤ (m 94 46).toInt ∧ (m 94 46).toInt ≤ 100000 := rs_94_46 (m := m) hV
    have b5 := i_bd l5
    first | have f6 : 0 ≤ (m 102 l5.toNatClampNeg).toInt ∧ (m 102 l5.toNatClampNeg).toInt ≤ 60 := ra_102 (m := m) hV (k := l5.toNatClampNeg) (i_ix (n := 3100) (by omega) (by omega)).2 | have b7 := i_bd (m 102 l5.toNatClampNeg)
    have hg8 : (0 ≤ l5 ∧ l5.toNatClampNeg < 3100) := i_ix (by omega) (by omega)
    refine ⟨hg8, ?_⟩
    have hg9 : (0 ≤ l5 ∧ l5.toNatClampNeg < 3100) := i_ix (by omega) (by omega)
    refine ⟨hg9, ?_⟩
    try have e21 : (l2 + (1 : Int32)).toInt = l2.toInt + 1 := i_addk rfl (by omega) (by omega)
    have hV10 : zV (ma_u m 107 l5.toNatClampNeg (0 : Int32)) := ua_107 hV
    have li12 : (0 : Int32).toInt = 0 := rfl
    have hV11 : zV (ma_u (ma_u m 107 l5.toNatClampNeg (0 : Int32)) 109 l5.toNatClampNeg (0 : Int32)) := ua_109 hV10 (by omega) (by omega)
    have b13 := i_bd l2
    have b14 := i_bd l3
    have b15 := i_bd l4
    exact lp_183ry_142 (kk := kk) (nn := nn) (r1 := r1) h0 K _ _ (l2) (l3) (l4) (l5) ((0 : Int32)) rfl (zF_u (zF_u hF rfl) rfl) hV11 (by omega) (by omega) (by omega) (by omega) (by omega) (by omega) (by omega) (by omega) (by omega) (by omega) (by omega) (show (m 94 10).toInt = 3 ∧ (m 94 58).toInt = 0 from by omega) (show (m 94 8).toInt = 1 from by omega) (show (m 94 46).toInt ≤ 511 from by omega) r_L2n r_L3r r_PLq (show (m 102 l5.toNatClampNeg).toInt = l2.toInt from by omega) r_USn r_GUp r_OW r_GG r_QIb (show qNs (m 99) (m 100) (m 98) (m 101) (m 102) (m 103) ((ma_u m 107 l5.toNatClampNeg (0 : Int32)) 107) (m 108) ((ma_u m 109 l5.toNatClampNeg (0 : Int32)) 109) (m 111) (m 112) (m 113) (m 114) (m 94 55) (m 94 46) ro 0 0 0 1 (yFt aa (nn + (1 : Int32)) l4) l5.toNatClampNeg (m 94 46) kk nn l4 from by first | (exact NS_h r_NS (fun t ht => mu_ne ht) (fun t ht => mu_ne ht) (fun _ _ _ _ _ => rfl)) | (exfalso; omega; done) | (exfalso; contradiction; done)) r_MGz r_MKb r_WTz r_BTS r_N6 r_Q0 r_WN (show zGW (T + 1) (m 94 55) ((ma_u m 109 l5.toNatClampNeg (0 : Int32)) 109) from by first | (exact GW_up (GW_0 r_GW) (by omega)) | (exfalso; omega; done) | (exfalso; contradiction; done)) r_COs (show ((ma_u m 107 l5.toNatClampNeg (0 : Int32)) 107) l5.toNatClampNeg = 0 from by first | (exact mu_self) | (exfalso; omega; done) | (exfalso; contradiction; done)) (show ((ma_u m 109 l5.toNatClampNeg (0 : Int32)) 109) l5.toNatClampNeg = 0 from by first | (exact mu_self) | (exfalso; omega; done) | (exfalso; contradiction; done)) r_AVs r_ALb r_DTb r_AGz r_GS0
set_option maxHeartbeats 8000000 in
theorem lp_183ry_88 {X : Nat × (Nat → Int32)} {P : Option ma_V → (Nat → Nat → Int32) → Prop} {T : Nat} {aa : Nat→Nat→Int32} {ro : Int32} {LL : Int64} {kk : Int32} {nn : Int32} {r1 : Int32} {m0 : Nat → Nat → Int32} (h0 : zV m0) (K : ∀ v m₉, zF wr_183 m0 m₉ → zV m₉ → (zW (m₉ 94 7) (m₉ 98) (m₉ 101) (m₉ 102) (m₉ 108)) → (zGW (T + 1) (m₉ 94 55) (m₉ 109)) → (zGU (T + 1) (m₉ 94 46) (m₉ 99)) → (zOw (m₉ 99) (m₉ 103) (m₉ 111)) → (zGG (m₉ 94 58) (m₉ 94 56) (m₉ 94 57) (m₉ 106)) → (qRB (m₉ 99) (m₉ 100) (m₉ 98) (m₉ 101) (m₉ 102) (m₉ 103) (m₉ 107) (m₉ 108) (m₉ 109) (m₉ 111) (m₉ 112) (m₉ 113) (m₉ 114) (m₉ 94 55) (m₉ 94 46) ro 0 0 0 1 (yMk aa kk nn LL r1)) → (qMG (m₉ 94 58) (m₉ 106) (m₉ 115) (m₉ 94 57) (m₉ 94 56) (m₉ 99) (m₉ 100) (yMk aa kk nn LL r1)) → ((yMk aa kk nn LL r1) 87 8 = (m₉ 94 58)) → ((m₉ 94 45).toInt = sm (zbU (m₉ 99)) (m₉ 102) 3100) → ((m₉ 94 58).toInt = 0) → (v = yMn aa nn) → (qAv (yMk aa kk nn LL r1)) → (qAL (yMk aa kk nn LL r1) (m₉ 94 13) (m₉ 94 14) (m₉ 94 15) (m₉ 94 16) (m₉ 94 59) (m₉ 94 60) (m₉ 94 61)) → (qAg (m₉ 99) (m₉ 100) (m₉ 104) (yMk aa kk nn LL r1)) → (qDt (m₉ 117) (yMk aa kk nn LL r1)) → P (some (.inl v)) m₉) : ∀ (n : Nat) (m : Nat → Nat → Int32) (l2 : Int32) (l3 : Int32) (l4 : Int32) (l5 : Int32), ((0 : Int)).toNat = n → zF wr_183 m0 m → zV m → (l2.toInt = nn.toInt) → (0 ≤ l2.toInt) → (l2.toInt ≤ 60) → (0 ≤ l3.toInt) → (l3.toInt ≤ 15) → (0 ≤ l4.toInt) → (l4.toInt ≤ 4500) → (0 ≤ l5.toInt) → (l5.toInt ≤ 3099) → (T + 1 ≤ 512) → ((m 94 10).toInt = 3 ∧ (m 94 58).toInt = 0) → ((m 94 8).toInt = 1) → ((m 94 46).toInt ≤ 511) → (l2 = nn) → (l3 = r1) → (qEq l4.toInt (gRp aa (nn + (1 : Int32)).toInt)) → ((m 102 l5.toNatClampNeg).toInt = l2.toInt) → ((m 99) l5.toNatClampNeg ≠ 0) → (zGUp T (m 94 46) (m 99)) → (zOw (m 99) (m 103) (m 111)) → (zGG (m 94 58) (m 94 56) (m 94 57) (m 106)) → (qI (yFt aa (nn + (1 : Int32)) l4)) → (qNs (m 99) (m 100) (m 98) (m 101) (m 102) (m 103) (m 107) (m 108) (m 109) (m 111) (m 112) (m 113) (m 114) (m 94 55) (m 94 46) ro 0 0 0 1 (yFt aa (nn + (1 : Int32)) l4) l5.toNatClampNeg (m 94 46) kk nn l4) → (qMG (m 94 58) (m 106) (m 115) (m 94 57) (m 94 56) (zmk (m 99) l5.toNatClampNeg) (m 100) (yFt aa (nn + (1 : Int32)) l4)) → ((yFt aa (nn + (1 : Int32)) l4) 87 8 = (m 94 58)) → ((m 94 45).toInt = sm (zbU (zmk (m 99) l5.toNatClampNeg)) (m 102) 3100) → (∀ j : Nat, (j : Int) < nn.toInt → (zbit LL (Int32.ofNat j) ≠ 0 ↔ (kk = 16 ∨ (kk < 16 ∧ (((m 98) kk.toNatClampNeg >>> (Int32.ofNat j &&& 31)) &&& 1) = 1)))) → ((aa 69 6).toInt < 512) → (aa 87 2 = 0) → (zWn (m 94 7) (m 98) (m 101) (m 102) (m 108) l5.toNatClampNeg (0 : Int32).toNatClampNeg) → (zGW T (m 94 55) (m 109)) → (qAv (gRs aa (nn + (1 : Int32)).toInt)) → (qAL (yFt aa (nn + (1 : Int32)) l4) (m 94 13) (m 94 14) (m 94 15) (m 94 16) (m 94 59) (m 94 60) (m 94 61)) → (qDt (m 117) (yFt aa (nn + (1 : Int32)) l4)) → (qAg (zmk (m 99) l5.toNatClampNeg) (m 100) (m 104) (yFt aa (nn + (1 : Int32)) l4)) → zm X 9 198 183 88 [(0, .inr (.inr (some 94))), (2, .inl l2), (3, .inl l3), (4, .inl l4), (5, .inl l5)] m P := by
  intro n
  induction n using Nat.strongRecOn with
  | _ n IH =>
    intro m l2 l3 l4 l5 hmu hF hV hi0 hi1 hi2 hi3 hi4 hi5 hi6 hi7 hi8 hi9 hi10 hi11 hi12 r_L2n r_L3r r_PLq hi16 r_USn r_GUp r_OW r_GG r_QIb r_NS r_MGz r_MKb r_WTz r_BTS r_N6 r_Q0 r_WN r_GW r_AVs r_ALb r_DTb r_AGz
    refine g_183_88 l2 l3 l4 l5 ?_
    have f1 : 0 ≤ (m 94 10).toInt ∧ (m 94 10).toInt ≤ 6 := rs_94_10 (m := m) hV
    have f2 : 0 ≤ (m 94 58).toInt ∧ (m 94 58).toInt ≤ 1 := rs_94_58 (m := m) hV
    have f3 : 0 ≤ (m 94 8).toInt ∧ (m 94 8).toInt ≤ 1 := rs_94_8 (m := m) hV
    have f4 : 0 ≤ (m 94 46).toInt ∧ (m 94 46).toInt ≤ 100000 := rs_94_46 (m := m) hV
    have b5 := i_bd l5
    first | have f6 : 0 ≤ (m 102 l5.toNatClampNeg).toInt ∧ (m 102 l5.toNatClampNeg).toInt ≤ 60 := ra_102 (m := m) hV (k := l5.toNatClampNeg) (i_ix (n := 3100) (by omega) (by omega)).2 | have b7 := i_bd (m 102 l5.toNatClampNeg)
    have hg8 : (0 ≤ l5 ∧ l5.toNatClampNeg < 3100) := i_ix (by omega) (by omega)
    refine ⟨hg8, ?_⟩
    have hg9 : (0 ≤ l5 ∧ l5.toNatClampNeg < 3100) := i_ix (by omega) (by omega)
    refine ⟨hg9, ?_⟩
    have li10 : (0 : Int32).toInt = 0 := rfl
    refine zd (fun (h11 : (m 94 58) = (0 : Int32)) => ?_) (fun (h11 : ¬ (m 94 58) = (0 : Int32)) => ?_)
    · skip
      have g12 := i_eq h11
      have hg13 : (0 ≤ l5 ∧ l5.toNatClampNeg < 3100) := i_ix (by omega) (by omega)
      refine ⟨hg13, ?_⟩
      try have e21 : (l2 + (1 : Int32)).toInt = l2.toInt + 1 := i_addk rfl (by omega) (by omega)
      have hV14 : zV (ma_u m 104 l5.toNatClampNeg (0 : Int32)) := ua_104 hV
      have hV15 : zV (ma_u (ma_u m 104 l5.toNatClampNeg (0 : Int32)) 105 l5.toNatClampNeg (0 : Int32)) := ua_105 hV14
      have hV16 : zV (ma_u (ma_u (ma_u m 104 l5.toNatClampNeg (0 : Int32)) 105 l5.toNatClampNeg (0 : Int32)) 106 l5.toNatClampNeg (0 : Int32)) := ua_106 hV15
      have b17 := i_bd l2
      have b18 := i_bd l3
      have b19 := i_bd l4
      exact lp_183ry_123 (kk := kk) (nn := nn) (r1 := r1) h0 K _ _ (l2) (l3) (l4) (l5) rfl (zF_u (zF_u (zF_u hF rfl) rfl) rfl) hV16 (by omega) (by omega) (by omega) (by omega) (by omega) (by omega) (by omega) (by omega) (by omega) (by omega) (show (m 94 10).toInt = 3 ∧ (m 94 58).toInt = 0 from by omega) (show (m 94 8).toInt = 1 from by omega) (show (m 94 46).toInt ≤ 511 from by omega) r_L2n r_L3r r_PLq (show (m 102 l5.toNatClampNeg).toInt = l2.toInt from by omega) r_USn r_GUp r_OW (show zGG (m 94 58) (m 94 56) (m 94 57) ((ma_u m 106 l5.toNatClampNeg (0 : Int32)) 106) from by first | (exact fun z => G1_dark0 (r_GG z) (by decide)) | (exact fun z => absurd z (by omega)) | (exact fun z => absurd z (by decide)) | (exact fun z => absurd z (by omega)) | (exfalso; omega; done) | (exfalso; contradiction; done)) r_QIb r_NS (show qMG (m 94 58) ((ma_u m 106 l5.toNatClampNeg (0 : Int32)) 106) (m 115) (m 94 57) (m 94 56) (zmk (m 99) l5.toNatClampNeg) (m 100) (yFt aa (nn + (1 : Int32)) l4) from by first | (exact MG_1 r_MGz (fun t ht => mu_ne ht)) | (exfalso; omega; done) | (exfalso; contradiction; done)) r_MKb r_WTz r_BTS r_N6 r_Q0 r_WN r_GW (show qCo (m 94 58) ((ma_u m 106 l5.toNatClampNeg (0 : Int32)) 106) l5.toNatClampNeg from by first | (exact fun z => absurd (by omega) z) | (exact fun _ => mu_self) | (exfalso; omega; done) | (exfalso; contradiction; done)) r_AVs r_ALb r_DTb (show qAg (zmk (m 99) l5.toNatClampNeg) (m 100) ((ma_u m 104 l5.toNatClampNeg (0 : Int32)) 104) (yFt aa (nn + (1 : Int32)) l4) from by first | (exact Ag_h r_AGz (fun t ht => mu_ne ht)) | (exfalso; omega; done) | (exfalso; contradiction; done)) (show ((ma_u m 104 l5.toNatClampNeg (0 : Int32)) 104) l5.toNatClampNeg = 0 from by first | (exact mu_self) | (exfalso; omega; done) | (exfalso; contradiction; done))
    · skip
      have g20 := i_ne h11
      have hg21 : (0 ≤ l5 ∧ l5.toNatClampNeg < 3100) := i_ix (by omega) (by omega)
      refine ⟨hg21, ?_⟩
      try have e21 : (l2 + (1 : Int32)).toInt = l2.toInt + 1 := i_addk rfl (by omega) (by omega)
      have hV22 : zV (ma_u m 104 l5.toNatClampNeg (0 : Int32)) := ua_104 hV
      have hV23 : zV (ma_u (ma_u m 104 l5.toNatClampNeg (0 : Int32)) 105 l5.toNatClampNeg (0 : Int32)) := ua_105 hV22
      have hV24 : zV (ma_u (ma_u (ma_u m 104 l5.toNatClampNeg (0 : Int32)) 105 l5.toNatClampNeg (0 : Int32)) 106 l5.toNatClampNeg (2 : Int32)) := ua_106 hV23
      have b25 := i_bd l2
      have b26 := i_bd l3
      have b27 := i_bd l4
      exact lp_183ry_123 (kk := kk) (nn := nn) (r1 := r1) h0 K _ _ (l2) (l3) (l4) (l5) rfl (zF_u (zF_u (zF_u hF rfl) rfl) rfl) hV24 (by omega) (by omega) (by omega) (by omega) (by omega) (by omega) (by omega) (by omega) (by omega) (by omega) (show (m 94 10).toInt = 3 ∧ (m 94 58).toInt = 0 from by omega) (show (m 94 8).toInt = 1 from by omega) (show (m 94 46).toInt ≤ 511 from by omega) r_L2n r_L3r r_PLq (show (m 102 l5.toNatClampNeg).toInt = l2.toInt from by omega) r_USn r_GUp r_OW (show zGG (m 94 58) (m 94 56) (m 94 57) ((ma_u m 106 l5.toNatClampNeg (2 : Int32)) 106) from by first | (exact fun z => G1_dark0 (r_GG z) (by decide)) | (exact fun z => absurd z (by omega)) | (exact fun z => absurd z (by decide)) | (exact fun z => absurd z (by omega)) | (exfalso; omega; done) | (exfalso; contradiction; done)) r_QIb r_NS (show qMG (m 94 58) ((ma_u m 106 l5.toNatClampNeg (2 : Int32)) 106) (m 115) (m 94 57) (m 94 56) (zmk (m 99) l5.toNatClampNeg) (m 100) (yFt aa (nn + (1 : Int32)) l4) from by first | (exact MG_1 r_MGz (fun t ht => mu_ne ht)) | (exfalso; omega; done) | (exfalso; contradiction; done)) r_MKb r_WTz r_BTS r_N6 r_Q0 r_WN r_GW (show qCo (m 94 58) ((ma_u m 106 l5.toNatClampNeg (2 : Int32)) 106) l5.toNatClampNeg from by first | (exact fun z => absurd (by omega) z) | (exact fun _ => mu_self) | (exfalso; omega; done) | (exfalso; contradiction; done)) r_AVs r_ALb r_DTb (show qAg (zmk (m 99) l5.toNatClampNeg) (m 100) ((ma_u m 104 l5.toNatClampNeg (0 : Int32)) 104) (yFt aa (nn + (1 : Int32)) l4) from by first | (exact Ag_h r_AGz (fun t ht => mu_ne ht)) | (exfalso; omega; done) | (exfalso; contradiction; done)) (show ((ma_u m 104 l5.toNatClampNeg (0 : Int32)) 104) l5.toNatClampNeg = 0 from by first | (exact mu_self) | (exfalso; omega; done) | (exfalso; contradiction; done))
set_option maxHeartbeats 8000000 in
theorem lp_183ry_19 {X : Nat × (Nat → Int32)} {P : Option ma_V → (Nat → Nat → Int32) → Prop} {T : Nat} {aa : Nat→Nat→Int32} {ro : Int32} {LL : Int64} {kk : Int32} {nn : Int32} {r1 : Int32} {m0 : Nat → Nat → Int32} (h0 : zV m0) (K : ∀ v m₉, zF wr_183 m0 m₉ → zV m₉ → (zW (m₉ 94 7) (m₉ 98) (m₉ 101) (m₉ 102) (m₉ 108)) → (zGW (T + 1) (m₉ 94 55) (m₉ 109)) → (zGU (T + 1) (m₉ 94 46) (m₉ 99)) → (zOw (m₉ 99) (m₉ 103) (m₉ 111)) → (zGG (m₉ 94 58) (m₉ 94 56) (m₉ 94 57) (m₉ 106)) → (qRB (m₉ 99) (m₉ 100) (m₉ 98) (m₉ 101) (m₉ 102) (m₉ 103) (m₉ 107) (m₉ 108) (m₉ 109) (m₉ 111) (m₉ 112) (m₉ 113) (m₉ 114) (m₉ 94 55) (m₉ 94 46) ro 0 0 0 1 (yMk aa kk nn LL r1)) → (qMG (m₉ 94 58) (m₉ 106) (m₉ 115) (m₉ 94 57) (m₉ 94 56) (m₉ 99) (m₉ 100) (yMk aa kk nn LL r1)) → ((yMk aa kk nn LL r1) 87 8 = (m₉ 94 58)) → ((m₉ 94 45).toInt = sm (zbU (m₉ 99)) (m₉ 102) 3100) → ((m₉ 94 58).toInt = 0) → (v = yMn aa nn) → (qAv (yMk aa kk nn LL r1)) → (qAL (yMk aa kk nn LL r1) (m₉ 94 13) (m₉ 94 14) (m₉ 94 15) (m₉ 94 16) (m₉ 94 59) (m₉ 94 60) (m₉ 94 61)) → (qAg (m₉ 99) (m₉ 100) (m₉ 104) (yMk aa kk nn LL r1)) → (qDt (m₉ 117) (yMk aa kk nn LL r1)) → P (some (.inl v)) m₉) : ∀ (n : Nat) (m : Nat → Nat → Int32) (l1 : Int32) (l2 : Int32) (l3 : Int32) (l4 : Int32) (l5 : Int32), (3100 - l5.toInt).toNat = n → zF wr_183 m0 m → zV m → (l2.toInt = nn.toInt) → (0 ≤ l5.toInt) → (l5.toInt ≤ 3100) → (0 ≤ l4.toInt) → (l4.toInt ≤ 4500) → (0 ≤ l2.toInt) → (l2.toInt ≤ 60) → (0 ≤ l3.toInt) → (l3.toInt ≤ 15) → (0 ≤ l1.toInt) → (l1.toInt ≤ 17) → (T + 1 ≤ 512) → (16 ≤ l1.toInt ∨ l1.toInt < (m 94 7).toInt) → (zW (m 94 7) (m 98) (m 101) (m 102) (m 108)) → (zGW T (m 94 55) (m 109)) → (zGU T (m 94 46) (m 99)) → (zOw (m 99) (m 103) (m 111)) → (zGG (m 94 58) (m 94 56) (m 94 57) (m 106)) → ((m 94 10).toInt = 3 ∧ (m 94 58).toInt = 0) → ((m 94 8).toInt = 1) → (qRB (m 99) (m 100) (m 98) (m 101) (m 102) (m 103) (m 107) (m 108) (m 109) (m 111) (m 112) (m 113) (m 114) (m 94 55) (m 94 46) ro 0 0 0 1 (yFt aa (nn + (1 : Int32)) l4)) → (qI (yFt aa (nn + (1 : Int32)) l4)) → (qMG (m 94 58) (m 106) (m 115) (m 94 57) (m 94 56) (m 99) (m 100) (yFt aa (nn + (1 : Int32)) l4)) → ((yFt aa (nn + (1 : Int32)) l4) 87 8 = (m 94 58)) → ((m 94 45).toInt = sm (zbU (m 99)) (m 102) 3100) → (∀ j : Nat, (j : Int) < l5.toInt → (m 99) j ≠ 0) → (l1 = kk) → (l2 = nn) → (l3 = r1) → (qEq l4.toInt (gRp aa (nn + (1 : Int32)).toInt)) → (∀ j : Nat, (j : Int) < nn.toInt → (zbit LL (Int32.ofNat j) ≠ 0 ↔ (kk = 16 ∨ (kk < 16 ∧ (((m 98) kk.toNatClampNeg >>> (Int32.ofNat j &&& 31)) &&& 1) = 1)))) → ((aa 69 6).toInt < 512) → (aa 87 2 = 0) → (qAv (gRs aa (nn + (1 : Int32)).toInt)) → (qAL (yFt aa (nn + (1 : Int32)) l4) (m 94 13) (m 94 14) (m 94 15) (m 94 16) (m 94 59) (m 94 60) (m 94 61)) → (qDt (m 117) (yFt aa (nn + (1 : Int32)) l4)) → (qAg (m 99) (m 100) (m 104) (yFt aa (nn + (1 : Int32)) l4)) → zm X 9 198 183 19 [(0, .inr (.inr (some 94))), (1, .inl l1), (2, .inl l2), (3, .inl l3), (4, .inl l4), (5, .inl l5)] m P := by
  intro n
  induction n using Nat.strongRecOn with
  | _ n IH =>
    intro m l1 l2 l3 l4 l5 hmu hF hV hi0 hi1 hi2 hi3 hi4 hi5 hi6 hi7 hi8 hi9 hi10 hi11 hi12 r_W r_GW r_GU r_OW r_GG hi18 hi19 r_RB r_QI r_MG r_MK r_WTS r_AU r_L1k r_L2n r_L3r r_PLq r_BTS r_N6 r_Q0 r_AVs r_ALb r_DTb r_AGb
    refine g_183_19 l1 l2 l3 l4 l5 ?_
    have f1 : 0 ≤ (m 94 7).toInt ∧ (m 94 7).toInt ≤ 16 := rs_94_7 (m := m) hV
    have f2 : 0 ≤ (m 94 10).toInt ∧ (m 94 10).toInt ≤ 6 := rs_94_10 (m := m) hV
    have f3 : 0 ≤ (m 94 58).toInt ∧ (m 94 58).toInt ≤ 1 := rs_94_58 (m := m) hV
    have f4 : 0 ≤ (m 94 8).toInt ∧ (m 94 8).toInt ≤ 1 := rs_94_8 (m := m) hV
    have b5 := i_bd l5
    try have gk := AU_room r_AU r_GU (by omega)
    have hg6 : (0 ≤ l5 ∧ l5.toNatClampNeg < 3100) := i_ix (by omega) (by omega)
    refine ⟨hg6, ?_⟩
    first | have f7 : 0 ≤ (m 99 l5.toNatClampNeg).toInt ∧ (m 99 l5.toNatClampNeg).toInt ≤ 1 := ra_99 (m := m) hV (k := l5.toNatClampNeg) (i_ix (n := 3100) (by omega) (by omega)).2 | have b8 := i_bd (m 99 l5.toNatClampNeg)
    have li9 : (0 : Int32).toInt = 0 := rfl
    refine zd (fun (h10 : (m 99 l5.toNatClampNeg) = (0 : Int32)) => ?_) (fun (h10 : ¬ (m 99 l5.toNatClampNeg) = (0 : Int32)) => ?_)
    · skip
      have g11 := i_eq h10
      try have gk := AU_room r_AU r_GU (by omega)
      have hg12 : (0 ≤ l5 ∧ l5.toNatClampNeg < 3100) := i_ix (by omega) (by omega)
      refine ⟨hg12, ?_⟩
      have hg13 : (0 ≤ l5 ∧ l5.toNatClampNeg < 3100) := i_ix (by omega) (by omega)
      refine ⟨hg13, ?_⟩
      have hg14 : (0 ≤ l5 ∧ l5.toNatClampNeg < 3100) := i_ix (by omega) (by omega)
      refine ⟨hg14, ?_⟩
      have hg15 : (0 ≤ l5 ∧ l5.toNatClampNeg < 3100) := i_ix (by omega) (by omega)
      refine ⟨hg15, ?_⟩
      have hg16 : (0 ≤ l5 ∧ l5.toNatClampNeg < 3100) := i_ix (by omega) (by omega)
      refine ⟨hg16, ?_⟩
      have b17 := i_bd l4
      have hg18 : (0 ≤ l4 ∧ l4.toNatClampNeg < 4600) := i_ix (by omega) (by omega)
      refine ⟨hg18, ?_⟩
      try have gk := AU_room r_AU r_GU (by omega)
      try have e21 : (l2 + (1 : Int32)).toInt = l2.toInt + 1 := i_addk rfl (by omega) (by omega)
      try have gun := GU_nu r_GU
      have li20 : (1 : Int32).toInt = 1 := rfl
      have hV19 : zV (ma_u m 99 l5.toNatClampNeg (1 : Int32)) := ua_99 hV (by omega) (by omega)
      have f22 : 0 ≤ (m 94 46).toInt ∧ (m 94 46).toInt ≤ 100000 := rs_94_46 (m := m) hV
      have hV21 : zV (ma_u (ma_u m 99 l5.toNatClampNeg (1 : Int32)) 100 l5.toNatClampNeg (m 94 46)) := ua_100 hV19 (by omega) (by omega)
      have b24 := i_bd l1
      have hV23 : zV (ma_u (ma_u (ma_u m 99 l5.toNatClampNeg (1 : Int32)) 100 l5.toNatClampNeg (m 94 46)) 101 l5.toNatClampNeg l1) := ua_101 hV21 (by omega) (by omega)
      have b26 := i_bd l2
      have hV25 : zV (ma_u (ma_u (ma_u (ma_u m 99 l5.toNatClampNeg (1 : Int32)) 100 l5.toNatClampNeg (m 94 46)) 101 l5.toNatClampNeg l1) 102 l5.toNatClampNeg l2) := ua_102 hV23 (by omega) (by omega)
      have hV27 : zV (ma_u (ma_u (ma_u (ma_u (ma_u m 99 l5.toNatClampNeg (1 : Int32)) 100 l5.toNatClampNeg (m 94 46)) 101 l5.toNatClampNeg l1) 102 l5.toNatClampNeg l2) 103 l5.toNatClampNeg l4) := ua_103 hV25 (by omega) (by omega)
      have hV28 : zV (ma_u (ma_u (ma_u (ma_u (ma_u (ma_u m 99 l5.toNatClampNeg (1 : Int32)) 100 l5.toNatClampNeg (m 94 46)) 101 l5.toNatClampNeg l1) 102 l5.toNatClampNeg l2) 103 l5.toNatClampNeg l4) 111 l4.toNatClampNeg l5) := ua_111 hV27 (by omega) (by omega)
      have b29 := i_bd l3
      have q30 : ((ma_u m 102 l5.toNatClampNeg l2) 102 l5.toNatClampNeg).toInt = l2.toInt := congrArg Int32.toInt mu_self
      first | have f31 : 0 ≤ ((ma_u m 102 l5.toNatClampNeg l2) 102 l5.toNatClampNeg).toInt ∧ ((ma_u m 102 l5.toNatClampNeg l2) 102 l5.toNatClampNeg).toInt ≤ 60 := ra_102 (m := (ma_u (ma_u (ma_u (ma_u m 99 l5.toNatClampNeg (1 : Int32)) 100 l5.toNatClampNeg (m 94 46)) 101 l5.toNatClampNeg l1) 102 l5.toNatClampNeg l2)) hV25 (k := l5.toNatClampNeg) (i_ix (n := 3100) (by omega) (by omega)).2 | have b32 := i_bd ((ma_u m 102 l5.toNatClampNeg l2) 102 l5.toNatClampNeg)
      exact lp_183ry_88 (kk := kk) (nn := nn) (r1 := r1) h0 K _ _ (l2) (l3) (l4) (l5) rfl (zF_u (zF_u (zF_u (zF_u (zF_u (zF_u hF rfl) rfl) rfl) rfl) rfl) rfl) hV28 (by omega) (by omega) (by omega) (by omega) (by omega) (by omega) (by omega) (by omega) (by omega) (by omega) (show (m 94 10).toInt = 3 ∧ (m 94 58).toInt = 0 from by omega) (show (m 94 8).toInt = 1 from by omega) (show (m 94 46).toInt ≤ 511 from by omega) r_L2n r_L3r r_PLq (show ((ma_u m 102 l5.toNatClampNeg l2) 102 l5.toNatClampNeg).toInt = l2.toInt from by omega) (show ((ma_u m 99 l5.toNatClampNeg (1 : Int32)) 99) l5.toNatClampNeg ≠ 0 from by first | (rw [mu_self]; decide; done) | (exfalso; omega; done) | (exfalso; contradiction; done)) (show zGUp T (m 94 46) ((ma_u m 99 l5.toNatClampNeg (1 : Int32)) 99) from by first | (exact GUp_0 r_GU (by omega)) | (exfalso; omega; done) | (exfalso; contradiction; done)) (show zOw ((ma_u m 99 l5.toNatClampNeg (1 : Int32)) 99) ((ma_u m 103 l5.toNatClampNeg l4) 103) ((ma_u m 111 l4.toNatClampNeg l5) 111) from by first | (exact Ow_new r_OW (by assumption) (fun t ht => mu_ne ht) (by rw [mu_self]; decide) (fun t ht => mu_ne ht) mu_self (by omega) (fun t ht => mu_ne ht) (by rw [mu_self])) | (exact Ow_rm r_OW (by decide) (tn_cast (by omega)).symm) | (exfalso; omega; done) | (exfalso; contradiction; done)) r_GG (show qI (yFt aa (nn + (1 : Int32)) l4) from by first | (exact r_QI) | (exfalso; omega; done) | (exfalso; contradiction; done)) (show qNs ((ma_u m 99 l5.toNatClampNeg (1 : Int32)) 99) ((ma_u m 100 l5.toNatClampNeg (m 94 46)) 100) (m 98) ((ma_u m 101 l5.toNatClampNeg l1) 101) ((ma_u m 102 l5.toNatClampNeg l2) 102) ((ma_u m 103 l5.toNatClampNeg l4) 103) (m 107) (m 108) (m 109) ((ma_u m 111 l4.toNatClampNeg l5) 111) (m 112) (m 113) (m 114) (m 94 55) (m 94 46) ro 0 0 0 1 (yFt aa (nn + (1 : Int32)) l4) l5.toNatClampNeg (m 94 46) kk nn l4 from by first | (exact NS_0 r_RB r_QI (z := nn.toInt + 1) (by omega) (Ne_y r_AVs r_PLq (by omega) (by omega) (by omega) r_RB.2.2.2.2.2.2.2.1 (by have gun := GU_nu r_GU; omega)).2.2.2.2 (by assumption) (by rw [mu_self]; decide) (fun t ht => mu_ne ht) mu_self (fun t ht => mu_ne ht) (mu_self.trans r_L1k) (fun t ht => mu_ne ht) (mu_self.trans r_L2n) (fun t ht => mu_ne ht) mu_self (fun t ht => mu_ne ht) (mu_self.trans (ofN_tn (by omega)).symm) (fun t ht => mu_ne ht)) | (exfalso; omega; done) | (exfalso; contradiction; done)) (show qMG (m 94 58) (m 106) (m 115) (m 94 57) (m 94 56) (zmk ((ma_u m 99 l5.toNatClampNeg (1 : Int32)) 99) l5.toNatClampNeg) ((ma_u m 100 l5.toNatClampNeg (m 94 46)) 100) (yFt aa (nn + (1 : Int32)) l4) from by first | (exact MG_0 r_MG (by assumption) (fun t ht => mu_ne ht) (fun t ht => mu_ne ht) (fun _ _ => rfl)) | (exfalso; omega; done) | (exfalso; contradiction; done)) (show (yFt aa (nn + (1 : Int32)) l4) 87 8 = (m 94 58) from by first | (exact r_MK) | (exfalso; omega; done) | (exfalso; contradiction; done)) (show (m 94 45).toInt = sm (zbU (zmk ((ma_u m 99 l5.toNatClampNeg (1 : Int32)) 99) l5.toNatClampNeg)) ((ma_u m 102 l5.toNatClampNeg l2) 102) 3100 from by first | (exact WT_0 r_WTS (by assumption) (fun t ht => mu_ne ht) (fun t ht => mu_ne ht)) | (exfalso; omega; done) | (exfalso; contradiction; done)) r_BTS r_N6 r_Q0 (show zWn (m 94 7) (m 98) ((ma_u m 101 l5.toNatClampNeg l1) 101) ((ma_u m 102 l5.toNatClampNeg l2) 102) (m 108) l5.toNatClampNeg (0 : Int32).toNatClampNeg from by first | (exact Wn_0 r_W (fun t ht => mu_ne ht) (fun t ht => mu_ne ht) (by rw [mu_self]; assumption) rfl) | (exfalso; omega; done) | (exfalso; contradiction; done)) r_GW r_AVs r_ALb r_DTb (show qAg (zmk ((ma_u m 99 l5.toNatClampNeg (1 : Int32)) 99) l5.toNatClampNeg) ((ma_u m 100 l5.toNatClampNeg (m 94 46)) 100) (m 104) (yFt aa (nn + (1 : Int32)) l4) from by first | (exact Ag_z r_AGb (fun t ht => mu_ne ht) (fun t ht => mu_ne ht) (fun _ _ => rfl)) | (exfalso; omega; done) | (exfalso; contradiction; done))
    · skip
      have g33 := i_ne h10
      try have gk := AU_room r_AU r_GU (by omega)
      try have e21 : (l2 + (1 : Int32)).toInt = l2.toInt + 1 := i_addk rfl (by omega) (by omega)
      try have gun := GU_nu r_GU
      have b34 := i_bd l1
      have b35 := i_bd l2
      have b36 := i_bd l3
      have b37 := i_bd l4
      first | have e38 : (l5 + (1 : Int32)).toInt = l5.toInt + (1) := i_addk rfl (by omega) (by omega) | have b39 := i_bd (l5 + (1 : Int32))
      exact IH (3100 - (l5 + (1 : Int32)).toInt).toNat (by omega) _ (l1) (l2) (l3) (l4) ((l5 + (1 : Int32))) rfl hF hV (by omega) (by omega) (by omega) (by omega) (by omega) (by omega) (by omega) (by omega) (by omega) (by omega) (by omega) (by omega) (show 16 ≤ l1.toInt ∨ l1.toInt < (m 94 7).toInt from by omega) r_W r_GW r_GU r_OW r_GG (show (m 94 10).toInt = 3 ∧ (m 94 58).toInt = 0 from by omega) (show (m 94 8).toInt = 1 from by omega) r_RB r_QI r_MG r_MK r_WTS (show ∀ j : Nat, (j : Int) < (l5 + (1 : Int32)).toInt → (m 99) j ≠ 0 from by first | (exact AU_step r_AU (by omega) (by assumption) (by omega)) | (exfalso; omega; done) | (exfalso; contradiction; done)) r_L1k r_L2n r_L3r r_PLq r_BTS r_N6 r_Q0 r_AVs r_ALb r_DTb r_AGb
set_option maxHeartbeats 8000000 in
theorem sp_183ry {X : Nat × (Nat → Int32)} {P : Option ma_V → (Nat → Nat → Int32) → Prop} {T : Nat} {aa : Nat→Nat→Int32} {ro : Int32} {LL : Int64} {m : Nat → Nat → Int32} (kk : Int32) (nn : Int32) (r1 : Int32) (hV : zV m) (hpre0 : 0 ≤ nn.toInt) (hpre1 : nn.toInt ≤ 60) (hpre2 : 0 ≤ r1.toInt) (hpre3 : r1.toInt ≤ 15) (hpre4 : 0 ≤ kk.toInt) (hpre5 : kk.toInt ≤ 17) (hpre6 : T + 1 ≤ 512) (hpre7 : 16 ≤ kk.toInt ∨ kk.toInt < (m 94 7).toInt) (hpre8 : T ≤ 512) (r_W : zW (m 94 7) (m 98) (m 101) (m 102) (m 108)) (r_GW : zGW T (m 94 55) (m 109)) (r_GU : zGU T (m 94 46) (m 99)) (r_OW : zOw (m 99) (m 103) (m 111)) (r_GG : zGG (m 94 58) (m 94 56) (m 94 57) (m 106)) (hpre14 : (m 94 10).toInt = 3 ∧ (m 94 58).toInt = 0) (hpre15 : (m 94 8).toInt = 1) (r_RB : qRB (m 99) (m 100) (m 98) (m 101) (m 102) (m 103) (m 107) (m 108) (m 109) (m 111) (m 112) (m 113) (m 114) (m 94 55) (m 94 46) ro 0 0 0 1 aa) (r_AV : qAv aa) (r_AL : qAL aa (m 94 13) (m 94 14) (m 94 15) (m 94 16) (m 94 59) (m 94 60) (m 94 61)) (r_AGq : qAg (m 99) (m 100) (m 104) aa) (r_DT : qDt (m 117) aa) (r_MG : qMG (m 94 58) (m 106) (m 115) (m 94 57) (m 94 56) (m 99) (m 100) aa) (r_MK : aa 87 8 = (m 94 58)) (r_WTS : (m 94 45).toInt = sm (zbU (m 99)) (m 102) 3100) (r_BTS : ∀ j : Nat, (j : Int) < nn.toInt → (zbit LL (Int32.ofNat j) ≠ 0 ↔ (kk = 16 ∨ (kk < 16 ∧ (((m 98) kk.toNatClampNeg >>> (Int32.ofNat j &&& 31)) &&& 1) = 1)))) (KZ : ∀ v m₉, zV (zov wr_183 m m₉) → (zW (m 94 7) (m 98) (m₉ 101) (m₉ 102) (m₉ 108)) → (zGW (T + 1) (m₉ 94 55) (m₉ 109)) → (zGU (T + 1) (m₉ 94 46) (m₉ 99)) → (zOw (m₉ 99) (m₉ 103) (m₉ 111)) → (zGG (m₉ 94 58) (m₉ 94 56) (m₉ 94 57) (m₉ 106)) → (qRB (m₉ 99) (m₉ 100) (m 98) (m₉ 101) (m₉ 102) (m₉ 103) (m₉ 107) (m₉ 108) (m₉ 109) (m₉ 111) (m₉ 112) (m₉ 113) (m₉ 114) (m₉ 94 55) (m₉ 94 46) ro 0 0 0 1 (yMk aa kk nn LL r1)) → (qMG (m₉ 94 58) (m₉ 106) (m₉ 115) (m₉ 94 57) (m₉ 94 56) (m₉ 99) (m₉ 100) (yMk aa kk nn LL r1)) → ((yMk aa kk nn LL r1) 87 8 = (m₉ 94 58)) → ((m₉ 94 45).toInt = sm (zbU (m₉ 99)) (m₉ 102) 3100) → ((m₉ 94 58).toInt = 0) → (v = yMn aa nn) → (qAv (yMk aa kk nn LL r1)) → (qAL (yMk aa kk nn LL r1) (m 94 13) (m 94 14) (m 94 15) (m 94 16) (m₉ 94 59) (m₉ 94 60) (m₉ 94 61)) → (qAg (m₉ 99) (m₉ 100) (m₉ 104) (yMk aa kk nn LL r1)) → (qDt (m₉ 117) (yMk aa kk nn LL r1)) → P (some (.inl v)) (zov wr_183 m m₉)) : zm X 9 198 183 0 [(0, .inr (.inr (some 94))), (1, .inl kk), (2, .inl nn), (3, .inl r1)] m P := by
  have K : ∀ v m₉, zF wr_183 m m₉ → zV m₉ → (zW (m₉ 94 7) (m₉ 98) (m₉ 101) (m₉ 102) (m₉ 108)) → (zGW (T + 1) (m₉ 94 55) (m₉ 109)) → (zGU (T + 1) (m₉ 94 46) (m₉ 99)) → (zOw (m₉ 99) (m₉ 103) (m₉ 111)) → (zGG (m₉ 94 58) (m₉ 94 56) (m₉ 94 57) (m₉ 106)) → (qRB (m₉ 99) (m₉ 100) (m₉ 98) (m₉ 101) (m₉ 102) (m₉ 103) (m₉ 107) (m₉ 108) (m₉ 109) (m₉ 111) (m₉ 112) (m₉ 113) (m₉ 114) (m₉ 94 55) (m₉ 94 46) ro 0 0 0 1 (yMk aa kk nn LL r1)) → (qMG (m₉ 94 58) (m₉ 106) (m₉ 115) (m₉ 94 57) (m₉ 94 56) (m₉ 99) (m₉ 100) (yMk aa kk nn LL r1)) → ((yMk aa kk nn LL r1) 87 8 = (m₉ 94 58)) → ((m₉ 94 45).toInt = sm (zbU (m₉ 99)) (m₉ 102) 3100) → ((m₉ 94 58).toInt = 0) → (v = yMn aa nn) → (qAv (yMk aa kk nn LL r1)) → (qAL (yMk aa kk nn LL r1) (m₉ 94 13) (m₉ 94 14) (m₉ 94 15) (m₉ 94 16) (m₉ 94 59) (m₉ 94 60) (m₉ 94 61)) → (qAg (m₉ 99) (m₉ 100) (m₉ 104) (yMk aa kk nn LL r1)) → (qDt (m₉ 117) (yMk aa kk nn LL r1)) → P (some (.inl v)) m₉ := by
    intro v m₉ hf z q0 q1 q2 q3 q4 q5 q6 q7 q8 q9 q10 q11 q12 q13 q14
    have e := zov_eq hf
    rw [e] at z ⊢
    try rw [e] at q0
    try rw [e] at q1
    try rw [e] at q2
    try rw [e] at q3
    try rw [e] at q4
    try rw [e] at q5
    try rw [e] at q6
    try rw [e] at q7
    try rw [e] at q8
    try rw [e] at q9
    try rw [e] at q10
    try rw [e] at q11
    try rw [e] at q12
    try rw [e] at q13
    try rw [e] at q14
    exact KZ v m₉ z q0 q1 q2 q3 q4 q5 q6 q7 q8 q9 q10 q11 q12 q13 q14
  refine g_183_0 kk nn r1 ?_
  have f1 : 0 ≤ (m 94 7).toInt ∧ (m 94 7).toInt ≤ 16 := rs_94_7 (m := m) hV
  have f2 : 0 ≤ (m 94 10).toInt ∧ (m 94 10).toInt ≤ 6 := rs_94_10 (m := m) hV
  have f3 : 0 ≤ (m 94 58).toInt ∧ (m 94 58).toInt ≤ 1 := rs_94_58 (m := m) hV
  have f4 : 0 ≤ (m 94 8).toInt ∧ (m 94 8).toInt ≤ 1 := rs_94_8 (m := m) hV
  have b5 := i_bd nn
  first | have e6 : (nn + (1 : Int32)).toInt = nn.toInt + (1) := i_addk rfl (by omega) (by omega) | have b7 := i_bd (nn + (1 : Int32))
  refine sp_184ry (aa := aa) ((nn + (1 : Int32))) hV (by omega) (by omega) (by omega) r_W r_GW r_GU r_OW r_GG (show (m 94 10).toInt = 3 ∧ (m 94 58).toInt = 0 from by omega) r_RB r_AV r_AL r_AGq r_DT r_MG r_MK r_WTS (fun v2 m1 hV_m1 p0_m1 p1_m1 p2_m1 p3_m1 p4_m1 p5_m1 p6_m1 p7_m1 p8_m1 p9_m1 p10_m1 p11_m1 p12_m1 p13_m1 p14_m1 p15_m1 => zmi_n ?_)
  have p0_m1 : zGW T (m1 94 55) (m1 109) := p0_m1
  have p1_m1 : zGU T (m 94 46) (m1 99) := p1_m1
  have p2_m1 : zOw (m1 99) (m1 103) (m1 111) := p2_m1
  have p3_m1 : zGG (m1 94 58) (m1 94 56) (m1 94 57) (m1 106) := p3_m1
  have p4_m1 : -1 ≤ v2.toInt ∧ v2.toInt ≤ 4500 := p4_m1
  have p5_m1 : qRB (m1 99) (m 100) (m 98) (m 101) (m 102) (m1 103) (m 107) (m 108) (m1 109) (m1 111) (m 112) (m1 113) (m1 114) (m1 94 55) (m 94 46) ro 0 0 0 1 (yFt aa (nn + (1 : Int32)) v2) := p5_m1
  have p6_m1 : qI (yFt aa (nn + (1 : Int32)) v2) := p6_m1
  have p7_m1 : qAL (yFt aa (nn + (1 : Int32)) v2) (m 94 13) (m 94 14) (m 94 15) (m 94 16) (m1 94 59) (m1 94 60) (m1 94 61) := p7_m1
  have p8_m1 : qAg (m1 99) (m 100) (m1 104) (yFt aa (nn + (1 : Int32)) v2) := p8_m1
  have p9_m1 : qDt (m1 117) (yFt aa (nn + (1 : Int32)) v2) := p9_m1
  have p10_m1 : qMG (m1 94 58) (m1 106) (m1 115) (m1 94 57) (m1 94 56) (m1 99) (m 100) (yFt aa (nn + (1 : Int32)) v2) := p10_m1
  have p11_m1 : (yFt aa (nn + (1 : Int32)) v2) 87 8 = (m1 94 58) := p11_m1
  have p12_m1 : (m1 94 45).toInt = sm (zbU (m1 99)) (m 102) 3100 := p12_m1
  have p13_m1 : qEq v2.toInt (gRp aa (nn + (1 : Int32)).toInt) := p13_m1
  have p14_m1 : qAv (gRs aa (nn + (1 : Int32)).toInt) := p14_m1
  have p15_m1 : (m1 94 58).toInt = 0 := p15_m1
  have f8 : 0 ≤ (m1 94 58).toInt ∧ (m1 94 58).toInt ≤ 1 := rs_94_58 (m := (zov wr_184 m m1)) hV_m1
  have li9 : (0 : Int32).toInt = 0 := rfl
  have b10 := i_bd v2
  refine zd (fun (h11 : (0 : Int32) ≤ v2) => ?_) (fun (h11 : ¬ (0 : Int32) ≤ v2) => ?_)
  · skip
    have g12 := i_le h11
    try have e21 : (l2 + (1 : Int32)).toInt = l2.toInt + 1 := i_addk rfl (by omega) (by omega)
    try have gun := GU_nu p1_m1
    have b13 := i_bd kk
    have b14 := i_bd r1
    exact lp_183ry_19 (kk := kk) (nn := nn) (r1 := r1) hV K _ _ (kk) (nn) (r1) (v2) ((0 : Int32)) rfl (zF_zov zF_rfl ws_184_183) hV_m1 (by omega) (by omega) (by omega) (by omega) (by omega) (by omega) (by omega) (by omega) (by omega) (by omega) (by omega) (by omega) (show 16 ≤ kk.toInt ∨ kk.toInt < (m 94 7).toInt from by omega) r_W p0_m1 p1_m1 p2_m1 p3_m1 (show (m 94 10).toInt = 3 ∧ (m1 94 58).toInt = 0 from by omega) (show (m 94 8).toInt = 1 from by omega) p5_m1 p6_m1 p10_m1 p11_m1 p12_m1 (show ∀ j : Nat, (j : Int) < (0 : Int32).toInt → (m1 99) j ≠ 0 from by first | (intro j hj; omega; done) | (exfalso; omega; done) | (exfalso; contradiction; done)) (show kk = kk from by first | (exact rfl) | (exfalso; omega; done) | (exfalso; contradiction; done)) (show nn = nn from by first | (exact rfl) | (exfalso; omega; done) | (exfalso; contradiction; done)) (show r1 = r1 from by first | (exact rfl) | (exfalso; omega; done) | (exfalso; contradiction; done)) (show qEq v2.toInt (gRp aa (nn + (1 : Int32)).toInt) from by first | (exact p13_m1) | (exfalso; omega; done) | (exfalso; contradiction; done)) r_BTS (show (aa 69 6).toInt < 512 from by first | (exact (show (aa 69 6).toInt < 512 from by rw [r_RB.2.2.2.2.2.2.2.1]; have gun := GU_nu r_GU; omega)) | (exfalso; omega; done) | (exfalso; contradiction; done)) (show aa 87 2 = 0 from by first | (exact r_AV.2.1) | (exfalso; omega; done) | (exfalso; contradiction; done)) p14_m1 (show qAL (yFt aa (nn + (1 : Int32)) v2) (m 94 13) (m 94 14) (m 94 15) (m 94 16) (m1 94 59) (m1 94 60) (m1 94 61) from by first | (exact p7_m1) | (exfalso; omega; done) | (exfalso; contradiction; done)) (show qDt (m1 117) (yFt aa (nn + (1 : Int32)) v2) from by first | (exact p9_m1) | (exfalso; omega; done) | (exfalso; contradiction; done)) (show qAg (m1 99) (m 100) (m1 104) (yFt aa (nn + (1 : Int32)) v2) from by first | (exact p8_m1) | (exfalso; omega; done) | (exfalso; contradiction; done))
  · skip
    have g15 := i_nle h11
    try have e21 : (l2 + (1 : Int32)).toInt = l2.toInt + 1 := i_addk rfl (by omega) (by omega)
    try have gun := GU_nu p1_m1
    have li16 : (-1 : Int32).toInt = -1 := rfl
    exact K ((-1 : Int32)) _ (zF_zov zF_rfl ws_184_183) hV_m1 r_W (show zGW (T + 1) (m1 94 55) (m1 109) from by first | (exact GW_up p0_m1 (by omega)) | (exfalso; omega; done) | (exfalso; contradiction; done)) (show zGU (T + 1) (m 94 46) (m1 99) from by first | (exact GU_up p1_m1 (by omega)) | (exact GU_0 p1_m1) | (exfalso; omega; done) | (exfalso; contradiction; done)) p2_m1 p3_m1 (show qRB (m1 99) (m 100) (m 98) (m 101) (m 102) (m1 103) (m 107) (m 108) (m1 109) (m1 111) (m 112) (m1 113) (m1 114) (m1 94 55) (m 94 46) ro 0 0 0 1 (yMk aa kk nn LL r1) from by first | (have q := p5_m1; rw [yFt_n (by omega)] at q; rw [(yMk_1 (a := aa) (kd := kk) (wd := nn) (rt := r1) (L := LL) (show (aa 69 6).toInt < 512 from by rw [r_RB.2.2.2.2.2.2.2.1]; have gun := GU_nu r_GU; omega) ((qE p13_m1).symm.trans (by omega))).1]; exact q; done) | (exfalso; omega; done) | (exfalso; contradiction; done)) (show qMG (m1 94 58) (m1 106) (m1 115) (m1 94 57) (m1 94 56) (m1 99) (m 100) (yMk aa kk nn LL r1) from by first | (have q := p10_m1; rw [yFt_n (by omega)] at q; rw [(yMk_1 (a := aa) (kd := kk) (wd := nn) (rt := r1) (L := LL) (show (aa 69 6).toInt < 512 from by rw [r_RB.2.2.2.2.2.2.2.1]; have gun := GU_nu r_GU; omega) ((qE p13_m1).symm.trans (by omega))).1]; exact q; done) | (exfalso; omega; done) | (exfalso; contradiction; done)) (show (yMk aa kk nn LL r1) 87 8 = (m1 94 58) from by first | (have q := p11_m1; rw [yFt_n (by omega)] at q; rw [(yMk_1 (a := aa) (kd := kk) (wd := nn) (rt := r1) (L := LL) (show (aa 69 6).toInt < 512 from by rw [r_RB.2.2.2.2.2.2.2.1]; have gun := GU_nu r_GU; omega) ((qE p13_m1).symm.trans (by omega))).1]; exact q; done) | (exfalso; omega; done) | (exfalso; contradiction; done)) p12_m1 (show (m1 94 58).toInt = 0 from by omega) (show (-1 : Int32) = yMn aa nn from by first | (exact (yMk_1 (a := aa) (kd := kk) (wd := nn) (rt := r1) (L := LL) (show (aa 69 6).toInt < 512 from by rw [r_RB.2.2.2.2.2.2.2.1]; have gun := GU_nu r_GU; omega) ((qE p13_m1).symm.trans (by omega))).2.symm) | (exfalso; omega; done) | (exfalso; contradiction; done)) (show qAv (yMk aa kk nn LL r1) from by first | (rw [(yMk_1 (a := aa) (kd := kk) (wd := nn) (rt := r1) (L := LL) (show (aa 69 6).toInt < 512 from by rw [r_RB.2.2.2.2.2.2.2.1]; have gun := GU_nu r_GU; omega) ((qE p13_m1).symm.trans (by omega))).1]; exact p14_m1; done) | (exact r_AV) | (exfalso; omega; done) | (exfalso; contradiction; done)) (show qAL (yMk aa kk nn LL r1) (m 94 13) (m 94 14) (m 94 15) (m 94 16) (m1 94 59) (m1 94 60) (m1 94 61) from by first | (have q := p7_m1; rw [yFt_n (by omega)] at q; rw [(yMk_1 (a := aa) (kd := kk) (wd := nn) (rt := r1) (L := LL) (show (aa 69 6).toInt < 512 from by rw [r_RB.2.2.2.2.2.2.2.1]; have gun := GU_nu r_GU; omega) ((qE p13_m1).symm.trans (by omega))).1]; exact q; done) | (exact p7_m1) | (exfalso; omega; done) | (exfalso; contradiction; done)) (show qAg (m1 99) (m 100) (m1 104) (yMk aa kk nn LL r1) from by first | (have q := p8_m1; rw [yFt_n (by omega)] at q; rw [(yMk_1 (a := aa) (kd := kk) (wd := nn) (rt := r1) (L := LL) (show (aa 69 6).toInt < 512 from by rw [r_RB.2.2.2.2.2.2.2.1]; have gun := GU_nu r_GU; omega) ((qE p13_m1).symm.trans (by omega))).1]; exact q; done) | (exact p8_m1) | (exfalso; omega; done) | (exfalso; contradiction; done)) (show qDt (m1 117) (yMk aa kk nn LL r1) from by first | (have q := p9_m1; rw [yFt_n (by omega)] at q; rw [(yMk_1 (a := aa) (kd := kk) (wd := nn) (rt := r1) (L := LL) (show (aa 69 6).toInt < 512 from by rw [r_RB.2.2.2.2.2.2.2.1]; have gun := GU_nu r_GU; omega) ((qE p13_m1).symm.trans (by omega))).1]; exact q; done) | (exact p9_m1) | (exfalso; omega; done) | (exfalso; contradiction; done))

/-! from 95.v17 -/
/-! AGES, the reference (written by wip/tools/gen15v.py) -/
set_option maxHeartbeats 8000000 in
theorem sp_181ry {X : Nat × (Nat → Int32)} {P : Option ma_V → (Nat → Nat → Int32) → Prop} {T : Nat} {aa : Nat→Nat→Int32} {ro : Int32} {LL : Int64} {m : Nat → Nat → Int32} (kk : Int32) (r1 : Int32) (hV : zV m) (hpre0 : T + 1 ≤ 512) (hpre1 : T ≤ 512) (r_W : zW (m 94 7) (m 98) (m 101) (m 102) (m 108)) (r_GW : zGW T (m 94 55) (m 109)) (r_GU : zGU T (m 94 46) (m 99)) (r_OW : zOw (m 99) (m 103) (m 111)) (r_GG : zGG (m 94 58) (m 94 56) (m 94 57) (m 106)) (hpre7 : (m 94 10).toInt = 3 ∧ (m 94 58).toInt = 0) (hpre8 : (m 94 8).toInt = 1) (r_RB : qRB (m 99) (m 100) (m 98) (m 101) (m 102) (m 103) (m 107) (m 108) (m 109) (m 111) (m 112) (m 113) (m 114) (m 94 55) (m 94 46) ro 0 0 0 1 aa) (r_AV : qAv aa) (r_AL : qAL aa (m 94 13) (m 94 14) (m 94 15) (m 94 16) (m 94 59) (m 94 60) (m 94 61)) (r_AGq : qAg (m 99) (m 100) (m 104) aa) (r_DT : qDt (m 117) aa) (r_MG : qMG (m 94 58) (m 106) (m 115) (m 94 57) (m 94 56) (m 99) (m 100) aa) (r_MK : aa 87 8 = (m 94 58)) (r_WTS : (m 94 45).toInt = sm (zbU (m 99)) (m 102) 3100) (r_BT1 : (0 ≤ kk.toInt ∧ kk.toInt < (m 94 7).toInt) → ∀ j : Nat, (j : Int) < ((m 97) kk.toNatClampNeg).toInt → (zbit LL (Int32.ofNat j) ≠ 0 ↔ (kk = 16 ∨ (kk < 16 ∧ (((m 98) kk.toNatClampNeg >>> (Int32.ofNat j &&& 31)) &&& 1) = 1)))) (KZ : ∀ v m₉, zV (zov wr_181 m m₉) → (zW (m 94 7) (m 98) (m₉ 101) (m₉ 102) (m₉ 108)) → (zGW (T + 1) (m₉ 94 55) (m₉ 109)) → (zGU (T + 1) (m₉ 94 46) (m₉ 99)) → (zOw (m₉ 99) (m₉ 103) (m₉ 111)) → (zGG (m₉ 94 58) (m₉ 94 56) (m₉ 94 57) (m₉ 106)) → (qRB (m₉ 99) (m₉ 100) (m 98) (m₉ 101) (m₉ 102) (m₉ 103) (m₉ 107) (m₉ 108) (m₉ 109) (m₉ 111) (m₉ 112) (m₉ 113) (m₉ 114) (m₉ 94 55) (m₉ 94 46) ro 0 0 0 1 (qIf (0 ≤ kk.toInt ∧ kk.toInt < (m 94 7).toInt ∧ zSl r1) (yMk aa kk ((m 97) kk.toNatClampNeg) LL r1) aa)) → (qMG (m₉ 94 58) (m₉ 106) (m₉ 115) (m₉ 94 57) (m₉ 94 56) (m₉ 99) (m₉ 100) (qIf (0 ≤ kk.toInt ∧ kk.toInt < (m 94 7).toInt ∧ zSl r1) (yMk aa kk ((m 97) kk.toNatClampNeg) LL r1) aa)) → ((qIf (0 ≤ kk.toInt ∧ kk.toInt < (m 94 7).toInt ∧ zSl r1) (yMk aa kk ((m 97) kk.toNatClampNeg) LL r1) aa) 87 8 = (m₉ 94 58)) → ((m₉ 94 45).toInt = sm (zbU (m₉ 99)) (m₉ 102) 3100) → ((m₉ 94 58).toInt = 0) → (qAv (qIf (0 ≤ kk.toInt ∧ kk.toInt < (m 94 7).toInt ∧ zSl r1) (yMk aa kk ((m 97) kk.toNatClampNeg) LL r1) aa)) → (qAL (qIf (0 ≤ kk.toInt ∧ kk.toInt < (m 94 7).toInt ∧ zSl r1) (yMk aa kk ((m 97) kk.toNatClampNeg) LL r1) aa) (m 94 13) (m 94 14) (m 94 15) (m 94 16) (m₉ 94 59) (m₉ 94 60) (m₉ 94 61)) → (qAg (m₉ 99) (m₉ 100) (m₉ 104) (qIf (0 ≤ kk.toInt ∧ kk.toInt < (m 94 7).toInt ∧ zSl r1) (yMk aa kk ((m 97) kk.toNatClampNeg) LL r1) aa)) → (qDt (m₉ 117) (qIf (0 ≤ kk.toInt ∧ kk.toInt < (m 94 7).toInt ∧ zSl r1) (yMk aa kk ((m 97) kk.toNatClampNeg) LL r1) aa)) → P (some (.inl v)) (zov wr_181 m m₉)) : zm X 10 224 181 0 [(0, .inr (.inr (some 94))), (1, .inl kk), (2, .inl r1)] m P := by
  have K : ∀ v m₉, zF wr_181 m m₉ → zV m₉ → (zW (m₉ 94 7) (m₉ 98) (m₉ 101) (m₉ 102) (m₉ 108)) → (zGW (T + 1) (m₉ 94 55) (m₉ 109)) → (zGU (T + 1) (m₉ 94 46) (m₉ 99)) → (zOw (m₉ 99) (m₉ 103) (m₉ 111)) → (zGG (m₉ 94 58) (m₉ 94 56) (m₉ 94 57) (m₉ 106)) → (qRB (m₉ 99) (m₉ 100) (m₉ 98) (m₉ 101) (m₉ 102) (m₉ 103) (m₉ 107) (m₉ 108) (m₉ 109) (m₉ 111) (m₉ 112) (m₉ 113) (m₉ 114) (m₉ 94 55) (m₉ 94 46) ro 0 0 0 1 (qIf (0 ≤ kk.toInt ∧ kk.toInt < (m₉ 94 7).toInt ∧ zSl r1) (yMk aa kk ((m₉ 97) kk.toNatClampNeg) LL r1) aa)) → (qMG (m₉ 94 58) (m₉ 106) (m₉ 115) (m₉ 94 57) (m₉ 94 56) (m₉ 99) (m₉ 100) (qIf (0 ≤ kk.toInt ∧ kk.toInt < (m₉ 94 7).toInt ∧ zSl r1) (yMk aa kk ((m₉ 97) kk.toNatClampNeg) LL r1) aa)) → ((qIf (0 ≤ kk.toInt ∧ kk.toInt < (m₉ 94 7).toInt ∧ zSl r1) (yMk aa kk ((m₉ 97) kk.toNatClampNeg) LL r1) aa) 87 8 = (m₉ 94 58)) → ((m₉ 94 45).toInt = sm (zbU (m₉ 99)) (m₉ 102) 3100) → ((m₉ 94 58).toInt = 0) → (qAv (qIf (0 ≤ kk.toInt ∧ kk.toInt < (m₉ 94 7).toInt ∧ zSl r1) (yMk aa kk ((m₉ 97) kk.toNatClampNeg) LL r1) aa)) → (qAL (qIf (0 ≤ kk.toInt ∧ kk.toInt < (m₉ 94 7).toInt ∧ zSl r1) (yMk aa kk ((m₉ 97) kk.toNatClampNeg) LL r1) aa) (m₉ 94 13) (m₉ 94 14) (m₉ 94 15) (m₉ 94 16) (m₉ 94 59) (m₉ 94 60) (m₉ 94 61)) → (qAg (m₉ 99) (m₉ 100) (m₉ 104) (qIf (0 ≤ kk.toInt ∧ kk.toInt < (m₉ 94 7).toInt ∧ zSl r1) (yMk aa kk ((m₉ 97) kk.toNatClampNeg) LL r1) aa)) → (qDt (m₉ 117) (qIf (0 ≤ kk.toInt ∧ kk.toInt < (m₉ 94 7).toInt ∧ zSl r1) (yMk aa kk ((m₉ 97) kk.toNatClampNeg) LL r1) aa)) → P (some (.inl v)) m₉ := by
    intro v m₉ hf z q0 q1 q2 q3 q4 q5 q6 q7 q8 q9 q10 q11 q12 q13
    have e := zov_eq hf
    rw [e] at z ⊢
    try rw [e] at q0
    try rw [e] at q1
    try rw [e] at q2
    try rw [e] at q3
    try rw [e] at q4
    try rw [e] at q5
    try rw [e] at q6
    try rw [e] at q7
    try rw [e] at q8
    try rw [e] at q9
    try rw [e] at q10
    try rw [e] at q11
    try rw [e] at q12
    try rw [e] at q13
    exact KZ v m₉ z q0 q1 q2 q3 q4 q5 q6 q7 q8 q9 q10 q11 q12 q13
  refine g_181_0 kk r1 ?_
  have f1 : 0 ≤ (m 94 10).toInt ∧ (m 94 10).toInt ≤ 6 := rs_94_10 (m := m) hV
  have f2 : 0 ≤ (m 94 58).toInt ∧ (m 94 58).toInt ≤ 1 := rs_94_58 (m := m) hV
  have f3 : 0 ≤ (m 94 8).toInt ∧ (m 94 8).toInt ≤ 1 := rs_94_8 (m := m) hV
  have b4 := i_bd kk
  have li5 : (0 : Int32).toInt = 0 := rfl
  refine zd (fun (h6 : kk < (0 : Int32)) => ?_) (fun (h6 : ¬ kk < (0 : Int32)) => ?_)
  · skip
    have g7 := i_lt h6
    have hV8 : zV (ma_u m 94 0 (1 : Int32)) := uf_94_0 hV
    exact K ((0 : Int32)) _ (zF_u zF_rfl rfl) hV8 r_W (show zGW (T + 1) (m 94 55) (m 109) from by first | (exact GW_up r_GW (by omega)) | (exfalso; omega; done) | (exfalso; contradiction; done)) (show zGU (T + 1) (m 94 46) (m 99) from by first | (exact GU_up r_GU (by omega)) | (exact GU_0 r_GU) | (exfalso; omega; done) | (exfalso; contradiction; done)) r_OW r_GG (show qRB (m 99) (m 100) (m 98) (m 101) (m 102) (m 103) (m 107) (m 108) (m 109) (m 111) (m 112) (m 113) (m 114) (m 94 55) (m 94 46) ro 0 0 0 1 (qIf (0 ≤ kk.toInt ∧ kk.toInt < (m 94 7).toInt ∧ zSl r1) (yMk aa kk ((m 97) kk.toNatClampNeg) LL r1) aa) from by first | (rw [qIf_n (fun w => by have w1 := w.1; have w2 := w.2.1; have w3 := w.2.2.1; have w4 := w.2.2.2; omega)]; exact r_RB; done) | (exfalso; omega; done) | (exfalso; contradiction; done)) (show qMG (m 94 58) (m 106) (m 115) (m 94 57) (m 94 56) (m 99) (m 100) (qIf (0 ≤ kk.toInt ∧ kk.toInt < (m 94 7).toInt ∧ zSl r1) (yMk aa kk ((m 97) kk.toNatClampNeg) LL r1) aa) from by first | (rw [qIf_n (fun w => by have w1 := w.1; have w2 := w.2.1; have w3 := w.2.2.1; have w4 := w.2.2.2; omega)]; exact r_MG; done) | (exfalso; omega; done) | (exfalso; contradiction; done)) (show (qIf (0 ≤ kk.toInt ∧ kk.toInt < (m 94 7).toInt ∧ zSl r1) (yMk aa kk ((m 97) kk.toNatClampNeg) LL r1) aa) 87 8 = (m 94 58) from by first | (rw [qIf_n (fun w => by have w1 := w.1; have w2 := w.2.1; have w3 := w.2.2.1; have w4 := w.2.2.2; omega)]; exact r_MK; done) | (exfalso; omega; done) | (exfalso; contradiction; done)) r_WTS (show (m 94 58).toInt = 0 from by omega) (show qAv (qIf (0 ≤ kk.toInt ∧ kk.toInt < (m 94 7).toInt ∧ zSl r1) (yMk aa kk ((m 97) kk.toNatClampNeg) LL r1) aa) from by first | (rw [qIf_n (fun w => by have w1 := w.1; have w2 := w.2.1; have w3 := w.2.2.1; have w4 := w.2.2.2; omega)]; exact r_AV; done) | (exact r_AV) | (exfalso; omega; done) | (exfalso; contradiction; done)) (show qAL (qIf (0 ≤ kk.toInt ∧ kk.toInt < (m 94 7).toInt ∧ zSl r1) (yMk aa kk ((m 97) kk.toNatClampNeg) LL r1) aa) (m 94 13) (m 94 14) (m 94 15) (m 94 16) (m 94 59) (m 94 60) (m 94 61) from by first | (rw [qIf_n (fun w => by have w1 := w.1; have w2 := w.2.1; have w3 := w.2.2.1; have w4 := w.2.2.2; omega)]; exact r_AL; done) | (exact r_AL) | (exfalso; omega; done) | (exfalso; contradiction; done)) (show qAg (m 99) (m 100) (m 104) (qIf (0 ≤ kk.toInt ∧ kk.toInt < (m 94 7).toInt ∧ zSl r1) (yMk aa kk ((m 97) kk.toNatClampNeg) LL r1) aa) from by first | (rw [qIf_n (fun w => by have w1 := w.1; have w2 := w.2.1; have w3 := w.2.2.1; have w4 := w.2.2.2; omega)]; exact r_AGq; done) | (exact r_AGq) | (exfalso; omega; done) | (exfalso; contradiction; done)) (show qDt (m 117) (qIf (0 ≤ kk.toInt ∧ kk.toInt < (m 94 7).toInt ∧ zSl r1) (yMk aa kk ((m 97) kk.toNatClampNeg) LL r1) aa) from by first | (rw [qIf_n (fun w => by have w1 := w.1; have w2 := w.2.1; have w3 := w.2.2.1; have w4 := w.2.2.2; omega)]; exact r_DT; done) | (exact r_DT) | (exfalso; omega; done) | (exfalso; contradiction; done))
  · skip
    have g9 := i_nlt h6
    have f10 : 0 ≤ (m 94 7).toInt ∧ (m 94 7).toInt ≤ 16 := rs_94_7 (m := m) hV
    refine zd (fun (h11 : (m 94 7) ≤ kk) => ?_) (fun (h11 : ¬ (m 94 7) ≤ kk) => ?_)
    · skip
      have g12 := i_le h11
      have hV13 : zV (ma_u m 94 0 (1 : Int32)) := uf_94_0 hV
      exact K ((0 : Int32)) _ (zF_u zF_rfl rfl) hV13 r_W (show zGW (T + 1) (m 94 55) (m 109) from by first | (exact GW_up r_GW (by omega)) | (exfalso; omega; done) | (exfalso; contradiction; done)) (show zGU (T + 1) (m 94 46) (m 99) from by first | (exact GU_up r_GU (by omega)) | (exact GU_0 r_GU) | (exfalso; omega; done) | (exfalso; contradiction; done)) r_OW r_GG (show qRB (m 99) (m 100) (m 98) (m 101) (m 102) (m 103) (m 107) (m 108) (m 109) (m 111) (m 112) (m 113) (m 114) (m 94 55) (m 94 46) ro 0 0 0 1 (qIf (0 ≤ kk.toInt ∧ kk.toInt < (m 94 7).toInt ∧ zSl r1) (yMk aa kk ((m 97) kk.toNatClampNeg) LL r1) aa) from by first | (rw [qIf_n (fun w => by have w1 := w.1; have w2 := w.2.1; have w3 := w.2.2.1; have w4 := w.2.2.2; omega)]; exact r_RB; done) | (exfalso; omega; done) | (exfalso; contradiction; done)) (show qMG (m 94 58) (m 106) (m 115) (m 94 57) (m 94 56) (m 99) (m 100) (qIf (0 ≤ kk.toInt ∧ kk.toInt < (m 94 7).toInt ∧ zSl r1) (yMk aa kk ((m 97) kk.toNatClampNeg) LL r1) aa) from by first | (rw [qIf_n (fun w => by have w1 := w.1; have w2 := w.2.1; have w3 := w.2.2.1; have w4 := w.2.2.2; omega)]; exact r_MG; done) | (exfalso; omega; done) | (exfalso; contradiction; done)) (show (qIf (0 ≤ kk.toInt ∧ kk.toInt < (m 94 7).toInt ∧ zSl r1) (yMk aa kk ((m 97) kk.toNatClampNeg) LL r1) aa) 87 8 = (m 94 58) from by first | (rw [qIf_n (fun w => by have w1 := w.1; have w2 := w.2.1; have w3 := w.2.2.1; have w4 := w.2.2.2; omega)]; exact r_MK; done) | (exfalso; omega; done) | (exfalso; contradiction; done)) r_WTS (show (m 94 58).toInt = 0 from by omega) (show qAv (qIf (0 ≤ kk.toInt ∧ kk.toInt < (m 94 7).toInt ∧ zSl r1) (yMk aa kk ((m 97) kk.toNatClampNeg) LL r1) aa) from by first | (rw [qIf_n (fun w => by have w1 := w.1; have w2 := w.2.1; have w3 := w.2.2.1; have w4 := w.2.2.2; omega)]; exact r_AV; done) | (exact r_AV) | (exfalso; omega; done) | (exfalso; contradiction; done)) (show qAL (qIf (0 ≤ kk.toInt ∧ kk.toInt < (m 94 7).toInt ∧ zSl r1) (yMk aa kk ((m 97) kk.toNatClampNeg) LL r1) aa) (m 94 13) (m 94 14) (m 94 15) (m 94 16) (m 94 59) (m 94 60) (m 94 61) from by first | (rw [qIf_n (fun w => by have w1 := w.1; have w2 := w.2.1; have w3 := w.2.2.1; have w4 := w.2.2.2; omega)]; exact r_AL; done) | (exact r_AL) | (exfalso; omega; done) | (exfalso; contradiction; done)) (show qAg (m 99) (m 100) (m 104) (qIf (0 ≤ kk.toInt ∧ kk.toInt < (m 94 7).toInt ∧ zSl r1) (yMk aa kk ((m 97) kk.toNatClampNeg) LL r1) aa) from by first | (rw [qIf_n (fun w => by have w1 := w.1; have w2 := w.2.1; have w3 := w.2.2.1; have w4 := w.2.2.2; omega)]; exact r_AGq; done) | (exact r_AGq) | (exfalso; omega; done) | (exfalso; contradiction; done)) (show qDt (m 117) (qIf (0 ≤ kk.toInt ∧ kk.toInt < (m 94 7).toInt ∧ zSl r1) (yMk aa kk ((m 97) kk.toNatClampNeg) LL r1) aa) from by first | (rw [qIf_n (fun w => by have w1 := w.1; have w2 := w.2.1; have w3 := w.2.2.1; have w4 := w.2.2.2; omega)]; exact r_DT; done) | (exact r_DT) | (exfalso; omega; done) | (exfalso; contradiction; done))
    · skip
      have g14 := i_nle h11
      have b15 := i_bd r1
      refine zd (fun (h16 : r1 < (0 : Int32)) => ?_) (fun (h16 : ¬ r1 < (0 : Int32)) => ?_)
      · skip
        have g17 := i_lt h16
        have hV18 : zV (ma_u m 94 0 (1 : Int32)) := uf_94_0 hV
        exact K ((0 : Int32)) _ (zF_u zF_rfl rfl) hV18 r_W (show zGW (T + 1) (m 94 55) (m 109) from by first | (exact GW_up r_GW (by omega)) | (exfalso; omega; done) | (exfalso; contradiction; done)) (show zGU (T + 1) (m 94 46) (m 99) from by first | (exact GU_up r_GU (by omega)) | (exact GU_0 r_GU) | (exfalso; omega; done) | (exfalso; contradiction; done)) r_OW r_GG (show qRB (m 99) (m 100) (m 98) (m 101) (m 102) (m 103) (m 107) (m 108) (m 109) (m 111) (m 112) (m 113) (m 114) (m 94 55) (m 94 46) ro 0 0 0 1 (qIf (0 ≤ kk.toInt ∧ kk.toInt < (m 94 7).toInt ∧ zSl r1) (yMk aa kk ((m 97) kk.toNatClampNeg) LL r1) aa) from by first | (rw [qIf_n (fun w => by have w1 := w.1; have w2 := w.2.1; have w3 := w.2.2.1; have w4 := w.2.2.2; omega)]; exact r_RB; done) | (exfalso; omega; done) | (exfalso; contradiction; done)) (show qMG (m 94 58) (m 106) (m 115) (m 94 57) (m 94 56) (m 99) (m 100) (qIf (0 ≤ kk.toInt ∧ kk.toInt < (m 94 7).toInt ∧ zSl r1) (yMk aa kk ((m 97) kk.toNatClampNeg) LL r1) aa) from by first | (rw [qIf_n (fun w => by have w1 := w.1; have w2 := w.2.1; have w3 := w.2.2.1; have w4 := w.2.2.2; omega)]; exact r_MG; done) | (exfalso; omega; done) | (exfalso; contradiction; done)) (show (qIf (0 ≤ kk.toInt ∧ kk.toInt < (m 94 7).toInt ∧ zSl r1) (yMk aa kk ((m 97) kk.toNatClampNeg) LL r1) aa) 87 8 = (m 94 58) from by first | (rw [qIf_n (fun w => by have w1 := w.1; have w2 := w.2.1; have w3 := w.2.2.1; have w4 := w.2.2.2; omega)]; exact r_MK; done) | (exfalso; omega; done) | (exfalso; contradiction; done)) r_WTS (show (m 94 58).toInt = 0 from by omega) (show qAv (qIf (0 ≤ kk.toInt ∧ kk.toInt < (m 94 7).toInt ∧ zSl r1) (yMk aa kk ((m 97) kk.toNatClampNeg) LL r1) aa) from by first | (rw [qIf_n (fun w => by have w1 := w.1; have w2 := w.2.1; have w3 := w.2.2.1; have w4 := w.2.2.2; omega)]; exact r_AV; done) | (exact r_AV) | (exfalso; omega; done) | (exfalso; contradiction; done)) (show qAL (qIf (0 ≤ kk.toInt ∧ kk.toInt < (m 94 7).toInt ∧ zSl r1) (yMk aa kk ((m 97) kk.toNatClampNeg) LL r1) aa) (m 94 13) (m 94 14) (m 94 15) (m 94 16) (m 94 59) (m 94 60) (m 94 61) from by first | (rw [qIf_n (fun w => by have w1 := w.1; have w2 := w.2.1; have w3 := w.2.2.1; have w4 := w.2.2.2; omega)]; exact r_AL; done) | (exact r_AL) | (exfalso; omega; done) | (exfalso; contradiction; done)) (show qAg (m 99) (m 100) (m 104) (qIf (0 ≤ kk.toInt ∧ kk.toInt < (m 94 7).toInt ∧ zSl r1) (yMk aa kk ((m 97) kk.toNatClampNeg) LL r1) aa) from by first | (rw [qIf_n (fun w => by have w1 := w.1; have w2 := w.2.1; have w3 := w.2.2.1; have w4 := w.2.2.2; omega)]; exact r_AGq; done) | (exact r_AGq) | (exfalso; omega; done) | (exfalso; contradiction; done)) (show qDt (m 117) (qIf (0 ≤ kk.toInt ∧ kk.toInt < (m 94 7).toInt ∧ zSl r1) (yMk aa kk ((m 97) kk.toNatClampNeg) LL r1) aa) from by first | (rw [qIf_n (fun w => by have w1 := w.1; have w2 := w.2.1; have w3 := w.2.2.1; have w4 := w.2.2.2; omega)]; exact r_DT; done) | (exact r_DT) | (exfalso; omega; done) | (exfalso; contradiction; done))
      · skip
        have g19 := i_nlt h16
        have li20 : (16 : Int32).toInt = 16 := rfl
        refine zd (fun (h21 : (16 : Int32) ≤ r1) => ?_) (fun (h21 : ¬ (16 : Int32) ≤ r1) => ?_)
        · skip
          have g22 := i_le h21
          have hV23 : zV (ma_u m 94 0 (1 : Int32)) := uf_94_0 hV
          exact K ((0 : Int32)) _ (zF_u zF_rfl rfl) hV23 r_W (show zGW (T + 1) (m 94 55) (m 109) from by first | (exact GW_up r_GW (by omega)) | (exfalso; omega; done) | (exfalso; contradiction; done)) (show zGU (T + 1) (m 94 46) (m 99) from by first | (exact GU_up r_GU (by omega)) | (exact GU_0 r_GU) | (exfalso; omega; done) | (exfalso; contradiction; done)) r_OW r_GG (show qRB (m 99) (m 100) (m 98) (m 101) (m 102) (m 103) (m 107) (m 108) (m 109) (m 111) (m 112) (m 113) (m 114) (m 94 55) (m 94 46) ro 0 0 0 1 (qIf (0 ≤ kk.toInt ∧ kk.toInt < (m 94 7).toInt ∧ zSl r1) (yMk aa kk ((m 97) kk.toNatClampNeg) LL r1) aa) from by first | (rw [qIf_n (fun w => by have w1 := w.1; have w2 := w.2.1; have w3 := w.2.2.1; have w4 := w.2.2.2; omega)]; exact r_RB; done) | (exfalso; omega; done) | (exfalso; contradiction; done)) (show qMG (m 94 58) (m 106) (m 115) (m 94 57) (m 94 56) (m 99) (m 100) (qIf (0 ≤ kk.toInt ∧ kk.toInt < (m 94 7).toInt ∧ zSl r1) (yMk aa kk ((m 97) kk.toNatClampNeg) LL r1) aa) from by first | (rw [qIf_n (fun w => by have w1 := w.1; have w2 := w.2.1; have w3 := w.2.2.1; have w4 := w.2.2.2; omega)]; exact r_MG; done) | (exfalso; omega; done) | (exfalso; contradiction; done)) (show (qIf (0 ≤ kk.toInt ∧ kk.toInt < (m 94 7).toInt ∧ zSl r1) (yMk aa kk ((m 97) kk.toNatClampNeg) LL r1) aa) 87 8 = (m 94 58) from by first | (rw [qIf_n (fun w => by have w1 := w.1; have w2 := w.2.1; have w3 := w.2.2.1; have w4 := w.2.2.2; omega)]; exact r_MK; done) | (exfalso; omega; done) | (exfalso; contradiction; done)) r_WTS (show (m 94 58).toInt = 0 from by omega) (show qAv (qIf (0 ≤ kk.toInt ∧ kk.toInt < (m 94 7).toInt ∧ zSl r1) (yMk aa kk ((m 97) kk.toNatClampNeg) LL r1) aa) from by first | (rw [qIf_n (fun w => by have w1 := w.1; have w2 := w.2.1; have w3 := w.2.2.1; have w4 := w.2.2.2; omega)]; exact r_AV; done) | (exact r_AV) | (exfalso; omega; done) | (exfalso; contradiction; done)) (show qAL (qIf (0 ≤ kk.toInt ∧ kk.toInt < (m 94 7).toInt ∧ zSl r1) (yMk aa kk ((m 97) kk.toNatClampNeg) LL r1) aa) (m 94 13) (m 94 14) (m 94 15) (m 94 16) (m 94 59) (m 94 60) (m 94 61) from by first | (rw [qIf_n (fun w => by have w1 := w.1; have w2 := w.2.1; have w3 := w.2.2.1; have w4 := w.2.2.2; omega)]; exact r_AL; done) | (exact r_AL) | (exfalso; omega; done) | (exfalso; contradiction; done)) (show qAg (m 99) (m 100) (m 104) (qIf (0 ≤ kk.toInt ∧ kk.toInt < (m 94 7).toInt ∧ zSl r1) (yMk aa kk ((m 97) kk.toNatClampNeg) LL r1) aa) from by first | (rw [qIf_n (fun w => by have w1 := w.1; have w2 := w.2.1; have w3 := w.2.2.1; have w4 := w.2.2.2; omega)]; exact r_AGq; done) | (exact r_AGq) | (exfalso; omega; done) | (exfalso; contradiction; done)) (show qDt (m 117) (qIf (0 ≤ kk.toInt ∧ kk.toInt < (m 94 7).toInt ∧ zSl r1) (yMk aa kk ((m 97) kk.toNatClampNeg) LL r1) aa) from by first | (rw [qIf_n (fun w => by have w1 := w.1; have w2 := w.2.1; have w3 := w.2.2.1; have w4 := w.2.2.2; omega)]; exact r_DT; done) | (exact r_DT) | (exfalso; omega; done) | (exfalso; contradiction; done))
        · skip
          have g24 := i_nle h21
          refine zd (fun (h25 : (m 94 8) = (0 : Int32)) => ?_) (fun (h25 : ¬ (m 94 8) = (0 : Int32)) => ?_)
          · skip
            have g26 := i_eq h25
            exfalso; omega
          · skip
            have g27 := i_ne h25
            have hg28 : (0 ≤ kk ∧ kk.toNatClampNeg < 16) := i_ix (by omega) (by omega)
            refine ⟨hg28, ?_⟩
            first | have f29 : 0 ≤ (m 97 kk.toNatClampNeg).toInt ∧ (m 97 kk.toNatClampNeg).toInt ≤ 8 := ra_97 (m := m) hV (k := kk.toNatClampNeg) (i_ix (n := 16) (by omega) (by omega)).2 | have b30 := i_bd (m 97 kk.toNatClampNeg)
            have hV31 : zV (ma_u m 94 0 (0 : Int32)) := uf_94_0 hV
            refine sp_183ry (LL := LL) (kk) ((m 97 kk.toNatClampNeg)) (r1) hV31 (by omega) (by omega) (by omega) (by omega) (by omega) (by omega) (by omega) (show 16 ≤ kk.toInt ∨ kk.toInt < (m 94 7).toInt from by omega) (by omega) r_W r_GW r_GU r_OW r_GG (show (m 94 10).toInt = 3 ∧ (m 94 58).toInt = 0 from by omega) (show (m 94 8).toInt = 1 from by omega) r_RB r_AV r_AL r_AGq r_DT r_MG r_MK r_WTS (show ∀ j : Nat, (j : Int) < (m 97 kk.toNatClampNeg).toInt → (zbit LL (Int32.ofNat j) ≠ 0 ↔ (kk = 16 ∨ (kk < 16 ∧ (((m 98) kk.toNatClampNeg >>> (Int32.ofNat j &&& 31)) &&& 1) = 1))) from by first | (exact r_BT1 ⟨by omega, by omega⟩) | (exfalso; omega; done) | (exfalso; contradiction; done)) (fun v2 m1 hV_m1 p0_m1 p1_m1 p2_m1 p3_m1 p4_m1 p5_m1 p6_m1 p7_m1 p8_m1 p9_m1 p10_m1 p11_m1 p12_m1 p13_m1 p14_m1 => zmi_n ?_)
            have p0_m1 : zW (m 94 7) (m 98) (m1 101) (m1 102) (m1 108) := p0_m1
            have p1_m1 : zGW (T + 1) (m1 94 55) (m1 109) := p1_m1
            have p2_m1 : zGU (T + 1) (m1 94 46) (m1 99) := p2_m1
            have p3_m1 : zOw (m1 99) (m1 103) (m1 111) := p3_m1
            have p4_m1 : zGG (m1 94 58) (m1 94 56) (m1 94 57) (m1 106) := p4_m1
            have p5_m1 : qRB (m1 99) (m1 100) (m 98) (m1 101) (m1 102) (m1 103) (m1 107) (m1 108) (m1 109) (m1 111) (m1 112) (m1 113) (m1 114) (m1 94 55) (m1 94 46) ro 0 0 0 1 (yMk aa kk (m 97 kk.toNatClampNeg) LL r1) := p5_m1
            have p6_m1 : qMG (m1 94 58) (m1 106) (m1 115) (m1 94 57) (m1 94 56) (m1 99) (m1 100) (yMk aa kk (m 97 kk.toNatClampNeg) LL r1) := p6_m1
            have p7_m1 : (yMk aa kk (m 97 kk.toNatClampNeg) LL r1) 87 8 = (m1 94 58) := p7_m1
            have p8_m1 : (m1 94 45).toInt = sm (zbU (m1 99)) (m1 102) 3100 := p8_m1
            have p9_m1 : (m1 94 58).toInt = 0 := p9_m1
            have p10_m1 : v2 = yMn aa (m 97 kk.toNatClampNeg) := p10_m1
            have p11_m1 : qAv (yMk aa kk (m 97 kk.toNatClampNeg) LL r1) := p11_m1
            have p12_m1 : qAL (yMk aa kk (m 97 kk.toNatClampNeg) LL r1) (m 94 13) (m 94 14) (m 94 15) (m 94 16) (m1 94 59) (m1 94 60) (m1 94 61) := p12_m1
            have p13_m1 : qAg (m1 99) (m1 100) (m1 104) (yMk aa kk (m 97 kk.toNatClampNeg) LL r1) := p13_m1
            have p14_m1 : qDt (m1 117) (yMk aa kk (m 97 kk.toNatClampNeg) LL r1) := p14_m1
            have f32 : 0 ≤ (m1 94 58).toInt ∧ (m1 94 58).toInt ≤ 1 := rs_94_58 (m := (zov wr_183 (ma_u m 94 0 (0 : Int32)) m1)) hV_m1
            have b33 := i_bd v2
            exact K (v2) _ (zF_zov (zF_u zF_rfl rfl) ws_183_181) hV_m1 p0_m1 p1_m1 p2_m1 p3_m1 p4_m1 (show qRB (m1 99) (m1 100) (m 98) (m1 101) (m1 102) (m1 103) (m1 107) (m1 108) (m1 109) (m1 111) (m1 112) (m1 113) (m1 114) (m1 94 55) (m1 94 46) ro 0 0 0 1 (qIf (0 ≤ kk.toInt ∧ kk.toInt < (m 94 7).toInt ∧ zSl r1) (yMk aa kk ((m 97) kk.toNatClampNeg) LL r1) aa) from by first | (rw [qIf_y ⟨by omega, by omega, by omega, by omega⟩]; exact p5_m1; done) | (exfalso; omega; done) | (exfalso; contradiction; done)) (show qMG (m1 94 58) (m1 106) (m1 115) (m1 94 57) (m1 94 56) (m1 99) (m1 100) (qIf (0 ≤ kk.toInt ∧ kk.toInt < (m 94 7).toInt ∧ zSl r1) (yMk aa kk ((m 97) kk.toNatClampNeg) LL r1) aa) from by first | (rw [qIf_y ⟨by omega, by omega, by omega, by omega⟩]; exact p6_m1; done) | (exfalso; omega; done) | (exfalso; contradiction; done)) (show (qIf (0 ≤ kk.toInt ∧ kk.toInt < (m 94 7).toInt ∧ zSl r1) (yMk aa kk ((m 97) kk.toNatClampNeg) LL r1) aa) 87 8 = (m1 94 58) from by first | (rw [qIf_y ⟨by omega, by omega, by omega, by omega⟩]; exact p7_m1; done) | (exfalso; omega; done) | (exfalso; contradiction; done)) p8_m1 (show (m1 94 58).toInt = 0 from by omega) (show qAv (qIf (0 ≤ kk.toInt ∧ kk.toInt < (m 94 7).toInt ∧ zSl r1) (yMk aa kk ((m 97) kk.toNatClampNeg) LL r1) aa) from by first | (rw [qIf_y ⟨by omega, by omega, by omega, by omega⟩]; exact p11_m1; done) | (exact p11_m1) | (exfalso; omega; done) | (exfalso; contradiction; done)) (show qAL (qIf (0 ≤ kk.toInt ∧ kk.toInt < (m 94 7).toInt ∧ zSl r1) (yMk aa kk ((m 97) kk.toNatClampNeg) LL r1) aa) (m 94 13) (m 94 14) (m 94 15) (m 94 16) (m1 94 59) (m1 94 60) (m1 94 61) from by first | (rw [qIf_y ⟨by omega, by omega, by omega, by omega⟩]; exact p12_m1; done) | (exact p12_m1) | (exfalso; omega; done) | (exfalso; contradiction; done)) (show qAg (m1 99) (m1 100) (m1 104) (qIf (0 ≤ kk.toInt ∧ kk.toInt < (m 94 7).toInt ∧ zSl r1) (yMk aa kk ((m 97) kk.toNatClampNeg) LL r1) aa) from by first | (rw [qIf_y ⟨by omega, by omega, by omega, by omega⟩]; exact p13_m1; done) | (exact p13_m1) | (exfalso; omega; done) | (exfalso; contradiction; done)) (show qDt (m1 117) (qIf (0 ≤ kk.toInt ∧ kk.toInt < (m 94 7).toInt ∧ zSl r1) (yMk aa kk ((m 97) kk.toNatClampNeg) LL r1) aa) from by first | (rw [qIf_y ⟨by omega, by omega, by omega, by omega⟩]; exact p14_m1; done) | (exact p14_m1) | (exfalso; omega; done) | (exfalso; contradiction; done))

/-! from 95.v18 -/
/-! AGES, the reference (written by wip/tools/gen15v.py) -/
set_option maxHeartbeats 8000000 in
theorem sp_243ry {X : Nat × (Nat → Int32)} {P : Option ma_V → (Nat → Nat → Int32) → Prop} {T : Nat} {aa : Nat→Nat→Int32} {ro : Int32} {m : Nat → Nat → Int32} (rf : Int32) (nn : Int32) (r1 : Int32) (hV : zV m) (hpre0 : T + 1 ≤ 512) (hpre1 : 0 ≤ rf.toInt) (hpre2 : rf.toInt ≤ 1) (hpre3 : T ≤ 512) (r_W : zW (m 94 7) (m 98) (m 101) (m 102) (m 108)) (r_GW : zGW T (m 94 55) (m 109)) (r_GU : zGU T (m 94 46) (m 99)) (r_OW : zOw (m 99) (m 103) (m 111)) (r_GG : zGG (m 94 58) (m 94 56) (m 94 57) (m 106)) (hpre9 : (m 94 10).toInt = 3 ∧ (m 94 58).toInt = 0) (hpre10 : (m 94 8).toInt = 1) (r_RB : qRB (m 99) (m 100) (m 98) (m 101) (m 102) (m 103) (m 107) (m 108) (m 109) (m 111) (m 112) (m 113) (m 114) (m 94 55) (m 94 46) ro 0 0 0 1 aa) (r_AV : qAv aa) (r_AL : qAL aa (m 94 13) (m 94 14) (m 94 15) (m 94 16) (m 94 59) (m 94 60) (m 94 61)) (r_AGq : qAg (m 99) (m 100) (m 104) aa) (r_DT : qDt (m 117) aa) (r_MG : qMG (m 94 58) (m 106) (m 115) (m 94 57) (m 94 56) (m 99) (m 100) aa) (r_MK : aa 87 8 = (m 94 58)) (r_WTS : (m 94 45).toInt = sm (zbU (m 99)) (m 102) 3100) (KZ : ∀ v m₉, zV (zov wr_243 m m₉) → (zW (m 94 7) (m 98) (m₉ 101) (m₉ 102) (m₉ 108)) → (zGW (T + 1) (m₉ 94 55) (m₉ 109)) → (zGU (T + 1) (m₉ 94 46) (m₉ 99)) → (zOw (m₉ 99) (m₉ 103) (m₉ 111)) → (zGG (m₉ 94 58) (m₉ 94 56) (m₉ 94 57) (m₉ 106)) → (qRB (m₉ 99) (m₉ 100) (m 98) (m₉ 101) (m₉ 102) (m₉ 103) (m₉ 107) (m₉ 108) (m₉ 109) (m₉ 111) (m₉ 112) (m₉ 113) (m₉ 114) (m₉ 94 55) (m₉ 94 46) ro 0 0 0 1 (qIf (0 ≤ nn.toInt ∧ nn.toInt ≤ 60 ∧ zSl r1) (if rf = 0 then yMk aa 17 nn 0 r1 else yMk aa 16 nn (-1) r1) aa)) → (qMG (m₉ 94 58) (m₉ 106) (m₉ 115) (m₉ 94 57) (m₉ 94 56) (m₉ 99) (m₉ 100) (qIf (0 ≤ nn.toInt ∧ nn.toInt ≤ 60 ∧ zSl r1) (if rf = 0 then yMk aa 17 nn 0 r1 else yMk aa 16 nn (-1) r1) aa)) → ((qIf (0 ≤ nn.toInt ∧ nn.toInt ≤ 60 ∧ zSl r1) (if rf = 0 then yMk aa 17 nn 0 r1 else yMk aa 16 nn (-1) r1) aa) 87 8 = (m₉ 94 58)) → ((m₉ 94 45).toInt = sm (zbU (m₉ 99)) (m₉ 102) 3100) → ((m₉ 94 58).toInt = 0) → (qAv (qIf (0 ≤ nn.toInt ∧ nn.toInt ≤ 60 ∧ zSl r1) (if rf = 0 then yMk aa 17 nn 0 r1 else yMk aa 16 nn (-1) r1) aa)) → (qAL (qIf (0 ≤ nn.toInt ∧ nn.toInt ≤ 60 ∧ zSl r1) (if rf = 0 then yMk aa 17 nn 0 r1 else yMk aa 16 nn (-1) r1) aa) (m 94 13) (m 94 14) (m 94 15) (m 94 16) (m₉ 94 59) (m₉ 94 60) (m₉ 94 61)) → (qAg (m₉ 99) (m₉ 100) (m₉ 104) (qIf (0 ≤ nn.toInt ∧ nn.toInt ≤ 60 ∧ zSl r1) (if rf = 0 then yMk aa 17 nn 0 r1 else yMk aa 16 nn (-1) r1) aa)) → (qDt (m₉ 117) (qIf (0 ≤ nn.toInt ∧ nn.toInt ≤ 60 ∧ zSl r1) (if rf = 0 then yMk aa 17 nn 0 r1 else yMk aa 16 nn (-1) r1) aa)) → P (some (.inl v)) (zov wr_243 m m₉)) : zm X 10 224 243 0 [(0, .inr (.inr (some 94))), (1, .inl rf), (2, .inl nn), (3, .inl r1)] m P := by
  have K : ∀ v m₉, zF wr_243 m m₉ → zV m₉ → (zW (m₉ 94 7) (m₉ 98) (m₉ 101) (m₉ 102) (m₉ 108)) → (zGW (T + 1) (m₉ 94 55) (m₉ 109)) → (zGU (T + 1) (m₉ 94 46) (m₉ 99)) → (zOw (m₉ 99) (m₉ 103) (m₉ 111)) → (zGG (m₉ 94 58) (m₉ 94 56) (m₉ 94 57) (m₉ 106)) → (qRB (m₉ 99) (m₉ 100) (m₉ 98) (m₉ 101) (m₉ 102) (m₉ 103) (m₉ 107) (m₉ 108) (m₉ 109) (m₉ 111) (m₉ 112) (m₉ 113) (m₉ 114) (m₉ 94 55) (m₉ 94 46) ro 0 0 0 1 (qIf (0 ≤ nn.toInt ∧ nn.toInt ≤ 60 ∧ zSl r1) (if rf = 0 then yMk aa 17 nn 0 r1 else yMk aa 16 nn (-1) r1) aa)) → (qMG (m₉ 94 58) (m₉ 106) (m₉ 115) (m₉ 94 57) (m₉ 94 56) (m₉ 99) (m₉ 100) (qIf (0 ≤ nn.toInt ∧ nn.toInt ≤ 60 ∧ zSl r1) (if rf = 0 then yMk aa 17 nn 0 r1 else yMk aa 16 nn (-1) r1) aa)) → ((qIf (0 ≤ nn.toInt ∧ nn.toInt ≤ 60 ∧ zSl r1) (if rf = 0 then yMk aa 17 nn 0 r1 else yMk aa 16 nn (-1) r1) aa) 87 8 = (m₉ 94 58)) → ((m₉ 94 45).toInt = sm (zbU (m₉ 99)) (m₉ 102) 3100) → ((m₉ 94 58).toInt = 0) → (qAv (qIf (0 ≤ nn.toInt ∧ nn.toInt ≤ 60 ∧ zSl r1) (if rf = 0 then yMk aa 17 nn 0 r1 else yMk aa 16 nn (-1) r1) aa)) → (qAL (qIf (0 ≤ nn.toInt ∧ nn.toInt ≤ 60 ∧ zSl r1) (if rf = 0 then yMk aa 17 nn 0 r1 else yMk aa 16 nn (-1) r1) aa) (m₉ 94 13) (m₉ 94 14) (m₉ 94 15) (m₉ 94 16) (m₉ 94 59) (m₉ 94 60) (m₉ 94 61)) → (qAg (m₉ 99) (m₉ 100) (m₉ 104) (qIf (0 ≤ nn.toInt ∧ nn.toInt ≤ 60 ∧ zSl r1) (if rf = 0 then yMk aa 17 nn 0 r1 else yMk aa 16 nn (-1) r1) aa)) → (qDt (m₉ 117) (qIf (0 ≤ nn.toInt ∧ nn.toInt ≤ 60 ∧ zSl r1) (if rf = 0 then yMk aa 17 nn 0 r1 else yMk aa 16 nn (-1) r1) aa)) → P (some (.inl v)) m₉ := by
    intro v m₉ hf z q0 q1 q2 q3 q4 q5 q6 q7 q8 q9 q10 q11 q12 q13
    have e := zov_eq hf
    rw [e] at z ⊢
    try rw [e] at q0
    try rw [e] at q1
    try rw [e] at q2
    try rw [e] at q3
    try rw [e] at q4
    try rw [e] at q5
    try rw [e] at q6
    try rw [e] at q7
    try rw [e] at q8
    try rw [e] at q9
    try rw [e] at q10
    try rw [e] at q11
    try rw [e] at q12
    try rw [e] at q13
    exact KZ v m₉ z q0 q1 q2 q3 q4 q5 q6 q7 q8 q9 q10 q11 q12 q13
  refine g_243_0 rf nn r1 ?_
  have f1 : 0 ≤ (m 94 10).toInt ∧ (m 94 10).toInt ≤ 6 := rs_94_10 (m := m) hV
  have f2 : 0 ≤ (m 94 58).toInt ∧ (m 94 58).toInt ≤ 1 := rs_94_58 (m := m) hV
  have f3 : 0 ≤ (m 94 8).toInt ∧ (m 94 8).toInt ≤ 1 := rs_94_8 (m := m) hV
  have b4 := i_bd nn
  have li5 : (0 : Int32).toInt = 0 := rfl
  refine zd (fun (h6 : nn < (0 : Int32)) => ?_) (fun (h6 : ¬ nn < (0 : Int32)) => ?_)
  · skip
    have g7 := i_lt h6
    have hV8 : zV (ma_u m 94 0 (1 : Int32)) := uf_94_0 hV
    exact K ((0 : Int32)) _ (zF_u zF_rfl rfl) hV8 r_W (show zGW (T + 1) (m 94 55) (m 109) from by first | (exact GW_up r_GW (by omega)) | (exfalso; omega; done) | (exfalso; contradiction; done)) (show zGU (T + 1) (m 94 46) (m 99) from by first | (exact GU_up r_GU (by omega)) | (exact GU_0 r_GU) | (exfalso; omega; done) | (exfalso; contradiction; done)) r_OW r_GG (show qRB (m 99) (m 100) (m 98) (m 101) (m 102) (m 103) (m 107) (m 108) (m 109) (m 111) (m 112) (m 113) (m 114) (m 94 55) (m 94 46) ro 0 0 0 1 (qIf (0 ≤ nn.toInt ∧ nn.toInt ≤ 60 ∧ zSl r1) (if rf = 0 then yMk aa 17 nn 0 r1 else yMk aa 16 nn (-1) r1) aa) from by first | (rw [qIf_n (fun w => by have w1 := w.1; have w2 := w.2.1; have w3 := w.2.2.1; have w4 := w.2.2.2; omega)]; exact r_RB; done) | (exfalso; omega; done) | (exfalso; contradiction; done)) (show qMG (m 94 58) (m 106) (m 115) (m 94 57) (m 94 56) (m 99) (m 100) (qIf (0 ≤ nn.toInt ∧ nn.toInt ≤ 60 ∧ zSl r1) (if rf = 0 then yMk aa 17 nn 0 r1 else yMk aa 16 nn (-1) r1) aa) from by first | (rw [qIf_n (fun w => by have w1 := w.1; have w2 := w.2.1; have w3 := w.2.2.1; have w4 := w.2.2.2; omega)]; exact r_MG; done) | (exfalso; omega; done) | (exfalso; contradiction; done)) (show (qIf (0 ≤ nn.toInt ∧ nn.toInt ≤ 60 ∧ zSl r1) (if rf = 0 then yMk aa 17 nn 0 r1 else yMk aa 16 nn (-1) r1) aa) 87 8 = (m 94 58) from by first | (rw [qIf_n (fun w => by have w1 := w.1; have w2 := w.2.1; have w3 := w.2.2.1; have w4 := w.2.2.2; omega)]; exact r_MK; done) | (exfalso; omega; done) | (exfalso; contradiction; done)) r_WTS (show (m 94 58).toInt = 0 from by omega) (show qAv (qIf (0 ≤ nn.toInt ∧ nn.toInt ≤ 60 ∧ zSl r1) (if rf = 0 then yMk aa 17 nn 0 r1 else yMk aa 16 nn (-1) r1) aa) from by first | (rw [qIf_n (fun w => by have w1 := w.1; have w2 := w.2.1; have w3 := w.2.2.1; have w4 := w.2.2.2; omega)]; exact r_AV; done) | (exact r_AV) | (exfalso; omega; done) | (exfalso; contradiction; done)) (show qAL (qIf (0 ≤ nn.toInt ∧ nn.toInt ≤ 60 ∧ zSl r1) (if rf = 0 then yMk aa 17 nn 0 r1 else yMk aa 16 nn (-1) r1) aa) (m 94 13) (m 94 14) (m 94 15) (m 94 16) (m 94 59) (m 94 60) (m 94 61) from by first | (rw [qIf_n (fun w => by have w1 := w.1; have w2 := w.2.1; have w3 := w.2.2.1; have w4 := w.2.2.2; omega)]; exact r_AL; done) | (exact r_AL) | (exfalso; omega; done) | (exfalso; contradiction; done)) (show qAg (m 99) (m 100) (m 104) (qIf (0 ≤ nn.toInt ∧ nn.toInt ≤ 60 ∧ zSl r1) (if rf = 0 then yMk aa 17 nn 0 r1 else yMk aa 16 nn (-1) r1) aa) from by first | (rw [qIf_n (fun w => by have w1 := w.1; have w2 := w.2.1; have w3 := w.2.2.1; have w4 := w.2.2.2; omega)]; exact r_AGq; done) | (exact r_AGq) | (exfalso; omega; done) | (exfalso; contradiction; done)) (show qDt (m 117) (qIf (0 ≤ nn.toInt ∧ nn.toInt ≤ 60 ∧ zSl r1) (if rf = 0 then yMk aa 17 nn 0 r1 else yMk aa 16 nn (-1) r1) aa) from by first | (rw [qIf_n (fun w => by have w1 := w.1; have w2 := w.2.1; have w3 := w.2.2.1; have w4 := w.2.2.2; omega)]; exact r_DT; done) | (exact r_DT) | (exfalso; omega; done) | (exfalso; contradiction; done))
  · skip
    have g9 := i_nlt h6
    have li10 : (60 : Int32).toInt = 60 := rfl
    refine zd (fun (h11 : (60 : Int32) < nn) => ?_) (fun (h11 : ¬ (60 : Int32) < nn) => ?_)
    · skip
      have g12 := i_lt h11
      have hV13 : zV (ma_u m 94 0 (1 : Int32)) := uf_94_0 hV
      exact K ((0 : Int32)) _ (zF_u zF_rfl rfl) hV13 r_W (show zGW (T + 1) (m 94 55) (m 109) from by first | (exact GW_up r_GW (by omega)) | (exfalso; omega; done) | (exfalso; contradiction; done)) (show zGU (T + 1) (m 94 46) (m 99) from by first | (exact GU_up r_GU (by omega)) | (exact GU_0 r_GU) | (exfalso; omega; done) | (exfalso; contradiction; done)) r_OW r_GG (show qRB (m 99) (m 100) (m 98) (m 101) (m 102) (m 103) (m 107) (m 108) (m 109) (m 111) (m 112) (m 113) (m 114) (m 94 55) (m 94 46) ro 0 0 0 1 (qIf (0 ≤ nn.toInt ∧ nn.toInt ≤ 60 ∧ zSl r1) (if rf = 0 then yMk aa 17 nn 0 r1 else yMk aa 16 nn (-1) r1) aa) from by first | (rw [qIf_n (fun w => by have w1 := w.1; have w2 := w.2.1; have w3 := w.2.2.1; have w4 := w.2.2.2; omega)]; exact r_RB; done) | (exfalso; omega; done) | (exfalso; contradiction; done)) (show qMG (m 94 58) (m 106) (m 115) (m 94 57) (m 94 56) (m 99) (m 100) (qIf (0 ≤ nn.toInt ∧ nn.toInt ≤ 60 ∧ zSl r1) (if rf = 0 then yMk aa 17 nn 0 r1 else yMk aa 16 nn (-1) r1) aa) from by first | (rw [qIf_n (fun w => by have w1 := w.1; have w2 := w.2.1; have w3 := w.2.2.1; have w4 := w.2.2.2; omega)]; exact r_MG; done) | (exfalso; omega; done) | (exfalso; contradiction; done)) (show (qIf (0 ≤ nn.toInt ∧ nn.toInt ≤ 60 ∧ zSl r1) (if rf = 0 then yMk aa 17 nn 0 r1 else yMk aa 16 nn (-1) r1) aa) 87 8 = (m 94 58) from by first | (rw [qIf_n (fun w => by have w1 := w.1; have w2 := w.2.1; have w3 := w.2.2.1; have w4 := w.2.2.2; omega)]; exact r_MK; done) | (exfalso; omega; done) | (exfalso; contradiction; done)) r_WTS (show (m 94 58).toInt = 0 from by omega) (show qAv (qIf (0 ≤ nn.toInt ∧ nn.toInt ≤ 60 ∧ zSl r1) (if rf = 0 then yMk aa 17 nn 0 r1 else yMk aa 16 nn (-1) r1) aa) from by first | (rw [qIf_n (fun w => by have w1 := w.1; have w2 := w.2.1; have w3 := w.2.2.1; have w4 := w.2.2.2; omega)]; exact r_AV; done) | (exact r_AV) | (exfalso; omega; done) | (exfalso; contradiction; done)) (show qAL (qIf (0 ≤ nn.toInt ∧ nn.toInt ≤ 60 ∧ zSl r1) (if rf = 0 then yMk aa 17 nn 0 r1 else yMk aa 16 nn (-1) r1) aa) (m 94 13) (m 94 14) (m 94 15) (m 94 16) (m 94 59) (m 94 60) (m 94 61) from by first | (rw [qIf_n (fun w => by have w1 := w.1; have w2 := w.2.1; have w3 := w.2.2.1; have w4 := w.2.2.2; omega)]; exact r_AL; done) | (exact r_AL) | (exfalso; omega; done) | (exfalso; contradiction; done)) (show qAg (m 99) (m 100) (m 104) (qIf (0 ≤ nn.toInt ∧ nn.toInt ≤ 60 ∧ zSl r1) (if rf = 0 then yMk aa 17 nn 0 r1 else yMk aa 16 nn (-1) r1) aa) from by first | (rw [qIf_n (fun w => by have w1 := w.1; have w2 := w.2.1; have w3 := w.2.2.1; have w4 := w.2.2.2; omega)]; exact r_AGq; done) | (exact r_AGq) | (exfalso; omega; done) | (exfalso; contradiction; done)) (show qDt (m 117) (qIf (0 ≤ nn.toInt ∧ nn.toInt ≤ 60 ∧ zSl r1) (if rf = 0 then yMk aa 17 nn 0 r1 else yMk aa 16 nn (-1) r1) aa) from by first | (rw [qIf_n (fun w => by have w1 := w.1; have w2 := w.2.1; have w3 := w.2.2.1; have w4 := w.2.2.2; omega)]; exact r_DT; done) | (exact r_DT) | (exfalso; omega; done) | (exfalso; contradiction; done))
    · skip
      have g14 := i_nlt h11
      have b15 := i_bd r1
      refine zd (fun (h16 : r1 < (0 : Int32)) => ?_) (fun (h16 : ¬ r1 < (0 : Int32)) => ?_)
      · skip
        have g17 := i_lt h16
        have hV18 : zV (ma_u m 94 0 (1 : Int32)) := uf_94_0 hV
        exact K ((0 : Int32)) _ (zF_u zF_rfl rfl) hV18 r_W (show zGW (T + 1) (m 94 55) (m 109) from by first | (exact GW_up r_GW (by omega)) | (exfalso; omega; done) | (exfalso; contradiction; done)) (show zGU (T + 1) (m 94 46) (m 99) from by first | (exact GU_up r_GU (by omega)) | (exact GU_0 r_GU) | (exfalso; omega; done) | (exfalso; contradiction; done)) r_OW r_GG (show qRB (m 99) (m 100) (m 98) (m 101) (m 102) (m 103) (m 107) (m 108) (m 109) (m 111) (m 112) (m 113) (m 114) (m 94 55) (m 94 46) ro 0 0 0 1 (qIf (0 ≤ nn.toInt ∧ nn.toInt ≤ 60 ∧ zSl r1) (if rf = 0 then yMk aa 17 nn 0 r1 else yMk aa 16 nn (-1) r1) aa) from by first | (rw [qIf_n (fun w => by have w1 := w.1; have w2 := w.2.1; have w3 := w.2.2.1; have w4 := w.2.2.2; omega)]; exact r_RB; done) | (exfalso; omega; done) | (exfalso; contradiction; done)) (show qMG (m 94 58) (m 106) (m 115) (m 94 57) (m 94 56) (m 99) (m 100) (qIf (0 ≤ nn.toInt ∧ nn.toInt ≤ 60 ∧ zSl r1) (if rf = 0 then yMk aa 17 nn 0 r1 else yMk aa 16 nn (-1) r1) aa) from by first | (rw [qIf_n (fun w => by have w1 := w.1; have w2 := w.2.1; have w3 := w.2.2.1; have w4 := w.2.2.2; omega)]; exact r_MG; done) | (exfalso; omega; done) | (exfalso; contradiction; done)) (show (qIf (0 ≤ nn.toInt ∧ nn.toInt ≤ 60 ∧ zSl r1) (if rf = 0 then yMk aa 17 nn 0 r1 else yMk aa 16 nn (-1) r1) aa) 87 8 = (m 94 58) from by first | (rw [qIf_n (fun w => by have w1 := w.1; have w2 := w.2.1; have w3 := w.2.2.1; have w4 := w.2.2.2; omega)]; exact r_MK; done) | (exfalso; omega; done) | (exfalso; contradiction; done)) r_WTS (show (m 94 58).toInt = 0 from by omega) (show qAv (qIf (0 ≤ nn.toInt ∧ nn.toInt ≤ 60 ∧ zSl r1) (if rf = 0 then yMk aa 17 nn 0 r1 else yMk aa 16 nn (-1) r1) aa) from by first | (rw [qIf_n (fun w => by have w1 := w.1; have w2 := w.2.1; have w3 := w.2.2.1; have w4 := w.2.2.2; omega)]; exact r_AV; done) | (exact r_AV) | (exfalso; omega; done) | (exfalso; contradiction; done)) (show qAL (qIf (0 ≤ nn.toInt ∧ nn.toInt ≤ 60 ∧ zSl r1) (if rf = 0 then yMk aa 17 nn 0 r1 else yMk aa 16 nn (-1) r1) aa) (m 94 13) (m 94 14) (m 94 15) (m 94 16) (m 94 59) (m 94 60) (m 94 61) from by first | (rw [qIf_n (fun w => by have w1 := w.1; have w2 := w.2.1; have w3 := w.2.2.1; have w4 := w.2.2.2; omega)]; exact r_AL; done) | (exact r_AL) | (exfalso; omega; done) | (exfalso; contradiction; done)) (show qAg (m 99) (m 100) (m 104) (qIf (0 ≤ nn.toInt ∧ nn.toInt ≤ 60 ∧ zSl r1) (if rf = 0 then yMk aa 17 nn 0 r1 else yMk aa 16 nn (-1) r1) aa) from by first | (rw [qIf_n (fun w => by have w1 := w.1; have w2 := w.2.1; have w3 := w.2.2.1; have w4 := w.2.2.2; omega)]; exact r_AGq; done) | (exact r_AGq) | (exfalso; omega; done) | (exfalso; contradiction; done)) (show qDt (m 117) (qIf (0 ≤ nn.toInt ∧ nn.toInt ≤ 60 ∧ zSl r1) (if rf = 0 then yMk aa 17 nn 0 r1 else yMk aa 16 nn (-1) r1) aa) from by first | (rw [qIf_n (fun w => by have w1 := w.1; have w2 := w.2.1; have w3 := w.2.2.1; have w4 := w.2.2.2; omega)]; exact r_DT; done) | (exact r_DT) | (exfalso; omega; done) | (exfalso; contradiction; done))
      · skip
        have g19 := i_nlt h16
        have li20 : (16 : Int32).toInt = 16 := rfl
        refine zd (fun (h21 : (16 : Int32) ≤ r1) => ?_) (fun (h21 : ¬ (16 : Int32) ≤ r1) => ?_)
        · skip
          have g22 := i_le h21
          have hV23 : zV (ma_u m 94 0 (1 : Int32)) := uf_94_0 hV
          exact K ((0 : Int32)) _ (zF_u zF_rfl rfl) hV23 r_W (show zGW (T + 1) (m 94 55) (m 109) from by first | (exact GW_up r_GW (by omega)) | (exfalso; omega; done) | (exfalso; contradiction; done)) (show zGU (T + 1) (m 94 46) (m 99) from by first | (exact GU_up r_GU (by omega)) | (exact GU_0 r_GU) | (exfalso; omega; done) | (exfalso; contradiction; done)) r_OW r_GG (show qRB (m 99) (m 100) (m 98) (m 101) (m 102) (m 103) (m 107) (m 108) (m 109) (m 111) (m 112) (m 113) (m 114) (m 94 55) (m 94 46) ro 0 0 0 1 (qIf (0 ≤ nn.toInt ∧ nn.toInt ≤ 60 ∧ zSl r1) (if rf = 0 then yMk aa 17 nn 0 r1 else yMk aa 16 nn (-1) r1) aa) from by first | (rw [qIf_n (fun w => by have w1 := w.1; have w2 := w.2.1; have w3 := w.2.2.1; have w4 := w.2.2.2; omega)]; exact r_RB; done) | (exfalso; omega; done) | (exfalso; contradiction; done)) (show qMG (m 94 58) (m 106) (m 115) (m 94 57) (m 94 56) (m 99) (m 100) (qIf (0 ≤ nn.toInt ∧ nn.toInt ≤ 60 ∧ zSl r1) (if rf = 0 then yMk aa 17 nn 0 r1 else yMk aa 16 nn (-1) r1) aa) from by first | (rw [qIf_n (fun w => by have w1 := w.1; have w2 := w.2.1; have w3 := w.2.2.1; have w4 := w.2.2.2; omega)]; exact r_MG; done) | (exfalso; omega; done) | (exfalso; contradiction; done)) (show (qIf (0 ≤ nn.toInt ∧ nn.toInt ≤ 60 ∧ zSl r1) (if rf = 0 then yMk aa 17 nn 0 r1 else yMk aa 16 nn (-1) r1) aa) 87 8 = (m 94 58) from by first | (rw [qIf_n (fun w => by have w1 := w.1; have w2 := w.2.1; have w3 := w.2.2.1; have w4 := w.2.2.2; omega)]; exact r_MK; done) | (exfalso; omega; done) | (exfalso; contradiction; done)) r_WTS (show (m 94 58).toInt = 0 from by omega) (show qAv (qIf (0 ≤ nn.toInt ∧ nn.toInt ≤ 60 ∧ zSl r1) (if rf = 0 then yMk aa 17 nn 0 r1 else yMk aa 16 nn (-1) r1) aa) from by first | (rw [qIf_n (fun w => by have w1 := w.1; have w2 := w.2.1; have w3 := w.2.2.1; have w4 := w.2.2.2; omega)]; exact r_AV; done) | (exact r_AV) | (exfalso; omega; done) | (exfalso; contradiction; done)) (show qAL (qIf (0 ≤ nn.toInt ∧ nn.toInt ≤ 60 ∧ zSl r1) (if rf = 0 then yMk aa 17 nn 0 r1 else yMk aa 16 nn (-1) r1) aa) (m 94 13) (m 94 14) (m 94 15) (m 94 16) (m 94 59) (m 94 60) (m 94 61) from by first | (rw [qIf_n (fun w => by have w1 := w.1; have w2 := w.2.1; have w3 := w.2.2.1; have w4 := w.2.2.2; omega)]; exact r_AL; done) | (exact r_AL) | (exfalso; omega; done) | (exfalso; contradiction; done)) (show qAg (m 99) (m 100) (m 104) (qIf (0 ≤ nn.toInt ∧ nn.toInt ≤ 60 ∧ zSl r1) (if rf = 0 then yMk aa 17 nn 0 r1 else yMk aa 16 nn (-1) r1) aa) from by first | (rw [qIf_n (fun w => by have w1 := w.1; have w2 := w.2.1; have w3 := w.2.2.1; have w4 := w.2.2.2; omega)]; exact r_AGq; done) | (exact r_AGq) | (exfalso; omega; done) | (exfalso; contradiction; done)) (show qDt (m 117) (qIf (0 ≤ nn.toInt ∧ nn.toInt ≤ 60 ∧ zSl r1) (if rf = 0 then yMk aa 17 nn 0 r1 else yMk aa 16 nn (-1) r1) aa) from by first | (rw [qIf_n (fun w => by have w1 := w.1; have w2 := w.2.1; have w3 := w.2.2.1; have w4 := w.2.2.2; omega)]; exact r_DT; done) | (exact r_DT) | (exfalso; omega; done) | (exfalso; contradiction; done))
        · skip
          have g24 := i_nle h21
          refine zd (fun (h25 : (m 94 8) = (0 : Int32)) => ?_) (fun (h25 : ¬ (m 94 8) = (0 : Int32)) => ?_)
          · skip
            have g26 := i_eq h25
            exfalso; omega
          · skip
            have g27 := i_ne h25
            have b28 := i_bd rf
            refine zd (fun (h29 : rf = (0 : Int32)) => ?_) (fun (h29 : ¬ rf = (0 : Int32)) => ?_)
            · skip
              have g30 := i_eq h29
              have li31 : (17 : Int32).toInt = 17 := rfl
              have hV32 : zV (ma_u m 94 0 (0 : Int32)) := uf_94_0 hV
              have f33 : 0 ≤ (m 94 7).toInt ∧ (m 94 7).toInt ≤ 16 := rs_94_7 (m := m) hV
              refine sp_183ry (LL := (0 : Int64)) ((17 : Int32)) (nn) (r1) hV32 (by omega) (by omega) (by omega) (by omega) (by omega) (by omega) (by omega) (show 16 ≤ (17 : Int32).toInt ∨ (17 : Int32).toInt < (m 94 7).toInt from by omega) (by omega) r_W r_GW r_GU r_OW r_GG (show (m 94 10).toInt = 3 ∧ (m 94 58).toInt = 0 from by omega) (show (m 94 8).toInt = 1 from by omega) r_RB r_AV r_AL r_AGq r_DT r_MG r_MK r_WTS (show ∀ j : Nat, (j : Int) < nn.toInt → (zbit (0 : Int64) (Int32.ofNat j) ≠ 0 ↔ ((17 : Int32) = 16 ∨ ((17 : Int32) < 16 ∧ (((m 98) (17 : Int32).toNatClampNeg >>> (Int32.ofNat j &&& 31)) &&& 1) = 1))) from by first | (exact fun j hj => ⟨fun _ => Or.inl rfl, fun _ => zb_all j (by omega)⟩) | (exact fun j hj => ⟨fun w => absurd (zb_non j (by omega)) w, fun w => w.elim (fun z => absurd z (by decide)) (fun z => absurd z.1 (by decide))⟩) | (exfalso; omega; done) | (exfalso; contradiction; done)) (fun v2 m1 hV_m1 p0_m1 p1_m1 p2_m1 p3_m1 p4_m1 p5_m1 p6_m1 p7_m1 p8_m1 p9_m1 p10_m1 p11_m1 p12_m1 p13_m1 p14_m1 => zmi_n ?_)
              have p0_m1 : zW (m 94 7) (m 98) (m1 101) (m1 102) (m1 108) := p0_m1
              have p1_m1 : zGW (T + 1) (m1 94 55) (m1 109) := p1_m1
              have p2_m1 : zGU (T + 1) (m1 94 46) (m1 99) := p2_m1
              have p3_m1 : zOw (m1 99) (m1 103) (m1 111) := p3_m1
              have p4_m1 : zGG (m1 94 58) (m1 94 56) (m1 94 57) (m1 106) := p4_m1
              have p5_m1 : qRB (m1 99) (m1 100) (m 98) (m1 101) (m1 102) (m1 103) (m1 107) (m1 108) (m1 109) (m1 111) (m1 112) (m1 113) (m1 114) (m1 94 55) (m1 94 46) ro 0 0 0 1 (yMk aa (17 : Int32) nn (0 : Int64) r1) := p5_m1
              have p6_m1 : qMG (m1 94 58) (m1 106) (m1 115) (m1 94 57) (m1 94 56) (m1 99) (m1 100) (yMk aa (17 : Int32) nn (0 : Int64) r1) := p6_m1
              have p7_m1 : (yMk aa (17 : Int32) nn (0 : Int64) r1) 87 8 = (m1 94 58) := p7_m1
              have p8_m1 : (m1 94 45).toInt = sm (zbU (m1 99)) (m1 102) 3100 := p8_m1
              have p9_m1 : (m1 94 58).toInt = 0 := p9_m1
              have p10_m1 : v2 = yMn aa nn := p10_m1
              have p11_m1 : qAv (yMk aa (17 : Int32) nn (0 : Int64) r1) := p11_m1
              have p12_m1 : qAL (yMk aa (17 : Int32) nn (0 : Int64) r1) (m 94 13) (m 94 14) (m 94 15) (m 94 16) (m1 94 59) (m1 94 60) (m1 94 61) := p12_m1
              have p13_m1 : qAg (m1 99) (m1 100) (m1 104) (yMk aa (17 : Int32) nn (0 : Int64) r1) := p13_m1
              have p14_m1 : qDt (m1 117) (yMk aa (17 : Int32) nn (0 : Int64) r1) := p14_m1
              have f34 : 0 ≤ (m1 94 58).toInt ∧ (m1 94 58).toInt ≤ 1 := rs_94_58 (m := (zov wr_183 (ma_u m 94 0 (0 : Int32)) m1)) hV_m1
              have b35 := i_bd v2
              exact K (v2) _ (zF_zov (zF_u zF_rfl rfl) ws_183_243) hV_m1 p0_m1 p1_m1 p2_m1 p3_m1 p4_m1 (show qRB (m1 99) (m1 100) (m 98) (m1 101) (m1 102) (m1 103) (m1 107) (m1 108) (m1 109) (m1 111) (m1 112) (m1 113) (m1 114) (m1 94 55) (m1 94 46) ro 0 0 0 1 (qIf (0 ≤ nn.toInt ∧ nn.toInt ≤ 60 ∧ zSl r1) (if rf = 0 then yMk aa 17 nn 0 r1 else yMk aa 16 nn (-1) r1) aa) from by first | (rw [qIf_y ⟨by omega, by omega, by omega, by omega⟩, if_pos (i_zer (by omega))]; exact p5_m1; done) | (exfalso; omega; done) | (exfalso; contradiction; done)) (show qMG (m1 94 58) (m1 106) (m1 115) (m1 94 57) (m1 94 56) (m1 99) (m1 100) (qIf (0 ≤ nn.toInt ∧ nn.toInt ≤ 60 ∧ zSl r1) (if rf = 0 then yMk aa 17 nn 0 r1 else yMk aa 16 nn (-1) r1) aa) from by first | (rw [qIf_y ⟨by omega, by omega, by omega, by omega⟩, if_pos (i_zer (by omega))]; exact p6_m1; done) | (exfalso; omega; done) | (exfalso; contradiction; done)) (show (qIf (0 ≤ nn.toInt ∧ nn.toInt ≤ 60 ∧ zSl r1) (if rf = 0 then yMk aa 17 nn 0 r1 else yMk aa 16 nn (-1) r1) aa) 87 8 = (m1 94 58) from by first | (rw [qIf_y ⟨by omega, by omega, by omega, by omega⟩, if_pos (i_zer (by omega))]; exact p7_m1; done) | (exfalso; omega; done) | (exfalso; contradiction; done)) p8_m1 (show (m1 94 58).toInt = 0 from by omega) (show qAv (qIf (0 ≤ nn.toInt ∧ nn.toInt ≤ 60 ∧ zSl r1) (if rf = 0 then yMk aa 17 nn 0 r1 else yMk aa 16 nn (-1) r1) aa) from by first | (rw [qIf_y ⟨by omega, by omega, by omega, by omega⟩, if_pos (i_zer (by omega))]; exact p11_m1; done) | (exact p11_m1) | (exfalso; omega; done) | (exfalso; contradiction; done)) (show qAL (qIf (0 ≤ nn.toInt ∧ nn.toInt ≤ 60 ∧ zSl r1) (if rf = 0 then yMk aa 17 nn 0 r1 else yMk aa 16 nn (-1) r1) aa) (m 94 13) (m 94 14) (m 94 15) (m 94 16) (m1 94 59) (m1 94 60) (m1 94 61) from by first | (rw [qIf_y ⟨by omega, by omega, by omega, by omega⟩, if_pos (i_zer (by omega))]; exact p12_m1; done) | (exact p12_m1) | (exfalso; omega; done) | (exfalso; contradiction; done)) (show qAg (m1 99) (m1 100) (m1 104) (qIf (0 ≤ nn.toInt ∧ nn.toInt ≤ 60 ∧ zSl r1) (if rf = 0 then yMk aa 17 nn 0 r1 else yMk aa 16 nn (-1) r1) aa) from by first | (rw [qIf_y ⟨by omega, by omega, by omega, by omega⟩, if_pos (i_zer (by omega))]; exact p13_m1; done) | (exact p13_m1) | (exfalso; omega; done) | (exfalso; contradiction; done)) (show qDt (m1 117) (qIf (0 ≤ nn.toInt ∧ nn.toInt ≤ 60 ∧ zSl r1) (if rf = 0 then yMk aa 17 nn 0 r1 else yMk aa 16 nn (-1) r1) aa) from by first | (rw [qIf_y ⟨by omega, by omega, by omega, by omega⟩, if_pos (i_zer (by omega))]; exact p14_m1; done) | (exact p14_m1) | (exfalso; omega; done) | (exfalso; contradiction; done))
            · skip
              have g36 := i_ne h29
              have hV37 : zV (ma_u m 94 0 (0 : Int32)) := uf_94_0 hV
              have f38 : 0 ≤ (m 94 7).toInt ∧ (m 94 7).toInt ≤ 16 := rs_94_7 (m := m) hV
              refine sp_183ry (LL := (-1 : Int64)) ((16 : Int32)) (nn) (r1) hV37 (by omega) (by omega) (by omega) (by omega) (by omega) (by omega) (by omega) (show 16 ≤ (16 : Int32).toInt ∨ (16 : Int32).toInt < (m 94 7).toInt from by omega) (by omega) r_W r_GW r_GU r_OW r_GG (show (m 94 10).toInt = 3 ∧ (m 94 58).toInt = 0 from by omega) (show (m 94 8).toInt = 1 from by omega) r_RB r_AV r_AL r_AGq r_DT r_MG r_MK r_WTS (show ∀ j : Nat, (j : Int) < nn.toInt → (zbit (-1 : Int64) (Int32.ofNat j) ≠ 0 ↔ ((16 : Int32) = 16 ∨ ((16 : Int32) < 16 ∧ (((m 98) (16 : Int32).toNatClampNeg >>> (Int32.ofNat j &&& 31)) &&& 1) = 1))) from by first | (exact fun j hj => ⟨fun _ => Or.inl rfl, fun _ => zb_all j (by omega)⟩) | (exact fun j hj => ⟨fun w => absurd (zb_non j (by omega)) w, fun w => w.elim (fun z => absurd z (by decide)) (fun z => absurd z.1 (by decide))⟩) | (exfalso; omega; done) | (exfalso; contradiction; done)) (fun v4 m3 hV_m3 p0_m3 p1_m3 p2_m3 p3_m3 p4_m3 p5_m3 p6_m3 p7_m3 p8_m3 p9_m3 p10_m3 p11_m3 p12_m3 p13_m3 p14_m3 => zmi_n ?_)
              have p0_m3 : zW (m 94 7) (m 98) (m3 101) (m3 102) (m3 108) := p0_m3
              have p1_m3 : zGW (T + 1) (m3 94 55) (m3 109) := p1_m3
              have p2_m3 : zGU (T + 1) (m3 94 46) (m3 99) := p2_m3
              have p3_m3 : zOw (m3 99) (m3 103) (m3 111) := p3_m3
              have p4_m3 : zGG (m3 94 58) (m3 94 56) (m3 94 57) (m3 106) := p4_m3
              have p5_m3 : qRB (m3 99) (m3 100) (m 98) (m3 101) (m3 102) (m3 103) (m3 107) (m3 108) (m3 109) (m3 111) (m3 112) (m3 113) (m3 114) (m3 94 55) (m3 94 46) ro 0 0 0 1 (yMk aa (16 : Int32) nn (-1 : Int64) r1) := p5_m3
              have p6_m3 : qMG (m3 94 58) (m3 106) (m3 115) (m3 94 57) (m3 94 56) (m3 99) (m3 100) (yMk aa (16 : Int32) nn (-1 : Int64) r1) := p6_m3
              have p7_m3 : (yMk aa (16 : Int32) nn (-1 : Int64) r1) 87 8 = (m3 94 58) := p7_m3
              have p8_m3 : (m3 94 45).toInt = sm (zbU (m3 99)) (m3 102) 3100 := p8_m3
              have p9_m3 : (m3 94 58).toInt = 0 := p9_m3
              have p10_m3 : v4 = yMn aa nn := p10_m3
              have p11_m3 : qAv (yMk aa (16 : Int32) nn (-1 : Int64) r1) := p11_m3
              have p12_m3 : qAL (yMk aa (16 : Int32) nn (-1 : Int64) r1) (m 94 13) (m 94 14) (m 94 15) (m 94 16) (m3 94 59) (m3 94 60) (m3 94 61) := p12_m3
              have p13_m3 : qAg (m3 99) (m3 100) (m3 104) (yMk aa (16 : Int32) nn (-1 : Int64) r1) := p13_m3
              have p14_m3 : qDt (m3 117) (yMk aa (16 : Int32) nn (-1 : Int64) r1) := p14_m3
              have f39 : 0 ≤ (m3 94 58).toInt ∧ (m3 94 58).toInt ≤ 1 := rs_94_58 (m := (zov wr_183 (ma_u m 94 0 (0 : Int32)) m3)) hV_m3
              have b40 := i_bd v4
              exact K (v4) _ (zF_zov (zF_u zF_rfl rfl) ws_183_243) hV_m3 p0_m3 p1_m3 p2_m3 p3_m3 p4_m3 (show qRB (m3 99) (m3 100) (m 98) (m3 101) (m3 102) (m3 103) (m3 107) (m3 108) (m3 109) (m3 111) (m3 112) (m3 113) (m3 114) (m3 94 55) (m3 94 46) ro 0 0 0 1 (qIf (0 ≤ nn.toInt ∧ nn.toInt ≤ 60 ∧ zSl r1) (if rf = 0 then yMk aa 17 nn 0 r1 else yMk aa 16 nn (-1) r1) aa) from by first | (rw [qIf_y ⟨by omega, by omega, by omega, by omega⟩, if_neg (i_nz2 (by omega))]; exact p5_m3; done) | (exfalso; omega; done) | (exfalso; contradiction; done)) (show qMG (m3 94 58) (m3 106) (m3 115) (m3 94 57) (m3 94 56) (m3 99) (m3 100) (qIf (0 ≤ nn.toInt ∧ nn.toInt ≤ 60 ∧ zSl r1) (if rf = 0 then yMk aa 17 nn 0 r1 else yMk aa 16 nn (-1) r1) aa) from by first | (rw [qIf_y ⟨by omega, by omega, by omega, by omega⟩, if_neg (i_nz2 (by omega))]; exact p6_m3; done) | (exfalso; omega; done) | (exfalso; contradiction; done)) (show (qIf (0 ≤ nn.toInt ∧ nn.toInt ≤ 60 ∧ zSl r1) (if rf = 0 then yMk aa 17 nn 0 r1 else yMk aa 16 nn (-1) r1) aa) 87 8 = (m3 94 58) from by first | (rw [qIf_y ⟨by omega, by omega, by omega, by omega⟩, if_neg (i_nz2 (by omega))]; exact p7_m3; done) | (exfalso; omega; done) | (exfalso; contradiction; done)) p8_m3 (show (m3 94 58).toInt = 0 from by omega) (show qAv (qIf (0 ≤ nn.toInt ∧ nn.toInt ≤ 60 ∧ zSl r1) (if rf = 0 then yMk aa 17 nn 0 r1 else yMk aa 16 nn (-1) r1) aa) from by first | (rw [qIf_y ⟨by omega, by omega, by omega, by omega⟩, if_neg (i_nz2 (by omega))]; exact p11_m3; done) | (exact p11_m3) | (exfalso; omega; done) | (exfalso; contradiction; done)) (show qAL (qIf (0 ≤ nn.toInt ∧ nn.toInt ≤ 60 ∧ zSl r1) (if rf = 0 then yMk aa 17 nn 0 r1 else yMk aa 16 nn (-1) r1) aa) (m 94 13) (m 94 14) (m 94 15) (m 94 16) (m3 94 59) (m3 94 60) (m3 94 61) from by first | (rw [qIf_y ⟨by omega, by omega, by omega, by omega⟩, if_neg (i_nz2 (by omega))]; exact p12_m3; done) | (exact p12_m3) | (exfalso; omega; done) | (exfalso; contradiction; done)) (show qAg (m3 99) (m3 100) (m3 104) (qIf (0 ≤ nn.toInt ∧ nn.toInt ≤ 60 ∧ zSl r1) (if rf = 0 then yMk aa 17 nn 0 r1 else yMk aa 16 nn (-1) r1) aa) from by first | (rw [qIf_y ⟨by omega, by omega, by omega, by omega⟩, if_neg (i_nz2 (by omega))]; exact p13_m3; done) | (exact p13_m3) | (exfalso; omega; done) | (exfalso; contradiction; done)) (show qDt (m3 117) (qIf (0 ≤ nn.toInt ∧ nn.toInt ≤ 60 ∧ zSl r1) (if rf = 0 then yMk aa 17 nn 0 r1 else yMk aa 16 nn (-1) r1) aa) from by first | (rw [qIf_y ⟨by omega, by omega, by omega, by omega⟩, if_neg (i_nz2 (by omega))]; exact p14_m3; done) | (exact p14_m3) | (exfalso; omega; done) | (exfalso; contradiction; done))

/-! from 95.v19 -/
/-! AGES, the reference (written by wip/tools/gen15v.py) -/
/-! AGES, the reference: a link's card; holds -/
noncomputable def yNl (a : Nat → Nat → Int32) (o i t : Int32) : Nat → Nat → Int32 := qIf (zRq a o ∧ (t = -1 ∨ zRq a t) ∧ zHw a o i ∧ zIr a o i) (gNr a o.toNatClampNeg i.toInt t) a
/-- a hold under AGES: of OLD ones alone -/
noncomputable def yHo (a : Nat → Nat → Int32) (o b : Int32) : Nat → Nat → Int32 := qIf ((a 130 o.toNatClampNeg).toInt < (a 87 9).toInt) (xHo a o b) a
section F39
variable {a b c : Nat → Nat → Int32} {us nr kr kd ws at₉ ho wd wi ow rt wk wl dt dt₉ : Nat → Int32} {wm nu ro fo le ra pi x y v s t o q i l yo ol ag cd : Int32} {n k : Nat}
theorem Th_nl (h : qTh a o t q) (hq : q.toInt = 0) : yNl a o i t = a := qIf_n (fun w => h.elim (fun z => by have := z.1; omega) (fun z => z.2 ⟨w.1, w.2.1⟩))
theorem Li_hl (hR : qRB us nr kr kd ws at₉ ho wd wi ow rt wk wl wm nu ro fo le ra pi a) (h : qRe us nr a o v) (hv : 0 ≤ v.toInt) (hi : i.toInt < 0 ∨ (ws v.toNatClampNeg).toInt ≤ i.toInt) : yNl a o i t = a := qIf_n (fun w => by
  have w2 := (Hw_y hR h hv).mp w.2.2.1
  omega)
theorem Li_il (hR : qRB us nr kr kd ws at₉ ho wd wi ow rt wk wl wm nu ro fo le ra pi a) (h : qRe us nr a o v) (hv : 0 ≤ v.toInt) (h0 : 0 ≤ i.toInt) (h1 : i.toInt < (ws v.toNatClampNeg).toInt) (hk : ¬ kd v.toNatClampNeg = 16) (hk2 : ¬ (kd v.toNatClampNeg < 16 ∧ ((kr (kd v.toNatClampNeg).toNatClampNeg >>> (i &&& 31)) &&& 1) = 1)) : yNl a o i t = a := qIf_n (fun w => ((Ir_y hR h hv h0 h1).mp w.2.2.2).elim hk hk2)
theorem Li_yl (hR : qRB us nr kr kd ws at₉ ho wd wi ow rt wk wl wm nu ro fo le ra pi a) (h : qRe us nr a o v) (hv : 0 ≤ v.toInt) (h0 : 0 ≤ i.toInt) (h1 : i.toInt < (ws v.toNatClampNeg).toInt) (hk : kd v.toNatClampNeg = 16 ∨ (kd v.toNatClampNeg < 16 ∧ ((kr (kd v.toNatClampNeg).toNatClampNeg >>> (i &&& 31)) &&& 1) = 1)) (ht : qAs us nr a t s) : yNl a o i t = gNr a o.toNatClampNeg i.toInt t := by
  have q := Re_y h hv
  exact qIf_y ⟨q.2.2.2, As_c ht, (Hw_y hR h hv).mpr ⟨h0, h1⟩, (Ir_y hR h hv h0 h1).mpr hk⟩
theorem Dt_ly (h : qDt dt a) (hR : qR1 us nr ws at₉ ho a) (hv : qAv a) (hx : qAX a yo ol ag cd) (hre : qRe us nr a o s) (hs : 0 ≤ s.toInt) (hot : (at₉ s.toNatClampNeg).toInt < ol.toInt) (has : qAs us nr a t v) (h0 : 0 ≤ v.toInt) (hy : ol.toInt ≤ (at₉ v.toNatClampNeg).toInt) (hi : 0 ≤ i.toInt) (h6 : i.toInt < (ws s.toNatClampNeg).toInt) (e : ∀ j, dt₉ j = if j = ((at₉ s.toNatClampNeg + (1 : Int32) + i) / cd).toNatClampNeg then 1 else dt j) : qDt dt₉ (gNr a o.toNatClampNeg i.toInt t) := by
  have r := Re_y hre hs
  have sl := tn_lt hs (by omega : s.toInt < 3100)
  have q := hR.1 _ sl r.2.1
  have al := R1_al hR sl r.2.1
  rw [r.2.2.1] at q al
  rcases has with w | w
  · rw [w.2] at h0
    exact absurd h0 (by decide)
  · have vl := tn_lt w.1 (by omega : v.toInt < 3100)
    have p := hR.1 _ vl w.2.2.1
    rw [w.2.2.2.1] at p
    have b := AL_b (a := a) (yo := yo) (ol := ol) (ag := ag) (cd := cd) (tp := a 87 4) (ot := a 87 10) (hf := if (a 87 3).toInt = ol.toInt then 0 else 1) ⟨hx, rfl, rfl, by split <;> first | exact Or.inl rfl | exact Or.inr rfl, fun z => by
      by_cases g : (a 87 3).toInt = ol.toInt
      · exact g
      · rw [if_neg g] at z
        exact absurd z (by decide), fun z => by
      by_cases g : (a 87 3).toInt = ol.toInt
      · rw [if_pos g] at z
        exact absurd z (by decide)
      · have hs4 := hv.2.2.2.1
        rw [hx.1, hx.2.1] at hs4
        omega⟩ hv
    have t1 := tn_cast hi
    have w6 := q.2.2.2.2.2.1
    have sz : (a 128 o.toNatClampNeg).toInt = (ws s.toNatClampNeg).toInt + 1 := by
      rw [q.2.2.1]
      exact i_addk rfl (by omega) (by omega)
    have cx := cx_lt (i := i.toNatClampNeg) (Av_0 hv) al (by rw [q.2.2.2.1, hx.2.1]; exact hot) (by omega)
    rw [t1] at cx
    have ex : gCx a o.toNatClampNeg i.toInt = ((((at₉ s.toNatClampNeg + (1 : Int32) + i) / cd).toNatClampNeg : Nat) : Int) := by
      rw [← card_i2 (by omega) (by omega) hi (by omega) (by omega)]
      unfold gCx
      rw [q.2.2.2.1, hx.2.2.2, t1]
    have eg : gNr a o.toNatClampNeg i.toInt t = ma_u a 83 (gCx a o.toNatClampNeg i.toInt).toNat 1 := by
      unfold gNr
      rw [if_pos ⟨⟨p.1.1, p.1.2, p.2.1, by rw [p.2.2.2.1, hx.2.1]; exact hy⟩, by rw [q.2.2.2.1, hx.2.1]; exact hot, by rw [hx.2.2.2]; omega, cx.2⟩]
    rw [eg]
    intro j hj
    rw [e j]
    have ek : (gCx a o.toNatClampNeg i.toInt).toNat = ((at₉ s.toNatClampNeg + (1 : Int32) + i) / cd).toNatClampNeg := by omega
    rw [ek]
    by_cases z : j = ((at₉ s.toNatClampNeg + (1 : Int32) + i) / cd).toNatClampNeg
    · rw [if_pos z, z, xu_s]
    · rw [if_neg z, xu_o (fun w => z w.2)]
      exact h j hj
theorem Dt_ln (h : qDt dt a) (hR : qR1 us nr ws at₉ ho a) (hx : qAX a yo ol ag cd) (hre : qRe us nr a o s) (hs : 0 ≤ s.toInt) (has : qAs us nr a t v) (hn : ol.toInt ≤ (at₉ s.toNatClampNeg).toInt ∨ v.toInt < 0 ∨ (at₉ v.toNatClampNeg).toInt < ol.toInt) : qDt dt (gNr a o.toNatClampNeg i.toInt t) := by
  have r := Re_y hre hs
  have q := hR.1 _ (tn_lt hs (by omega : s.toInt < 3100)) r.2.1
  rw [r.2.2.1] at q
  have e : gNr a o.toNatClampNeg i.toInt t = a := by
    unfold gNr
    refine if_neg (fun z => ?_)
    have z1 := z.2.1
    rw [q.2.2.2.1, hx.2.1] at z1
    rcases has with w | w
    · have z2 := z.1.1
      rw [w.1] at z2
      exact absurd z2 (by decide)
    · have p := hR.1 _ (tn_lt w.1 (by omega : v.toInt < 3100)) w.2.2.1
      rw [w.2.2.2.1] at p
      have z3 := z.1.2.2.2
      rw [p.2.2.2.1, hx.2.1] at z3
      have := w.1
      omega
  rw [e]
  exact h
theorem yHo_y (h : (a 130 o.toNatClampNeg).toInt < (a 87 9).toInt) : yHo a o x = xHo a o x := qIf_y h
theorem yHo_n (h : ¬ (a 130 o.toNatClampNeg).toInt < (a 87 9).toInt) : yHo a o x = a := qIf_n h
theorem yHo_x (h : xHo a o x = a) : yHo a o x = a := by
  by_cases w : (a 130 o.toNatClampNeg).toInt < (a 87 9).toInt
  · rw [yHo_y w, h]
  · exact yHo_n w
theorem Ho_pl (hR : qR1 us nr ws at₉ ho a) (hre : qRe us nr a o s) (hs : 0 ≤ s.toInt) (hx : qAX a yo ol ag cd) : (a 130 o.toNatClampNeg).toInt < (a 87 9).toInt ↔ (at₉ s.toNatClampNeg).toInt < ol.toInt := by
  have r := Re_y hre hs
  have q := hR.1 _ (tn_lt hs (by omega : s.toInt < 3100)) r.2.1
  rw [r.2.2.1] at q
  rw [q.2.2.2.1, hx.2.1]
end F39

