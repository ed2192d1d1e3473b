/-! the reference under COUNTS (written by wip/tools/gen20s.py) -/
set_option maxHeartbeats 8000000 in
theorem sp_184r4 {X : Nat × (Nat → Int32)} {P : Option ma_V → (Nat → Nat → Int32) → Prop} {T : Nat} {aa : Nat→Nat→Int32} {B : Int} {m : Nat → Nat → Int32} (nz : Int32) (hV : zV m) (hpre0 : T ≤ 512) (r_W : zW (m 94 7) (m 98) (m 101) (m 102) (m 108)) (r_GW : zGW T (m 94 55) (m 109)) (r_GU : zGU T (m 94 46) (m 99)) (r_OW : zOw (m 99) (m 103) (m 111)) (r_GG : zGG (m 94 58) (m 94 56) (m 94 57) (m 106)) (hpre6 : (m 94 10).toInt = 4 ∧ (m 94 58).toInt = 0) (r_RB : qRB (m 99) (m 100) (m 98) (m 101) (m 102) (m 103) (m 107) (m 108) (m 109) (m 111) (m 112) (m 113) (m 114) (m 94 55) (m 94 46) (m 94 11) (m 94 12) (m 94 62) (m 94 17) (m 94 9) aa) (r_QI : qI aa) (r_MK : aa 87 8 = (m 94 58)) (r_WTS : (m 94 45).toInt = sm (zbU (m 99)) (m 102) 3100) (r_VV : cV aa [] B) (r_CT : qCt (m 105) (m 99) (m 100) aa [] (-1) (-1)) (KZ : ∀ v m', zV (zov wr_184 m m') → (zGW T (m' 94 55) (m' 109)) → (zGU T (m 94 46) (m' 99)) → (zOw (m' 99) (m' 103) (m' 111)) → (zGG (m' 94 58) (m' 94 56) (m' 94 57) (m' 106)) → (-1 ≤ v.toInt ∧ v.toInt ≤ 1500) → (qRB (m' 99) (m 100) (m 98) (m 101) (m 102) (m' 103) (m 107) (m 108) (m' 109) (m' 111) (m 112) (m' 113) (m' 114) (m' 94 55) (m 94 46) (m 94 11) (m 94 12) (m 94 62) (m 94 17) (m 94 9) (zRs aa nz.toInt)) → (qI (zRs aa nz.toInt)) → ((zRs aa nz.toInt) 87 8 = (m' 94 58)) → ((m' 94 45).toInt = sm (zbU (m' 99)) (m 102) 3100) → (cV (zRs aa nz.toInt) [] B) → (qCt (m' 105) (m' 99) (m 100) (zRs aa nz.toInt) [] (-1) (-1)) → (qEq v.toInt (zRp aa nz.toInt)) → ((m' 94 58).toInt = 0) → P (some (.inl v)) (zov wr_184 m m')) : zm X 8 175 184 0 [(0, .inr (.inr (some 94))), (1, .inl nz)] m P := by
  have K : ∀ v m', zF wr_184 m m' → zV m' → (zGW T (m' 94 55) (m' 109)) → (zGU T (m' 94 46) (m' 99)) → (zOw (m' 99) (m' 103) (m' 111)) → (zGG (m' 94 58) (m' 94 56) (m' 94 57) (m' 106)) → (-1 ≤ v.toInt ∧ v.toInt ≤ 1500) → (qRB (m' 99) (m' 100) (m' 98) (m' 101) (m' 102) (m' 103) (m' 107) (m' 108) (m' 109) (m' 111) (m' 112) (m' 113) (m' 114) (m' 94 55) (m' 94 46) (m' 94 11) (m' 94 12) (m' 94 62) (m' 94 17) (m' 94 9) (zRs aa nz.toInt)) → (qI (zRs aa nz.toInt)) → ((zRs aa nz.toInt) 87 8 = (m' 94 58)) → ((m' 94 45).toInt = sm (zbU (m' 99)) (m' 102) 3100) → (cV (zRs aa nz.toInt) [] B) → (qCt (m' 105) (m' 99) (m' 100) (zRs aa nz.toInt) [] (-1) (-1)) → (qEq v.toInt (zRp aa nz.toInt)) → ((m' 94 58).toInt = 0) → P (some (.inl v)) m' := by
    intro v m' hf z q0 q1 q2 q3 q4 q5 q6 q7 q8 q9 q10 q11 q12
    have e := zov_eq hf
    rw [e] at z ⊢
    try rw [e] at q0
    try rw [e] at q1
    try rw [e] at q2
    try rw [e] at q3
    try rw [e] at q4
    try rw [e] at q5
    try rw [e] at q6
    try rw [e] at q7
    try rw [e] at q8
    try rw [e] at q9
    try rw [e] at q10
    try rw [e] at q11
    try rw [e] at q12
    exact KZ v m' z q0 q1 q2 q3 q4 q5 q6 q7 q8 q9 q10 q11 q12
  refine g_184_0 nz ?_
  have f1 : 0 ≤ (m 94 10).toInt ∧ (m 94 10).toInt ≤ 6 := rs_94_10 (m := m) hV
  have f2 : 0 ≤ (m 94 58).toInt ∧ (m 94 58).toInt ≤ 1 := rs_94_58 (m := m) hV
  have li3 : (1 : Int32).toInt = 1 := rfl
  refine zd (fun (h4 : (m 94 10) = (1 : Int32)) => ?_) (fun (h4 : ¬ (m 94 10) = (1 : Int32)) => ?_)
  · skip
    have g5 := i_eq h4
    exfalso; omega
  · skip
    have g6 := i_ne h4
    have li7 : (2 : Int32).toInt = 2 := rfl
    refine zd (fun (h8 : (m 94 10) = (2 : Int32)) => ?_) (fun (h8 : ¬ (m 94 10) = (2 : Int32)) => ?_)
    · skip
      have g9 := i_eq h8
      exfalso; omega
    · skip
      have g10 := i_ne h8
      have li11 : (3 : Int32).toInt = 3 := rfl
      refine zd (fun (h12 : (m 94 10) = (3 : Int32)) => ?_) (fun (h12 : ¬ (m 94 10) = (3 : Int32)) => ?_)
      · skip
        have g13 := i_eq h12
        exfalso; omega
      · skip
        have g14 := i_ne h12
        have li15 : (4 : Int32).toInt = 4 := rfl
        refine zd (fun (h16 : (m 94 10) = (4 : Int32)) => ?_) (fun (h16 : ¬ (m 94 10) = (4 : Int32)) => ?_)
        · skip
          have g17 := i_eq h16
          have b18 := i_bd nz
          refine sp_237r4 (aa := aa) (nz) hV (by omega) r_W r_GW r_GU r_OW r_GG (show (m 94 10).toInt = 4 ∧ (m 94 58).toInt = 0 from by omega) r_RB r_QI r_MK r_WTS r_VV r_CT (fun v12 m11 hV_m11 p0_m11 p1_m11 p2_m11 p3_m11 p4_m11 p5_m11 p6_m11 p7_m11 p8_m11 p9_m11 p10_m11 p11_m11 => zmi_n ?_)
          have p0_m11 : zGW T (m11 94 55) (m11 109) := p0_m11
          have p1_m11 : zGU T (m 94 46) (m11 99) := p1_m11
          have p2_m11 : zOw (m11 99) (m 103) (m11 111) := p2_m11
          have p3_m11 : zGG (m 94 58) (m 94 56) (m 94 57) (m 106) := p3_m11
          have p4_m11 : -1 ≤ v12.toInt ∧ v12.toInt ≤ 1500 := p4_m11
          have p5_m11 : qRB (m11 99) (m 100) (m 98) (m 101) (m 102) (m 103) (m 107) (m 108) (m11 109) (m11 111) (m 112) (m11 113) (m11 114) (m11 94 55) (m 94 46) (m 94 11) (m 94 12) (m 94 62) (m 94 17) (m 94 9) (zRs aa nz.toInt) := p5_m11
          have p6_m11 : qI (zRs aa nz.toInt) := p6_m11
          have p7_m11 : (zRs aa nz.toInt) 87 8 = (m 94 58) := p7_m11
          have p8_m11 : (m11 94 45).toInt = sm (zbU (m11 99)) (m 102) 3100 := p8_m11
          have p9_m11 : cV (zRs aa nz.toInt) [] B := p9_m11
          have p10_m11 : qCt (m11 105) (m11 99) (m 100) (zRs aa nz.toInt) [] (-1) (-1) := p10_m11
          have p11_m11 : qEq v12.toInt (zRp aa nz.toInt) := p11_m11
          have b19 := i_bd v12
          exact K (v12) _ (zF_zov zF_rfl ws_237_184) hV_m11 p0_m11 p1_m11 p2_m11 p3_m11 (show -1 ≤ v12.toInt ∧ v12.toInt ≤ 1500 from by omega) p5_m11 p6_m11 p7_m11 p8_m11 p9_m11 p10_m11 p11_m11 (show (m 94 58).toInt = 0 from by omega)
        · skip
          have g20 := i_ne h16
          exfalso; omega
set_option maxHeartbeats 8000000 in
theorem sp_256r4 {X : Nat × (Nat → Int32)} {P : Option ma_V → (Nat → Nat → Int32) → Prop} {T : Nat} {aa : Nat→Nat→Int32} {B : Int} {m : Nat → Nat → Int32}  (hV : zV m) (hpre0 : T ≤ 512) (hpre1 : B ≤ 1000000) (r_W : zW (m 94 7) (m 98) (m 101) (m 102) (m 108)) (r_GW : zGW T (m 94 55) (m 109)) (r_GU : zGU T (m 94 46) (m 99)) (r_OW : zOw (m 99) (m 103) (m 111)) (r_GG : zGG (m 94 58) (m 94 56) (m 94 57) (m 106)) (hpre7 : (m 94 10).toInt = 4 ∧ (m 94 58).toInt = 0) (hpre8 : (m 94 8).toInt = 1) (r_RB : qRB (m 99) (m 100) (m 98) (m 101) (m 102) (m 103) (m 107) (m 108) (m 109) (m 111) (m 112) (m 113) (m 114) (m 94 55) (m 94 46) (m 94 11) (m 94 12) (m 94 62) (m 94 17) (m 94 9) aa) (r_QI : qI aa) (r_MK : aa 87 8 = (m 94 58)) (r_WTS : (m 94 45).toInt = sm (zbU (m 99)) (m 102) 3100) (r_VV : cV aa [] B) (r_CT : qCt (m 105) (m 99) (m 100) aa [] (-1) (-1)) (KZ : ∀ v m', zV (zov wr_256 m m') → (zW (m 94 7) (m 98) (m 101) (m 102) (m 108)) → (zGW T (m' 94 55) (m' 109)) → (zGU T (m 94 46) (m' 99)) → (zOw (m' 99) (m' 103) (m' 111)) → (zGG (m' 94 58) (m' 94 56) (m' 94 57) (m' 106)) → ((m' 94 45).toInt = sm (zbU (m' 99)) (m 102) 3100) → (qRB (m' 99) (m 100) (m 98) (m 101) (m 102) (m' 103) (m 107) (m 108) (m' 109) (m' 111) (m 112) (m' 113) (m' 114) (m' 94 55) (m 94 46) (m 94 11) (m 94 12) (m 94 62) (m 94 17) (m 94 9) (aSw aa)) → (qI (aSw aa)) → ((aSw aa) 87 8 = (m' 94 58)) → (cV (aSw aa) [] B) → (qCt (m' 105) (m' 99) (m 100) (aSw aa) [] (-1) (-1)) → ((m' 94 58).toInt = 0) → P (some (.inl v)) (zov wr_256 m m')) : zm X 7 152 256 0 [(0, .inr (.inr (some 94)))] m P := by
  have K : ∀ v m', zF wr_256 m m' → zV m' → (zW (m' 94 7) (m' 98) (m' 101) (m' 102) (m' 108)) → (zGW T (m' 94 55) (m' 109)) → (zGU T (m' 94 46) (m' 99)) → (zOw (m' 99) (m' 103) (m' 111)) → (zGG (m' 94 58) (m' 94 56) (m' 94 57) (m' 106)) → ((m' 94 45).toInt = sm (zbU (m' 99)) (m' 102) 3100) → (qRB (m' 99) (m' 100) (m' 98) (m' 101) (m' 102) (m' 103) (m' 107) (m' 108) (m' 109) (m' 111) (m' 112) (m' 113) (m' 114) (m' 94 55) (m' 94 46) (m' 94 11) (m' 94 12) (m' 94 62) (m' 94 17) (m' 94 9) (aSw aa)) → (qI (aSw aa)) → ((aSw aa) 87 8 = (m' 94 58)) → (cV (aSw aa) [] B) → (qCt (m' 105) (m' 99) (m' 100) (aSw aa) [] (-1) (-1)) → ((m' 94 58).toInt = 0) → P (some (.inl v)) m' := by
    intro v m' hf z q0 q1 q2 q3 q4 q5 q6 q7 q8 q9 q10 q11
    have e := zov_eq hf
    rw [e] at z ⊢
    try rw [e] at q0
    try rw [e] at q1
    try rw [e] at q2
    try rw [e] at q3
    try rw [e] at q4
    try rw [e] at q5
    try rw [e] at q6
    try rw [e] at q7
    try rw [e] at q8
    try rw [e] at q9
    try rw [e] at q10
    try rw [e] at q11
    exact KZ v m' z q0 q1 q2 q3 q4 q5 q6 q7 q8 q9 q10 q11
  refine g_256_0  ?_
  have f1 : 0 ≤ (m 94 10).toInt ∧ (m 94 10).toInt ≤ 6 := rs_94_10 (m := m) hV
  have f2 : 0 ≤ (m 94 58).toInt ∧ (m 94 58).toInt ≤ 1 := rs_94_58 (m := m) hV
  have f3 : 0 ≤ (m 94 8).toInt ∧ (m 94 8).toInt ≤ 1 := rs_94_8 (m := m) hV
  have li4 : (0 : Int32).toInt = 0 := rfl
  refine zd (fun (h5 : (m 94 8) = (0 : Int32)) => ?_) (fun (h5 : ¬ (m 94 8) = (0 : Int32)) => ?_)
  · skip
    have g6 := i_eq h5
    exfalso; omega
  · skip
    have g7 := i_ne h5
    have li8 : (1 : Int32).toInt = 1 := rfl
    refine zd (fun (h9 : (m 94 10) = (1 : Int32)) => ?_) (fun (h9 : ¬ (m 94 10) = (1 : Int32)) => ?_)
    · skip
      have g10 := i_eq h9
      exfalso; omega
    · skip
      have g11 := i_ne h9
      have li12 : (2 : Int32).toInt = 2 := rfl
      refine zd (fun (h13 : (m 94 10) = (2 : Int32)) => ?_) (fun (h13 : ¬ (m 94 10) = (2 : Int32)) => ?_)
      · skip
        have g14 := i_eq h13
        exfalso; omega
      · skip
        have g15 := i_ne h13
        have li16 : (3 : Int32).toInt = 3 := rfl
        refine zd (fun (h17 : (m 94 10) = (3 : Int32)) => ?_) (fun (h17 : ¬ (m 94 10) = (3 : Int32)) => ?_)
        · skip
          have g18 := i_eq h17
          exfalso; omega
        · skip
          have g19 := i_ne h17
          have li20 : (4 : Int32).toInt = 4 := rfl
          refine zd (fun (h21 : (m 94 10) = (4 : Int32)) => ?_) (fun (h21 : ¬ (m 94 10) = (4 : Int32)) => ?_)
          · skip
            have g22 := i_eq h21
            have hV23 : zV (ma_u m 94 0 (0 : Int32)) := uf_94_0 hV
            refine sp_187r4 (aa := aa)  hV23 (by omega) r_W r_GW r_GU r_OW (show (m 94 10).toInt = 4 ∧ (m 94 58).toInt = 0 from by omega) r_RB r_QI r_WTS r_VV r_CT (fun v10 m9 hV_m9 p0_m9 p1_m9 p2_m9 p3_m9 p4_m9 p5_m9 p6_m9 p7_m9 => zmi_n ?_)
            have p0_m9 : zGW T (m9 94 55) (m9 109) := p0_m9
            have p1_m9 : zGU T (m 94 46) (m9 99) := p1_m9
            have p2_m9 : zOw (m9 99) (m 103) (m9 111) := p2_m9
            have p3_m9 : qRB (m9 99) (m 100) (m 98) (m 101) (m 102) (m 103) (m 107) (m 108) (m9 109) (m9 111) (m 112) (m9 113) (m9 114) (m9 94 55) (m 94 46) (m 94 11) (m 94 12) (m 94 62) (m 94 17) (m 94 9) (aSw aa) := p3_m9
            have p4_m9 : qI (aSw aa) := p4_m9
            have p5_m9 : (m9 94 45).toInt = sm (zbU (m9 99)) (m 102) 3100 := p5_m9
            have p6_m9 : cV (aSw aa) [] B := p6_m9
            have p7_m9 : qCt (m9 105) (m9 99) (m 100) (aSw aa) [] (-1) (-1) := p7_m9
            have b24 := i_bd v10
            exact K (v10) _ (zF_zov (zF_u zF_rfl rfl) ws_187_256) hV_m9 r_W p0_m9 p1_m9 p2_m9 r_GG p5_m9 p3_m9 p4_m9 (show (aSw aa) 87 8 = (m 94 58) from by first | (rw [sw_87]; exact r_MK; done) | (exfalso; omega; done) | (exfalso; contradiction; done)) p6_m9 p7_m9 (show (m 94 58).toInt = 0 from by omega)
          · skip
            have g25 := i_ne h21
            exfalso; omega
