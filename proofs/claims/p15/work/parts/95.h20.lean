/-! the reference by numbers (written by wip/tools/gen18r.py) -/
set_option maxHeartbeats 8000000 in
theorem sp_184r {X : Nat × (Nat → Int32)} {P : Option ma_V → (Nat → Nat → Int32) → Prop} {T : Nat} {aa : Nat→Nat→Int32} {m : Nat → Nat → Int32} (nz : Int32) (hV : zV m) (hpre0 : T ≤ 512) (r_W : zW (m 94 7) (m 98) (m 101) (m 102) (m 108)) (r_GW : zGW T (m 94 55) (m 109)) (r_GU : zGU T (m 94 46) (m 99)) (r_OW : zOw (m 99) (m 103) (m 111)) (r_GG : zGG (m 94 58) (m 94 56) (m 94 57) (m 106)) (hpre6 : (m 94 10).toInt = 5) (r_RB : qRB (m 99) (m 100) (m 98) (m 101) (m 102) (m 103) (m 107) (m 108) (m 109) (m 111) (m 112) (m 113) (m 114) (m 94 55) (m 94 46) (m 94 11) (m 94 12) (m 94 62) (m 94 17) (m 94 9) aa) (r_QI : qI aa) (r_MG : qMG (m 94 58) (m 106) (m 115) (m 94 57) (m 94 56) (m 99) (m 100) aa) (r_MK : aa 87 8 = (m 94 58)) (r_WTS : (m 94 45).toInt = sm (zbU (m 99)) (m 102) 3100) (KZ : ∀ v m', zV (zov wr_184 m m') → (zGW T (m' 94 55) (m' 109)) → (zGU T (m 94 46) (m' 99)) → (zOw (m' 99) (m' 103) (m' 111)) → (zGG (m' 94 58) (m' 94 56) (m' 94 57) (m' 106)) → (-1 ≤ v.toInt ∧ v.toInt ≤ 1500) → (qRB (m' 99) (m 100) (m 98) (m 101) (m 102) (m' 103) (m 107) (m 108) (m' 109) (m' 111) (m 112) (m' 113) (m' 114) (m' 94 55) (m 94 46) (m 94 11) (m 94 12) (m 94 62) (m 94 17) (m 94 9) (aRs aa nz.toInt)) → (qI (aRs aa nz.toInt)) → (qMG (m' 94 58) (m' 106) (m' 115) (m' 94 57) (m' 94 56) (m' 99) (m 100) (aRs aa nz.toInt)) → ((aRs aa nz.toInt) 87 8 = (m' 94 58)) → ((m' 94 45).toInt = sm (zbU (m' 99)) (m 102) 3100) → (qEq v.toInt (aRp aa nz.toInt)) → P (some (.inl v)) (zov wr_184 m m')) : zm X 8 175 184 0 [(0, .inr (.inr (some 94))), (1, .inl nz)] m P := by
  have K : ∀ v m', zF wr_184 m m' → zV m' → (zGW T (m' 94 55) (m' 109)) → (zGU T (m' 94 46) (m' 99)) → (zOw (m' 99) (m' 103) (m' 111)) → (zGG (m' 94 58) (m' 94 56) (m' 94 57) (m' 106)) → (-1 ≤ v.toInt ∧ v.toInt ≤ 1500) → (qRB (m' 99) (m' 100) (m' 98) (m' 101) (m' 102) (m' 103) (m' 107) (m' 108) (m' 109) (m' 111) (m' 112) (m' 113) (m' 114) (m' 94 55) (m' 94 46) (m' 94 11) (m' 94 12) (m' 94 62) (m' 94 17) (m' 94 9) (aRs aa nz.toInt)) → (qI (aRs aa nz.toInt)) → (qMG (m' 94 58) (m' 106) (m' 115) (m' 94 57) (m' 94 56) (m' 99) (m' 100) (aRs aa nz.toInt)) → ((aRs aa nz.toInt) 87 8 = (m' 94 58)) → ((m' 94 45).toInt = sm (zbU (m' 99)) (m' 102) 3100) → (qEq v.toInt (aRp aa nz.toInt)) → P (some (.inl v)) m' := by
    intro v m' hf z q0 q1 q2 q3 q4 q5 q6 q7 q8 q9 q10
    have e := zov_eq hf
    rw [e] at z ⊢
    try rw [e] at q0
    try rw [e] at q1
    try rw [e] at q2
    try rw [e] at q3
    try rw [e] at q4
    try rw [e] at q5
    try rw [e] at q6
    try rw [e] at q7
    try rw [e] at q8
    try rw [e] at q9
    try rw [e] at q10
    exact KZ v m' z q0 q1 q2 q3 q4 q5 q6 q7 q8 q9 q10
  refine g_184_0 nz ?_
  have f1 : 0 ≤ (m 94 10).toInt ∧ (m 94 10).toInt ≤ 6 := rs_94_10 (m := m) hV
  have li2 : (1 : Int32).toInt = 1 := rfl
  refine zd (fun (h3 : (m 94 10) = (1 : Int32)) => ?_) (fun (h3 : ¬ (m 94 10) = (1 : Int32)) => ?_)
  · skip
    have g4 := i_eq h3
    exfalso; omega
  · skip
    have g5 := i_ne h3
    have li6 : (2 : Int32).toInt = 2 := rfl
    refine zd (fun (h7 : (m 94 10) = (2 : Int32)) => ?_) (fun (h7 : ¬ (m 94 10) = (2 : Int32)) => ?_)
    · skip
      have g8 := i_eq h7
      exfalso; omega
    · skip
      have g9 := i_ne h7
      have li10 : (3 : Int32).toInt = 3 := rfl
      refine zd (fun (h11 : (m 94 10) = (3 : Int32)) => ?_) (fun (h11 : ¬ (m 94 10) = (3 : Int32)) => ?_)
      · skip
        have g12 := i_eq h11
        exfalso; omega
      · skip
        have g13 := i_ne h11
        have li14 : (4 : Int32).toInt = 4 := rfl
        refine zd (fun (h15 : (m 94 10) = (4 : Int32)) => ?_) (fun (h15 : ¬ (m 94 10) = (4 : Int32)) => ?_)
        · skip
          have g16 := i_eq h15
          exfalso; omega
        · skip
          have g17 := i_ne h15
          have li18 : (5 : Int32).toInt = 5 := rfl
          refine zd (fun (h19 : (m 94 10) = (5 : Int32)) => ?_) (fun (h19 : ¬ (m 94 10) = (5 : Int32)) => ?_)
          · skip
            have g20 := i_eq h19
            have b21 := i_bd nz
            refine sp_217r (aa := aa) (nz) hV (by omega) r_W r_GW r_GU r_OW r_GG (show (m 94 10).toInt = 5 from by omega) r_RB r_QI r_MG r_MK r_WTS (fun v14 m13 hV_m13 p0_m13 p1_m13 p2_m13 p3_m13 p4_m13 p5_m13 p6_m13 p7_m13 p8_m13 p9_m13 p10_m13 => zmi_n ?_)
            have p0_m13 : zGW T (m13 94 55) (m13 109) := p0_m13
            have p1_m13 : zGU T (m 94 46) (m13 99) := p1_m13
            have p2_m13 : zOw (m13 99) (m 103) (m13 111) := p2_m13
            have p3_m13 : zGG (m13 94 58) (m13 94 56) (m13 94 57) (m13 106) := p3_m13
            have p4_m13 : -1 ≤ v14.toInt ∧ v14.toInt ≤ 1500 := p4_m13
            have p5_m13 : qRB (m13 99) (m 100) (m 98) (m 101) (m 102) (m 103) (m 107) (m 108) (m13 109) (m13 111) (m 112) (m13 113) (m13 114) (m13 94 55) (m 94 46) (m 94 11) (m 94 12) (m 94 62) (m 94 17) (m 94 9) (aRs aa nz.toInt) := p5_m13
            have p6_m13 : qI (aRs aa nz.toInt) := p6_m13
            have p7_m13 : qMG (m13 94 58) (m13 106) (m13 115) (m13 94 57) (m13 94 56) (m13 99) (m 100) (aRs aa nz.toInt) := p7_m13
            have p8_m13 : (aRs aa nz.toInt) 87 8 = (m13 94 58) := p8_m13
            have p9_m13 : (m13 94 45).toInt = sm (zbU (m13 99)) (m 102) 3100 := p9_m13
            have p10_m13 : qEq v14.toInt (aRp aa nz.toInt) := p10_m13
            have b22 := i_bd v14
            exact K (v14) _ (zF_zov zF_rfl ws_217_184) hV_m13 p0_m13 p1_m13 p2_m13 p3_m13 (show -1 ≤ v14.toInt ∧ v14.toInt ≤ 1500 from by omega) p5_m13 p6_m13 p7_m13 p8_m13 p9_m13 p10_m13
          · skip
            have g23 := i_ne h19
            exfalso; omega
