/-! the reference where it moves (written by wip/tools/gen15r.py) -/
set_option maxHeartbeats 8000000 in
theorem sp_256rv {X : Nat × (Nat → Int32)} {P : Option ma_V → (Nat → Nat → Int32) → Prop} {T : Nat} {aa : Nat→Nat→Int32} {ro : Int32} {m : Nat → Nat → Int32}  (hV : zV m) (hpre0 : T ≤ 512) (r_W : zW (m 94 7) (m 98) (m 101) (m 102) (m 108)) (r_GW : zGW T (m 94 55) (m 109)) (r_GU : zGU T (m 94 46) (m 99)) (r_OW : zOw (m 99) (m 103) (m 111)) (r_GG : zGG (m 94 58) (m 94 56) (m 94 57) (m 106)) (hpre6 : (m 94 10).toInt = 2 ∧ (m 94 58).toInt = 0) (hpre7 : (m 94 8).toInt = 1) (r_RB : qRB (m 99) (m 100) (m 98) (m 101) (m 102) (m 103) (m 107) (m 108) (m 109) (m 111) (m 112) (m 113) (m 114) (m 94 55) (m 94 46) ro 0 0 0 1 aa) (r_HV : qHv aa) (r_HL : qHL aa (m 94 11) (m 94 61) (m 94 59)) (r_MG : qMG (m 94 58) (m 106) (m 115) (m 94 57) (m 94 56) (m 99) (m 100) aa) (r_MK : aa 87 8 = (m 94 58)) (r_WTS : (m 94 45).toInt = sm (zbU (m 99)) (m 102) 3100) (KZ : ∀ v m', zV (zov wr_256 m m') → (zW (m 94 7) (m 98) (m 101) (m 102) (m 108)) → (zGW T (m' 94 55) (m' 109)) → (zGU T (m 94 46) (m' 99)) → (zOw (m' 99) (m' 103) (m' 111)) → (zGG (m' 94 58) (m' 94 56) (m' 94 57) (m' 106)) → (qRB (m' 99) (m 100) (m 98) (m 101) (m 102) (m' 103) (m 107) (m 108) (m' 109) (m' 111) (m 112) (m' 113) (m' 114) (m' 94 55) (m 94 46) ro 0 0 0 1 (hCl aa)) → (qHv (hCl aa)) → (qHL (hCl aa) (m 94 11) (m' 94 61) (m' 94 59)) → (qMG (m' 94 58) (m' 106) (m' 115) (m' 94 57) (m' 94 56) (m' 99) (m 100) (hCl aa)) → ((hCl aa) 87 8 = (m' 94 58)) → ((m' 94 45).toInt = sm (zbU (m' 99)) (m 102) 3100) → ((m' 94 58).toInt = 0) → P (some (.inl v)) (zov wr_256 m m')) : zm X 7 152 256 0 [(0, .inr (.inr (some 94)))] m P := by
  have K : ∀ v m', zF wr_256 m m' → zV m' → (zW (m' 94 7) (m' 98) (m' 101) (m' 102) (m' 108)) → (zGW T (m' 94 55) (m' 109)) → (zGU T (m' 94 46) (m' 99)) → (zOw (m' 99) (m' 103) (m' 111)) → (zGG (m' 94 58) (m' 94 56) (m' 94 57) (m' 106)) → (qRB (m' 99) (m' 100) (m' 98) (m' 101) (m' 102) (m' 103) (m' 107) (m' 108) (m' 109) (m' 111) (m' 112) (m' 113) (m' 114) (m' 94 55) (m' 94 46) ro 0 0 0 1 (hCl aa)) → (qHv (hCl aa)) → (qHL (hCl aa) (m' 94 11) (m' 94 61) (m' 94 59)) → (qMG (m' 94 58) (m' 106) (m' 115) (m' 94 57) (m' 94 56) (m' 99) (m' 100) (hCl aa)) → ((hCl aa) 87 8 = (m' 94 58)) → ((m' 94 45).toInt = sm (zbU (m' 99)) (m' 102) 3100) → ((m' 94 58).toInt = 0) → P (some (.inl v)) m' := by
    intro v m' hf z q0 q1 q2 q3 q4 q5 q6 q7 q8 q9 q10 q11
    have e := zov_eq hf
    rw [e] at z ⊢
    try rw [e] at q0
    try rw [e] at q1
    try rw [e] at q2
    try rw [e] at q3
    try rw [e] at q4
    try rw [e] at q5
    try rw [e] at q6
    try rw [e] at q7
    try rw [e] at q8
    try rw [e] at q9
    try rw [e] at q10
    try rw [e] at q11
    exact KZ v m' z q0 q1 q2 q3 q4 q5 q6 q7 q8 q9 q10 q11
  refine g_256_0  ?_
  have f1 : 0 ≤ (m 94 10).toInt ∧ (m 94 10).toInt ≤ 6 := rs_94_10 (m := m) hV
  have f2 : 0 ≤ (m 94 58).toInt ∧ (m 94 58).toInt ≤ 1 := rs_94_58 (m := m) hV
  have f3 : 0 ≤ (m 94 8).toInt ∧ (m 94 8).toInt ≤ 1 := rs_94_8 (m := m) hV
  have li4 : (0 : Int32).toInt = 0 := rfl
  refine zd (fun (h5 : (m 94 8) = (0 : Int32)) => ?_) (fun (h5 : ¬ (m 94 8) = (0 : Int32)) => ?_)
  · skip
    have g6 := i_eq h5
    exfalso; omega
  · skip
    have g7 := i_ne h5
    have li8 : (1 : Int32).toInt = 1 := rfl
    refine zd (fun (h9 : (m 94 10) = (1 : Int32)) => ?_) (fun (h9 : ¬ (m 94 10) = (1 : Int32)) => ?_)
    · skip
      have g10 := i_eq h9
      exfalso; omega
    · skip
      have g11 := i_ne h9
      have li12 : (2 : Int32).toInt = 2 := rfl
      refine zd (fun (h13 : (m 94 10) = (2 : Int32)) => ?_) (fun (h13 : ¬ (m 94 10) = (2 : Int32)) => ?_)
      · skip
        have g14 := i_eq h13
        have hV15 : zV (ma_u m 94 0 (0 : Int32)) := uf_94_0 hV
        refine sp_206rv (aa := aa)  hV15 (by omega) r_W r_GW r_GU r_OW (show (m 94 10).toInt = 2 from by omega) r_RB r_HV r_HL r_WTS (fun v4 m3 hV_m3 p0_m3 p1_m3 p2_m3 p3_m3 p4_m3 p5_m3 p6_m3 => zmi_n ?_)
        have p0_m3 : zGW T (m3 94 55) (m3 109) := p0_m3
        have p1_m3 : zGU T (m 94 46) (m3 99) := p1_m3
        have p2_m3 : zOw (m3 99) (m3 103) (m3 111) := p2_m3
        have p3_m3 : qRB (m3 99) (m 100) (m 98) (m 101) (m 102) (m3 103) (m 107) (m 108) (m3 109) (m3 111) (m 112) (m3 113) (m3 114) (m3 94 55) (m 94 46) ro 0 0 0 1 (hCl aa) := p3_m3
        have p4_m3 : qHv (hCl aa) := p4_m3
        have p5_m3 : qHL (hCl aa) (m 94 11) (m3 94 61) (m3 94 59) := p5_m3
        have p6_m3 : (m3 94 45).toInt = sm (zbU (m3 99)) (m 102) 3100 := p6_m3
        have b16 := i_bd v4
        exact K (v4) _ (zF_zov (zF_u zF_rfl rfl) ws_206_256) hV_m3 r_W p0_m3 p1_m3 p2_m3 r_GG p3_m3 p4_m3 p5_m3 (show qMG (m 94 58) (m 106) (m 115) (m 94 57) (m 94 56) (m3 99) (m 100) (hCl aa) from by first | (exact fun z => absurd (by omega) z) | (exfalso; omega; done) | (exfalso; contradiction; done)) (show (hCl aa) 87 8 = (m 94 58) from by first | (rw [cl_7 (by decide) (by decide)]; exact r_MK; done) | (exfalso; omega; done) | (exfalso; contradiction; done)) p6_m3 (show (m 94 58).toInt = 0 from by omega)
      · skip
        have g17 := i_ne h13
        exfalso; omega
