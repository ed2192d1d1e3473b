/-! the reference by numbers (written by wip/tools/gen18r.py) -/
theorem sp_229r {X : Nat × (Nat → Int32)} {P : Option ma_V → (Nat → Nat → Int32) → Prop} {T : Nat} {aa : Nat→Nat→Int32} {m : Nat → Nat → Int32}  (hV : zV m) (hpre0 : T ≤ 512) (r_W : zW (m 94 7) (m 98) (m 101) (m 102) (m 108)) (r_GW : zGW T (m 94 55) (m 109)) (r_GU : zGU T (m 94 46) (m 99)) (r_OW : zOw (m 99) (m 103) (m 111)) (hpre5 : (m 94 10).toInt = 5) (r_RB : qRB (m 99) (m 100) (m 98) (m 101) (m 102) (m 103) (m 107) (m 108) (m 109) (m 111) (m 112) (m 113) (m 114) (m 94 55) (m 94 46) (m 94 11) (m 94 12) (m 94 62) (m 94 17) (m 94 9) aa) (r_QI : qI aa) (r_WTS : (m 94 45).toInt = sm (zbU (m 99)) (m 102) 3100) (r_MKz : aa 87 8 = 0) (KZ : ∀ v m', zV (zov wr_229 m m') → (zGW T (m' 94 55) (m' 109)) → (zGU T (m 94 46) (m' 99)) → (zOw (m' 99) (m 103) (m' 111)) → (zGG (m' 94 58) (m' 94 56) (m' 94 57) (m' 106)) → ((m' 94 58).toInt = 0) → (qRB (m' 99) (m 100) (m 98) (m 101) (m 102) (m 103) (m 107) (m 108) (m' 109) (m' 111) (m 112) (m' 113) (m' 114) (m' 94 55) (m 94 46) (m 94 11) (m 94 12) (m 94 62) (m 94 17) (m 94 9) (aCl aa)) → (qI (aCl aa)) → ((m' 94 45).toInt = sm (zbU (m' 99)) (m 102) 3100) → P (some (.inl v)) (zov wr_229 m m')) : zm X 6 131 229 0 [(0, .inr (.inr (some 94)))] m P := by
  have K : ∀ v m', zF wr_229 m m' → zV m' → (zGW T (m' 94 55) (m' 109)) → (zGU T (m' 94 46) (m' 99)) → (zOw (m' 99) (m' 103) (m' 111)) → (zGG (m' 94 58) (m' 94 56) (m' 94 57) (m' 106)) → ((m' 94 58).toInt = 0) → (qRB (m' 99) (m' 100) (m' 98) (m' 101) (m' 102) (m' 103) (m' 107) (m' 108) (m' 109) (m' 111) (m' 112) (m' 113) (m' 114) (m' 94 55) (m' 94 46) (m' 94 11) (m' 94 12) (m' 94 62) (m' 94 17) (m' 94 9) (aCl aa)) → (qI (aCl aa)) → ((m' 94 45).toInt = sm (zbU (m' 99)) (m' 102) 3100) → P (some (.inl v)) m' := by
    intro v m' hf z q0 q1 q2 q3 q4 q5 q6 q7
    have e := zov_eq hf
    rw [e] at z ⊢
    try rw [e] at q0
    try rw [e] at q1
    try rw [e] at q2
    try rw [e] at q3
    try rw [e] at q4
    try rw [e] at q5
    try rw [e] at q6
    try rw [e] at q7
    exact KZ v m' z q0 q1 q2 q3 q4 q5 q6 q7
  refine g_229_0  ?_
  have f1 : 0 ≤ (m 94 10).toInt ∧ (m 94 10).toInt ≤ 6 := rs_94_10 (m := m) hV
  refine sp_219r (aa := aa)  hV r_RB r_QI (fun m1 hV_m1 p0_m1 p1_m1 p2_m1 p3_m1 p4_m1 => zmv_n ?_)
  have p0_m1 : zG1 (m1 94 56) (m1 94 57) (m1 106) := p0_m1
  have p1_m1 : (m1 94 58).toInt = 1 := p1_m1
  have p2_m1 : qRB (m 99) (m 100) (m 98) (m 101) (m 102) (m 103) (m 107) (m 108) (m 109) (m 111) (m 112) (m 113) (m 114) (m 94 55) (m 94 46) (m 94 11) (m 94 12) (m 94 62) (m 94 17) (m 94 9) (aB0 aa) := p2_m1
  have p3_m1 : qI (aB0 aa) := p3_m1
  have p4_m1 : qMQ (m1 106) (m1 115) (m1 94 57) (m1 94 56) (m 99) (m 100) (aB0 aa) := p4_m1
  have f2 : 0 ≤ (m1 94 58).toInt ∧ (m1 94 58).toInt ≤ 1 := rs_94_58 (m := (zov wr_219 m m1)) hV_m1
  refine sp_230r (aa := (aB0 aa))  hV_m1 (by omega) r_W r_GW r_GU r_OW p0_m1 (show (m 94 10).toInt = 5 from by omega) (show (m1 94 58).toInt = 1 from by omega) p4_m1 p2_m1 p3_m1 (show qMI (aB0 aa) from by first | (exact MI_b0 r_QI) | (exfalso; omega; done) | (exfalso; contradiction; done)) (show (aB0 aa) 87 8 = (m1 94 58) from by first | (exact B0_87.trans (i_one (by omega))) | (exfalso; omega; done) | (exfalso; contradiction; done)) r_WTS (fun v4 m3 hV_m3 p0_m3 p1_m3 p2_m3 p3_m3 p4_m3 p5_m3 p6_m3 p7_m3 => zmi_n ?_)
  have p0_m3 : zGW T (m3 94 55) (m3 109) := p0_m3
  have p1_m3 : zGU T (m 94 46) (m3 99) := p1_m3
  have p2_m3 : zOw (m3 99) (m 103) (m3 111) := p2_m3
  have p3_m3 : zGG (m3 94 58) (m3 94 56) (m3 94 57) (m3 106) := p3_m3
  have p4_m3 : (m3 94 58).toInt = 0 := p4_m3
  have p5_m3 : qRB (m3 99) (m 100) (m 98) (m 101) (m 102) (m 103) (m 107) (m 108) (m3 109) (m3 111) (m 112) (m3 113) (m3 114) (m3 94 55) (m 94 46) (m 94 11) (m 94 12) (m 94 62) (m 94 17) (m 94 9) (aCl (aB0 aa)) := p5_m3
  have p6_m3 : qI (aCl (aB0 aa)) := p6_m3
  have p7_m3 : (m3 94 45).toInt = sm (zbU (m3 99)) (m 102) 3100 := p7_m3
  have f3 : 0 ≤ (m3 94 58).toInt ∧ (m3 94 58).toInt ≤ 1 := rs_94_58 (m := (zov wr_230 (zov wr_219 m m1) m3)) hV_m3
  have b4 := i_bd v4
  exact K (v4) _ (zF_zov (zF_zov zF_rfl ws_219_229) ws_230_229) hV_m3 p0_m3 p1_m3 p2_m3 p3_m3 (show (m3 94 58).toInt = 0 from by omega) (show qRB (m3 99) (m 100) (m 98) (m 101) (m 102) (m 103) (m 107) (m 108) (m3 109) (m3 111) (m 112) (m3 113) (m3 114) (m3 94 55) (m 94 46) (m 94 11) (m 94 12) (m 94 62) (m 94 17) (m 94 9) (aCl aa) from by first | (rw [← Cl_b r_MKz]; exact p5_m3; done) | (exact p5_m3) | (exfalso; omega; done) | (exfalso; contradiction; done)) (show qI (aCl aa) from by first | (rw [← Cl_b r_MKz]; exact p6_m3; done) | (exact p6_m3) | (exfalso; omega; done) | (exfalso; contradiction; done)) p7_m3
