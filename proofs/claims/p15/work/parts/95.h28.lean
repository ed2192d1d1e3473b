/-! the reference by numbers (written by wip/tools/gen18r.py) -/
set_option maxHeartbeats 8000000 in
theorem sp_256r {X : Nat × (Nat → Int32)} {P : Option ma_V → (Nat → Nat → Int32) → Prop} {T : Nat} {aa : Nat→Nat→Int32} {m : Nat → Nat → Int32}  (hV : zV m) (hpre0 : T ≤ 512) (r_W : zW (m 94 7) (m 98) (m 101) (m 102) (m 108)) (r_GW : zGW T (m 94 55) (m 109)) (r_GU : zGU T (m 94 46) (m 99)) (r_OW : zOw (m 99) (m 103) (m 111)) (r_GG : zGG (m 94 58) (m 94 56) (m 94 57) (m 106)) (hpre6 : (m 94 10).toInt = 5) (hpre7 : (m 94 8).toInt = 1) (r_RB : qRB (m 99) (m 100) (m 98) (m 101) (m 102) (m 103) (m 107) (m 108) (m 109) (m 111) (m 112) (m 113) (m 114) (m 94 55) (m 94 46) (m 94 11) (m 94 12) (m 94 62) (m 94 17) (m 94 9) aa) (r_QI : qI aa) (r_MG : qMG (m 94 58) (m 106) (m 115) (m 94 57) (m 94 56) (m 99) (m 100) aa) (r_MK : aa 87 8 = (m 94 58)) (r_WTS : (m 94 45).toInt = sm (zbU (m 99)) (m 102) 3100) (KZ : ∀ v m', zV (zov wr_256 m m') → (zW (m 94 7) (m 98) (m 101) (m 102) (m 108)) → (zGW T (m' 94 55) (m' 109)) → (zGU T (m 94 46) (m' 99)) → (zOw (m' 99) (m' 103) (m' 111)) → (zGG (m' 94 58) (m' 94 56) (m' 94 57) (m' 106)) → (qRB (m' 99) (m 100) (m 98) (m 101) (m 102) (m' 103) (m 107) (m 108) (m' 109) (m' 111) (m 112) (m' 113) (m' 114) (m' 94 55) (m 94 46) (m 94 11) (m 94 12) (m 94 62) (m 94 17) (m 94 9) (aCl aa)) → (qI (aCl aa)) → (qMG (m' 94 58) (m' 106) (m' 115) (m' 94 57) (m' 94 56) (m' 99) (m 100) (aCl aa)) → ((aCl aa) 87 8 = (m' 94 58)) → ((m' 94 45).toInt = sm (zbU (m' 99)) (m 102) 3100) → P (some (.inl v)) (zov wr_256 m m')) : zm X 7 152 256 0 [(0, .inr (.inr (some 94)))] m P := by
  have K : ∀ v m', zF wr_256 m m' → zV m' → (zW (m' 94 7) (m' 98) (m' 101) (m' 102) (m' 108)) → (zGW T (m' 94 55) (m' 109)) → (zGU T (m' 94 46) (m' 99)) → (zOw (m' 99) (m' 103) (m' 111)) → (zGG (m' 94 58) (m' 94 56) (m' 94 57) (m' 106)) → (qRB (m' 99) (m' 100) (m' 98) (m' 101) (m' 102) (m' 103) (m' 107) (m' 108) (m' 109) (m' 111) (m' 112) (m' 113) (m' 114) (m' 94 55) (m' 94 46) (m' 94 11) (m' 94 12) (m' 94 62) (m' 94 17) (m' 94 9) (aCl aa)) → (qI (aCl aa)) → (qMG (m' 94 58) (m' 106) (m' 115) (m' 94 57) (m' 94 56) (m' 99) (m' 100) (aCl aa)) → ((aCl aa) 87 8 = (m' 94 58)) → ((m' 94 45).toInt = sm (zbU (m' 99)) (m' 102) 3100) → P (some (.inl v)) m' := by
    intro v m' hf z q0 q1 q2 q3 q4 q5 q6 q7 q8 q9
    have e := zov_eq hf
    rw [e] at z ⊢
    try rw [e] at q0
    try rw [e] at q1
    try rw [e] at q2
    try rw [e] at q3
    try rw [e] at q4
    try rw [e] at q5
    try rw [e] at q6
    try rw [e] at q7
    try rw [e] at q8
    try rw [e] at q9
    exact KZ v m' z q0 q1 q2 q3 q4 q5 q6 q7 q8 q9
  refine g_256_0  ?_
  have f1 : 0 ≤ (m 94 10).toInt ∧ (m 94 10).toInt ≤ 6 := rs_94_10 (m := m) hV
  have f2 : 0 ≤ (m 94 8).toInt ∧ (m 94 8).toInt ≤ 1 := rs_94_8 (m := m) hV
  have li3 : (0 : Int32).toInt = 0 := rfl
  refine zd (fun (h4 : (m 94 8) = (0 : Int32)) => ?_) (fun (h4 : ¬ (m 94 8) = (0 : Int32)) => ?_)
  · skip
    have g5 := i_eq h4
    exfalso; omega
  · skip
    have g6 := i_ne h4
    have li7 : (1 : Int32).toInt = 1 := rfl
    refine zd (fun (h8 : (m 94 10) = (1 : Int32)) => ?_) (fun (h8 : ¬ (m 94 10) = (1 : Int32)) => ?_)
    · skip
      have g9 := i_eq h8
      exfalso; omega
    · skip
      have g10 := i_ne h8
      have li11 : (2 : Int32).toInt = 2 := rfl
      refine zd (fun (h12 : (m 94 10) = (2 : Int32)) => ?_) (fun (h12 : ¬ (m 94 10) = (2 : Int32)) => ?_)
      · skip
        have g13 := i_eq h12
        exfalso; omega
      · skip
        have g14 := i_ne h12
        have li15 : (3 : Int32).toInt = 3 := rfl
        refine zd (fun (h16 : (m 94 10) = (3 : Int32)) => ?_) (fun (h16 : ¬ (m 94 10) = (3 : Int32)) => ?_)
        · skip
          have g17 := i_eq h16
          exfalso; omega
        · skip
          have g18 := i_ne h16
          have li19 : (4 : Int32).toInt = 4 := rfl
          refine zd (fun (h20 : (m 94 10) = (4 : Int32)) => ?_) (fun (h20 : ¬ (m 94 10) = (4 : Int32)) => ?_)
          · skip
            have g21 := i_eq h20
            exfalso; omega
          · skip
            have g22 := i_ne h20
            have li23 : (5 : Int32).toInt = 5 := rfl
            refine zd (fun (h24 : (m 94 10) = (5 : Int32)) => ?_) (fun (h24 : ¬ (m 94 10) = (5 : Int32)) => ?_)
            · skip
              have g25 := i_eq h24
              have f26 : 0 ≤ (m 94 58).toInt ∧ (m 94 58).toInt ≤ 1 := rs_94_58 (m := m) hV
              refine zd (fun (h27 : (m 94 58) = (0 : Int32)) => ?_) (fun (h27 : ¬ (m 94 58) = (0 : Int32)) => ?_)
              · skip
                have g28 := i_eq h27
                have hV29 : zV (ma_u m 94 0 (0 : Int32)) := uf_94_0 hV
                refine sp_219r (aa := aa)  hV29 r_RB r_QI (fun m13 hV_m13 p0_m13 p1_m13 p2_m13 p3_m13 p4_m13 => zmv_n ?_)
                have p0_m13 : zG1 (m13 94 56) (m13 94 57) (m13 106) := p0_m13
                have p1_m13 : (m13 94 58).toInt = 1 := p1_m13
                have p2_m13 : qRB (m 99) (m 100) (m 98) (m 101) (m 102) (m 103) (m 107) (m 108) (m 109) (m 111) (m 112) (m 113) (m 114) (m 94 55) (m 94 46) (m 94 11) (m 94 12) (m 94 62) (m 94 17) (m 94 9) (aB0 aa) := p2_m13
                have p3_m13 : qI (aB0 aa) := p3_m13
                have p4_m13 : qMQ (m13 106) (m13 115) (m13 94 57) (m13 94 56) (m 99) (m 100) (aB0 aa) := p4_m13
                have f30 : 0 ≤ (m13 94 58).toInt ∧ (m13 94 58).toInt ≤ 1 := rs_94_58 (m := (zov wr_219 (ma_u m 94 0 (0 : Int32)) m13)) hV_m13
                refine sp_230r (aa := (aB0 aa))  hV_m13 (by omega) r_W r_GW r_GU r_OW p0_m13 (show (m 94 10).toInt = 5 from by omega) (show (m13 94 58).toInt = 1 from by omega) p4_m13 p2_m13 p3_m13 (show qMI (aB0 aa) from by first | (exact MI_b0 r_QI) | (exfalso; omega; done) | (exfalso; contradiction; done)) (show (aB0 aa) 87 8 = (m13 94 58) from by first | (exact B0_87.trans (i_one (by omega))) | (exfalso; omega; done) | (exfalso; contradiction; done)) r_WTS (fun v16 m15 hV_m15 p0_m15 p1_m15 p2_m15 p3_m15 p4_m15 p5_m15 p6_m15 p7_m15 => zmi_n ?_)
                have p0_m15 : zGW T (m15 94 55) (m15 109) := p0_m15
                have p1_m15 : zGU T (m 94 46) (m15 99) := p1_m15
                have p2_m15 : zOw (m15 99) (m 103) (m15 111) := p2_m15
                have p3_m15 : zGG (m15 94 58) (m15 94 56) (m15 94 57) (m15 106) := p3_m15
                have p4_m15 : (m15 94 58).toInt = 0 := p4_m15
                have p5_m15 : qRB (m15 99) (m 100) (m 98) (m 101) (m 102) (m 103) (m 107) (m 108) (m15 109) (m15 111) (m 112) (m15 113) (m15 114) (m15 94 55) (m 94 46) (m 94 11) (m 94 12) (m 94 62) (m 94 17) (m 94 9) (aCl (aB0 aa)) := p5_m15
                have p6_m15 : qI (aCl (aB0 aa)) := p6_m15
                have p7_m15 : (m15 94 45).toInt = sm (zbU (m15 99)) (m 102) 3100 := p7_m15
                have f31 : 0 ≤ (m15 94 58).toInt ∧ (m15 94 58).toInt ≤ 1 := rs_94_58 (m := (zov wr_230 (zov wr_219 (ma_u m 94 0 (0 : Int32)) m13) m15)) hV_m15
                have b32 := i_bd v16
                exact K (v16) _ (zF_zov (zF_zov (zF_u zF_rfl rfl) ws_219_256) ws_230_256) hV_m15 r_W p0_m15 p1_m15 p2_m15 p3_m15 (show qRB (m15 99) (m 100) (m 98) (m 101) (m 102) (m 103) (m 107) (m 108) (m15 109) (m15 111) (m 112) (m15 113) (m15 114) (m15 94 55) (m 94 46) (m 94 11) (m 94 12) (m 94 62) (m 94 17) (m 94 9) (aCl aa) from by first | (rw [← Cl_b (r_MK.trans (i_zer (by omega)))]; exact p5_m15; done) | (exfalso; omega; done) | (exfalso; contradiction; done)) (show qI (aCl aa) from by first | (rw [← Cl_b (r_MK.trans (i_zer (by omega)))]; exact p6_m15; done) | (exfalso; omega; done) | (exfalso; contradiction; done)) (show qMG (m15 94 58) (m15 106) (m15 115) (m15 94 57) (m15 94 56) (m15 99) (m 100) (aCl aa) from by first | (exact fun z => absurd (by omega) z) | (exfalso; omega; done) | (exfalso; contradiction; done)) (show (aCl aa) 87 8 = (m15 94 58) from by first | (exact Cl_8.trans (i_zer (by omega)).symm) | (exfalso; omega; done) | (exfalso; contradiction; done)) p7_m15
              · skip
                have g33 := i_ne h27
                have hV34 : zV (ma_u m 94 0 (0 : Int32)) := uf_94_0 hV
                refine sp_230r (aa := aa)  hV34 (by omega) r_W r_GW r_GU r_OW (show zG1 (m 94 56) (m 94 57) (m 106) from by first | (exact r_GG (by omega)) | (exact G1_0 (by omega) (by omega)) | (exact r_GG (by omega)) | (exfalso; omega; done) | (exfalso; contradiction; done)) (show (m 94 10).toInt = 5 from by omega) (show (m 94 58).toInt = 1 from by omega) (show qMQ (m 106) (m 115) (m 94 57) (m 94 56) (m 99) (m 100) aa from by first | (exact (r_MG (by omega)).1) | (exfalso; omega; done) | (exfalso; contradiction; done)) r_RB r_QI (show qMI aa from by first | (exact (r_MG (by omega)).2) | (exfalso; omega; done) | (exfalso; contradiction; done)) r_MK r_WTS (fun v12 m11 hV_m11 p0_m11 p1_m11 p2_m11 p3_m11 p4_m11 p5_m11 p6_m11 p7_m11 => zmi_n ?_)
                have p0_m11 : zGW T (m11 94 55) (m11 109) := p0_m11
                have p1_m11 : zGU T (m 94 46) (m11 99) := p1_m11
                have p2_m11 : zOw (m11 99) (m 103) (m11 111) := p2_m11
                have p3_m11 : zGG (m11 94 58) (m11 94 56) (m11 94 57) (m11 106) := p3_m11
                have p4_m11 : (m11 94 58).toInt = 0 := p4_m11
                have p5_m11 : qRB (m11 99) (m 100) (m 98) (m 101) (m 102) (m 103) (m 107) (m 108) (m11 109) (m11 111) (m 112) (m11 113) (m11 114) (m11 94 55) (m 94 46) (m 94 11) (m 94 12) (m 94 62) (m 94 17) (m 94 9) (aCl aa) := p5_m11
                have p6_m11 : qI (aCl aa) := p6_m11
                have p7_m11 : (m11 94 45).toInt = sm (zbU (m11 99)) (m 102) 3100 := p7_m11
                have f35 : 0 ≤ (m11 94 58).toInt ∧ (m11 94 58).toInt ≤ 1 := rs_94_58 (m := (zov wr_230 (ma_u m 94 0 (0 : Int32)) m11)) hV_m11
                have b36 := i_bd v12
                exact K (v12) _ (zF_zov (zF_u zF_rfl rfl) ws_230_256) hV_m11 r_W p0_m11 p1_m11 p2_m11 p3_m11 p5_m11 p6_m11 (show qMG (m11 94 58) (m11 106) (m11 115) (m11 94 57) (m11 94 56) (m11 99) (m 100) (aCl aa) from by first | (exact fun z => absurd (by omega) z) | (exfalso; omega; done) | (exfalso; contradiction; done)) (show (aCl aa) 87 8 = (m11 94 58) from by first | (exact Cl_8.trans (i_zer (by omega)).symm) | (exfalso; omega; done) | (exfalso; contradiction; done)) p7_m11
            · skip
              have g37 := i_ne h24
              exfalso; omega
