/-! from 95.h28 -/
/-! the reference by numbers (written by wip/tools/gen18r.py) -/
set_option maxHeartbeats 8000000 in
theorem sp_256r {X : Nat × (Nat → Int32)} {P : Option ma_V → (Nat → Nat → Int32) → Prop} {T : Nat} {aa : Nat→Nat→Int32} {m : Nat → Nat → Int32}  (hV : zV m) (hpre0 : T ≤ 512) (r_W : zW (m 94 7) (m 98) (m 101) (m 102) (m 108)) (r_GW : zGW T (m 94 55) (m 109)) (r_GU : zGU T (m 94 46) (m 99)) (r_OW : zOw (m 99) (m 103) (m 111)) (r_GG : zGG (m 94 58) (m 94 56) (m 94 57) (m 106)) (hpre6 : (m 94 10).toInt = 5) (hpre7 : (m 94 8).toInt = 1) (r_RB : qRB (m 99) (m 100) (m 98) (m 101) (m 102) (m 103) (m 107) (m 108) (m 109) (m 111) (m 112) (m 113) (m 114) (m 94 55) (m 94 46) (m 94 11) (m 94 12) (m 94 62) (m 94 17) (m 94 9) aa) (r_QI : qI aa) (r_MG : qMG (m 94 58) (m 106) (m 115) (m 94 57) (m 94 56) (m 99) (m 100) aa) (r_MK : aa 87 8 = (m 94 58)) (r_WTS : (m 94 45).toInt = sm (zbU (m 99)) (m 102) 3100) (KZ : ∀ v m₉, zV (zov wr_256 m m₉) → (zW (m 94 7) (m 98) (m 101) (m 102) (m 108)) → (zGW T (m₉ 94 55) (m₉ 109)) → (zGU T (m 94 46) (m₉ 99)) → (zOw (m₉ 99) (m₉ 103) (m₉ 111)) → (zGG (m₉ 94 58) (m₉ 94 56) (m₉ 94 57) (m₉ 106)) → (qRB (m₉ 99) (m 100) (m 98) (m 101) (m 102) (m₉ 103) (m 107) (m 108) (m₉ 109) (m₉ 111) (m 112) (m₉ 113) (m₉ 114) (m₉ 94 55) (m 94 46) (m 94 11) (m 94 12) (m 94 62) (m 94 17) (m 94 9) (aCl aa)) → (qI (aCl aa)) → (qMG (m₉ 94 58) (m₉ 106) (m₉ 115) (m₉ 94 57) (m₉ 94 56) (m₉ 99) (m 100) (aCl aa)) → ((aCl aa) 87 8 = (m₉ 94 58)) → ((m₉ 94 45).toInt = sm (zbU (m₉ 99)) (m 102) 3100) → P (some (.inl v)) (zov wr_256 m m₉)) : zm X 7 152 256 0 [(0, .inr (.inr (some 94)))] m P := by
  have K : ∀ v m₉, zF wr_256 m m₉ → zV m₉ → (zW (m₉ 94 7) (m₉ 98) (m₉ 101) (m₉ 102) (m₉ 108)) → (zGW T (m₉ 94 55) (m₉ 109)) → (zGU T (m₉ 94 46) (m₉ 99)) → (zOw (m₉ 99) (m₉ 103) (m₉ 111)) → (zGG (m₉ 94 58) (m₉ 94 56) (m₉ 94 57) (m₉ 106)) → (qRB (m₉ 99) (m₉ 100) (m₉ 98) (m₉ 101) (m₉ 102) (m₉ 103) (m₉ 107) (m₉ 108) (m₉ 109) (m₉ 111) (m₉ 112) (m₉ 113) (m₉ 114) (m₉ 94 55) (m₉ 94 46) (m₉ 94 11) (m₉ 94 12) (m₉ 94 62) (m₉ 94 17) (m₉ 94 9) (aCl aa)) → (qI (aCl aa)) → (qMG (m₉ 94 58) (m₉ 106) (m₉ 115) (m₉ 94 57) (m₉ 94 56) (m₉ 99) (m₉ 100) (aCl aa)) → ((aCl aa) 87 8 = (m₉ 94 58)) → ((m₉ 94 45).toInt = sm (zbU (m₉ 99)) (m₉ 102) 3100) → P (some (.inl v)) m₉ := by
    intro v m₉ hf z q0 q1 q2 q3 q4 q5 q6 q7 q8 q9
    have e := zov_eq hf
    rw [e] at z ⊢
    try rw [e] at q0
    try rw [e] at q1
    try rw [e] at q2
    try rw [e] at q3
    try rw [e] at q4
    try rw [e] at q5
    try rw [e] at q6
    try rw [e] at q7
    try rw [e] at q8
    try rw [e] at q9
    exact KZ v m₉ z q0 q1 q2 q3 q4 q5 q6 q7 q8 q9
  refine g_256_0  ?_
  have f1 : 0 ≤ (m 94 10).toInt ∧ (m 94 10).toInt ≤ 6 := rs_94_10 (m := m) hV
  have f2 : 0 ≤ (m 94 8).toInt ∧ (m 94 8).toInt ≤ 1 := rs_94_8 (m := m) hV
  have li3 : (0 : Int32).toInt = 0 := rfl
  refine zd (fun (h4 : (m 94 8) = (0 : Int32)) => ?_) (fun (h4 : ¬ (m 94 8) = (0 : Int32)) => ?_)
  · skip
    have g5 := i_eq h4
    exfalso; omega
  · skip
    have g6 := i_ne h4
    have li7 : (1 : Int32).toInt = 1 := rfl
    refine zd (fun (h8 : (m 94 10) = (1 : Int32)) => ?_) (fun (h8 : ¬ (m 94 10) = (1 : Int32)) => ?_)
    · skip
      have g9 := i_eq h8
      exfalso; omega
    · skip
      have g10 := i_ne h8
      have li11 : (2 : Int32).toInt = 2 := rfl
      refine zd (fun (h12 : (m 94 10) = (2 : Int32)) => ?_) (fun (h12 : ¬ (m 94 10) = (2 : Int32)) => ?_)
      · skip
        have g13 := i_eq h12
        exfalso; omega
      · skip
        have g14 := i_ne h12
        have li15 : (3 : Int32).toInt = 3 := rfl
        refine zd (fun (h16 : (m 94 10) = (3 : Int32)) => ?_) (fun (h16 : ¬ (m 94 10) = (3 : Int32)) => ?_)
        · skip
          have g17 := i_eq h16
          exfalso; omega
        · skip
          have g18 := i_ne h16
          have li19 : (4 : Int32).toInt = 4 := rfl
          refine zd (fun (h20 : (m 94 10) = (4 : Int32)) => ?_) (fun (h20 : ¬ (m 94 10) = (4 : Int32)) => ?_)
          · skip
            have g21 := i_eq h20
            exfalso; omega
          · skip
            have g22 := i_ne h20
            have li23 : (5 : Int32).toInt = 5 := rfl
            refine zd (fun (h24 : (m 94 10) = (5 : Int32)) => ?_) (fun (h24 : ¬ (m 94 10) = (5 : Int32)) => ?_)
            · skip
              have g25 := i_eq h24
              have f26 : 0 ≤ (m 94 58).toInt ∧ (m 94 58).toInt ≤ 1 := rs_94_58 (m := m) hV
              refine zd (fun (h27 : (m 94 58) = (0 : Int32)) => ?_) (fun (h27 : ¬ (m 94 58) = (0 : Int32)) => ?_)
              · skip
                have g28 := i_eq h27
                have hV29 : zV (ma_u m 94 0 (0 : Int32)) := uf_94_0 hV
                refine sp_219r (aa := aa)  hV29 r_RB r_QI (fun m13 hV_m13 p0_m13 p1_m13 p2_m13 p3_m13 p4_m13 => zmv_n ?_)
                have p0_m13 : zG1 (m13 94 56) (m13 94 57) (m13 106) := p0_m13
                have p1_m13 : (m13 94 58).toInt = 1 := p1_m13
                have p2_m13 : qRB (m 99) (m 100) (m 98) (m 101) (m 102) (m 103) (m 107) (m 108) (m 109) (m 111) (m 112) (m 113) (m 114) (m 94 55) (m 94 46) (m 94 11) (m 94 12) (m 94 62) (m 94 17) (m 94 9) (aB0 aa) := p2_m13
                have p3_m13 : qI (aB0 aa) := p3_m13
                have p4_m13 : qMQ (m13 106) (m13 115) (m13 94 57) (m13 94 56) (m 99) (m 100) (aB0 aa) := p4_m13
                have f30 : 0 ≤ (m13 94 58).toInt ∧ (m13 94 58).toInt ≤ 1 := rs_94_58 (m := (zov wr_219 (ma_u m 94 0 (0 : Int32)) m13)) hV_m13
                refine sp_230r (aa := (aB0 aa))  hV_m13 (by omega) r_W r_GW r_GU r_OW p0_m13 (show (m 94 10).toInt = 5 from by omega) (show (m13 94 58).toInt = 1 from by omega) p4_m13 p2_m13 p3_m13 (show qMI (aB0 aa) from by first | (exact MI_b0 r_QI) | (exfalso; omega; done) | (exfalso; contradiction; done)) (show (aB0 aa) 87 8 = (m13 94 58) from by first | (exact B0_87.trans (i_one (by omega))) | (exfalso; omega; done) | (exfalso; contradiction; done)) r_WTS (fun v16 m15 hV_m15 p0_m15 p1_m15 p2_m15 p3_m15 p4_m15 p5_m15 p6_m15 p7_m15 => zmi_n ?_)
                have p0_m15 : zGW T (m15 94 55) (m15 109) := p0_m15
                have p1_m15 : zGU T (m 94 46) (m15 99) := p1_m15
                have p2_m15 : zOw (m15 99) (m 103) (m15 111) := p2_m15
                have p3_m15 : zGG (m15 94 58) (m15 94 56) (m15 94 57) (m15 106) := p3_m15
                have p4_m15 : (m15 94 58).toInt = 0 := p4_m15
                have p5_m15 : qRB (m15 99) (m 100) (m 98) (m 101) (m 102) (m 103) (m 107) (m 108) (m15 109) (m15 111) (m 112) (m15 113) (m15 114) (m15 94 55) (m 94 46) (m 94 11) (m 94 12) (m 94 62) (m 94 17) (m 94 9) (aCl (aB0 aa)) := p5_m15
                have p6_m15 : qI (aCl (aB0 aa)) := p6_m15
                have p7_m15 : (m15 94 45).toInt = sm (zbU (m15 99)) (m 102) 3100 := p7_m15
                have f31 : 0 ≤ (m15 94 58).toInt ∧ (m15 94 58).toInt ≤ 1 := rs_94_58 (m := (zov wr_230 (zov wr_219 (ma_u m 94 0 (0 : Int32)) m13) m15)) hV_m15
                have b32 := i_bd v16
                exact K (v16) _ (zF_zov (zF_zov (zF_u zF_rfl rfl) ws_219_256) ws_230_256) hV_m15 r_W p0_m15 p1_m15 p2_m15 p3_m15 (show qRB (m15 99) (m 100) (m 98) (m 101) (m 102) (m 103) (m 107) (m 108) (m15 109) (m15 111) (m 112) (m15 113) (m15 114) (m15 94 55) (m 94 46) (m 94 11) (m 94 12) (m 94 62) (m 94 17) (m 94 9) (aCl aa) from by first | (rw [← Cl_b (r_MK.trans (i_zer (by omega)))]; exact p5_m15; done) | (exfalso; omega; done) | (exfalso; contradiction; done)) (show qI (aCl aa) from by first | (rw [← Cl_b (r_MK.trans (i_zer (by omega)))]; exact p6_m15; done) | (exfalso; omega; done) | (exfalso; contradiction; done)) (show qMG (m15 94 58) (m15 106) (m15 115) (m15 94 57) (m15 94 56) (m15 99) (m 100) (aCl aa) from by first | (exact fun z => absurd (by omega) z) | (exfalso; omega; done) | (exfalso; contradiction; done)) (show (aCl aa) 87 8 = (m15 94 58) from by first | (exact Cl_8.trans (i_zer (by omega)).symm) | (exfalso; omega; done) | (exfalso; contradiction; done)) p7_m15
              · skip
                have g33 := i_ne h27
                have hV34 : zV (ma_u m 94 0 (0 : Int32)) := uf_94_0 hV
                refine sp_230r (aa := aa)  hV34 (by omega) r_W r_GW r_GU r_OW (show zG1 (m 94 56) (m 94 57) (m 106) from by first | (exact r_GG (by omega)) | (exact G1_0 (by omega) (by omega)) | (exact r_GG (by omega)) | (exfalso; omega; done) | (exfalso; contradiction; done)) (show (m 94 10).toInt = 5 from by omega) (show (m 94 58).toInt = 1 from by omega) (show qMQ (m 106) (m 115) (m 94 57) (m 94 56) (m 99) (m 100) aa from by first | (exact (r_MG (by omega)).1) | (exfalso; omega; done) | (exfalso; contradiction; done)) r_RB r_QI (show qMI aa from by first | (exact (r_MG (by omega)).2) | (exfalso; omega; done) | (exfalso; contradiction; done)) r_MK r_WTS (fun v12 m11 hV_m11 p0_m11 p1_m11 p2_m11 p3_m11 p4_m11 p5_m11 p6_m11 p7_m11 => zmi_n ?_)
                have p0_m11 : zGW T (m11 94 55) (m11 109) := p0_m11
                have p1_m11 : zGU T (m 94 46) (m11 99) := p1_m11
                have p2_m11 : zOw (m11 99) (m 103) (m11 111) := p2_m11
                have p3_m11 : zGG (m11 94 58) (m11 94 56) (m11 94 57) (m11 106) := p3_m11
                have p4_m11 : (m11 94 58).toInt = 0 := p4_m11
                have p5_m11 : qRB (m11 99) (m 100) (m 98) (m 101) (m 102) (m 103) (m 107) (m 108) (m11 109) (m11 111) (m 112) (m11 113) (m11 114) (m11 94 55) (m 94 46) (m 94 11) (m 94 12) (m 94 62) (m 94 17) (m 94 9) (aCl aa) := p5_m11
                have p6_m11 : qI (aCl aa) := p6_m11
                have p7_m11 : (m11 94 45).toInt = sm (zbU (m11 99)) (m 102) 3100 := p7_m11
                have f35 : 0 ≤ (m11 94 58).toInt ∧ (m11 94 58).toInt ≤ 1 := rs_94_58 (m := (zov wr_230 (ma_u m 94 0 (0 : Int32)) m11)) hV_m11
                have b36 := i_bd v12
                exact K (v12) _ (zF_zov (zF_u zF_rfl rfl) ws_230_256) hV_m11 r_W p0_m11 p1_m11 p2_m11 p3_m11 p5_m11 p6_m11 (show qMG (m11 94 58) (m11 106) (m11 115) (m11 94 57) (m11 94 56) (m11 99) (m 100) (aCl aa) from by first | (exact fun z => absurd (by omega) z) | (exfalso; omega; done) | (exfalso; contradiction; done)) (show (aCl aa) 87 8 = (m11 94 58) from by first | (exact Cl_8.trans (i_zer (by omega)).symm) | (exfalso; omega; done) | (exfalso; contradiction; done)) p7_m11
            · skip
              have g37 := i_ne h24
              exfalso; omega

/-! from 95.h29 -/
/-! the reference by numbers (written by wip/tools/gen18r.py) -/
/-- a step's answer, and whether it throws -/
def qSt (a : Nat → Nat → Int32) (n th v : Int32) : Prop := (¬ (0 ≤ n.toInt ∧ n.toInt ≤ 1000) ∧ th.toInt = 1) ∨ ((0 ≤ n.toInt ∧ n.toInt ≤ 1000) ∧ th.toInt = 0 ∧ v.toInt = aGv a n.toInt.toNat)
theorem Go_0 {a : Nat → Nat → Int32} {n : Int32} (h0 : 0 ≤ n.toInt) (h1 : n.toInt ≤ 1000) (h : a 87 8 = 0) : xSp a n = a := by
  unfold xSp
  rw [qIf_y ⟨h0, h1⟩, aGo_0 h]
theorem Go_1 {a : Nat → Nat → Int32} {n : Int32} (h0 : 0 ≤ n.toInt) (h1 : n.toInt ≤ 1000) (h : a 87 8 ≠ 0) : xSp a n = aLk (aSp n.toInt.toNat a) := by
  unfold xSp aGo
  rw [qIf_y ⟨h0, h1⟩, if_neg h]
set_option maxHeartbeats 8000000 in
theorem sp_257r {X : Nat × (Nat → Int32)} {P : Option ma_V → (Nat → Nat → Int32) → Prop} {T : Nat} {aa : Nat→Nat→Int32} {m : Nat → Nat → Int32} (nn : Int32) (hV : zV m) (hpre0 : T ≤ 512) (r_W : zW (m 94 7) (m 98) (m 101) (m 102) (m 108)) (r_GW : zGW T (m 94 55) (m 109)) (r_GU : zGU T (m 94 46) (m 99)) (r_OW : zOw (m 99) (m 103) (m 111)) (r_GG : zGG (m 94 58) (m 94 56) (m 94 57) (m 106)) (hpre6 : (m 94 10).toInt = 5) (hpre7 : (m 94 8).toInt = 1) (r_RB : qRB (m 99) (m 100) (m 98) (m 101) (m 102) (m 103) (m 107) (m 108) (m 109) (m 111) (m 112) (m 113) (m 114) (m 94 55) (m 94 46) (m 94 11) (m 94 12) (m 94 62) (m 94 17) (m 94 9) aa) (r_QI : qI aa) (r_MG : qMG (m 94 58) (m 106) (m 115) (m 94 57) (m 94 56) (m 99) (m 100) aa) (r_MK : aa 87 8 = (m 94 58)) (r_WTS : (m 94 45).toInt = sm (zbU (m 99)) (m 102) 3100) (KZ : ∀ v m₉, zV (zov wr_257 m m₉) → (zW (m 94 7) (m 98) (m 101) (m 102) (m 108)) → (zGW T (m₉ 94 55) (m₉ 109)) → (zGU T (m 94 46) (m₉ 99)) → (zOw (m₉ 99) (m 103) (m₉ 111)) → (zGG (m₉ 94 58) (m₉ 94 56) (m₉ 94 57) (m₉ 106)) → (qRB (m₉ 99) (m 100) (m 98) (m 101) (m 102) (m 103) (m 107) (m 108) (m₉ 109) (m₉ 111) (m 112) (m₉ 113) (m₉ 114) (m₉ 94 55) (m 94 46) (m 94 11) (m 94 12) (m 94 62) (m 94 17) (m 94 9) (xSp aa nn)) → (qI (xSp aa nn)) → (qMG (m₉ 94 58) (m₉ 106) (m₉ 115) (m₉ 94 57) (m₉ 94 56) (m₉ 99) (m 100) (xSp aa nn)) → ((xSp aa nn) 87 8 = (m₉ 94 58)) → ((m₉ 94 45).toInt = sm (zbU (m₉ 99)) (m 102) 3100) → (qSt aa nn (m₉ 94 0) v) → P (some (.inl v)) (zov wr_257 m m₉)) : zm X 5 109 257 0 [(0, .inr (.inr (some 94))), (1, .inl nn)] m P := by
  have K : ∀ v m₉, zF wr_257 m m₉ → zV m₉ → (zW (m₉ 94 7) (m₉ 98) (m₉ 101) (m₉ 102) (m₉ 108)) → (zGW T (m₉ 94 55) (m₉ 109)) → (zGU T (m₉ 94 46) (m₉ 99)) → (zOw (m₉ 99) (m₉ 103) (m₉ 111)) → (zGG (m₉ 94 58) (m₉ 94 56) (m₉ 94 57) (m₉ 106)) → (qRB (m₉ 99) (m₉ 100) (m₉ 98) (m₉ 101) (m₉ 102) (m₉ 103) (m₉ 107) (m₉ 108) (m₉ 109) (m₉ 111) (m₉ 112) (m₉ 113) (m₉ 114) (m₉ 94 55) (m₉ 94 46) (m₉ 94 11) (m₉ 94 12) (m₉ 94 62) (m₉ 94 17) (m₉ 94 9) (xSp aa nn)) → (qI (xSp aa nn)) → (qMG (m₉ 94 58) (m₉ 106) (m₉ 115) (m₉ 94 57) (m₉ 94 56) (m₉ 99) (m₉ 100) (xSp aa nn)) → ((xSp aa nn) 87 8 = (m₉ 94 58)) → ((m₉ 94 45).toInt = sm (zbU (m₉ 99)) (m₉ 102) 3100) → (qSt aa nn (m₉ 94 0) v) → P (some (.inl v)) m₉ := by
    intro v m₉ hf z q0 q1 q2 q3 q4 q5 q6 q7 q8 q9 q10
    have e := zov_eq hf
    rw [e] at z ⊢
    try rw [e] at q0
    try rw [e] at q1
    try rw [e] at q2
    try rw [e] at q3
    try rw [e] at q4
    try rw [e] at q5
    try rw [e] at q6
    try rw [e] at q7
    try rw [e] at q8
    try rw [e] at q9
    try rw [e] at q10
    exact KZ v m₉ z q0 q1 q2 q3 q4 q5 q6 q7 q8 q9 q10
  refine g_257_0 nn ?_
  have f1 : 0 ≤ (m 94 10).toInt ∧ (m 94 10).toInt ≤ 6 := rs_94_10 (m := m) hV
  have f2 : 0 ≤ (m 94 8).toInt ∧ (m 94 8).toInt ≤ 1 := rs_94_8 (m := m) hV
  have b3 := i_bd nn
  have li4 : (0 : Int32).toInt = 0 := rfl
  refine zd (fun (h5 : nn < (0 : Int32)) => ?_) (fun (h5 : ¬ nn < (0 : Int32)) => ?_)
  · skip
    have g6 := i_lt h5
    have hV7 : zV (ma_u m 94 0 (1 : Int32)) := uf_94_0 hV
    exact K ((0 : Int32)) _ (zF_u zF_rfl rfl) hV7 r_W r_GW r_GU r_OW r_GG (show qRB (m 99) (m 100) (m 98) (m 101) (m 102) (m 103) (m 107) (m 108) (m 109) (m 111) (m 112) (m 113) (m 114) (m 94 55) (m 94 46) (m 94 11) (m 94 12) (m 94 62) (m 94 17) (m 94 9) (xSp aa nn) from by first | (unfold xSp; rw [qIf_n (by omega)]; exact r_RB; done) | (rw [Go_0 (by omega) (by omega) (r_MK.trans (i_zer (by omega)))]; exact r_RB; done) | (exfalso; omega; done) | (exfalso; contradiction; done)) (show qI (xSp aa nn) from by first | (unfold xSp; rw [qIf_n (by omega)]; exact r_QI; done) | (rw [Go_0 (by omega) (by omega) (r_MK.trans (i_zer (by omega)))]; exact r_QI; done) | (exfalso; omega; done) | (exfalso; contradiction; done)) (show qMG (m 94 58) (m 106) (m 115) (m 94 57) (m 94 56) (m 99) (m 100) (xSp aa nn) from by first | (unfold xSp; rw [qIf_n (by omega)]; exact r_MG; done) | (rw [Go_0 (by omega) (by omega) (r_MK.trans (i_zer (by omega)))]; exact r_MG; done) | (exfalso; omega; done) | (exfalso; contradiction; done)) (show (xSp aa nn) 87 8 = (m 94 58) from by first | (unfold xSp; rw [qIf_n (by omega)]; exact r_MK; done) | (rw [Go_0 (by omega) (by omega) (r_MK.trans (i_zer (by omega)))]; exact r_MK; done) | (exfalso; omega; done) | (exfalso; contradiction; done)) r_WTS (show qSt aa nn (1 : Int32) (0 : Int32) from by first | (exact Or.inl ⟨by omega, by decide⟩) | (exact Or.inr ⟨⟨by omega, by omega⟩, by decide, (aGv_0 (r_MK.trans (i_zer (by omega)))).symm⟩) | (exfalso; omega; done) | (exfalso; contradiction; done))
  · skip
    have g8 := i_nlt h5
    have li9 : (1000 : Int32).toInt = 1000 := rfl
    refine zd (fun (h10 : nn ≤ (1000 : Int32)) => ?_) (fun (h10 : ¬ nn ≤ (1000 : Int32)) => ?_)
    · skip
      have g11 := i_le h10
      refine zd (fun (h12 : (m 94 8) = (0 : Int32)) => ?_) (fun (h12 : ¬ (m 94 8) = (0 : Int32)) => ?_)
      · skip
        have g13 := i_eq h12
        exfalso; omega
      · skip
        have g14 := i_ne h12
        have li15 : (5 : Int32).toInt = 5 := rfl
        refine zd (fun (h16 : (m 94 10) = (5 : Int32)) => ?_) (fun (h16 : ¬ (m 94 10) = (5 : Int32)) => ?_)
        · skip
          have g17 := i_eq h16
          have f18 : 0 ≤ (m 94 58).toInt ∧ (m 94 58).toInt ≤ 1 := rs_94_58 (m := m) hV
          refine zd (fun (h19 : (m 94 58) = (0 : Int32)) => ?_) (fun (h19 : ¬ (m 94 58) = (0 : Int32)) => ?_)
          · skip
            have g20 := i_eq h19
            have hV21 : zV (ma_u m 94 0 (0 : Int32)) := uf_94_0 hV
            exact K ((0 : Int32)) _ (zF_u zF_rfl rfl) hV21 r_W r_GW r_GU r_OW r_GG (show qRB (m 99) (m 100) (m 98) (m 101) (m 102) (m 103) (m 107) (m 108) (m 109) (m 111) (m 112) (m 113) (m 114) (m 94 55) (m 94 46) (m 94 11) (m 94 12) (m 94 62) (m 94 17) (m 94 9) (xSp aa nn) from by first | (unfold xSp; rw [qIf_n (by omega)]; exact r_RB; done) | (rw [Go_0 (by omega) (by omega) (r_MK.trans (i_zer (by omega)))]; exact r_RB; done) | (exfalso; omega; done) | (exfalso; contradiction; done)) (show qI (xSp aa nn) from by first | (unfold xSp; rw [qIf_n (by omega)]; exact r_QI; done) | (rw [Go_0 (by omega) (by omega) (r_MK.trans (i_zer (by omega)))]; exact r_QI; done) | (exfalso; omega; done) | (exfalso; contradiction; done)) (show qMG (m 94 58) (m 106) (m 115) (m 94 57) (m 94 56) (m 99) (m 100) (xSp aa nn) from by first | (unfold xSp; rw [qIf_n (by omega)]; exact r_MG; done) | (rw [Go_0 (by omega) (by omega) (r_MK.trans (i_zer (by omega)))]; exact r_MG; done) | (exfalso; omega; done) | (exfalso; contradiction; done)) (show (xSp aa nn) 87 8 = (m 94 58) from by first | (unfold xSp; rw [qIf_n (by omega)]; exact r_MK; done) | (rw [Go_0 (by omega) (by omega) (r_MK.trans (i_zer (by omega)))]; exact r_MK; done) | (exfalso; omega; done) | (exfalso; contradiction; done)) r_WTS (show qSt aa nn (0 : Int32) (0 : Int32) from by first | (exact Or.inl ⟨by omega, by decide⟩) | (exact Or.inr ⟨⟨by omega, by omega⟩, by decide, (aGv_0 (r_MK.trans (i_zer (by omega)))).symm⟩) | (exfalso; omega; done) | (exfalso; contradiction; done))
          · skip
            have g22 := i_ne h19
            have hV23 : zV (ma_u m 94 0 (0 : Int32)) := uf_94_0 hV
            refine sp_222r (aa := aa) (nn) hV23 (by omega) r_W (show zG1 (m 94 56) (m 94 57) (m 106) from by first | (exact r_GG (by omega)) | (exact G1_0 (by omega) (by omega)) | (exact r_GG (by omega)) | (exfalso; omega; done) | (exfalso; contradiction; done)) (show qMQ (m 106) (m 115) (m 94 57) (m 94 56) (m 99) (m 100) aa from by first | (exact (r_MG (by omega)).1) | (exfalso; omega; done) | (exfalso; contradiction; done)) r_RB r_QI (fun v2 m1 hV_m1 p0_m1 p1_m1 p2_m1 p3_m1 p4_m1 p5_m1 p6_m1 => zmi_n ?_)
            have p0_m1 : zG1 (m1 94 56) (m1 94 57) (m1 106) := p0_m1
            have p1_m1 : (m 94 56).toInt ≤ (m1 94 56).toInt := p1_m1
            have p2_m1 : (m 94 57).toInt ≤ (m1 94 57).toInt ∧ ((m1 94 56).toInt ≤ (m1 94 57).toInt ∨ (m 94 57).toInt + nn.toInt ≤ (m1 94 57).toInt) := p2_m1
            have p3_m1 : qRB (m 99) (m 100) (m 98) (m 101) (m 102) (m 103) (m 107) (m 108) (m 109) (m 111) (m 112) (m 113) (m 114) (m 94 55) (m 94 46) (m 94 11) (m 94 12) (m 94 62) (m 94 17) (m 94 9) (aSp nn.toInt.toNat aa) := p3_m1
            have p4_m1 : qI (aSp nn.toInt.toNat aa) := p4_m1
            have p5_m1 : qMQ (m1 106) (m1 115) (m1 94 57) (m1 94 56) (m 99) (m 100) (aSp nn.toInt.toNat aa) := p5_m1
            have p6_m1 : qEq v2.toInt (aSn nn.toInt.toNat aa : Int) := p6_m1
            have f24 : 0 ≤ (m 94 56).toInt ∧ (m 94 56).toInt ≤ 3100 := rs_94_56 (m := m) hV
            have f25 : 0 ≤ (m1 94 56).toInt ∧ (m1 94 56).toInt ≤ 3100 := rs_94_56 (m := (zov wr_222 (ma_u m 94 0 (0 : Int32)) m1)) hV_m1
            have f26 : 0 ≤ (m 94 57).toInt ∧ (m 94 57).toInt ≤ 3100 := rs_94_57 (m := m) hV
            have f27 : 0 ≤ (m1 94 57).toInt ∧ (m1 94 57).toInt ≤ 3100 := rs_94_57 (m := (zov wr_222 (ma_u m 94 0 (0 : Int32)) m1)) hV_m1
            refine sp_223r (aa := (aSp nn.toInt.toNat aa))  hV_m1 (by omega) r_W r_GW r_GU r_OW p0_m1 (show (m 94 10).toInt = 5 from by omega) (show (m 94 58).toInt = 1 from by omega) p5_m1 p3_m1 p4_m1 (show qMI (aSp nn.toInt.toNat aa) from by first | (exact MI_sp _ _ (r_MG (by omega)).2 (r_MG (by omega)).1.2.2.2.2) | (exfalso; omega; done) | (exfalso; contradiction; done)) (show (aSp nn.toInt.toNat aa) 87 8 = (m 94 58) from by first | (exact Sp_87.trans r_MK) | (exfalso; omega; done) | (exfalso; contradiction; done)) r_WTS (fun v4 m3 hV_m3 p0_m3 p1_m3 p2_m3 p3_m3 p4_m3 p5_m3 p6_m3 p7_m3 p8_m3 p9_m3 => zmi_n ?_)
            have p0_m3 : zGW T (m3 94 55) (m3 109) := p0_m3
            have p1_m3 : zGU T (m 94 46) (m3 99) := p1_m3
            have p2_m3 : zOw (m3 99) (m 103) (m3 111) := p2_m3
            have p3_m3 : zGG (m3 94 58) (m3 94 56) (m1 94 57) (m3 106) := p3_m3
            have p4_m3 : (m3 94 58).toInt = 0 ∨ ((m3 94 58).toInt = 1 ∧ (m1 94 57).toInt < (m3 94 56).toInt ∧ (m1 94 57).toInt = (m1 94 57).toInt) := p4_m3
            have p5_m3 : qRB (m3 99) (m 100) (m 98) (m 101) (m 102) (m 103) (m 107) (m 108) (m3 109) (m3 111) (m 112) (m3 113) (m3 114) (m3 94 55) (m 94 46) (m 94 11) (m 94 12) (m 94 62) (m 94 17) (m 94 9) (aLk (aSp nn.toInt.toNat aa)) := p5_m3
            have p6_m3 : qI (aLk (aSp nn.toInt.toNat aa)) := p6_m3
            have p7_m3 : qMG (m3 94 58) (m3 106) (m3 115) (m1 94 57) (m3 94 56) (m3 99) (m 100) (aLk (aSp nn.toInt.toNat aa)) := p7_m3
            have p8_m3 : (aLk (aSp nn.toInt.toNat aa)) 87 8 = (m3 94 58) := p8_m3
            have p9_m3 : (m3 94 45).toInt = sm (zbU (m3 99)) (m 102) 3100 := p9_m3
            have f28 : 0 ≤ (m3 94 58).toInt ∧ (m3 94 58).toInt ≤ 1 := rs_94_58 (m := (zov wr_223 (zov wr_222 (ma_u m 94 0 (0 : Int32)) m1) m3)) hV_m3
            have f29 : 0 ≤ (m3 94 56).toInt ∧ (m3 94 56).toInt ≤ 3100 := rs_94_56 (m := (zov wr_223 (zov wr_222 (ma_u m 94 0 (0 : Int32)) m1) m3)) hV_m3
            have b30 := i_bd v2
            exact K (v2) _ (zF_zov (zF_zov (zF_u zF_rfl rfl) ws_222_257) ws_223_257) hV_m3 r_W p0_m3 p1_m3 p2_m3 p3_m3 (show qRB (m3 99) (m 100) (m 98) (m 101) (m 102) (m 103) (m 107) (m 108) (m3 109) (m3 111) (m 112) (m3 113) (m3 114) (m3 94 55) (m 94 46) (m 94 11) (m 94 12) (m 94 62) (m 94 17) (m 94 9) (xSp aa nn) from by first | (rw [Go_1 (by omega) (by omega) (fun w => absurd (r_MK.symm.trans w) (i_nz2 (by omega)))]; exact p5_m3; done) | (exfalso; omega; done) | (exfalso; contradiction; done)) (show qI (xSp aa nn) from by first | (rw [Go_1 (by omega) (by omega) (fun w => absurd (r_MK.symm.trans w) (i_nz2 (by omega)))]; exact p6_m3; done) | (exfalso; omega; done) | (exfalso; contradiction; done)) (show qMG (m3 94 58) (m3 106) (m3 115) (m1 94 57) (m3 94 56) (m3 99) (m 100) (xSp aa nn) from by first | (rw [Go_1 (by omega) (by omega) (fun w => absurd (r_MK.symm.trans w) (i_nz2 (by omega)))]; exact p7_m3; done) | (exfalso; omega; done) | (exfalso; contradiction; done)) (show (xSp aa nn) 87 8 = (m3 94 58) from by first | (rw [Go_1 (by omega) (by omega) (fun w => absurd (r_MK.symm.trans w) (i_nz2 (by omega)))]; exact p8_m3; done) | (exfalso; omega; done) | (exfalso; contradiction; done)) p9_m3 (show qSt aa nn (0 : Int32) v2 from by first | (exact Or.inr ⟨⟨by omega, by omega⟩, by decide, (qE p6_m1).trans (aGv_1 (fun w => absurd (r_MK.symm.trans w) (i_nz2 (by omega)))).symm⟩) | (exfalso; omega; done) | (exfalso; contradiction; done))
        · skip
          have g31 := i_ne h16
          exfalso; omega
    · skip
      have g32 := i_nle h10
      have hV33 : zV (ma_u m 94 0 (1 : Int32)) := uf_94_0 hV
      exact K ((0 : Int32)) _ (zF_u zF_rfl rfl) hV33 r_W r_GW r_GU r_OW r_GG (show qRB (m 99) (m 100) (m 98) (m 101) (m 102) (m 103) (m 107) (m 108) (m 109) (m 111) (m 112) (m 113) (m 114) (m 94 55) (m 94 46) (m 94 11) (m 94 12) (m 94 62) (m 94 17) (m 94 9) (xSp aa nn) from by first | (unfold xSp; rw [qIf_n (by omega)]; exact r_RB; done) | (rw [Go_0 (by omega) (by omega) (r_MK.trans (i_zer (by omega)))]; exact r_RB; done) | (exfalso; omega; done) | (exfalso; contradiction; done)) (show qI (xSp aa nn) from by first | (unfold xSp; rw [qIf_n (by omega)]; exact r_QI; done) | (rw [Go_0 (by omega) (by omega) (r_MK.trans (i_zer (by omega)))]; exact r_QI; done) | (exfalso; omega; done) | (exfalso; contradiction; done)) (show qMG (m 94 58) (m 106) (m 115) (m 94 57) (m 94 56) (m 99) (m 100) (xSp aa nn) from by first | (unfold xSp; rw [qIf_n (by omega)]; exact r_MG; done) | (rw [Go_0 (by omega) (by omega) (r_MK.trans (i_zer (by omega)))]; exact r_MG; done) | (exfalso; omega; done) | (exfalso; contradiction; done)) (show (xSp aa nn) 87 8 = (m 94 58) from by first | (unfold xSp; rw [qIf_n (by omega)]; exact r_MK; done) | (rw [Go_0 (by omega) (by omega) (r_MK.trans (i_zer (by omega)))]; exact r_MK; done) | (exfalso; omega; done) | (exfalso; contradiction; done)) r_WTS (show qSt aa nn (1 : Int32) (0 : Int32) from by first | (exact Or.inl ⟨by omega, by decide⟩) | (exact Or.inr ⟨⟨by omega, by omega⟩, by decide, (aGv_0 (r_MK.trans (i_zer (by omega)))).symm⟩) | (exfalso; omega; done) | (exfalso; contradiction; done))

/-! from 95.h30 -/
/-! the reference by numbers (written by wip/tools/gen18r.py) -/
section QY
variable {aa a b : Nat → Nat → Int32} {us nr kr kd ws at₉ ho wd wi ow rt wk wl wl₉ kp co gr : Nat → Int32} {wm wm₉ nu ro fo le ra pi y x z i j ga gm r s v mk o t ks : Int32} {n k u : Nat} {m m2 : Nat → Nat → Int32} {l : Int}
/-! strong -/
theorem St_of : zOf a (aSt a y) := by
  unfold aSt
  split
  · exact cm_of
  · exact Of_rf
theorem St_y (h : a 87 8 ≠ 0) : aSt a y = aCm a y := if_pos h
theorem St_push (hR : qRB us nr kr kd ws at₉ ho wd wi ow rt wk wl wm nu ro fo le ra pi a) (hG : qMQ (m 106) (m2 115) ga gm us nr a ∧ qMI a) (h8 : a 87 8 ≠ 0) (u : qU us s) (h0 : 0 ≤ s.toInt) (hw : m 106 s.toNatClampNeg = 0) : qMQ (ma_u m 106 s.toNatClampNeg 1 106) (ma_u m2 115 gm.toNatClampNeg s 115) ga (gm + 1) us nr (aSt a (qNo nr s)) ∧ qMI (aSt a (qNo nr s)) := by
  rw [St_y h8]
  have q := U_y u h0
  exact ⟨MQ_push hG.1 hR.1 h0 q.1 q.2 hw rfl, MI_cm hG.2 hG.1.2.2.2.2⟩
theorem St_skip (hG : qMQ co gr ga gm us nr a ∧ qMI a) (h8 : a 87 8 ≠ 0) (u : qU us s) (hw : co s.toNatClampNeg ≠ 0) : qMQ co gr ga gm us nr (aSt a (qNo nr s)) ∧ qMI (aSt a (qNo nr s)) := by
  rw [St_y h8, MQ_sk hG.1 u (Or.inr hw)]
  exact hG
theorem MS_st (hR : qRB us nr kr kd ws at₉ ho wd wi ow rt wk wl wm nu ro fo le ra pi a) (hG : qMG mk co gr ga gm us nr a) (hK : a 87 8 = mk) (u : qU us s) (h0 : 0 ≤ s.toInt) : qMS mk (aSt a (qNo nr s)) (qNo nr s) := fun z _ => Or.inr (by
  have q := U_y u h0
  have hs := tn_lt h0 q.1
  have t := hR.1.1 _ hs q.2
  rw [St_y (by rw [hK]; exact fun w => z (by rw [w]; rfl)), No_y h0]
  exact zM_in ((Nn_cm (hG z).1.2.2.2.2).mpr (Or.inr ⟨t.1.1, t.1.2, rfl, R1_al hR.1 hs q.2⟩)))
theorem Sg_y (hR : qRB us nr kr kd ws at₉ ho wd wi ow rt wk wl wm nu ro fo le ra pi a) (hi : 0 ≤ i.toInt) (hi2 : i.toInt ≤ 15) (hr : 0 ≤ r.toInt) (hr2 : r.toInt ≤ 15) (h0 : 0 ≤ (wk i.toNatClampNeg).toInt) : ySg a i r = aRt (aSt a (qNo nr (wk i.toNatClampNeg))) r (qNo nr (wk i.toNatClampNeg)) := by
  have c := tn_cast hi
  have q := hR.2.2.2.1 i.toNatClampNeg (by omega)
  have u := U_y q.1 h0
  have t := hR.1.1 _ (tn_lt h0 u.1) u.2
  rw [← q.2]
  refine qIf_y ⟨⟨hi, hi2⟩, ⟨hr, hr2⟩, ?_⟩
  rw [q.2, Nm_no hR.1 q.1, No_y h0]
  intro w
  have := t.1.1
  rw [w] at this
  exact absurd this (by decide)
theorem Sg_n (hR : qRB us nr kr kd ws at₉ ho wd wi ow rt wk wl wm nu ro fo le ra pi a) (hi : 0 ≤ i.toInt) (hi2 : i.toInt ≤ 15) (h0 : (wk i.toNatClampNeg).toInt < 0) : ySg a i r = a := by
  have c := tn_cast hi
  have q := hR.2.2.2.1 i.toNatClampNeg (by omega)
  refine qIf_n (fun w => w.2.2 ?_)
  rw [q.2, Nm_no hR.1 q.1, No_n h0]
theorem Sg_x (h : (i.toInt < 0 ∨ 16 ≤ i.toInt) ∨ (r.toInt < 0 ∨ 16 ≤ r.toInt)) : ySg a i r = a := qIf_n (fun w => by
  have w1 := w.1.1
  have w2 := w.1.2
  have w3 := w.2.1.1
  have w4 := w.2.1.2
  omega)
/-! granted -/
def qSh (wl0 wl : Nat → Int32) (l : Int) : Prop := ∀ k : Nat, wl k = (if (k : Int) < l then wl0 (k + 1) else wl0 k)
theorem Sh_0 (h : l ≤ 0) : qSh wl wl l := fun k => by rw [if_neg (by omega)]
theorem Sh_s {l₉ : Int} (h : qSh wl (m 114) i.toInt) (h0 : 0 ≤ i.toInt) (e : l₉ = i.toInt + 1) (hj : j.toInt = i.toInt + 1) : qSh wl (ma_u m 114 i.toNatClampNeg (m 114 j.toNatClampNeg) 114) l₉ := by
  intro k
  have c := tn_cast h0
  have cj := tn_cast (x := j) (by omega)
  by_cases w : k = i.toNatClampNeg
  · rw [w, mu_self, h j.toNatClampNeg, if_neg (by omega), if_pos (by omega), show j.toNatClampNeg = i.toNatClampNeg + 1 by omega]
  · rw [mu_ne w, h k]
    by_cases w2 : (k : Int) < i.toInt
    · rw [if_pos w2, if_pos (by omega)]
    · rw [if_neg w2, if_neg (by omega)]
theorem Tw_r (h : 0 < (a 69 5).toInt) : aTw a 69 5 = a 69 5 - 1 ∧ (∀ k : Nat, (k : Int) < (a 69 5).toInt - 1 → aTw a 74 k = a 74 (k + 1)) ∧ (∀ c, c ≠ 69 → c ≠ 74 → aTw a c = a c) ∧ aTw a 69 6 = a 69 6 ∧ aTw a 69 8 = a 69 8 ∧ aTy a = a 74 0 := by
  unfold aTw aTy
  rw [if_pos h, if_pos h]
  refine ⟨?_, fun k hk => ?_, fun c h1 h2 => ?_, ?_, ?_, rfl⟩
  · unfold zSh
    rw [if_neg (by omega), xu_s]
  · unfold zSh
    rw [if_pos ⟨rfl, hk⟩, xu_o (by omega)]
  · funext k
    unfold zSh
    rw [if_neg (fun w => h2 w.1), xu_o (fun w => h1 w.1)]
  · unfold zSh
    rw [if_neg (by omega), xu_o (by omega)]
  · unfold zSh
    rw [if_neg (by omega), xu_o (by omega)]
theorem RB_tw (hR : qRB us nr kr kd ws at₉ ho wd wi ow rt wk wl wm nu ro fo le ra pi a) (h : 0 < wm.toInt) (hs : qSh wl wl₉ l) (hl : l = wm.toInt - 1) (e : wm₉ = wm - 1) : qRB us nr kr kd ws at₉ ho wd wi ow rt wk wl₉ wm₉ nu ro fo le ra pi (aTw a) := by
  have w5 := hR.2.2.2.2.1.1
  have t := Tw_r (a := a) (by rw [w5]; exact h)
  have bd := i_bd wm
  have e1 : (wm - 1).toInt = wm.toInt - 1 := i_subk rfl (by omega) (by omega)
  rw [w5] at t
  have cc := t.2.2.1
  refine ⟨R1_cg hR.1 (cc 126 (by decide) (by decide)) (cc 128 (by decide) (by decide)) (cc 130 (by decide) (by decide)) (cc 133 (by decide) (by decide)), R2_cg hR.2.1 (fun n => cc (1000 + n) (by omega) (by omega)) (cc 130 (by decide) (by decide)) (cc 71 (by decide) (by decide)), R3_cg hR.2.2.1 (cc 72 (by decide) (by decide)), R3_cg hR.2.2.2.1 (cc 73 (by decide) (by decide)), ⟨by rw [t.1, e], fun k hk => ?_⟩, R6_cg hR.2.2.2.2.2.1 (cc 134 (by decide) (by decide)), hR.2.2.2.2.2.2.1, R8_cg hR.2.2.2.2.2.2.2 t.2.2.2.1 (cc 87 (by decide) (by decide))⟩
  rw [e, e1] at hk
  rw [hs k, if_pos (by omega), t.2.1 k hk]
  exact hR.2.2.2.2.1.2 (k + 1) (by omega)
theorem I_tw (h : qI a) (h5 : 0 < (a 69 5).toInt) : qI (aTw a) := by
  have t := Tw_r h5
  have cc := t.2.2.1
  have al : xAl (aTw a) = xAl a := by
    funext n
    unfold xAl
    rw [cc 126 (by decide) (by decide)]
  have su := Su_cg (a := aTw a) (b := a) (cc 126 (by decide) (by decide)) (cc 128 (by decide) (by decide)) 512
  have bd := i_bd (a 69 5)
  have e1 : (a 69 5 - 1).toInt = (a 69 5).toInt - 1 := i_subk rfl (by omega) (by omega)
  obtain ⟨h1, h2, h3, h4, h6, h7⟩ := h
  have i5 := h4.2.1
  have e8 : qI6 (aTw a) := fun n hn k => by
    rw [cc (1000 + n) (by omega) (by omega)]
    exact h7 n (by rw [← al]; exact hn) k
  unfold qI qI1 qI2 qI3 qI4 qGd at *
  rw [al, su, cc 128 (by decide) (by decide), cc 130 (by decide) (by decide), cc 71 (by decide) (by decide), cc 87 (by decide) (by decide), t.2.2.2.1, t.2.2.2.2.1, t.1, e1]
  exact ⟨h1, h2, h3, ⟨h4.1, ⟨by omega, by omega⟩, h4.2.2⟩, h6, e8⟩
theorem Ed_tw (h5 : 0 < (a 69 5).toInt) : zEd (aTw a) = zEd a := by
  have cc := (Tw_r h5).2.2.1
  exact Ed_cg (cc 126 (by decide) (by decide)) (cc 128 (by decide) (by decide)) (fun n i => rf_cg (cc (1000 + n) (by omega) (by omega)) (cc 130 (by decide) (by decide)) (cc 71 (by decide) (by decide)))
theorem MG_tw (h : qMG mk co gr ga gm us nr a) (h5 : 0 < (a 69 5).toInt) : qMG mk co gr ga gm us nr (aTw a) := fun z => by
  have t := Tw_r h5
  have cc := t.2.2.1
  have bd := i_bd (a 69 5)
  have e1 : (a 69 5 - 1).toInt = (a 69 5).toInt - 1 := i_subk rfl (by omega) (by omega)
  refine ⟨?_, MI_cg (h z).2 (cc 77 (by decide) (by decide)) (Ed_tw h5) (cc 126 (by decide) (by decide)) (by rw [cc 87 (by decide) (by decide)]) (fun _ u hu => Or.inl ?_)⟩
  · obtain ⟨q1, q2, q3, q4, q5⟩ := (h z).1
    have w := WQ_cg q5 (cc 75 (by decide) (by decide)).symm (cc 76 (by decide) (by decide)).symm (cc 77 (by decide) (by decide)).symm (cc 126 (by decide) (by decide)).symm (cc 130 (by decide) (by decide)).symm
    unfold qMQ
    rw [cc 75 (by decide) (by decide), cc 76 (by decide) (by decide), cc 77 (by decide) (by decide)]
    exact ⟨q1, q2, q3, q4, w⟩
  · unfold zRt zRl zWl zHl xAl at hu ⊢
    rw [cc 126 (by decide) (by decide), cc 72 (by decide) (by decide), cc 133 (by decide) (by decide), t.1, e1, t.2.2.2.1] at hu
    refine ⟨hu.1, hu.2.imp id (fun w => w.imp (fun ⟨j, j1, j2⟩ => ⟨j + 1, by omega, ?_⟩) id)⟩
    rw [← t.2.1 j j1]
    exact j2
theorem MS_tw (hR : qRB us nr kr kd ws at₉ ho wd wi ow rt wk wl wm nu ro fo le ra pi a) (h : qMG mk co gr ga gm us nr a) (h5 : 0 < wm.toInt) (e : y = qNo nr (wl 0)) : qMS mk (aTw a) y := fun z h7 => Or.inr (by
  have w5 := hR.2.2.2.2.1
  have h50 : 0 < (a 69 5).toInt := by rw [w5.1]; exact h5
  have t := Tw_r h50
  have cc := t.2.2.1
  rw [cc 87 (by decide) (by decide)] at h7
  have q := ((h z).2.2 h7).1
  have p := w5.2 0 (by omega)
  have hs := tn_lt p.1.1 p.1.2.1
  have k := Mk_cg (a := a) (b := aTw a) (cc 77 (by decide) (by decide)) (Ed_tw h50)
  rw [k.1, e, No_y p.1.1]
  refine q _ ⟨R1_al hR.1 hs p.1.2.2, Or.inr (Or.inl ⟨0, by omega, ?_⟩)⟩
  rw [p.2, R1_of_nr hR.1 hs p.1.2.2])
theorem Gr_0 (hR : qRB us nr kr kd ws at₉ ho wd wi ow rt wk wl wm nu ro fo le ra pi a) (h : wm = 0) : xGr a r = a := by
  have w5 := hR.2.2.2.2.1.1
  have e : ¬ 0 < (a 69 5).toInt := by
    rw [w5, h]
    decide
  have t : aTy a = -1 := if_neg e
  have w : aTw a = a := if_neg e
  unfold xGr
  by_cases z : zSl r
  · rw [qIf_y z, qIf_y (by rw [t]; exact if_neg (fun w => absurd w.1 (by decide))), w]
  · rw [qIf_n z]
theorem Gr_y (hR : qRB us nr kr kd ws at₉ ho wd wi ow rt wk wl wm nu ro fo le ra pi a) (h : 0 < wm.toInt) (hr : 0 ≤ r.toInt) (hr2 : r.toInt ≤ 15) : xGr a r = aRt (aTw a) r (qNo nr (wl 0)) := by
  have w5 := hR.2.2.2.2.1
  have t := Tw_r (a := a) (by rw [w5.1]; exact h)
  have p := w5.2 0 (by omega)
  have hs := tn_lt p.1.1 p.1.2.1
  have q := hR.1.1 _ hs p.1.2.2
  have ty : aTy a = qNo nr (wl 0) := by
    rw [t.2.2.2.2.2, p.2, No_y p.1.1]
  unfold xGr
  rw [qIf_y ⟨hr, hr2⟩, ty, qIf_n]
  rw [Nm_no hR.1 (Or.inr ⟨p.1.2.1, p.1.2.2⟩), No_y p.1.1]
  intro w
  have := q.1.1
  rw [w] at this
  exact absurd this (by decide)
/-! a kind -/
theorem RB_kd (hR : qRB us nr (m 98) kd ws at₉ ho wd wi ow rt wk wl wm nu ro fo le ra pi a) (hW : zW ks (m 98) kd ws wd) (hk : (k : Int) = ks.toInt) (hd : ∀ s, s < 3100 → 0 ≤ (kd s).toInt) : qRB us nr (ma_u m 98 k x 98) kd ws at₉ ho wd wi ow rt wk wl wm nu ro fo le ra pi a := by
  refine ⟨hR.1, fun s hs hu i hi => ?_, hR.2.2⟩
  have q := hR.2.1 s hs hu i hi
  rw [zrf_kind hW hk hd s i hs hi]
  refine ⟨q.1, q.2.1, q.2.2.trans ?_⟩
  unfold qIr
  by_cases h16 : kd s = 16
  · exact ⟨fun _ => Or.inl h16, fun _ => Or.inl h16⟩
  · by_cases hl : (kd s).toInt < ks.toInt
    · have hn : (kd s).toNatClampNeg ≠ k := by
        rw [tn_eq]
        have := hd s hs
        omega
      rw [mu_ne hn]
    · have h3 : ¬ kd s < 16 := fun z => by
        have z2 := Int32.lt_iff_toInt_lt.mp z
        have z3 : (16 : Int32).toInt = 16 := rfl
        rcases (hW s hs).2 with q | q | q <;> omega
      exact ⟨fun w => w.elim Or.inl (fun w2 => absurd w2.1 h3), fun w => w.elim Or.inl (fun w2 => absurd w2.1 h3)⟩
end QY

