/-! the reference by numbers (written by wip/tools/gen18r.py) -/
/-- a step's answer, and whether it throws -/
def qSt (a : Nat → Nat → Int32) (n th v : Int32) : Prop := (¬ (0 ≤ n.toInt ∧ n.toInt ≤ 1000) ∧ th.toInt = 1) ∨ ((0 ≤ n.toInt ∧ n.toInt ≤ 1000) ∧ th.toInt = 0 ∧ v.toInt = aGv a n.toInt.toNat)
theorem Go_0 {a : Nat → Nat → Int32} {n : Int32} (h0 : 0 ≤ n.toInt) (h1 : n.toInt ≤ 1000) (h : a 87 8 = 0) : xSp a n = a := by
  unfold xSp
  rw [qIf_y ⟨h0, h1⟩, aGo_0 h]
theorem Go_1 {a : Nat → Nat → Int32} {n : Int32} (h0 : 0 ≤ n.toInt) (h1 : n.toInt ≤ 1000) (h : a 87 8 ≠ 0) : xSp a n = aLk (aSp n.toInt.toNat a) := by
  unfold xSp aGo
  rw [qIf_y ⟨h0, h1⟩, if_neg h]
set_option maxHeartbeats 8000000 in
theorem sp_257r {X : Nat × (Nat → Int32)} {P : Option ma_V → (Nat → Nat → Int32) → Prop} {T : Nat} {aa : Nat→Nat→Int32} {m : Nat → Nat → Int32} (nn : Int32) (hV : zV m) (hpre0 : T ≤ 512) (r_W : zW (m 94 7) (m 98) (m 101) (m 102) (m 108)) (r_GW : zGW T (m 94 55) (m 109)) (r_GU : zGU T (m 94 46) (m 99)) (r_OW : zOw (m 99) (m 103) (m 111)) (r_GG : zGG (m 94 58) (m 94 56) (m 94 57) (m 106)) (hpre6 : (m 94 10).toInt = 5) (hpre7 : (m 94 8).toInt = 1) (r_RB : qRB (m 99) (m 100) (m 98) (m 101) (m 102) (m 103) (m 107) (m 108) (m 109) (m 111) (m 112) (m 113) (m 114) (m 94 55) (m 94 46) (m 94 11) (m 94 12) (m 94 62) (m 94 17) (m 94 9) aa) (r_QI : qI aa) (r_MG : qMG (m 94 58) (m 106) (m 115) (m 94 57) (m 94 56) (m 99) (m 100) aa) (r_MK : aa 87 8 = (m 94 58)) (r_WTS : (m 94 45).toInt = sm (zbU (m 99)) (m 102) 3100) (KZ : ∀ v m', zV (zov wr_257 m m') → (zW (m 94 7) (m 98) (m 101) (m 102) (m 108)) → (zGW T (m' 94 55) (m' 109)) → (zGU T (m 94 46) (m' 99)) → (zOw (m' 99) (m 103) (m' 111)) → (zGG (m' 94 58) (m' 94 56) (m' 94 57) (m' 106)) → (qRB (m' 99) (m 100) (m 98) (m 101) (m 102) (m 103) (m 107) (m 108) (m' 109) (m' 111) (m 112) (m' 113) (m' 114) (m' 94 55) (m 94 46) (m 94 11) (m 94 12) (m 94 62) (m 94 17) (m 94 9) (xSp aa nn)) → (qI (xSp aa nn)) → (qMG (m' 94 58) (m' 106) (m' 115) (m' 94 57) (m' 94 56) (m' 99) (m 100) (xSp aa nn)) → ((xSp aa nn) 87 8 = (m' 94 58)) → ((m' 94 45).toInt = sm (zbU (m' 99)) (m 102) 3100) → (qSt aa nn (m' 94 0) v) → P (some (.inl v)) (zov wr_257 m m')) : zm X 5 109 257 0 [(0, .inr (.inr (some 94))), (1, .inl nn)] m P := by
  have K : ∀ v m', zF wr_257 m m' → zV m' → (zW (m' 94 7) (m' 98) (m' 101) (m' 102) (m' 108)) → (zGW T (m' 94 55) (m' 109)) → (zGU T (m' 94 46) (m' 99)) → (zOw (m' 99) (m' 103) (m' 111)) → (zGG (m' 94 58) (m' 94 56) (m' 94 57) (m' 106)) → (qRB (m' 99) (m' 100) (m' 98) (m' 101) (m' 102) (m' 103) (m' 107) (m' 108) (m' 109) (m' 111) (m' 112) (m' 113) (m' 114) (m' 94 55) (m' 94 46) (m' 94 11) (m' 94 12) (m' 94 62) (m' 94 17) (m' 94 9) (xSp aa nn)) → (qI (xSp aa nn)) → (qMG (m' 94 58) (m' 106) (m' 115) (m' 94 57) (m' 94 56) (m' 99) (m' 100) (xSp aa nn)) → ((xSp aa nn) 87 8 = (m' 94 58)) → ((m' 94 45).toInt = sm (zbU (m' 99)) (m' 102) 3100) → (qSt aa nn (m' 94 0) v) → P (some (.inl v)) m' := by
    intro v m' hf z q0 q1 q2 q3 q4 q5 q6 q7 q8 q9 q10
    have e := zov_eq hf
    rw [e] at z ⊢
    try rw [e] at q0
    try rw [e] at q1
    try rw [e] at q2
    try rw [e] at q3
    try rw [e] at q4
    try rw [e] at q5
    try rw [e] at q6
    try rw [e] at q7
    try rw [e] at q8
    try rw [e] at q9
    try rw [e] at q10
    exact KZ v m' z q0 q1 q2 q3 q4 q5 q6 q7 q8 q9 q10
  refine g_257_0 nn ?_
  have f1 : 0 ≤ (m 94 10).toInt ∧ (m 94 10).toInt ≤ 6 := rs_94_10 (m := m) hV
  have f2 : 0 ≤ (m 94 8).toInt ∧ (m 94 8).toInt ≤ 1 := rs_94_8 (m := m) hV
  have b3 := i_bd nn
  have li4 : (0 : Int32).toInt = 0 := rfl
  refine zd (fun (h5 : nn < (0 : Int32)) => ?_) (fun (h5 : ¬ nn < (0 : Int32)) => ?_)
  · skip
    have g6 := i_lt h5
    have hV7 : zV (ma_u m 94 0 (1 : Int32)) := uf_94_0 hV
    exact K ((0 : Int32)) _ (zF_u zF_rfl rfl) hV7 r_W r_GW r_GU r_OW r_GG (show qRB (m 99) (m 100) (m 98) (m 101) (m 102) (m 103) (m 107) (m 108) (m 109) (m 111) (m 112) (m 113) (m 114) (m 94 55) (m 94 46) (m 94 11) (m 94 12) (m 94 62) (m 94 17) (m 94 9) (xSp aa nn) from by first | (unfold xSp; rw [qIf_n (by omega)]; exact r_RB; done) | (rw [Go_0 (by omega) (by omega) (r_MK.trans (i_zer (by omega)))]; exact r_RB; done) | (exfalso; omega; done) | (exfalso; contradiction; done)) (show qI (xSp aa nn) from by first | (unfold xSp; rw [qIf_n (by omega)]; exact r_QI; done) | (rw [Go_0 (by omega) (by omega) (r_MK.trans (i_zer (by omega)))]; exact r_QI; done) | (exfalso; omega; done) | (exfalso; contradiction; done)) (show qMG (m 94 58) (m 106) (m 115) (m 94 57) (m 94 56) (m 99) (m 100) (xSp aa nn) from by first | (unfold xSp; rw [qIf_n (by omega)]; exact r_MG; done) | (rw [Go_0 (by omega) (by omega) (r_MK.trans (i_zer (by omega)))]; exact r_MG; done) | (exfalso; omega; done) | (exfalso; contradiction; done)) (show (xSp aa nn) 87 8 = (m 94 58) from by first | (unfold xSp; rw [qIf_n (by omega)]; exact r_MK; done) | (rw [Go_0 (by omega) (by omega) (r_MK.trans (i_zer (by omega)))]; exact r_MK; done) | (exfalso; omega; done) | (exfalso; contradiction; done)) r_WTS (show qSt aa nn (1 : Int32) (0 : Int32) from by first | (exact Or.inl ⟨by omega, by decide⟩) | (exact Or.inr ⟨⟨by omega, by omega⟩, by decide, (aGv_0 (r_MK.trans (i_zer (by omega)))).symm⟩) | (exfalso; omega; done) | (exfalso; contradiction; done))
  · skip
    have g8 := i_nlt h5
    have li9 : (1000 : Int32).toInt = 1000 := rfl
    refine zd (fun (h10 : nn ≤ (1000 : Int32)) => ?_) (fun (h10 : ¬ nn ≤ (1000 : Int32)) => ?_)
    · skip
      have g11 := i_le h10
      refine zd (fun (h12 : (m 94 8) = (0 : Int32)) => ?_) (fun (h12 : ¬ (m 94 8) = (0 : Int32)) => ?_)
      · skip
        have g13 := i_eq h12
        exfalso; omega
      · skip
        have g14 := i_ne h12
        have li15 : (5 : Int32).toInt = 5 := rfl
        refine zd (fun (h16 : (m 94 10) = (5 : Int32)) => ?_) (fun (h16 : ¬ (m 94 10) = (5 : Int32)) => ?_)
        · skip
          have g17 := i_eq h16
          have f18 : 0 ≤ (m 94 58).toInt ∧ (m 94 58).toInt ≤ 1 := rs_94_58 (m := m) hV
          refine zd (fun (h19 : (m 94 58) = (0 : Int32)) => ?_) (fun (h19 : ¬ (m 94 58) = (0 : Int32)) => ?_)
          · skip
            have g20 := i_eq h19
            have hV21 : zV (ma_u m 94 0 (0 : Int32)) := uf_94_0 hV
            exact K ((0 : Int32)) _ (zF_u zF_rfl rfl) hV21 r_W r_GW r_GU r_OW r_GG (show qRB (m 99) (m 100) (m 98) (m 101) (m 102) (m 103) (m 107) (m 108) (m 109) (m 111) (m 112) (m 113) (m 114) (m 94 55) (m 94 46) (m 94 11) (m 94 12) (m 94 62) (m 94 17) (m 94 9) (xSp aa nn) from by first | (unfold xSp; rw [qIf_n (by omega)]; exact r_RB; done) | (rw [Go_0 (by omega) (by omega) (r_MK.trans (i_zer (by omega)))]; exact r_RB; done) | (exfalso; omega; done) | (exfalso; contradiction; done)) (show qI (xSp aa nn) from by first | (unfold xSp; rw [qIf_n (by omega)]; exact r_QI; done) | (rw [Go_0 (by omega) (by omega) (r_MK.trans (i_zer (by omega)))]; exact r_QI; done) | (exfalso; omega; done) | (exfalso; contradiction; done)) (show qMG (m 94 58) (m 106) (m 115) (m 94 57) (m 94 56) (m 99) (m 100) (xSp aa nn) from by first | (unfold xSp; rw [qIf_n (by omega)]; exact r_MG; done) | (rw [Go_0 (by omega) (by omega) (r_MK.trans (i_zer (by omega)))]; exact r_MG; done) | (exfalso; omega; done) | (exfalso; contradiction; done)) (show (xSp aa nn) 87 8 = (m 94 58) from by first | (unfold xSp; rw [qIf_n (by omega)]; exact r_MK; done) | (rw [Go_0 (by omega) (by omega) (r_MK.trans (i_zer (by omega)))]; exact r_MK; done) | (exfalso; omega; done) | (exfalso; contradiction; done)) r_WTS (show qSt aa nn (0 : Int32) (0 : Int32) from by first | (exact Or.inl ⟨by omega, by decide⟩) | (exact Or.inr ⟨⟨by omega, by omega⟩, by decide, (aGv_0 (r_MK.trans (i_zer (by omega)))).symm⟩) | (exfalso; omega; done) | (exfalso; contradiction; done))
          · skip
            have g22 := i_ne h19
            have hV23 : zV (ma_u m 94 0 (0 : Int32)) := uf_94_0 hV
            refine sp_222r (aa := aa) (nn) hV23 (by omega) r_W (show zG1 (m 94 56) (m 94 57) (m 106) from by first | (exact r_GG (by omega)) | (exact G1_0 (by omega) (by omega)) | (exact r_GG (by omega)) | (exfalso; omega; done) | (exfalso; contradiction; done)) (show qMQ (m 106) (m 115) (m 94 57) (m 94 56) (m 99) (m 100) aa from by first | (exact (r_MG (by omega)).1) | (exfalso; omega; done) | (exfalso; contradiction; done)) r_RB r_QI (fun v2 m1 hV_m1 p0_m1 p1_m1 p2_m1 p3_m1 p4_m1 p5_m1 p6_m1 => zmi_n ?_)
            have p0_m1 : zG1 (m1 94 56) (m1 94 57) (m1 106) := p0_m1
            have p1_m1 : (m 94 56).toInt ≤ (m1 94 56).toInt := p1_m1
            have p2_m1 : (m 94 57).toInt ≤ (m1 94 57).toInt ∧ ((m1 94 56).toInt ≤ (m1 94 57).toInt ∨ (m 94 57).toInt + nn.toInt ≤ (m1 94 57).toInt) := p2_m1
            have p3_m1 : qRB (m 99) (m 100) (m 98) (m 101) (m 102) (m 103) (m 107) (m 108) (m 109) (m 111) (m 112) (m 113) (m 114) (m 94 55) (m 94 46) (m 94 11) (m 94 12) (m 94 62) (m 94 17) (m 94 9) (aSp nn.toInt.toNat aa) := p3_m1
            have p4_m1 : qI (aSp nn.toInt.toNat aa) := p4_m1
            have p5_m1 : qMQ (m1 106) (m1 115) (m1 94 57) (m1 94 56) (m 99) (m 100) (aSp nn.toInt.toNat aa) := p5_m1
            have p6_m1 : qEq v2.toInt (aSn nn.toInt.toNat aa : Int) := p6_m1
            have f24 : 0 ≤ (m 94 56).toInt ∧ (m 94 56).toInt ≤ 3100 := rs_94_56 (m := m) hV
            have f25 : 0 ≤ (m1 94 56).toInt ∧ (m1 94 56).toInt ≤ 3100 := rs_94_56 (m := (zov wr_222 (ma_u m 94 0 (0 : Int32)) m1)) hV_m1
            have f26 : 0 ≤ (m 94 57).toInt ∧ (m 94 57).toInt ≤ 3100 := rs_94_57 (m := m) hV
            have f27 : 0 ≤ (m1 94 57).toInt ∧ (m1 94 57).toInt ≤ 3100 := rs_94_57 (m := (zov wr_222 (ma_u m 94 0 (0 : Int32)) m1)) hV_m1
            refine sp_223r (aa := (aSp nn.toInt.toNat aa))  hV_m1 (by omega) r_W r_GW r_GU r_OW p0_m1 (show (m 94 10).toInt = 5 from by omega) (show (m 94 58).toInt = 1 from by omega) p5_m1 p3_m1 p4_m1 (show qMI (aSp nn.toInt.toNat aa) from by first | (exact MI_sp _ _ (r_MG (by omega)).2 (r_MG (by omega)).1.2.2.2.2) | (exfalso; omega; done) | (exfalso; contradiction; done)) (show (aSp nn.toInt.toNat aa) 87 8 = (m 94 58) from by first | (exact Sp_87.trans r_MK) | (exfalso; omega; done) | (exfalso; contradiction; done)) r_WTS (fun v4 m3 hV_m3 p0_m3 p1_m3 p2_m3 p3_m3 p4_m3 p5_m3 p6_m3 p7_m3 p8_m3 p9_m3 => zmi_n ?_)
            have p0_m3 : zGW T (m3 94 55) (m3 109) := p0_m3
            have p1_m3 : zGU T (m 94 46) (m3 99) := p1_m3
            have p2_m3 : zOw (m3 99) (m 103) (m3 111) := p2_m3
            have p3_m3 : zGG (m3 94 58) (m3 94 56) (m1 94 57) (m3 106) := p3_m3
            have p4_m3 : (m3 94 58).toInt = 0 ∨ ((m3 94 58).toInt = 1 ∧ (m1 94 57).toInt < (m3 94 56).toInt ∧ (m1 94 57).toInt = (m1 94 57).toInt) := p4_m3
            have p5_m3 : qRB (m3 99) (m 100) (m 98) (m 101) (m 102) (m 103) (m 107) (m 108) (m3 109) (m3 111) (m 112) (m3 113) (m3 114) (m3 94 55) (m 94 46) (m 94 11) (m 94 12) (m 94 62) (m 94 17) (m 94 9) (aLk (aSp nn.toInt.toNat aa)) := p5_m3
            have p6_m3 : qI (aLk (aSp nn.toInt.toNat aa)) := p6_m3
            have p7_m3 : qMG (m3 94 58) (m3 106) (m3 115) (m1 94 57) (m3 94 56) (m3 99) (m 100) (aLk (aSp nn.toInt.toNat aa)) := p7_m3
            have p8_m3 : (aLk (aSp nn.toInt.toNat aa)) 87 8 = (m3 94 58) := p8_m3
            have p9_m3 : (m3 94 45).toInt = sm (zbU (m3 99)) (m 102) 3100 := p9_m3
            have f28 : 0 ≤ (m3 94 58).toInt ∧ (m3 94 58).toInt ≤ 1 := rs_94_58 (m := (zov wr_223 (zov wr_222 (ma_u m 94 0 (0 : Int32)) m1) m3)) hV_m3
            have f29 : 0 ≤ (m3 94 56).toInt ∧ (m3 94 56).toInt ≤ 3100 := rs_94_56 (m := (zov wr_223 (zov wr_222 (ma_u m 94 0 (0 : Int32)) m1) m3)) hV_m3
            have b30 := i_bd v2
            exact K (v2) _ (zF_zov (zF_zov (zF_u zF_rfl rfl) ws_222_257) ws_223_257) hV_m3 r_W p0_m3 p1_m3 p2_m3 p3_m3 (show qRB (m3 99) (m 100) (m 98) (m 101) (m 102) (m 103) (m 107) (m 108) (m3 109) (m3 111) (m 112) (m3 113) (m3 114) (m3 94 55) (m 94 46) (m 94 11) (m 94 12) (m 94 62) (m 94 17) (m 94 9) (xSp aa nn) from by first | (rw [Go_1 (by omega) (by omega) (fun w => absurd (r_MK.symm.trans w) (i_nz2 (by omega)))]; exact p5_m3; done) | (exfalso; omega; done) | (exfalso; contradiction; done)) (show qI (xSp aa nn) from by first | (rw [Go_1 (by omega) (by omega) (fun w => absurd (r_MK.symm.trans w) (i_nz2 (by omega)))]; exact p6_m3; done) | (exfalso; omega; done) | (exfalso; contradiction; done)) (show qMG (m3 94 58) (m3 106) (m3 115) (m1 94 57) (m3 94 56) (m3 99) (m 100) (xSp aa nn) from by first | (rw [Go_1 (by omega) (by omega) (fun w => absurd (r_MK.symm.trans w) (i_nz2 (by omega)))]; exact p7_m3; done) | (exfalso; omega; done) | (exfalso; contradiction; done)) (show (xSp aa nn) 87 8 = (m3 94 58) from by first | (rw [Go_1 (by omega) (by omega) (fun w => absurd (r_MK.symm.trans w) (i_nz2 (by omega)))]; exact p8_m3; done) | (exfalso; omega; done) | (exfalso; contradiction; done)) p9_m3 (show qSt aa nn (0 : Int32) v2 from by first | (exact Or.inr ⟨⟨by omega, by omega⟩, by decide, (qE p6_m1).trans (aGv_1 (fun w => absurd (r_MK.symm.trans w) (i_nz2 (by omega)))).symm⟩) | (exfalso; omega; done) | (exfalso; contradiction; done))
        · skip
          have g31 := i_ne h16
          exfalso; omega
    · skip
      have g32 := i_nle h10
      have hV33 : zV (ma_u m 94 0 (1 : Int32)) := uf_94_0 hV
      exact K ((0 : Int32)) _ (zF_u zF_rfl rfl) hV33 r_W r_GW r_GU r_OW r_GG (show qRB (m 99) (m 100) (m 98) (m 101) (m 102) (m 103) (m 107) (m 108) (m 109) (m 111) (m 112) (m 113) (m 114) (m 94 55) (m 94 46) (m 94 11) (m 94 12) (m 94 62) (m 94 17) (m 94 9) (xSp aa nn) from by first | (unfold xSp; rw [qIf_n (by omega)]; exact r_RB; done) | (rw [Go_0 (by omega) (by omega) (r_MK.trans (i_zer (by omega)))]; exact r_RB; done) | (exfalso; omega; done) | (exfalso; contradiction; done)) (show qI (xSp aa nn) from by first | (unfold xSp; rw [qIf_n (by omega)]; exact r_QI; done) | (rw [Go_0 (by omega) (by omega) (r_MK.trans (i_zer (by omega)))]; exact r_QI; done) | (exfalso; omega; done) | (exfalso; contradiction; done)) (show qMG (m 94 58) (m 106) (m 115) (m 94 57) (m 94 56) (m 99) (m 100) (xSp aa nn) from by first | (unfold xSp; rw [qIf_n (by omega)]; exact r_MG; done) | (rw [Go_0 (by omega) (by omega) (r_MK.trans (i_zer (by omega)))]; exact r_MG; done) | (exfalso; omega; done) | (exfalso; contradiction; done)) (show (xSp aa nn) 87 8 = (m 94 58) from by first | (unfold xSp; rw [qIf_n (by omega)]; exact r_MK; done) | (rw [Go_0 (by omega) (by omega) (r_MK.trans (i_zer (by omega)))]; exact r_MK; done) | (exfalso; omega; done) | (exfalso; contradiction; done)) r_WTS (show qSt aa nn (1 : Int32) (0 : Int32) from by first | (exact Or.inl ⟨by omega, by decide⟩) | (exact Or.inr ⟨⟨by omega, by omega⟩, by decide, (aGv_0 (r_MK.trans (i_zer (by omega)))).symm⟩) | (exfalso; omega; done) | (exfalso; contradiction; done))
