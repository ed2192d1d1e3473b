/-! from 95.v13 -/
/-! AGES, the reference (written by wip/tools/gen15v.py) -/
theorem sp_250ry {X : Nat × (Nat → Int32)} {P : Option ma_V → (Nat → Nat → Int32) → Prop} {T : Nat} {aa : Nat→Nat→Int32} {ro : Int32} {m : Nat → Nat → Int32} (ix : Int32) (ob : Int32) (hV : zV m) (hpre0 : T ≤ 512) (r_W : zW (m 94 7) (m 98) (m 101) (m 102) (m 108)) (r_GW : zGW T (m 94 55) (m 109)) (r_GU : zGU T (m 94 46) (m 99)) (r_OW : zOw (m 99) (m 103) (m 111)) (r_GG : zGG (m 94 58) (m 94 56) (m 94 57) (m 106)) (hpre6 : (m 94 10).toInt = 3 ∧ (m 94 58).toInt = 0) (hpre7 : (m 94 8).toInt = 1) (r_RB : qRB (m 99) (m 100) (m 98) (m 101) (m 102) (m 103) (m 107) (m 108) (m 109) (m 111) (m 112) (m 113) (m 114) (m 94 55) (m 94 46) ro 0 0 0 1 aa) (r_QI : qI aa) (r_MG : qMG (m 94 58) (m 106) (m 115) (m 94 57) (m 94 56) (m 99) (m 100) aa) (r_MK : aa 87 8 = (m 94 58)) (r_WTS : (m 94 45).toInt = sm (zbU (m 99)) (m 102) 3100) (KZ : ∀ v m₉, zV (zov wr_250 m m₉) → (zW (m 94 7) (m 98) (m 101) (m 102) (m 108)) → (zGW T (m₉ 94 55) (m₉ 109)) → (zGU T (m 94 46) (m₉ 99)) → (zOw (m₉ 99) (m 103) (m₉ 111)) → (zGG (m 94 58) (m₉ 94 56) (m 94 57) (m₉ 106)) → (qRB (m₉ 99) (m 100) (m 98) (m 101) (m 102) (m 103) (m 107) (m 108) (m₉ 109) (m₉ 111) (m₉ 112) (m₉ 113) (m₉ 114) (m₉ 94 55) (m 94 46) ro 0 0 0 1 (xRo aa ix ob)) → (qI (xRo aa ix ob)) → (qMG (m 94 58) (m₉ 106) (m₉ 115) (m 94 57) (m₉ 94 56) (m₉ 99) (m 100) (xRo aa ix ob)) → ((xRo aa ix ob) 87 8 = (m 94 58)) → ((m₉ 94 45).toInt = sm (zbU (m₉ 99)) (m 102) 3100) → ((m₉ 99) = (m 99)) → P (some (.inl v)) (zov wr_250 m m₉)) : zm X 5 111 250 0 [(0, .inr (.inr (some 94))), (1, .inl ix), (2, .inl ob)] m P := by
  have K : ∀ v m₉, zF wr_250 m m₉ → zV m₉ → (zW (m₉ 94 7) (m₉ 98) (m₉ 101) (m₉ 102) (m₉ 108)) → (zGW T (m₉ 94 55) (m₉ 109)) → (zGU T (m₉ 94 46) (m₉ 99)) → (zOw (m₉ 99) (m₉ 103) (m₉ 111)) → (zGG (m₉ 94 58) (m₉ 94 56) (m₉ 94 57) (m₉ 106)) → (qRB (m₉ 99) (m₉ 100) (m₉ 98) (m₉ 101) (m₉ 102) (m₉ 103) (m₉ 107) (m₉ 108) (m₉ 109) (m₉ 111) (m₉ 112) (m₉ 113) (m₉ 114) (m₉ 94 55) (m₉ 94 46) ro 0 0 0 1 (xRo aa ix ob)) → (qI (xRo aa ix ob)) → (qMG (m₉ 94 58) (m₉ 106) (m₉ 115) (m₉ 94 57) (m₉ 94 56) (m₉ 99) (m₉ 100) (xRo aa ix ob)) → ((xRo aa ix ob) 87 8 = (m₉ 94 58)) → ((m₉ 94 45).toInt = sm (zbU (m₉ 99)) (m₉ 102) 3100) → ((m₉ 99) = (m 99)) → P (some (.inl v)) m₉ := by
    intro v m₉ hf z q0 q1 q2 q3 q4 q5 q6 q7 q8 q9 q10
    have e := zov_eq hf
    rw [e] at z ⊢
    try rw [e] at q0
    try rw [e] at q1
    try rw [e] at q2
    try rw [e] at q3
    try rw [e] at q4
    try rw [e] at q5
    try rw [e] at q6
    try rw [e] at q7
    try rw [e] at q8
    try rw [e] at q9
    try rw [e] at q10
    exact KZ v m₉ z q0 q1 q2 q3 q4 q5 q6 q7 q8 q9 q10
  refine g_250_0 ix ob ?_
  have f1 : 0 ≤ (m 94 10).toInt ∧ (m 94 10).toInt ≤ 6 := rs_94_10 (m := m) hV
  have f2 : 0 ≤ (m 94 58).toInt ∧ (m 94 58).toInt ≤ 1 := rs_94_58 (m := m) hV
  have f3 : 0 ≤ (m 94 8).toInt ∧ (m 94 8).toInt ≤ 1 := rs_94_8 (m := m) hV
  have b4 := i_bd ix
  have li5 : (0 : Int32).toInt = 0 := rfl
  refine zd (fun (h6 : ix < (0 : Int32)) => ?_) (fun (h6 : ¬ ix < (0 : Int32)) => ?_)
  · skip
    have g7 := i_lt h6
    have hV8 : zV (ma_u m 94 0 (1 : Int32)) := uf_94_0 hV
    exact K ((0 : Int32)) _ (zF_u zF_rfl rfl) hV8 r_W r_GW r_GU r_OW r_GG (show qRB (m 99) (m 100) (m 98) (m 101) (m 102) (m 103) (m 107) (m 108) (m 109) (m 111) (m 112) (m 113) (m 114) (m 94 55) (m 94 46) ro 0 0 0 1 (xRo aa ix ob) from by first | (unfold xRo; rw [qIf_n (Sl_n (Or.inl (by omega)))]; exact r_RB; done) | (unfold xRo; rw [qIf_n (Sl_n (Or.inr (by omega)))]; exact r_RB; done) | (exfalso; omega; done) | (exfalso; contradiction; done)) (show qI (xRo aa ix ob) from by first | (unfold xRo; rw [qIf_n (Sl_n (Or.inl (by omega)))]; exact r_QI; done) | (unfold xRo; rw [qIf_n (Sl_n (Or.inr (by omega)))]; exact r_QI; done) | (exfalso; omega; done) | (exfalso; contradiction; done)) (show qMG (m 94 58) (m 106) (m 115) (m 94 57) (m 94 56) (m 99) (m 100) (xRo aa ix ob) from by first | (unfold xRo; rw [qIf_n (Sl_n (Or.inl (by omega)))]; exact r_MG; done) | (unfold xRo; rw [qIf_n (Sl_n (Or.inr (by omega)))]; exact r_MG; done) | (exfalso; omega; done) | (exfalso; contradiction; done)) (show (xRo aa ix ob) 87 8 = (m 94 58) from by first | (unfold xRo; rw [qIf_n (Sl_n (Or.inl (by omega)))]; exact r_MK; done) | (unfold xRo; rw [qIf_n (Sl_n (Or.inr (by omega)))]; exact r_MK; done) | (exfalso; omega; done) | (exfalso; contradiction; done)) r_WTS (show (m 99) = (m 99) from by first | (exact rfl) | (exfalso; omega; done) | (exfalso; contradiction; done))
  · skip
    have g9 := i_nlt h6
    have li10 : (16 : Int32).toInt = 16 := rfl
    refine zd (fun (h11 : (16 : Int32) ≤ ix) => ?_) (fun (h11 : ¬ (16 : Int32) ≤ ix) => ?_)
    · skip
      have g12 := i_le h11
      have hV13 : zV (ma_u m 94 0 (1 : Int32)) := uf_94_0 hV
      exact K ((0 : Int32)) _ (zF_u zF_rfl rfl) hV13 r_W r_GW r_GU r_OW r_GG (show qRB (m 99) (m 100) (m 98) (m 101) (m 102) (m 103) (m 107) (m 108) (m 109) (m 111) (m 112) (m 113) (m 114) (m 94 55) (m 94 46) ro 0 0 0 1 (xRo aa ix ob) from by first | (unfold xRo; rw [qIf_n (Sl_n (Or.inl (by omega)))]; exact r_RB; done) | (unfold xRo; rw [qIf_n (Sl_n (Or.inr (by omega)))]; exact r_RB; done) | (exfalso; omega; done) | (exfalso; contradiction; done)) (show qI (xRo aa ix ob) from by first | (unfold xRo; rw [qIf_n (Sl_n (Or.inl (by omega)))]; exact r_QI; done) | (unfold xRo; rw [qIf_n (Sl_n (Or.inr (by omega)))]; exact r_QI; done) | (exfalso; omega; done) | (exfalso; contradiction; done)) (show qMG (m 94 58) (m 106) (m 115) (m 94 57) (m 94 56) (m 99) (m 100) (xRo aa ix ob) from by first | (unfold xRo; rw [qIf_n (Sl_n (Or.inl (by omega)))]; exact r_MG; done) | (unfold xRo; rw [qIf_n (Sl_n (Or.inr (by omega)))]; exact r_MG; done) | (exfalso; omega; done) | (exfalso; contradiction; done)) (show (xRo aa ix ob) 87 8 = (m 94 58) from by first | (unfold xRo; rw [qIf_n (Sl_n (Or.inl (by omega)))]; exact r_MK; done) | (unfold xRo; rw [qIf_n (Sl_n (Or.inr (by omega)))]; exact r_MK; done) | (exfalso; omega; done) | (exfalso; contradiction; done)) r_WTS (show (m 99) = (m 99) from by first | (exact rfl) | (exfalso; omega; done) | (exfalso; contradiction; done))
    · skip
      have g14 := i_nle h11
      refine zd (fun (h15 : (m 94 8) = (0 : Int32)) => ?_) (fun (h15 : ¬ (m 94 8) = (0 : Int32)) => ?_)
      · skip
        have g16 := i_eq h15
        exfalso; omega
      · skip
        have g17 := i_ne h15
        have b18 := i_bd ob
        have li19 : (-1 : Int32).toInt = -1 := rfl
        refine zd (fun (h20 : ob = (-1 : Int32)) => ?_) (fun (h20 : ¬ ob = (-1 : Int32)) => ?_)
        · skip
          have g21 := i_eq h20
          refine zd (fun (h22 : ob = (-1 : Int32)) => ?_) (fun (h22 : ¬ ob = (-1 : Int32)) => ?_)
          · skip
            have g23 := i_eq h22
            have hg24 : (0 ≤ ix ∧ ix.toNatClampNeg < 16) := i_ix (by omega) (by omega)
            refine ⟨hg24, ?_⟩
            first | have f25 : -1 ≤ (m 112 ix.toNatClampNeg).toInt ∧ (m 112 ix.toNatClampNeg).toInt ≤ 3099 := ra_112 (m := m) hV (k := ix.toNatClampNeg) (i_ix (n := 16) (by omega) (by omega)).2 | have b26 := i_bd (m 112 ix.toNatClampNeg)
            refine zd (fun (h27 : (0 : Int32) ≤ (m 112 ix.toNatClampNeg)) => ?_) (fun (h27 : ¬ (0 : Int32) ≤ (m 112 ix.toNatClampNeg)) => ?_)
            · skip
              have g28 := i_le h27
              have hg29 : (0 ≤ (m 112 ix.toNatClampNeg) ∧ (m 112 ix.toNatClampNeg).toNatClampNeg < 3100) := i_ix (by omega) (by omega)
              refine ⟨hg29, ?_⟩
              have hV30 : zV (ma_u m 94 0 (0 : Int32)) := uf_94_0 hV
              have hV31 : zV (ma_u (ma_u m 94 0 (0 : Int32)) 94 0 (0 : Int32)) := uf_94_0 hV30
              refine sp_238ry (aa := aa) (ix) ((-1 : Int32)) hV31 (by omega) (by omega) (by omega) (by omega) (show (m 94 10).toInt = 3 ∧ (m 94 58).toInt = 0 from by omega) r_W r_GW r_GU r_OW r_GG r_RB r_QI r_MG r_MK r_WTS (show qU (m 99) (-1 : Int32) from by first | (exact As_u (As_n (us := (m 99)) (nr := (m 100)) (a := aa) (o := ob) (by assumption))) | (assumption; done) | (exact ow5.1) | (exact ow3.1) | (exfalso; omega; done) | (exfalso; contradiction; done)) (show qMS (m 94 58) aa (qNo (m 100) (-1 : Int32)) from by first | (exact As_s (As_n (us := (m 99)) (nr := (m 100)) (a := aa) (o := ob) (by assumption)) r_MG r_QI) | (exfalso; omega; done) | (exfalso; contradiction; done)) (fun m11 hV_m11 p0_m11 p1_m11 p2_m11 p3_m11 p4_m11 p5_m11 p6_m11 p7_m11 p8_m11 p9_m11 => zmv_n ?_)
              have p0_m11 : zGW T (m11 94 55) (m11 109) := p0_m11
              have p1_m11 : zGU T (m 94 46) (m11 99) := p1_m11
              have p2_m11 : zOw (m11 99) (m 103) (m11 111) := p2_m11
              have p3_m11 : zGG (m 94 58) (m11 94 56) (m 94 57) (m11 106) := p3_m11
              have p4_m11 : qRB (m11 99) (m 100) (m 98) (m 101) (m 102) (m 103) (m 107) (m 108) (m11 109) (m11 111) (m11 112) (m11 113) (m11 114) (m11 94 55) (m 94 46) ro 0 0 0 1 (aRt aa ix (qNo (m 100) (-1 : Int32))) := p4_m11
              have p5_m11 : qI (aRt aa ix (qNo (m 100) (-1 : Int32))) := p5_m11
              have p6_m11 : qMG (m 94 58) (m11 106) (m11 115) (m 94 57) (m11 94 56) (m11 99) (m 100) (aRt aa ix (qNo (m 100) (-1 : Int32))) := p6_m11
              have p7_m11 : (aRt aa ix (qNo (m 100) (-1 : Int32))) 87 8 = (m 94 58) := p7_m11
              have p8_m11 : (m11 94 45).toInt = sm (zbU (m11 99)) (m 102) 3100 := p8_m11
              have p9_m11 : (m11 99) = (m 99) := p9_m11
              first | have f32 : 0 ≤ (m 100 (m 112 ix.toNatClampNeg).toNatClampNeg).toInt ∧ (m 100 (m 112 ix.toNatClampNeg).toNatClampNeg).toInt ≤ 100000 := ra_100 (m := m) hV (k := (m 112 ix.toNatClampNeg).toNatClampNeg) (i_ix (n := 3100) (by omega) (by omega)).2 | have b33 := i_bd (m 100 (m 112 ix.toNatClampNeg).toNatClampNeg)
              exact K ((m 100 (m 112 ix.toNatClampNeg).toNatClampNeg)) _ (zF_zov (zF_u (zF_u zF_rfl rfl) rfl) ws_238_250) hV_m11 r_W p0_m11 p1_m11 p2_m11 p3_m11 (show qRB (m11 99) (m 100) (m 98) (m 101) (m 102) (m 103) (m 107) (m 108) (m11 109) (m11 111) (m11 112) (m11 113) (m11 114) (m11 94 55) (m 94 46) ro 0 0 0 1 (xRo aa ix ob) from by first | (rw [Ro_y (by omega) (by omega) (As_n (us := (m 99)) (nr := (m 100)) (a := aa) (o := ob) (by assumption))]; exact p4_m11; done) | (exfalso; omega; done) | (exfalso; contradiction; done)) (show qI (xRo aa ix ob) from by first | (rw [Ro_y (by omega) (by omega) (As_n (us := (m 99)) (nr := (m 100)) (a := aa) (o := ob) (by assumption))]; exact p5_m11; done) | (exfalso; omega; done) | (exfalso; contradiction; done)) (show qMG (m 94 58) (m11 106) (m11 115) (m 94 57) (m11 94 56) (m11 99) (m 100) (xRo aa ix ob) from by first | (rw [Ro_y (by omega) (by omega) (As_n (us := (m 99)) (nr := (m 100)) (a := aa) (o := ob) (by assumption))]; exact p6_m11; done) | (exfalso; omega; done) | (exfalso; contradiction; done)) (show (xRo aa ix ob) 87 8 = (m 94 58) from by first | (rw [Ro_y (by omega) (by omega) (As_n (us := (m 99)) (nr := (m 100)) (a := aa) (o := ob) (by assumption))]; exact p7_m11; done) | (exfalso; omega; done) | (exfalso; contradiction; done)) p8_m11 p9_m11
            · skip
              have g34 := i_nle h27
              have hV35 : zV (ma_u m 94 0 (0 : Int32)) := uf_94_0 hV
              have hV36 : zV (ma_u (ma_u m 94 0 (0 : Int32)) 94 0 (0 : Int32)) := uf_94_0 hV35
              refine sp_238ry (aa := aa) (ix) ((-1 : Int32)) hV36 (by omega) (by omega) (by omega) (by omega) (show (m 94 10).toInt = 3 ∧ (m 94 58).toInt = 0 from by omega) r_W r_GW r_GU r_OW r_GG r_RB r_QI r_MG r_MK r_WTS (show qU (m 99) (-1 : Int32) from by first | (exact As_u (As_n (us := (m 99)) (nr := (m 100)) (a := aa) (o := ob) (by assumption))) | (assumption; done) | (exact ow5.1) | (exact ow3.1) | (exfalso; omega; done) | (exfalso; contradiction; done)) (show qMS (m 94 58) aa (qNo (m 100) (-1 : Int32)) from by first | (exact As_s (As_n (us := (m 99)) (nr := (m 100)) (a := aa) (o := ob) (by assumption)) r_MG r_QI) | (exfalso; omega; done) | (exfalso; contradiction; done)) (fun m13 hV_m13 p0_m13 p1_m13 p2_m13 p3_m13 p4_m13 p5_m13 p6_m13 p7_m13 p8_m13 p9_m13 => zmv_n ?_)
              have p0_m13 : zGW T (m13 94 55) (m13 109) := p0_m13
              have p1_m13 : zGU T (m 94 46) (m13 99) := p1_m13
              have p2_m13 : zOw (m13 99) (m 103) (m13 111) := p2_m13
              have p3_m13 : zGG (m 94 58) (m13 94 56) (m 94 57) (m13 106) := p3_m13
              have p4_m13 : qRB (m13 99) (m 100) (m 98) (m 101) (m 102) (m 103) (m 107) (m 108) (m13 109) (m13 111) (m13 112) (m13 113) (m13 114) (m13 94 55) (m 94 46) ro 0 0 0 1 (aRt aa ix (qNo (m 100) (-1 : Int32))) := p4_m13
              have p5_m13 : qI (aRt aa ix (qNo (m 100) (-1 : Int32))) := p5_m13
              have p6_m13 : qMG (m 94 58) (m13 106) (m13 115) (m 94 57) (m13 94 56) (m13 99) (m 100) (aRt aa ix (qNo (m 100) (-1 : Int32))) := p6_m13
              have p7_m13 : (aRt aa ix (qNo (m 100) (-1 : Int32))) 87 8 = (m 94 58) := p7_m13
              have p8_m13 : (m13 94 45).toInt = sm (zbU (m13 99)) (m 102) 3100 := p8_m13
              have p9_m13 : (m13 99) = (m 99) := p9_m13
              exact K ((-1 : Int32)) _ (zF_zov (zF_u (zF_u zF_rfl rfl) rfl) ws_238_250) hV_m13 r_W p0_m13 p1_m13 p2_m13 p3_m13 (show qRB (m13 99) (m 100) (m 98) (m 101) (m 102) (m 103) (m 107) (m 108) (m13 109) (m13 111) (m13 112) (m13 113) (m13 114) (m13 94 55) (m 94 46) ro 0 0 0 1 (xRo aa ix ob) from by first | (rw [Ro_y (by omega) (by omega) (As_n (us := (m 99)) (nr := (m 100)) (a := aa) (o := ob) (by assumption))]; exact p4_m13; done) | (exfalso; omega; done) | (exfalso; contradiction; done)) (show qI (xRo aa ix ob) from by first | (rw [Ro_y (by omega) (by omega) (As_n (us := (m 99)) (nr := (m 100)) (a := aa) (o := ob) (by assumption))]; exact p5_m13; done) | (exfalso; omega; done) | (exfalso; contradiction; done)) (show qMG (m 94 58) (m13 106) (m13 115) (m 94 57) (m13 94 56) (m13 99) (m 100) (xRo aa ix ob) from by first | (rw [Ro_y (by omega) (by omega) (As_n (us := (m 99)) (nr := (m 100)) (a := aa) (o := ob) (by assumption))]; exact p6_m13; done) | (exfalso; omega; done) | (exfalso; contradiction; done)) (show (xRo aa ix ob) 87 8 = (m 94 58) from by first | (rw [Ro_y (by omega) (by omega) (As_n (us := (m 99)) (nr := (m 100)) (a := aa) (o := ob) (by assumption))]; exact p7_m13; done) | (exfalso; omega; done) | (exfalso; contradiction; done)) p8_m13 p9_m13
          · skip
            have g37 := i_ne h22
            have hV38 : zV (ma_u m 94 0 (0 : Int32)) := uf_94_0 hV
            have hV39 : zV (ma_u (ma_u m 94 0 (0 : Int32)) 94 0 (3 : Int32)) := uf_94_0 hV38
            exact K ((0 : Int32)) _ (zF_u (zF_u zF_rfl rfl) rfl) hV39 r_W r_GW r_GU r_OW r_GG (show qRB (m 99) (m 100) (m 98) (m 101) (m 102) (m 103) (m 107) (m 108) (m 109) (m 111) (m 112) (m 113) (m 114) (m 94 55) (m 94 46) ro 0 0 0 1 (xRo aa ix ob) from by first | (unfold xRo; rw [qIf_n (Sl_n (Or.inl (by omega)))]; exact r_RB; done) | (unfold xRo; rw [qIf_n (Sl_n (Or.inr (by omega)))]; exact r_RB; done) | (exfalso; omega; done) | (exfalso; contradiction; done)) (show qI (xRo aa ix ob) from by first | (unfold xRo; rw [qIf_n (Sl_n (Or.inl (by omega)))]; exact r_QI; done) | (unfold xRo; rw [qIf_n (Sl_n (Or.inr (by omega)))]; exact r_QI; done) | (exfalso; omega; done) | (exfalso; contradiction; done)) (show qMG (m 94 58) (m 106) (m 115) (m 94 57) (m 94 56) (m 99) (m 100) (xRo aa ix ob) from by first | (unfold xRo; rw [qIf_n (Sl_n (Or.inl (by omega)))]; exact r_MG; done) | (unfold xRo; rw [qIf_n (Sl_n (Or.inr (by omega)))]; exact r_MG; done) | (exfalso; omega; done) | (exfalso; contradiction; done)) (show (xRo aa ix ob) 87 8 = (m 94 58) from by first | (unfold xRo; rw [qIf_n (Sl_n (Or.inl (by omega)))]; exact r_MK; done) | (unfold xRo; rw [qIf_n (Sl_n (Or.inr (by omega)))]; exact r_MK; done) | (exfalso; omega; done) | (exfalso; contradiction; done)) r_WTS (show (m 99) = (m 99) from by first | (exact rfl) | (exfalso; omega; done) | (exfalso; contradiction; done))
        · skip
          have g40 := i_ne h20
          have hV41 : zV (ma_u m 94 0 (0 : Int32)) := uf_94_0 hV
          refine sp_245rm (aa := aa) (ob) hV41 r_W r_RB r_QI (fun v2 m1 hV_m1 p0_m1 p1_m1 p2_m1 => zmi_n ?_)
          have p0_m1 : -1 ≤ v2.toInt ∧ v2.toInt ≤ 3099 := p0_m1
          have p1_m1 : v2.toInt < 0 ∨ (m 99) v2.toNatClampNeg ≠ 0 := p1_m1
          have p2_m1 : qRe (m 99) (m 100) aa ob v2 := p2_m1
          refine zd (fun (h42 : ob = (-1 : Int32)) => ?_) (fun (h42 : ¬ ob = (-1 : Int32)) => ?_)
          · skip
            have g43 := i_eq h42
            have hg44 : (0 ≤ ix ∧ ix.toNatClampNeg < 16) := i_ix (by omega) (by omega)
            refine ⟨hg44, ?_⟩
            first | have f45 : -1 ≤ (m 112 ix.toNatClampNeg).toInt ∧ (m 112 ix.toNatClampNeg).toInt ≤ 3099 := ra_112 (m := m) hV (k := ix.toNatClampNeg) (i_ix (n := 16) (by omega) (by omega)).2 | have b46 := i_bd (m 112 ix.toNatClampNeg)
            refine zd (fun (h47 : (0 : Int32) ≤ (m 112 ix.toNatClampNeg)) => ?_) (fun (h47 : ¬ (0 : Int32) ≤ (m 112 ix.toNatClampNeg)) => ?_)
            · skip
              have g48 := i_le h47
              have hg49 : (0 ≤ (m 112 ix.toNatClampNeg) ∧ (m 112 ix.toNatClampNeg).toNatClampNeg < 3100) := i_ix (by omega) (by omega)
              refine ⟨hg49, ?_⟩
              have b50 := i_bd v2
              have hV51 : zV (ma_u (zov wr_245 (ma_u m 94 0 (0 : Int32)) m1) 94 0 (0 : Int32)) := uf_94_0 hV_m1
              refine sp_238ry (aa := aa) (ix) (v2) hV51 (by omega) (by omega) (by omega) (by omega) (show (m 94 10).toInt = 3 ∧ (m 94 58).toInt = 0 from by omega) r_W r_GW r_GU r_OW r_GG r_RB r_QI r_MG r_MK r_WTS (show qU (m 99) v2 from by first | (exact As_u (As_y p2_m1 (by omega))) | (assumption; done) | (exact ow5.1) | (exact ow3.1) | (exfalso; omega; done) | (exfalso; contradiction; done)) (show qMS (m 94 58) aa (qNo (m 100) v2) from by first | (exact As_s (As_y p2_m1 (by omega)) r_MG r_QI) | (exfalso; omega; done) | (exfalso; contradiction; done)) (fun m3 hV_m3 p0_m3 p1_m3 p2_m3 p3_m3 p4_m3 p5_m3 p6_m3 p7_m3 p8_m3 p9_m3 => zmv_n ?_)
              have p0_m3 : zGW T (m3 94 55) (m3 109) := p0_m3
              have p1_m3 : zGU T (m 94 46) (m3 99) := p1_m3
              have p2_m3 : zOw (m3 99) (m 103) (m3 111) := p2_m3
              have p3_m3 : zGG (m 94 58) (m3 94 56) (m 94 57) (m3 106) := p3_m3
              have p4_m3 : qRB (m3 99) (m 100) (m 98) (m 101) (m 102) (m 103) (m 107) (m 108) (m3 109) (m3 111) (m3 112) (m3 113) (m3 114) (m3 94 55) (m 94 46) ro 0 0 0 1 (aRt aa ix (qNo (m 100) v2)) := p4_m3
              have p5_m3 : qI (aRt aa ix (qNo (m 100) v2)) := p5_m3
              have p6_m3 : qMG (m 94 58) (m3 106) (m3 115) (m 94 57) (m3 94 56) (m3 99) (m 100) (aRt aa ix (qNo (m 100) v2)) := p6_m3
              have p7_m3 : (aRt aa ix (qNo (m 100) v2)) 87 8 = (m 94 58) := p7_m3
              have p8_m3 : (m3 94 45).toInt = sm (zbU (m3 99)) (m 102) 3100 := p8_m3
              have p9_m3 : (m3 99) = (m 99) := p9_m3
              first | have f52 : 0 ≤ (m 100 (m 112 ix.toNatClampNeg).toNatClampNeg).toInt ∧ (m 100 (m 112 ix.toNatClampNeg).toNatClampNeg).toInt ≤ 100000 := ra_100 (m := m) hV (k := (m 112 ix.toNatClampNeg).toNatClampNeg) (i_ix (n := 3100) (by omega) (by omega)).2 | have b53 := i_bd (m 100 (m 112 ix.toNatClampNeg).toNatClampNeg)
              exact K ((m 100 (m 112 ix.toNatClampNeg).toNatClampNeg)) _ (zF_zov (zF_u (zF_zov (zF_u zF_rfl rfl) ws_245_250) rfl) ws_238_250) hV_m3 r_W p0_m3 p1_m3 p2_m3 p3_m3 (show qRB (m3 99) (m 100) (m 98) (m 101) (m 102) (m 103) (m 107) (m 108) (m3 109) (m3 111) (m3 112) (m3 113) (m3 114) (m3 94 55) (m 94 46) ro 0 0 0 1 (xRo aa ix ob) from by first | (rw [Ro_y (by omega) (by omega) (As_y p2_m1 (by omega))]; exact p4_m3; done) | (exfalso; omega; done) | (exfalso; contradiction; done)) (show qI (xRo aa ix ob) from by first | (rw [Ro_y (by omega) (by omega) (As_y p2_m1 (by omega))]; exact p5_m3; done) | (exfalso; omega; done) | (exfalso; contradiction; done)) (show qMG (m 94 58) (m3 106) (m3 115) (m 94 57) (m3 94 56) (m3 99) (m 100) (xRo aa ix ob) from by first | (rw [Ro_y (by omega) (by omega) (As_y p2_m1 (by omega))]; exact p6_m3; done) | (exfalso; omega; done) | (exfalso; contradiction; done)) (show (xRo aa ix ob) 87 8 = (m 94 58) from by first | (rw [Ro_y (by omega) (by omega) (As_y p2_m1 (by omega))]; exact p7_m3; done) | (exfalso; omega; done) | (exfalso; contradiction; done)) p8_m3 p9_m3
            · skip
              have g54 := i_nle h47
              have b55 := i_bd v2
              have hV56 : zV (ma_u (zov wr_245 (ma_u m 94 0 (0 : Int32)) m1) 94 0 (0 : Int32)) := uf_94_0 hV_m1
              refine sp_238ry (aa := aa) (ix) (v2) hV56 (by omega) (by omega) (by omega) (by omega) (show (m 94 10).toInt = 3 ∧ (m 94 58).toInt = 0 from by omega) r_W r_GW r_GU r_OW r_GG r_RB r_QI r_MG r_MK r_WTS (show qU (m 99) v2 from by first | (exact As_u (As_y p2_m1 (by omega))) | (assumption; done) | (exact ow5.1) | (exact ow3.1) | (exfalso; omega; done) | (exfalso; contradiction; done)) (show qMS (m 94 58) aa (qNo (m 100) v2) from by first | (exact As_s (As_y p2_m1 (by omega)) r_MG r_QI) | (exfalso; omega; done) | (exfalso; contradiction; done)) (fun m5 hV_m5 p0_m5 p1_m5 p2_m5 p3_m5 p4_m5 p5_m5 p6_m5 p7_m5 p8_m5 p9_m5 => zmv_n ?_)
              have p0_m5 : zGW T (m5 94 55) (m5 109) := p0_m5
              have p1_m5 : zGU T (m 94 46) (m5 99) := p1_m5
              have p2_m5 : zOw (m5 99) (m 103) (m5 111) := p2_m5
              have p3_m5 : zGG (m 94 58) (m5 94 56) (m 94 57) (m5 106) := p3_m5
              have p4_m5 : qRB (m5 99) (m 100) (m 98) (m 101) (m 102) (m 103) (m 107) (m 108) (m5 109) (m5 111) (m5 112) (m5 113) (m5 114) (m5 94 55) (m 94 46) ro 0 0 0 1 (aRt aa ix (qNo (m 100) v2)) := p4_m5
              have p5_m5 : qI (aRt aa ix (qNo (m 100) v2)) := p5_m5
              have p6_m5 : qMG (m 94 58) (m5 106) (m5 115) (m 94 57) (m5 94 56) (m5 99) (m 100) (aRt aa ix (qNo (m 100) v2)) := p6_m5
              have p7_m5 : (aRt aa ix (qNo (m 100) v2)) 87 8 = (m 94 58) := p7_m5
              have p8_m5 : (m5 94 45).toInt = sm (zbU (m5 99)) (m 102) 3100 := p8_m5
              have p9_m5 : (m5 99) = (m 99) := p9_m5
              exact K ((-1 : Int32)) _ (zF_zov (zF_u (zF_zov (zF_u zF_rfl rfl) ws_245_250) rfl) ws_238_250) hV_m5 r_W p0_m5 p1_m5 p2_m5 p3_m5 (show qRB (m5 99) (m 100) (m 98) (m 101) (m 102) (m 103) (m 107) (m 108) (m5 109) (m5 111) (m5 112) (m5 113) (m5 114) (m5 94 55) (m 94 46) ro 0 0 0 1 (xRo aa ix ob) from by first | (rw [Ro_y (by omega) (by omega) (As_y p2_m1 (by omega))]; exact p4_m5; done) | (exfalso; omega; done) | (exfalso; contradiction; done)) (show qI (xRo aa ix ob) from by first | (rw [Ro_y (by omega) (by omega) (As_y p2_m1 (by omega))]; exact p5_m5; done) | (exfalso; omega; done) | (exfalso; contradiction; done)) (show qMG (m 94 58) (m5 106) (m5 115) (m 94 57) (m5 94 56) (m5 99) (m 100) (xRo aa ix ob) from by first | (rw [Ro_y (by omega) (by omega) (As_y p2_m1 (by omega))]; exact p6_m5; done) | (exfalso; omega; done) | (exfalso; contradiction; done)) (show (xRo aa ix ob) 87 8 = (m 94 58) from by first | (rw [Ro_y (by omega) (by omega) (As_y p2_m1 (by omega))]; exact p7_m5; done) | (exfalso; omega; done) | (exfalso; contradiction; done)) p8_m5 p9_m5
          · skip
            have g57 := i_ne h42
            have b58 := i_bd v2
            refine zd (fun (h59 : (0 : Int32) ≤ v2) => ?_) (fun (h59 : ¬ (0 : Int32) ≤ v2) => ?_)
            · skip
              have g60 := i_le h59
              have hg61 : (0 ≤ ix ∧ ix.toNatClampNeg < 16) := i_ix (by omega) (by omega)
              refine ⟨hg61, ?_⟩
              first | have f62 : -1 ≤ (m 112 ix.toNatClampNeg).toInt ∧ (m 112 ix.toNatClampNeg).toInt ≤ 3099 := ra_112 (m := m) hV (k := ix.toNatClampNeg) (i_ix (n := 16) (by omega) (by omega)).2 | have b63 := i_bd (m 112 ix.toNatClampNeg)
              refine zd (fun (h64 : (0 : Int32) ≤ (m 112 ix.toNatClampNeg)) => ?_) (fun (h64 : ¬ (0 : Int32) ≤ (m 112 ix.toNatClampNeg)) => ?_)
              · skip
                have g65 := i_le h64
                have hg66 : (0 ≤ (m 112 ix.toNatClampNeg) ∧ (m 112 ix.toNatClampNeg).toNatClampNeg < 3100) := i_ix (by omega) (by omega)
                refine ⟨hg66, ?_⟩
                have hV67 : zV (ma_u (zov wr_245 (ma_u m 94 0 (0 : Int32)) m1) 94 0 (0 : Int32)) := uf_94_0 hV_m1
                refine sp_238ry (aa := aa) (ix) (v2) hV67 (by omega) (by omega) (by omega) (by omega) (show (m 94 10).toInt = 3 ∧ (m 94 58).toInt = 0 from by omega) r_W r_GW r_GU r_OW r_GG r_RB r_QI r_MG r_MK r_WTS (show qU (m 99) v2 from by first | (exact As_u (As_y p2_m1 (by omega))) | (assumption; done) | (exact ow5.1) | (exact ow3.1) | (exfalso; omega; done) | (exfalso; contradiction; done)) (show qMS (m 94 58) aa (qNo (m 100) v2) from by first | (exact As_s (As_y p2_m1 (by omega)) r_MG r_QI) | (exfalso; omega; done) | (exfalso; contradiction; done)) (fun m7 hV_m7 p0_m7 p1_m7 p2_m7 p3_m7 p4_m7 p5_m7 p6_m7 p7_m7 p8_m7 p9_m7 => zmv_n ?_)
                have p0_m7 : zGW T (m7 94 55) (m7 109) := p0_m7
                have p1_m7 : zGU T (m 94 46) (m7 99) := p1_m7
                have p2_m7 : zOw (m7 99) (m 103) (m7 111) := p2_m7
                have p3_m7 : zGG (m 94 58) (m7 94 56) (m 94 57) (m7 106) := p3_m7
                have p4_m7 : qRB (m7 99) (m 100) (m 98) (m 101) (m 102) (m 103) (m 107) (m 108) (m7 109) (m7 111) (m7 112) (m7 113) (m7 114) (m7 94 55) (m 94 46) ro 0 0 0 1 (aRt aa ix (qNo (m 100) v2)) := p4_m7
                have p5_m7 : qI (aRt aa ix (qNo (m 100) v2)) := p5_m7
                have p6_m7 : qMG (m 94 58) (m7 106) (m7 115) (m 94 57) (m7 94 56) (m7 99) (m 100) (aRt aa ix (qNo (m 100) v2)) := p6_m7
                have p7_m7 : (aRt aa ix (qNo (m 100) v2)) 87 8 = (m 94 58) := p7_m7
                have p8_m7 : (m7 94 45).toInt = sm (zbU (m7 99)) (m 102) 3100 := p8_m7
                have p9_m7 : (m7 99) = (m 99) := p9_m7
                first | have f68 : 0 ≤ (m 100 (m 112 ix.toNatClampNeg).toNatClampNeg).toInt ∧ (m 100 (m 112 ix.toNatClampNeg).toNatClampNeg).toInt ≤ 100000 := ra_100 (m := m) hV (k := (m 112 ix.toNatClampNeg).toNatClampNeg) (i_ix (n := 3100) (by omega) (by omega)).2 | have b69 := i_bd (m 100 (m 112 ix.toNatClampNeg).toNatClampNeg)
                exact K ((m 100 (m 112 ix.toNatClampNeg).toNatClampNeg)) _ (zF_zov (zF_u (zF_zov (zF_u zF_rfl rfl) ws_245_250) rfl) ws_238_250) hV_m7 r_W p0_m7 p1_m7 p2_m7 p3_m7 (show qRB (m7 99) (m 100) (m 98) (m 101) (m 102) (m 103) (m 107) (m 108) (m7 109) (m7 111) (m7 112) (m7 113) (m7 114) (m7 94 55) (m 94 46) ro 0 0 0 1 (xRo aa ix ob) from by first | (rw [Ro_y (by omega) (by omega) (As_y p2_m1 (by omega))]; exact p4_m7; done) | (exfalso; omega; done) | (exfalso; contradiction; done)) (show qI (xRo aa ix ob) from by first | (rw [Ro_y (by omega) (by omega) (As_y p2_m1 (by omega))]; exact p5_m7; done) | (exfalso; omega; done) | (exfalso; contradiction; done)) (show qMG (m 94 58) (m7 106) (m7 115) (m 94 57) (m7 94 56) (m7 99) (m 100) (xRo aa ix ob) from by first | (rw [Ro_y (by omega) (by omega) (As_y p2_m1 (by omega))]; exact p6_m7; done) | (exfalso; omega; done) | (exfalso; contradiction; done)) (show (xRo aa ix ob) 87 8 = (m 94 58) from by first | (rw [Ro_y (by omega) (by omega) (As_y p2_m1 (by omega))]; exact p7_m7; done) | (exfalso; omega; done) | (exfalso; contradiction; done)) p8_m7 p9_m7
              · skip
                have g70 := i_nle h64
                have hV71 : zV (ma_u (zov wr_245 (ma_u m 94 0 (0 : Int32)) m1) 94 0 (0 : Int32)) := uf_94_0 hV_m1
                refine sp_238ry (aa := aa) (ix) (v2) hV71 (by omega) (by omega) (by omega) (by omega) (show (m 94 10).toInt = 3 ∧ (m 94 58).toInt = 0 from by omega) r_W r_GW r_GU r_OW r_GG r_RB r_QI r_MG r_MK r_WTS (show qU (m 99) v2 from by first | (exact As_u (As_y p2_m1 (by omega))) | (assumption; done) | (exact ow5.1) | (exact ow3.1) | (exfalso; omega; done) | (exfalso; contradiction; done)) (show qMS (m 94 58) aa (qNo (m 100) v2) from by first | (exact As_s (As_y p2_m1 (by omega)) r_MG r_QI) | (exfalso; omega; done) | (exfalso; contradiction; done)) (fun m9 hV_m9 p0_m9 p1_m9 p2_m9 p3_m9 p4_m9 p5_m9 p6_m9 p7_m9 p8_m9 p9_m9 => zmv_n ?_)
                have p0_m9 : zGW T (m9 94 55) (m9 109) := p0_m9
                have p1_m9 : zGU T (m 94 46) (m9 99) := p1_m9
                have p2_m9 : zOw (m9 99) (m 103) (m9 111) := p2_m9
                have p3_m9 : zGG (m 94 58) (m9 94 56) (m 94 57) (m9 106) := p3_m9
                have p4_m9 : qRB (m9 99) (m 100) (m 98) (m 101) (m 102) (m 103) (m 107) (m 108) (m9 109) (m9 111) (m9 112) (m9 113) (m9 114) (m9 94 55) (m 94 46) ro 0 0 0 1 (aRt aa ix (qNo (m 100) v2)) := p4_m9
                have p5_m9 : qI (aRt aa ix (qNo (m 100) v2)) := p5_m9
                have p6_m9 : qMG (m 94 58) (m9 106) (m9 115) (m 94 57) (m9 94 56) (m9 99) (m 100) (aRt aa ix (qNo (m 100) v2)) := p6_m9
                have p7_m9 : (aRt aa ix (qNo (m 100) v2)) 87 8 = (m 94 58) := p7_m9
                have p8_m9 : (m9 94 45).toInt = sm (zbU (m9 99)) (m 102) 3100 := p8_m9
                have p9_m9 : (m9 99) = (m 99) := p9_m9
                exact K ((-1 : Int32)) _ (zF_zov (zF_u (zF_zov (zF_u zF_rfl rfl) ws_245_250) rfl) ws_238_250) hV_m9 r_W p0_m9 p1_m9 p2_m9 p3_m9 (show qRB (m9 99) (m 100) (m 98) (m 101) (m 102) (m 103) (m 107) (m 108) (m9 109) (m9 111) (m9 112) (m9 113) (m9 114) (m9 94 55) (m 94 46) ro 0 0 0 1 (xRo aa ix ob) from by first | (rw [Ro_y (by omega) (by omega) (As_y p2_m1 (by omega))]; exact p4_m9; done) | (exfalso; omega; done) | (exfalso; contradiction; done)) (show qI (xRo aa ix ob) from by first | (rw [Ro_y (by omega) (by omega) (As_y p2_m1 (by omega))]; exact p5_m9; done) | (exfalso; omega; done) | (exfalso; contradiction; done)) (show qMG (m 94 58) (m9 106) (m9 115) (m 94 57) (m9 94 56) (m9 99) (m 100) (xRo aa ix ob) from by first | (rw [Ro_y (by omega) (by omega) (As_y p2_m1 (by omega))]; exact p6_m9; done) | (exfalso; omega; done) | (exfalso; contradiction; done)) (show (xRo aa ix ob) 87 8 = (m 94 58) from by first | (rw [Ro_y (by omega) (by omega) (As_y p2_m1 (by omega))]; exact p7_m9; done) | (exfalso; omega; done) | (exfalso; contradiction; done)) p8_m9 p9_m9
            · skip
              have g72 := i_nle h59
              have hV73 : zV (ma_u (zov wr_245 (ma_u m 94 0 (0 : Int32)) m1) 94 0 (3 : Int32)) := uf_94_0 hV_m1
              exact K ((0 : Int32)) _ (zF_u (zF_zov (zF_u zF_rfl rfl) ws_245_250) rfl) hV73 r_W r_GW r_GU r_OW r_GG (show qRB (m 99) (m 100) (m 98) (m 101) (m 102) (m 103) (m 107) (m 108) (m 109) (m 111) (m 112) (m 113) (m 114) (m 94 55) (m 94 46) ro 0 0 0 1 (xRo aa ix ob) from by first | (unfold xRo; rw [qIf_n (Sl_n (Or.inl (by omega)))]; exact r_RB; done) | (unfold xRo; rw [qIf_n (Sl_n (Or.inr (by omega)))]; exact r_RB; done) | (unfold xRo; rw [qIf_n (Sl_r (by assumption) (Re_n p2_m1 (by omega)))]; exact r_RB; done) | (exfalso; omega; done) | (exfalso; contradiction; done)) (show qI (xRo aa ix ob) from by first | (unfold xRo; rw [qIf_n (Sl_n (Or.inl (by omega)))]; exact r_QI; done) | (unfold xRo; rw [qIf_n (Sl_n (Or.inr (by omega)))]; exact r_QI; done) | (unfold xRo; rw [qIf_n (Sl_r (by assumption) (Re_n p2_m1 (by omega)))]; exact r_QI; done) | (exfalso; omega; done) | (exfalso; contradiction; done)) (show qMG (m 94 58) (m 106) (m 115) (m 94 57) (m 94 56) (m 99) (m 100) (xRo aa ix ob) from by first | (unfold xRo; rw [qIf_n (Sl_n (Or.inl (by omega)))]; exact r_MG; done) | (unfold xRo; rw [qIf_n (Sl_n (Or.inr (by omega)))]; exact r_MG; done) | (unfold xRo; rw [qIf_n (Sl_r (by assumption) (Re_n p2_m1 (by omega)))]; exact r_MG; done) | (exfalso; omega; done) | (exfalso; contradiction; done)) (show (xRo aa ix ob) 87 8 = (m 94 58) from by first | (unfold xRo; rw [qIf_n (Sl_n (Or.inl (by omega)))]; exact r_MK; done) | (unfold xRo; rw [qIf_n (Sl_n (Or.inr (by omega)))]; exact r_MK; done) | (unfold xRo; rw [qIf_n (Sl_r (by assumption) (Re_n p2_m1 (by omega)))]; exact r_MK; done) | (exfalso; omega; done) | (exfalso; contradiction; done)) r_WTS (show (m 99) = (m 99) from by first | (exact rfl) | (exfalso; omega; done) | (exfalso; contradiction; done))

