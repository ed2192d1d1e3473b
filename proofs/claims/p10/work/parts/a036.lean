/-! from 95.o06 -/
/-! the reference under COUNTS (written by wip/tools/gen20s.py) -/
set_option maxHeartbeats 8000000 in
theorem sp_250r4 {X : Nat × (Nat → Int32)} {P : Option ma_V → (Nat → Nat → Int32) → Prop} {T : Nat} {aa : Nat→Nat→Int32} {B : Int} {m : Nat → Nat → Int32} (ix : Int32) (ob : Int32) (hV : zV m) (hpre0 : T ≤ 512) (hpre1 : B ≤ 1000000) (r_W : zW (m 94 7) (m 98) (m 101) (m 102) (m 108)) (r_GW : zGW T (m 94 55) (m 109)) (r_GU : zGU T (m 94 46) (m 99)) (r_OW : zOw (m 99) (m 103) (m 111)) (r_GG : zGG (m 94 58) (m 94 56) (m 94 57) (m 106)) (hpre7 : (m 94 10).toInt = 4 ∧ (m 94 58).toInt = 0) (hpre8 : (m 94 8).toInt = 1) (r_RB : qRB (m 99) (m 100) (m 98) (m 101) (m 102) (m 103) (m 107) (m 108) (m 109) (m 111) (m 112) (m 113) (m 114) (m 94 55) (m 94 46) (m 94 11) (m 94 12) (m 94 62) (m 94 17) (m 94 9) aa) (r_QI : qI aa) (r_MK : aa 87 8 = (m 94 58)) (r_WTS : (m 94 45).toInt = sm (zbU (m 99)) (m 102) 3100) (r_VV : cV aa [] B) (r_CT : qCt (m 105) (m 99) (m 100) aa [] (-1) (-1)) (KZ : ∀ v m₉, zV (zov wr_250 m m₉) → (zW (m 94 7) (m 98) (m 101) (m 102) (m 108)) → (zGW T (m₉ 94 55) (m₉ 109)) → (zGU T (m 94 46) (m₉ 99)) → (zOw (m₉ 99) (m 103) (m₉ 111)) → (zGG (m 94 58) (m₉ 94 56) (m 94 57) (m₉ 106)) → ((m₉ 94 45).toInt = sm (zbU (m₉ 99)) (m 102) 3100) → (qRB (m₉ 99) (m 100) (m 98) (m 101) (m 102) (m 103) (m 107) (m 108) (m₉ 109) (m₉ 111) (m₉ 112) (m₉ 113) (m₉ 114) (m₉ 94 55) (m 94 46) (m 94 11) (m 94 12) (m 94 62) (m 94 17) (m 94 9) (kRo aa ix ob)) → (qI (kRo aa ix ob)) → ((kRo aa ix ob) 87 8 = (m 94 58)) → (cV (kRo aa ix ob) [] B) → (qCt (m₉ 105) (m₉ 99) (m 100) (kRo aa ix ob) [] (-1) (-1)) → P (some (.inl v)) (zov wr_250 m m₉)) : zm X 5 111 250 0 [(0, .inr (.inr (some 94))), (1, .inl ix), (2, .inl ob)] m P := by
  have K : ∀ v m₉, zF wr_250 m m₉ → zV m₉ → (zW (m₉ 94 7) (m₉ 98) (m₉ 101) (m₉ 102) (m₉ 108)) → (zGW T (m₉ 94 55) (m₉ 109)) → (zGU T (m₉ 94 46) (m₉ 99)) → (zOw (m₉ 99) (m₉ 103) (m₉ 111)) → (zGG (m₉ 94 58) (m₉ 94 56) (m₉ 94 57) (m₉ 106)) → ((m₉ 94 45).toInt = sm (zbU (m₉ 99)) (m₉ 102) 3100) → (qRB (m₉ 99) (m₉ 100) (m₉ 98) (m₉ 101) (m₉ 102) (m₉ 103) (m₉ 107) (m₉ 108) (m₉ 109) (m₉ 111) (m₉ 112) (m₉ 113) (m₉ 114) (m₉ 94 55) (m₉ 94 46) (m₉ 94 11) (m₉ 94 12) (m₉ 94 62) (m₉ 94 17) (m₉ 94 9) (kRo aa ix ob)) → (qI (kRo aa ix ob)) → ((kRo aa ix ob) 87 8 = (m₉ 94 58)) → (cV (kRo aa ix ob) [] B) → (qCt (m₉ 105) (m₉ 99) (m₉ 100) (kRo aa ix ob) [] (-1) (-1)) → P (some (.inl v)) m₉ := by
    intro v m₉ hf z q0 q1 q2 q3 q4 q5 q6 q7 q8 q9 q10
    have e := zov_eq hf
    rw [e] at z ⊢
    try rw [e] at q0
    try rw [e] at q1
    try rw [e] at q2
    try rw [e] at q3
    try rw [e] at q4
    try rw [e] at q5
    try rw [e] at q6
    try rw [e] at q7
    try rw [e] at q8
    try rw [e] at q9
    try rw [e] at q10
    exact KZ v m₉ z q0 q1 q2 q3 q4 q5 q6 q7 q8 q9 q10
  refine g_250_0 ix ob ?_
  have f1 : 0 ≤ (m 94 10).toInt ∧ (m 94 10).toInt ≤ 6 := rs_94_10 (m := m) hV
  have f2 : 0 ≤ (m 94 58).toInt ∧ (m 94 58).toInt ≤ 1 := rs_94_58 (m := m) hV
  have f3 : 0 ≤ (m 94 8).toInt ∧ (m 94 8).toInt ≤ 1 := rs_94_8 (m := m) hV
  have b4 := i_bd ix
  have li5 : (0 : Int32).toInt = 0 := rfl
  refine zd (fun (h6 : ix < (0 : Int32)) => ?_) (fun (h6 : ¬ ix < (0 : Int32)) => ?_)
  · skip
    have g7 := i_lt h6
    have hV8 : zV (ma_u m 94 0 (1 : Int32)) := uf_94_0 hV
    exact K ((0 : Int32)) _ (zF_u zF_rfl rfl) hV8 r_W r_GW r_GU r_OW r_GG r_WTS (show qRB (m 99) (m 100) (m 98) (m 101) (m 102) (m 103) (m 107) (m 108) (m 109) (m 111) (m 112) (m 113) (m 114) (m 94 55) (m 94 46) (m 94 11) (m 94 12) (m 94 62) (m 94 17) (m 94 9) (kRo aa ix ob) from by first | (unfold kRo; rw [qIf_n (Sl_n (Or.inl (by omega)))]; exact r_RB; done) | (unfold kRo; rw [qIf_n (Sl_n (Or.inr (by omega)))]; exact r_RB; done) | (exfalso; omega; done) | (exfalso; contradiction; done)) (show qI (kRo aa ix ob) from by first | (unfold kRo; rw [qIf_n (Sl_n (Or.inl (by omega)))]; exact r_QI; done) | (unfold kRo; rw [qIf_n (Sl_n (Or.inr (by omega)))]; exact r_QI; done) | (exfalso; omega; done) | (exfalso; contradiction; done)) (show (kRo aa ix ob) 87 8 = (m 94 58) from by first | (unfold kRo; rw [qIf_n (Sl_n (Or.inl (by omega)))]; exact r_MK; done) | (unfold kRo; rw [qIf_n (Sl_n (Or.inr (by omega)))]; exact r_MK; done) | (exfalso; omega; done) | (exfalso; contradiction; done)) (show cV (kRo aa ix ob) [] B from by first | (unfold kRo; rw [qIf_n (Sl_n (Or.inl (by omega)))]; exact r_VV; done) | (unfold kRo; rw [qIf_n (Sl_n (Or.inr (by omega)))]; exact r_VV; done) | (exfalso; omega; done) | (exfalso; contradiction; done)) (show qCt (m 105) (m 99) (m 100) (kRo aa ix ob) [] (-1) (-1) from by first | (unfold kRo; rw [qIf_n (Sl_n (Or.inl (by omega)))]; exact r_CT; done) | (unfold kRo; rw [qIf_n (Sl_n (Or.inr (by omega)))]; exact r_CT; done) | (exfalso; omega; done) | (exfalso; contradiction; done))
  · skip
    have g9 := i_nlt h6
    have li10 : (16 : Int32).toInt = 16 := rfl
    refine zd (fun (h11 : (16 : Int32) ≤ ix) => ?_) (fun (h11 : ¬ (16 : Int32) ≤ ix) => ?_)
    · skip
      have g12 := i_le h11
      have hV13 : zV (ma_u m 94 0 (1 : Int32)) := uf_94_0 hV
      exact K ((0 : Int32)) _ (zF_u zF_rfl rfl) hV13 r_W r_GW r_GU r_OW r_GG r_WTS (show qRB (m 99) (m 100) (m 98) (m 101) (m 102) (m 103) (m 107) (m 108) (m 109) (m 111) (m 112) (m 113) (m 114) (m 94 55) (m 94 46) (m 94 11) (m 94 12) (m 94 62) (m 94 17) (m 94 9) (kRo aa ix ob) from by first | (unfold kRo; rw [qIf_n (Sl_n (Or.inl (by omega)))]; exact r_RB; done) | (unfold kRo; rw [qIf_n (Sl_n (Or.inr (by omega)))]; exact r_RB; done) | (exfalso; omega; done) | (exfalso; contradiction; done)) (show qI (kRo aa ix ob) from by first | (unfold kRo; rw [qIf_n (Sl_n (Or.inl (by omega)))]; exact r_QI; done) | (unfold kRo; rw [qIf_n (Sl_n (Or.inr (by omega)))]; exact r_QI; done) | (exfalso; omega; done) | (exfalso; contradiction; done)) (show (kRo aa ix ob) 87 8 = (m 94 58) from by first | (unfold kRo; rw [qIf_n (Sl_n (Or.inl (by omega)))]; exact r_MK; done) | (unfold kRo; rw [qIf_n (Sl_n (Or.inr (by omega)))]; exact r_MK; done) | (exfalso; omega; done) | (exfalso; contradiction; done)) (show cV (kRo aa ix ob) [] B from by first | (unfold kRo; rw [qIf_n (Sl_n (Or.inl (by omega)))]; exact r_VV; done) | (unfold kRo; rw [qIf_n (Sl_n (Or.inr (by omega)))]; exact r_VV; done) | (exfalso; omega; done) | (exfalso; contradiction; done)) (show qCt (m 105) (m 99) (m 100) (kRo aa ix ob) [] (-1) (-1) from by first | (unfold kRo; rw [qIf_n (Sl_n (Or.inl (by omega)))]; exact r_CT; done) | (unfold kRo; rw [qIf_n (Sl_n (Or.inr (by omega)))]; exact r_CT; done) | (exfalso; omega; done) | (exfalso; contradiction; done))
    · skip
      have g14 := i_nle h11
      refine zd (fun (h15 : (m 94 8) = (0 : Int32)) => ?_) (fun (h15 : ¬ (m 94 8) = (0 : Int32)) => ?_)
      · skip
        have g16 := i_eq h15
        exfalso; omega
      · skip
        have g17 := i_ne h15
        have b18 := i_bd ob
        have li19 : (-1 : Int32).toInt = -1 := rfl
        refine zd (fun (h20 : ob = (-1 : Int32)) => ?_) (fun (h20 : ¬ ob = (-1 : Int32)) => ?_)
        · skip
          have g21 := i_eq h20
          refine zd (fun (h22 : ob = (-1 : Int32)) => ?_) (fun (h22 : ¬ ob = (-1 : Int32)) => ?_)
          · skip
            have g23 := i_eq h22
            have hg24 : (0 ≤ ix ∧ ix.toNatClampNeg < 16) := i_ix (by omega) (by omega)
            refine ⟨hg24, ?_⟩
            first | have f25 : -1 ≤ (m 112 ix.toNatClampNeg).toInt ∧ (m 112 ix.toNatClampNeg).toInt ≤ 3099 := ra_112 (m := m) hV (k := ix.toNatClampNeg) (i_ix (n := 16) (by omega) (by omega)).2 | have b26 := i_bd (m 112 ix.toNatClampNeg)
            refine zd (fun (h27 : (0 : Int32) ≤ (m 112 ix.toNatClampNeg)) => ?_) (fun (h27 : ¬ (0 : Int32) ≤ (m 112 ix.toNatClampNeg)) => ?_)
            · skip
              have g28 := i_le h27
              have hg29 : (0 ≤ (m 112 ix.toNatClampNeg) ∧ (m 112 ix.toNatClampNeg).toNatClampNeg < 3100) := i_ix (by omega) (by omega)
              refine ⟨hg29, ?_⟩
              have hV30 : zV (ma_u m 94 0 (0 : Int32)) := uf_94_0 hV
              have hV31 : zV (ma_u (ma_u m 94 0 (0 : Int32)) 94 0 (0 : Int32)) := uf_94_0 hV30
              refine sp_238r4 (x := (-1 : Int32)) (ix) ((-1 : Int32)) hV31 (by omega) (by omega) (by omega) (by omega) (by omega) (by omega) (show (m 94 10).toInt = 4 ∧ (m 94 58).toInt = 0 from by omega) r_W r_GW r_GU r_OW r_RB r_QI r_MK r_WTS r_VV (show qCt (m 105) (m 99) (m 100) aa [] (-1 : Int32) (-1) from by first | (exact r_CT) | (exfalso; omega; done) | (exfalso; contradiction; done)) (show qU (m 99) (-1 : Int32) from by first | (exact As_u (As_n (us := (m 99)) (nr := (m 100)) (a := aa) (o := ob) (by assumption))) | (assumption; done) | (exact ow5.1) | (exact ow3.1) | (exfalso; omega; done) | (exfalso; contradiction; done)) (show (-1 : Int32).toInt < 0 ∨ (-1 : Int32) = qNo (m 100) (-1 : Int32) from by first | (exact Or.inl (by decide)) | (exfalso; omega; done) | (exfalso; contradiction; done)) (fun m11 hV_m11 p0_m11 p1_m11 p2_m11 p3_m11 p4_m11 p5_m11 p6_m11 p7_m11 p8_m11 p9_m11 p10_m11 => zmv_n ?_)
              have p0_m11 : zGW T (m11 94 55) (m11 109) := p0_m11
              have p1_m11 : zGU T (m 94 46) (m11 99) := p1_m11
              have p2_m11 : zOw (m11 99) (m 103) (m11 111) := p2_m11
              have p3_m11 : (m11 94 45).toInt = sm (zbU (m11 99)) (m 102) 3100 := p3_m11
              have p4_m11 : qRB (m11 99) (m 100) (m 98) (m 101) (m 102) (m 103) (m 107) (m 108) (m11 109) (m11 111) (m11 112) (m11 113) (m11 114) (m11 94 55) (m 94 46) (m 94 11) (m 94 12) (m 94 62) (m 94 17) (m 94 9) (kRt aa ix (qNo (m 100) (-1 : Int32))) := p4_m11
              have p5_m11 : qI (kRt aa ix (qNo (m 100) (-1 : Int32))) := p5_m11
              have p6_m11 : (kRt aa ix (qNo (m 100) (-1 : Int32))) 87 8 = (m 94 58) := p6_m11
              have p7_m11 : cV (kRt aa ix (qNo (m 100) (-1 : Int32))) [] B := p7_m11
              have p8_m11 : qCt (m11 105) (m11 99) (m 100) (kRt aa ix (qNo (m 100) (-1 : Int32))) [] (-1 : Int32) (-1) := p8_m11
              have p9_m11 : qXr (kRt aa ix (qNo (m 100) (-1 : Int32))) (-1 : Int32) := p9_m11
              have p10_m11 : (m11 112) ix.toNatClampNeg = (-1 : Int32) := p10_m11
              first | have f32 : 0 ≤ (m 100 (m 112 ix.toNatClampNeg).toNatClampNeg).toInt ∧ (m 100 (m 112 ix.toNatClampNeg).toNatClampNeg).toInt ≤ 100000 := ra_100 (m := m) hV (k := (m 112 ix.toNatClampNeg).toNatClampNeg) (i_ix (n := 3100) (by omega) (by omega)).2 | have b33 := i_bd (m 100 (m 112 ix.toNatClampNeg).toNatClampNeg)
              exact K ((m 100 (m 112 ix.toNatClampNeg).toNatClampNeg)) _ (zF_zov (zF_u (zF_u zF_rfl rfl) rfl) ws_238_250) hV_m11 r_W p0_m11 p1_m11 p2_m11 (show zGG (m 94 58) (m11 94 56) (m 94 57) (m11 106) from by first | (exact r_GG) | (exact fun z => absurd z (by omega)) | (exact fun z => absurd z (by decide)) | (exact fun z => absurd z (by omega)) | (exfalso; omega; done) | (exfalso; contradiction; done)) p3_m11 (show qRB (m11 99) (m 100) (m 98) (m 101) (m 102) (m 103) (m 107) (m 108) (m11 109) (m11 111) (m11 112) (m11 113) (m11 114) (m11 94 55) (m 94 46) (m 94 11) (m 94 12) (m 94 62) (m 94 17) (m 94 9) (kRo aa ix ob) from by first | (rw [kRo_y (by omega) (by omega) (As_n (us := (m 99)) (nr := (m 100)) (a := aa) (o := ob) (by assumption))]; exact p4_m11; done) | (exfalso; omega; done) | (exfalso; contradiction; done)) (show qI (kRo aa ix ob) from by first | (rw [kRo_y (by omega) (by omega) (As_n (us := (m 99)) (nr := (m 100)) (a := aa) (o := ob) (by assumption))]; exact p5_m11; done) | (exfalso; omega; done) | (exfalso; contradiction; done)) (show (kRo aa ix ob) 87 8 = (m 94 58) from by first | (rw [kRo_y (by omega) (by omega) (As_n (us := (m 99)) (nr := (m 100)) (a := aa) (o := ob) (by assumption))]; exact p6_m11; done) | (exfalso; omega; done) | (exfalso; contradiction; done)) (show cV (kRo aa ix ob) [] B from by first | (rw [kRo_y (by omega) (by omega) (As_n (us := (m 99)) (nr := (m 100)) (a := aa) (o := ob) (by assumption))]; exact p7_m11; done) | (exfalso; omega; done) | (exfalso; contradiction; done)) (show qCt (m11 105) (m11 99) (m 100) (kRo aa ix ob) [] (-1) (-1) from by first | (rw [kRo_y (by omega) (by omega) (As_n (us := (m 99)) (nr := (m 100)) (a := aa) (o := ob) (by assumption))]; exact p8_m11; done) | (exfalso; omega; done) | (exfalso; contradiction; done))
            · skip
              have g34 := i_nle h27
              have hV35 : zV (ma_u m 94 0 (0 : Int32)) := uf_94_0 hV
              have hV36 : zV (ma_u (ma_u m 94 0 (0 : Int32)) 94 0 (0 : Int32)) := uf_94_0 hV35
              refine sp_238r4 (x := (-1 : Int32)) (ix) ((-1 : Int32)) hV36 (by omega) (by omega) (by omega) (by omega) (by omega) (by omega) (show (m 94 10).toInt = 4 ∧ (m 94 58).toInt = 0 from by omega) r_W r_GW r_GU r_OW r_RB r_QI r_MK r_WTS r_VV (show qCt (m 105) (m 99) (m 100) aa [] (-1 : Int32) (-1) from by first | (exact r_CT) | (exfalso; omega; done) | (exfalso; contradiction; done)) (show qU (m 99) (-1 : Int32) from by first | (exact As_u (As_n (us := (m 99)) (nr := (m 100)) (a := aa) (o := ob) (by assumption))) | (assumption; done) | (exact ow5.1) | (exact ow3.1) | (exfalso; omega; done) | (exfalso; contradiction; done)) (show (-1 : Int32).toInt < 0 ∨ (-1 : Int32) = qNo (m 100) (-1 : Int32) from by first | (exact Or.inl (by decide)) | (exfalso; omega; done) | (exfalso; contradiction; done)) (fun m13 hV_m13 p0_m13 p1_m13 p2_m13 p3_m13 p4_m13 p5_m13 p6_m13 p7_m13 p8_m13 p9_m13 p10_m13 => zmv_n ?_)
              have p0_m13 : zGW T (m13 94 55) (m13 109) := p0_m13
              have p1_m13 : zGU T (m 94 46) (m13 99) := p1_m13
              have p2_m13 : zOw (m13 99) (m 103) (m13 111) := p2_m13
              have p3_m13 : (m13 94 45).toInt = sm (zbU (m13 99)) (m 102) 3100 := p3_m13
              have p4_m13 : qRB (m13 99) (m 100) (m 98) (m 101) (m 102) (m 103) (m 107) (m 108) (m13 109) (m13 111) (m13 112) (m13 113) (m13 114) (m13 94 55) (m 94 46) (m 94 11) (m 94 12) (m 94 62) (m 94 17) (m 94 9) (kRt aa ix (qNo (m 100) (-1 : Int32))) := p4_m13
              have p5_m13 : qI (kRt aa ix (qNo (m 100) (-1 : Int32))) := p5_m13
              have p6_m13 : (kRt aa ix (qNo (m 100) (-1 : Int32))) 87 8 = (m 94 58) := p6_m13
              have p7_m13 : cV (kRt aa ix (qNo (m 100) (-1 : Int32))) [] B := p7_m13
              have p8_m13 : qCt (m13 105) (m13 99) (m 100) (kRt aa ix (qNo (m 100) (-1 : Int32))) [] (-1 : Int32) (-1) := p8_m13
              have p9_m13 : qXr (kRt aa ix (qNo (m 100) (-1 : Int32))) (-1 : Int32) := p9_m13
              have p10_m13 : (m13 112) ix.toNatClampNeg = (-1 : Int32) := p10_m13
              exact K ((-1 : Int32)) _ (zF_zov (zF_u (zF_u zF_rfl rfl) rfl) ws_238_250) hV_m13 r_W p0_m13 p1_m13 p2_m13 (show zGG (m 94 58) (m13 94 56) (m 94 57) (m13 106) from by first | (exact r_GG) | (exact fun z => absurd z (by omega)) | (exact fun z => absurd z (by decide)) | (exact fun z => absurd z (by omega)) | (exfalso; omega; done) | (exfalso; contradiction; done)) p3_m13 (show qRB (m13 99) (m 100) (m 98) (m 101) (m 102) (m 103) (m 107) (m 108) (m13 109) (m13 111) (m13 112) (m13 113) (m13 114) (m13 94 55) (m 94 46) (m 94 11) (m 94 12) (m 94 62) (m 94 17) (m 94 9) (kRo aa ix ob) from by first | (rw [kRo_y (by omega) (by omega) (As_n (us := (m 99)) (nr := (m 100)) (a := aa) (o := ob) (by assumption))]; exact p4_m13; done) | (exfalso; omega; done) | (exfalso; contradiction; done)) (show qI (kRo aa ix ob) from by first | (rw [kRo_y (by omega) (by omega) (As_n (us := (m 99)) (nr := (m 100)) (a := aa) (o := ob) (by assumption))]; exact p5_m13; done) | (exfalso; omega; done) | (exfalso; contradiction; done)) (show (kRo aa ix ob) 87 8 = (m 94 58) from by first | (rw [kRo_y (by omega) (by omega) (As_n (us := (m 99)) (nr := (m 100)) (a := aa) (o := ob) (by assumption))]; exact p6_m13; done) | (exfalso; omega; done) | (exfalso; contradiction; done)) (show cV (kRo aa ix ob) [] B from by first | (rw [kRo_y (by omega) (by omega) (As_n (us := (m 99)) (nr := (m 100)) (a := aa) (o := ob) (by assumption))]; exact p7_m13; done) | (exfalso; omega; done) | (exfalso; contradiction; done)) (show qCt (m13 105) (m13 99) (m 100) (kRo aa ix ob) [] (-1) (-1) from by first | (rw [kRo_y (by omega) (by omega) (As_n (us := (m 99)) (nr := (m 100)) (a := aa) (o := ob) (by assumption))]; exact p8_m13; done) | (exfalso; omega; done) | (exfalso; contradiction; done))
          · skip
            have g37 := i_ne h22
            have hV38 : zV (ma_u m 94 0 (0 : Int32)) := uf_94_0 hV
            have hV39 : zV (ma_u (ma_u m 94 0 (0 : Int32)) 94 0 (3 : Int32)) := uf_94_0 hV38
            exact K ((0 : Int32)) _ (zF_u (zF_u zF_rfl rfl) rfl) hV39 r_W r_GW r_GU r_OW r_GG r_WTS (show qRB (m 99) (m 100) (m 98) (m 101) (m 102) (m 103) (m 107) (m 108) (m 109) (m 111) (m 112) (m 113) (m 114) (m 94 55) (m 94 46) (m 94 11) (m 94 12) (m 94 62) (m 94 17) (m 94 9) (kRo aa ix ob) from by first | (unfold kRo; rw [qIf_n (Sl_n (Or.inl (by omega)))]; exact r_RB; done) | (unfold kRo; rw [qIf_n (Sl_n (Or.inr (by omega)))]; exact r_RB; done) | (exfalso; omega; done) | (exfalso; contradiction; done)) (show qI (kRo aa ix ob) from by first | (unfold kRo; rw [qIf_n (Sl_n (Or.inl (by omega)))]; exact r_QI; done) | (unfold kRo; rw [qIf_n (Sl_n (Or.inr (by omega)))]; exact r_QI; done) | (exfalso; omega; done) | (exfalso; contradiction; done)) (show (kRo aa ix ob) 87 8 = (m 94 58) from by first | (unfold kRo; rw [qIf_n (Sl_n (Or.inl (by omega)))]; exact r_MK; done) | (unfold kRo; rw [qIf_n (Sl_n (Or.inr (by omega)))]; exact r_MK; done) | (exfalso; omega; done) | (exfalso; contradiction; done)) (show cV (kRo aa ix ob) [] B from by first | (unfold kRo; rw [qIf_n (Sl_n (Or.inl (by omega)))]; exact r_VV; done) | (unfold kRo; rw [qIf_n (Sl_n (Or.inr (by omega)))]; exact r_VV; done) | (exfalso; omega; done) | (exfalso; contradiction; done)) (show qCt (m 105) (m 99) (m 100) (kRo aa ix ob) [] (-1) (-1) from by first | (unfold kRo; rw [qIf_n (Sl_n (Or.inl (by omega)))]; exact r_CT; done) | (unfold kRo; rw [qIf_n (Sl_n (Or.inr (by omega)))]; exact r_CT; done) | (exfalso; omega; done) | (exfalso; contradiction; done))
        · skip
          have g40 := i_ne h20
          have hV41 : zV (ma_u m 94 0 (0 : Int32)) := uf_94_0 hV
          refine sp_245r (aa := aa) (ob) hV41 r_W r_RB r_QI (fun v2 m1 hV_m1 p0_m1 p1_m1 p2_m1 => zmi_n ?_)
          have p0_m1 : -1 ≤ v2.toInt ∧ v2.toInt ≤ 3099 := p0_m1
          have p1_m1 : v2.toInt < 0 ∨ (m 99) v2.toNatClampNeg ≠ 0 := p1_m1
          have p2_m1 : qRe (m 99) (m 100) aa ob v2 := p2_m1
          refine zd (fun (h42 : ob = (-1 : Int32)) => ?_) (fun (h42 : ¬ ob = (-1 : Int32)) => ?_)
          · skip
            have g43 := i_eq h42
            have hg44 : (0 ≤ ix ∧ ix.toNatClampNeg < 16) := i_ix (by omega) (by omega)
            refine ⟨hg44, ?_⟩
            first | have f45 : -1 ≤ (m 112 ix.toNatClampNeg).toInt ∧ (m 112 ix.toNatClampNeg).toInt ≤ 3099 := ra_112 (m := m) hV (k := ix.toNatClampNeg) (i_ix (n := 16) (by omega) (by omega)).2 | have b46 := i_bd (m 112 ix.toNatClampNeg)
            refine zd (fun (h47 : (0 : Int32) ≤ (m 112 ix.toNatClampNeg)) => ?_) (fun (h47 : ¬ (0 : Int32) ≤ (m 112 ix.toNatClampNeg)) => ?_)
            · skip
              have g48 := i_le h47
              have hg49 : (0 ≤ (m 112 ix.toNatClampNeg) ∧ (m 112 ix.toNatClampNeg).toNatClampNeg < 3100) := i_ix (by omega) (by omega)
              refine ⟨hg49, ?_⟩
              have b50 := i_bd v2
              have hV51 : zV (ma_u (zov wr_245 (ma_u m 94 0 (0 : Int32)) m1) 94 0 (0 : Int32)) := uf_94_0 hV_m1
              refine sp_238r4 (x := (-1 : Int32)) (ix) (v2) hV51 (by omega) (by omega) (by omega) (by omega) (by omega) (by omega) (show (m 94 10).toInt = 4 ∧ (m 94 58).toInt = 0 from by omega) r_W r_GW r_GU r_OW r_RB r_QI r_MK r_WTS r_VV (show qCt (m 105) (m 99) (m 100) aa [] (-1 : Int32) (-1) from by first | (exact r_CT) | (exfalso; omega; done) | (exfalso; contradiction; done)) (show qU (m 99) v2 from by first | (exact As_u (As_y p2_m1 (by omega))) | (assumption; done) | (exact ow5.1) | (exact ow3.1) | (exfalso; omega; done) | (exfalso; contradiction; done)) (show (-1 : Int32).toInt < 0 ∨ (-1 : Int32) = qNo (m 100) v2 from by first | (exact Or.inl (by decide)) | (exfalso; omega; done) | (exfalso; contradiction; done)) (fun m3 hV_m3 p0_m3 p1_m3 p2_m3 p3_m3 p4_m3 p5_m3 p6_m3 p7_m3 p8_m3 p9_m3 p10_m3 => zmv_n ?_)
              have p0_m3 : zGW T (m3 94 55) (m3 109) := p0_m3
              have p1_m3 : zGU T (m 94 46) (m3 99) := p1_m3
              have p2_m3 : zOw (m3 99) (m 103) (m3 111) := p2_m3
              have p3_m3 : (m3 94 45).toInt = sm (zbU (m3 99)) (m 102) 3100 := p3_m3
              have p4_m3 : qRB (m3 99) (m 100) (m 98) (m 101) (m 102) (m 103) (m 107) (m 108) (m3 109) (m3 111) (m3 112) (m3 113) (m3 114) (m3 94 55) (m 94 46) (m 94 11) (m 94 12) (m 94 62) (m 94 17) (m 94 9) (kRt aa ix (qNo (m 100) v2)) := p4_m3
              have p5_m3 : qI (kRt aa ix (qNo (m 100) v2)) := p5_m3
              have p6_m3 : (kRt aa ix (qNo (m 100) v2)) 87 8 = (m 94 58) := p6_m3
              have p7_m3 : cV (kRt aa ix (qNo (m 100) v2)) [] B := p7_m3
              have p8_m3 : qCt (m3 105) (m3 99) (m 100) (kRt aa ix (qNo (m 100) v2)) [] (-1 : Int32) (-1) := p8_m3
              have p9_m3 : qXr (kRt aa ix (qNo (m 100) v2)) (-1 : Int32) := p9_m3
              have p10_m3 : (m3 112) ix.toNatClampNeg = v2 := p10_m3
              first | have f52 : 0 ≤ (m 100 (m 112 ix.toNatClampNeg).toNatClampNeg).toInt ∧ (m 100 (m 112 ix.toNatClampNeg).toNatClampNeg).toInt ≤ 100000 := ra_100 (m := m) hV (k := (m 112 ix.toNatClampNeg).toNatClampNeg) (i_ix (n := 3100) (by omega) (by omega)).2 | have b53 := i_bd (m 100 (m 112 ix.toNatClampNeg).toNatClampNeg)
              exact K ((m 100 (m 112 ix.toNatClampNeg).toNatClampNeg)) _ (zF_zov (zF_u (zF_zov (zF_u zF_rfl rfl) ws_245_250) rfl) ws_238_250) hV_m3 r_W p0_m3 p1_m3 p2_m3 (show zGG (m 94 58) (m3 94 56) (m 94 57) (m3 106) from by first | (exact r_GG) | (exact fun z => absurd z (by omega)) | (exact fun z => absurd z (by decide)) | (exact fun z => absurd z (by omega)) | (exfalso; omega; done) | (exfalso; contradiction; done)) p3_m3 (show qRB (m3 99) (m 100) (m 98) (m 101) (m 102) (m 103) (m 107) (m 108) (m3 109) (m3 111) (m3 112) (m3 113) (m3 114) (m3 94 55) (m 94 46) (m 94 11) (m 94 12) (m 94 62) (m 94 17) (m 94 9) (kRo aa ix ob) from by first | (rw [kRo_y (by omega) (by omega) (As_y p2_m1 (by omega))]; exact p4_m3; done) | (exfalso; omega; done) | (exfalso; contradiction; done)) (show qI (kRo aa ix ob) from by first | (rw [kRo_y (by omega) (by omega) (As_y p2_m1 (by omega))]; exact p5_m3; done) | (exfalso; omega; done) | (exfalso; contradiction; done)) (show (kRo aa ix ob) 87 8 = (m 94 58) from by first | (rw [kRo_y (by omega) (by omega) (As_y p2_m1 (by omega))]; exact p6_m3; done) | (exfalso; omega; done) | (exfalso; contradiction; done)) (show cV (kRo aa ix ob) [] B from by first | (rw [kRo_y (by omega) (by omega) (As_y p2_m1 (by omega))]; exact p7_m3; done) | (exfalso; omega; done) | (exfalso; contradiction; done)) (show qCt (m3 105) (m3 99) (m 100) (kRo aa ix ob) [] (-1) (-1) from by first | (rw [kRo_y (by omega) (by omega) (As_y p2_m1 (by omega))]; exact p8_m3; done) | (exfalso; omega; done) | (exfalso; contradiction; done))
            · skip
              have g54 := i_nle h47
              have b55 := i_bd v2
              have hV56 : zV (ma_u (zov wr_245 (ma_u m 94 0 (0 : Int32)) m1) 94 0 (0 : Int32)) := uf_94_0 hV_m1
              refine sp_238r4 (x := (-1 : Int32)) (ix) (v2) hV56 (by omega) (by omega) (by omega) (by omega) (by omega) (by omega) (show (m 94 10).toInt = 4 ∧ (m 94 58).toInt = 0 from by omega) r_W r_GW r_GU r_OW r_RB r_QI r_MK r_WTS r_VV (show qCt (m 105) (m 99) (m 100) aa [] (-1 : Int32) (-1) from by first | (exact r_CT) | (exfalso; omega; done) | (exfalso; contradiction; done)) (show qU (m 99) v2 from by first | (exact As_u (As_y p2_m1 (by omega))) | (assumption; done) | (exact ow5.1) | (exact ow3.1) | (exfalso; omega; done) | (exfalso; contradiction; done)) (show (-1 : Int32).toInt < 0 ∨ (-1 : Int32) = qNo (m 100) v2 from by first | (exact Or.inl (by decide)) | (exfalso; omega; done) | (exfalso; contradiction; done)) (fun m5 hV_m5 p0_m5 p1_m5 p2_m5 p3_m5 p4_m5 p5_m5 p6_m5 p7_m5 p8_m5 p9_m5 p10_m5 => zmv_n ?_)
              have p0_m5 : zGW T (m5 94 55) (m5 109) := p0_m5
              have p1_m5 : zGU T (m 94 46) (m5 99) := p1_m5
              have p2_m5 : zOw (m5 99) (m 103) (m5 111) := p2_m5
              have p3_m5 : (m5 94 45).toInt = sm (zbU (m5 99)) (m 102) 3100 := p3_m5
              have p4_m5 : qRB (m5 99) (m 100) (m 98) (m 101) (m 102) (m 103) (m 107) (m 108) (m5 109) (m5 111) (m5 112) (m5 113) (m5 114) (m5 94 55) (m 94 46) (m 94 11) (m 94 12) (m 94 62) (m 94 17) (m 94 9) (kRt aa ix (qNo (m 100) v2)) := p4_m5
              have p5_m5 : qI (kRt aa ix (qNo (m 100) v2)) := p5_m5
              have p6_m5 : (kRt aa ix (qNo (m 100) v2)) 87 8 = (m 94 58) := p6_m5
              have p7_m5 : cV (kRt aa ix (qNo (m 100) v2)) [] B := p7_m5
              have p8_m5 : qCt (m5 105) (m5 99) (m 100) (kRt aa ix (qNo (m 100) v2)) [] (-1 : Int32) (-1) := p8_m5
              have p9_m5 : qXr (kRt aa ix (qNo (m 100) v2)) (-1 : Int32) := p9_m5
              have p10_m5 : (m5 112) ix.toNatClampNeg = v2 := p10_m5
              exact K ((-1 : Int32)) _ (zF_zov (zF_u (zF_zov (zF_u zF_rfl rfl) ws_245_250) rfl) ws_238_250) hV_m5 r_W p0_m5 p1_m5 p2_m5 (show zGG (m 94 58) (m5 94 56) (m 94 57) (m5 106) from by first | (exact r_GG) | (exact fun z => absurd z (by omega)) | (exact fun z => absurd z (by decide)) | (exact fun z => absurd z (by omega)) | (exfalso; omega; done) | (exfalso; contradiction; done)) p3_m5 (show qRB (m5 99) (m 100) (m 98) (m 101) (m 102) (m 103) (m 107) (m 108) (m5 109) (m5 111) (m5 112) (m5 113) (m5 114) (m5 94 55) (m 94 46) (m 94 11) (m 94 12) (m 94 62) (m 94 17) (m 94 9) (kRo aa ix ob) from by first | (rw [kRo_y (by omega) (by omega) (As_y p2_m1 (by omega))]; exact p4_m5; done) | (exfalso; omega; done) | (exfalso; contradiction; done)) (show qI (kRo aa ix ob) from by first | (rw [kRo_y (by omega) (by omega) (As_y p2_m1 (by omega))]; exact p5_m5; done) | (exfalso; omega; done) | (exfalso; contradiction; done)) (show (kRo aa ix ob) 87 8 = (m 94 58) from by first | (rw [kRo_y (by omega) (by omega) (As_y p2_m1 (by omega))]; exact p6_m5; done) | (exfalso; omega; done) | (exfalso; contradiction; done)) (show cV (kRo aa ix ob) [] B from by first | (rw [kRo_y (by omega) (by omega) (As_y p2_m1 (by omega))]; exact p7_m5; done) | (exfalso; omega; done) | (exfalso; contradiction; done)) (show qCt (m5 105) (m5 99) (m 100) (kRo aa ix ob) [] (-1) (-1) from by first | (rw [kRo_y (by omega) (by omega) (As_y p2_m1 (by omega))]; exact p8_m5; done) | (exfalso; omega; done) | (exfalso; contradiction; done))
          · skip
            have g57 := i_ne h42
            have b58 := i_bd v2
            refine zd (fun (h59 : (0 : Int32) ≤ v2) => ?_) (fun (h59 : ¬ (0 : Int32) ≤ v2) => ?_)
            · skip
              have g60 := i_le h59
              have hg61 : (0 ≤ ix ∧ ix.toNatClampNeg < 16) := i_ix (by omega) (by omega)
              refine ⟨hg61, ?_⟩
              first | have f62 : -1 ≤ (m 112 ix.toNatClampNeg).toInt ∧ (m 112 ix.toNatClampNeg).toInt ≤ 3099 := ra_112 (m := m) hV (k := ix.toNatClampNeg) (i_ix (n := 16) (by omega) (by omega)).2 | have b63 := i_bd (m 112 ix.toNatClampNeg)
              refine zd (fun (h64 : (0 : Int32) ≤ (m 112 ix.toNatClampNeg)) => ?_) (fun (h64 : ¬ (0 : Int32) ≤ (m 112 ix.toNatClampNeg)) => ?_)
              · skip
                have g65 := i_le h64
                have hg66 : (0 ≤ (m 112 ix.toNatClampNeg) ∧ (m 112 ix.toNatClampNeg).toNatClampNeg < 3100) := i_ix (by omega) (by omega)
                refine ⟨hg66, ?_⟩
                have hV67 : zV (ma_u (zov wr_245 (ma_u m 94 0 (0 : Int32)) m1) 94 0 (0 : Int32)) := uf_94_0 hV_m1
                refine sp_238r4 (x := (-1 : Int32)) (ix) (v2) hV67 (by omega) (by omega) (by omega) (by omega) (by omega) (by omega) (show (m 94 10).toInt = 4 ∧ (m 94 58).toInt = 0 from by omega) r_W r_GW r_GU r_OW r_RB r_QI r_MK r_WTS r_VV (show qCt (m 105) (m 99) (m 100) aa [] (-1 : Int32) (-1) from by first | (exact r_CT) | (exfalso; omega; done) | (exfalso; contradiction; done)) (show qU (m 99) v2 from by first | (exact As_u (As_y p2_m1 (by omega))) | (assumption; done) | (exact ow5.1) | (exact ow3.1) | (exfalso; omega; done) | (exfalso; contradiction; done)) (show (-1 : Int32).toInt < 0 ∨ (-1 : Int32) = qNo (m 100) v2 from by first | (exact Or.inl (by decide)) | (exfalso; omega; done) | (exfalso; contradiction; done)) (fun m7 hV_m7 p0_m7 p1_m7 p2_m7 p3_m7 p4_m7 p5_m7 p6_m7 p7_m7 p8_m7 p9_m7 p10_m7 => zmv_n ?_)
                have p0_m7 : zGW T (m7 94 55) (m7 109) := p0_m7
                have p1_m7 : zGU T (m 94 46) (m7 99) := p1_m7
                have p2_m7 : zOw (m7 99) (m 103) (m7 111) := p2_m7
                have p3_m7 : (m7 94 45).toInt = sm (zbU (m7 99)) (m 102) 3100 := p3_m7
                have p4_m7 : qRB (m7 99) (m 100) (m 98) (m 101) (m 102) (m 103) (m 107) (m 108) (m7 109) (m7 111) (m7 112) (m7 113) (m7 114) (m7 94 55) (m 94 46) (m 94 11) (m 94 12) (m 94 62) (m 94 17) (m 94 9) (kRt aa ix (qNo (m 100) v2)) := p4_m7
                have p5_m7 : qI (kRt aa ix (qNo (m 100) v2)) := p5_m7
                have p6_m7 : (kRt aa ix (qNo (m 100) v2)) 87 8 = (m 94 58) := p6_m7
                have p7_m7 : cV (kRt aa ix (qNo (m 100) v2)) [] B := p7_m7
                have p8_m7 : qCt (m7 105) (m7 99) (m 100) (kRt aa ix (qNo (m 100) v2)) [] (-1 : Int32) (-1) := p8_m7
                have p9_m7 : qXr (kRt aa ix (qNo (m 100) v2)) (-1 : Int32) := p9_m7
                have p10_m7 : (m7 112) ix.toNatClampNeg = v2 := p10_m7
                first | have f68 : 0 ≤ (m 100 (m 112 ix.toNatClampNeg).toNatClampNeg).toInt ∧ (m 100 (m 112 ix.toNatClampNeg).toNatClampNeg).toInt ≤ 100000 := ra_100 (m := m) hV (k := (m 112 ix.toNatClampNeg).toNatClampNeg) (i_ix (n := 3100) (by omega) (by omega)).2 | have b69 := i_bd (m 100 (m 112 ix.toNatClampNeg).toNatClampNeg)
                exact K ((m 100 (m 112 ix.toNatClampNeg).toNatClampNeg)) _ (zF_zov (zF_u (zF_zov (zF_u zF_rfl rfl) ws_245_250) rfl) ws_238_250) hV_m7 r_W p0_m7 p1_m7 p2_m7 (show zGG (m 94 58) (m7 94 56) (m 94 57) (m7 106) from by first | (exact r_GG) | (exact fun z => absurd z (by omega)) | (exact fun z => absurd z (by decide)) | (exact fun z => absurd z (by omega)) | (exfalso; omega; done) | (exfalso; contradiction; done)) p3_m7 (show qRB (m7 99) (m 100) (m 98) (m 101) (m 102) (m 103) (m 107) (m 108) (m7 109) (m7 111) (m7 112) (m7 113) (m7 114) (m7 94 55) (m 94 46) (m 94 11) (m 94 12) (m 94 62) (m 94 17) (m 94 9) (kRo aa ix ob) from by first | (rw [kRo_y (by omega) (by omega) (As_y p2_m1 (by omega))]; exact p4_m7; done) | (exfalso; omega; done) | (exfalso; contradiction; done)) (show qI (kRo aa ix ob) from by first | (rw [kRo_y (by omega) (by omega) (As_y p2_m1 (by omega))]; exact p5_m7; done) | (exfalso; omega; done) | (exfalso; contradiction; done)) (show (kRo aa ix ob) 87 8 = (m 94 58) from by first | (rw [kRo_y (by omega) (by omega) (As_y p2_m1 (by omega))]; exact p6_m7; done) | (exfalso; omega; done) | (exfalso; contradiction; done)) (show cV (kRo aa ix ob) [] B from by first | (rw [kRo_y (by omega) (by omega) (As_y p2_m1 (by omega))]; exact p7_m7; done) | (exfalso; omega; done) | (exfalso; contradiction; done)) (show qCt (m7 105) (m7 99) (m 100) (kRo aa ix ob) [] (-1) (-1) from by first | (rw [kRo_y (by omega) (by omega) (As_y p2_m1 (by omega))]; exact p8_m7; done) | (exfalso; omega; done) | (exfalso; contradiction; done))
              · skip
                have g70 := i_nle h64
                have hV71 : zV (ma_u (zov wr_245 (ma_u m 94 0 (0 : Int32)) m1) 94 0 (0 : Int32)) := uf_94_0 hV_m1
                refine sp_238r4 (x := (-1 : Int32)) (ix) (v2) hV71 (by omega) (by omega) (by omega) (by omega) (by omega) (by omega) (show (m 94 10).toInt = 4 ∧ (m 94 58).toInt = 0 from by omega) r_W r_GW r_GU r_OW r_RB r_QI r_MK r_WTS r_VV (show qCt (m 105) (m 99) (m 100) aa [] (-1 : Int32) (-1) from by first | (exact r_CT) | (exfalso; omega; done) | (exfalso; contradiction; done)) (show qU (m 99) v2 from by first | (exact As_u (As_y p2_m1 (by omega))) | (assumption; done) | (exact ow5.1) | (exact ow3.1) | (exfalso; omega; done) | (exfalso; contradiction; done)) (show (-1 : Int32).toInt < 0 ∨ (-1 : Int32) = qNo (m 100) v2 from by first | (exact Or.inl (by decide)) | (exfalso; omega; done) | (exfalso; contradiction; done)) (fun m9 hV_m9 p0_m9 p1_m9 p2_m9 p3_m9 p4_m9 p5_m9 p6_m9 p7_m9 p8_m9 p9_m9 p10_m9 => zmv_n ?_)
                have p0_m9 : zGW T (m9 94 55) (m9 109) := p0_m9
                have p1_m9 : zGU T (m 94 46) (m9 99) := p1_m9
                have p2_m9 : zOw (m9 99) (m 103) (m9 111) := p2_m9
                have p3_m9 : (m9 94 45).toInt = sm (zbU (m9 99)) (m 102) 3100 := p3_m9
                have p4_m9 : qRB (m9 99) (m 100) (m 98) (m 101) (m 102) (m 103) (m 107) (m 108) (m9 109) (m9 111) (m9 112) (m9 113) (m9 114) (m9 94 55) (m 94 46) (m 94 11) (m 94 12) (m 94 62) (m 94 17) (m 94 9) (kRt aa ix (qNo (m 100) v2)) := p4_m9
                have p5_m9 : qI (kRt aa ix (qNo (m 100) v2)) := p5_m9
                have p6_m9 : (kRt aa ix (qNo (m 100) v2)) 87 8 = (m 94 58) := p6_m9
                have p7_m9 : cV (kRt aa ix (qNo (m 100) v2)) [] B := p7_m9
                have p8_m9 : qCt (m9 105) (m9 99) (m 100) (kRt aa ix (qNo (m 100) v2)) [] (-1 : Int32) (-1) := p8_m9
                have p9_m9 : qXr (kRt aa ix (qNo (m 100) v2)) (-1 : Int32) := p9_m9
                have p10_m9 : (m9 112) ix.toNatClampNeg = v2 := p10_m9
                exact K ((-1 : Int32)) _ (zF_zov (zF_u (zF_zov (zF_u zF_rfl rfl) ws_245_250) rfl) ws_238_250) hV_m9 r_W p0_m9 p1_m9 p2_m9 (show zGG (m 94 58) (m9 94 56) (m 94 57) (m9 106) from by first | (exact r_GG) | (exact fun z => absurd z (by omega)) | (exact fun z => absurd z (by decide)) | (exact fun z => absurd z (by omega)) | (exfalso; omega; done) | (exfalso; contradiction; done)) p3_m9 (show qRB (m9 99) (m 100) (m 98) (m 101) (m 102) (m 103) (m 107) (m 108) (m9 109) (m9 111) (m9 112) (m9 113) (m9 114) (m9 94 55) (m 94 46) (m 94 11) (m 94 12) (m 94 62) (m 94 17) (m 94 9) (kRo aa ix ob) from by first | (rw [kRo_y (by omega) (by omega) (As_y p2_m1 (by omega))]; exact p4_m9; done) | (exfalso; omega; done) | (exfalso; contradiction; done)) (show qI (kRo aa ix ob) from by first | (rw [kRo_y (by omega) (by omega) (As_y p2_m1 (by omega))]; exact p5_m9; done) | (exfalso; omega; done) | (exfalso; contradiction; done)) (show (kRo aa ix ob) 87 8 = (m 94 58) from by first | (rw [kRo_y (by omega) (by omega) (As_y p2_m1 (by omega))]; exact p6_m9; done) | (exfalso; omega; done) | (exfalso; contradiction; done)) (show cV (kRo aa ix ob) [] B from by first | (rw [kRo_y (by omega) (by omega) (As_y p2_m1 (by omega))]; exact p7_m9; done) | (exfalso; omega; done) | (exfalso; contradiction; done)) (show qCt (m9 105) (m9 99) (m 100) (kRo aa ix ob) [] (-1) (-1) from by first | (rw [kRo_y (by omega) (by omega) (As_y p2_m1 (by omega))]; exact p8_m9; done) | (exfalso; omega; done) | (exfalso; contradiction; done))
            · skip
              have g72 := i_nle h59
              have hV73 : zV (ma_u (zov wr_245 (ma_u m 94 0 (0 : Int32)) m1) 94 0 (3 : Int32)) := uf_94_0 hV_m1
              exact K ((0 : Int32)) _ (zF_u (zF_zov (zF_u zF_rfl rfl) ws_245_250) rfl) hV73 r_W r_GW r_GU r_OW r_GG r_WTS (show qRB (m 99) (m 100) (m 98) (m 101) (m 102) (m 103) (m 107) (m 108) (m 109) (m 111) (m 112) (m 113) (m 114) (m 94 55) (m 94 46) (m 94 11) (m 94 12) (m 94 62) (m 94 17) (m 94 9) (kRo aa ix ob) from by first | (unfold kRo; rw [qIf_n (Sl_n (Or.inl (by omega)))]; exact r_RB; done) | (unfold kRo; rw [qIf_n (Sl_n (Or.inr (by omega)))]; exact r_RB; done) | (unfold kRo; rw [qIf_n (Sl_r (by assumption) (Re_n p2_m1 (by omega)))]; exact r_RB; done) | (exfalso; omega; done) | (exfalso; contradiction; done)) (show qI (kRo aa ix ob) from by first | (unfold kRo; rw [qIf_n (Sl_n (Or.inl (by omega)))]; exact r_QI; done) | (unfold kRo; rw [qIf_n (Sl_n (Or.inr (by omega)))]; exact r_QI; done) | (unfold kRo; rw [qIf_n (Sl_r (by assumption) (Re_n p2_m1 (by omega)))]; exact r_QI; done) | (exfalso; omega; done) | (exfalso; contradiction; done)) (show (kRo aa ix ob) 87 8 = (m 94 58) from by first | (unfold kRo; rw [qIf_n (Sl_n (Or.inl (by omega)))]; exact r_MK; done) | (unfold kRo; rw [qIf_n (Sl_n (Or.inr (by omega)))]; exact r_MK; done) | (unfold kRo; rw [qIf_n (Sl_r (by assumption) (Re_n p2_m1 (by omega)))]; exact r_MK; done) | (exfalso; omega; done) | (exfalso; contradiction; done)) (show cV (kRo aa ix ob) [] B from by first | (unfold kRo; rw [qIf_n (Sl_n (Or.inl (by omega)))]; exact r_VV; done) | (unfold kRo; rw [qIf_n (Sl_n (Or.inr (by omega)))]; exact r_VV; done) | (unfold kRo; rw [qIf_n (Sl_r (by assumption) (Re_n p2_m1 (by omega)))]; exact r_VV; done) | (exfalso; omega; done) | (exfalso; contradiction; done)) (show qCt (m 105) (m 99) (m 100) (kRo aa ix ob) [] (-1) (-1) from by first | (unfold kRo; rw [qIf_n (Sl_n (Or.inl (by omega)))]; exact r_CT; done) | (unfold kRo; rw [qIf_n (Sl_n (Or.inr (by omega)))]; exact r_CT; done) | (unfold kRo; rw [qIf_n (Sl_r (by assumption) (Re_n p2_m1 (by omega)))]; exact r_CT; done) | (exfalso; omega; done) | (exfalso; contradiction; done))

/-! from 95.o07 -/
/-! the reference under COUNTS (written by wip/tools/gen20s.py) -/
set_option maxHeartbeats 8000000 in
theorem sp_251r4 {X : Nat × (Nat → Int32)} {P : Option ma_V → (Nat → Nat → Int32) → Prop} {T : Nat} {aa : Nat→Nat→Int32} {B : Int} {m : Nat → Nat → Int32} (ix : Int32) (ob : Int32) (hV : zV m) (hpre0 : T ≤ 512) (hpre1 : B ≤ 1000000) (r_W : zW (m 94 7) (m 98) (m 101) (m 102) (m 108)) (r_GW : zGW T (m 94 55) (m 109)) (r_GU : zGU T (m 94 46) (m 99)) (r_OW : zOw (m 99) (m 103) (m 111)) (r_GG : zGG (m 94 58) (m 94 56) (m 94 57) (m 106)) (hpre7 : (m 94 10).toInt = 4 ∧ (m 94 58).toInt = 0) (hpre8 : (m 94 8).toInt = 1) (r_RB : qRB (m 99) (m 100) (m 98) (m 101) (m 102) (m 103) (m 107) (m 108) (m 109) (m 111) (m 112) (m 113) (m 114) (m 94 55) (m 94 46) (m 94 11) (m 94 12) (m 94 62) (m 94 17) (m 94 9) aa) (r_QI : qI aa) (r_MK : aa 87 8 = (m 94 58)) (r_WTS : (m 94 45).toInt = sm (zbU (m 99)) (m 102) 3100) (r_VV : cV aa [] B) (r_CT : qCt (m 105) (m 99) (m 100) aa [] (-1) (-1)) (KZ : ∀ v m₉, zV (zov wr_251 m m₉) → (zW (m 94 7) (m 98) (m 101) (m 102) (m 108)) → (zGW T (m 94 55) (m 109)) → (zGU T (m 94 46) (m 99)) → (zOw (m 99) (m 103) (m 111)) → (zGG (m 94 58) (m 94 56) (m 94 57) (m 106)) → ((m 94 45).toInt = sm (zbU (m 99)) (m 102) 3100) → (qRB (m 99) (m 100) (m 98) (m 101) (m 102) (m 103) (m 107) (m 108) (m 109) (m 111) (m 112) (m₉ 113) (m 114) (m 94 55) (m 94 46) (m 94 11) (m 94 12) (m 94 62) (m 94 17) (m 94 9) (xWe aa ix ob)) → (qI (xWe aa ix ob)) → ((xWe aa ix ob) 87 8 = (m 94 58)) → (cV (xWe aa ix ob) [] B) → (qCt (m 105) (m 99) (m 100) (xWe aa ix ob) [] (-1) (-1)) → P (some (.inl v)) (zov wr_251 m m₉)) : zm X 5 109 251 0 [(0, .inr (.inr (some 94))), (1, .inl ix), (2, .inl ob)] m P := by
  have K : ∀ v m₉, zF wr_251 m m₉ → zV m₉ → (zW (m₉ 94 7) (m₉ 98) (m₉ 101) (m₉ 102) (m₉ 108)) → (zGW T (m₉ 94 55) (m₉ 109)) → (zGU T (m₉ 94 46) (m₉ 99)) → (zOw (m₉ 99) (m₉ 103) (m₉ 111)) → (zGG (m₉ 94 58) (m₉ 94 56) (m₉ 94 57) (m₉ 106)) → ((m₉ 94 45).toInt = sm (zbU (m₉ 99)) (m₉ 102) 3100) → (qRB (m₉ 99) (m₉ 100) (m₉ 98) (m₉ 101) (m₉ 102) (m₉ 103) (m₉ 107) (m₉ 108) (m₉ 109) (m₉ 111) (m₉ 112) (m₉ 113) (m₉ 114) (m₉ 94 55) (m₉ 94 46) (m₉ 94 11) (m₉ 94 12) (m₉ 94 62) (m₉ 94 17) (m₉ 94 9) (xWe aa ix ob)) → (qI (xWe aa ix ob)) → ((xWe aa ix ob) 87 8 = (m₉ 94 58)) → (cV (xWe aa ix ob) [] B) → (qCt (m₉ 105) (m₉ 99) (m₉ 100) (xWe aa ix ob) [] (-1) (-1)) → P (some (.inl v)) m₉ := by
    intro v m₉ hf z q0 q1 q2 q3 q4 q5 q6 q7 q8 q9 q10
    have e := zov_eq hf
    rw [e] at z ⊢
    try rw [e] at q0
    try rw [e] at q1
    try rw [e] at q2
    try rw [e] at q3
    try rw [e] at q4
    try rw [e] at q5
    try rw [e] at q6
    try rw [e] at q7
    try rw [e] at q8
    try rw [e] at q9
    try rw [e] at q10
    exact KZ v m₉ z q0 q1 q2 q3 q4 q5 q6 q7 q8 q9 q10
  refine g_251_0 ix ob ?_
  have f1 : 0 ≤ (m 94 10).toInt ∧ (m 94 10).toInt ≤ 6 := rs_94_10 (m := m) hV
  have f2 : 0 ≤ (m 94 58).toInt ∧ (m 94 58).toInt ≤ 1 := rs_94_58 (m := m) hV
  have f3 : 0 ≤ (m 94 8).toInt ∧ (m 94 8).toInt ≤ 1 := rs_94_8 (m := m) hV
  have b4 := i_bd ix
  have li5 : (0 : Int32).toInt = 0 := rfl
  refine zd (fun (h6 : ix < (0 : Int32)) => ?_) (fun (h6 : ¬ ix < (0 : Int32)) => ?_)
  · skip
    have g7 := i_lt h6
    have hV8 : zV (ma_u m 94 0 (1 : Int32)) := uf_94_0 hV
    exact K ((0 : Int32)) _ (zF_u zF_rfl rfl) hV8 r_W r_GW r_GU r_OW r_GG r_WTS (show qRB (m 99) (m 100) (m 98) (m 101) (m 102) (m 103) (m 107) (m 108) (m 109) (m 111) (m 112) (m 113) (m 114) (m 94 55) (m 94 46) (m 94 11) (m 94 12) (m 94 62) (m 94 17) (m 94 9) (xWe aa ix ob) from by first | (unfold xWe; rw [qIf_n (Sl_n (Or.inl (by omega)))]; exact r_RB; done) | (unfold xWe; rw [qIf_n (Sl_n (Or.inr (by omega)))]; exact r_RB; done) | (exfalso; omega; done) | (exfalso; contradiction; done)) (show qI (xWe aa ix ob) from by first | (unfold xWe; rw [qIf_n (Sl_n (Or.inl (by omega)))]; exact r_QI; done) | (unfold xWe; rw [qIf_n (Sl_n (Or.inr (by omega)))]; exact r_QI; done) | (exfalso; omega; done) | (exfalso; contradiction; done)) (show (xWe aa ix ob) 87 8 = (m 94 58) from by first | (unfold xWe; rw [qIf_n (Sl_n (Or.inl (by omega)))]; exact r_MK; done) | (unfold xWe; rw [qIf_n (Sl_n (Or.inr (by omega)))]; exact r_MK; done) | (exfalso; omega; done) | (exfalso; contradiction; done)) (show cV (xWe aa ix ob) [] B from by first | (unfold xWe; rw [qIf_n (Sl_n (Or.inl (by omega)))]; exact r_VV; done) | (unfold xWe; rw [qIf_n (Sl_n (Or.inr (by omega)))]; exact r_VV; done) | (exfalso; omega; done) | (exfalso; contradiction; done)) (show qCt (m 105) (m 99) (m 100) (xWe aa ix ob) [] (-1) (-1) from by first | (unfold xWe; rw [qIf_n (Sl_n (Or.inl (by omega)))]; exact r_CT; done) | (unfold xWe; rw [qIf_n (Sl_n (Or.inr (by omega)))]; exact r_CT; done) | (exfalso; omega; done) | (exfalso; contradiction; done))
  · skip
    have g9 := i_nlt h6
    have li10 : (16 : Int32).toInt = 16 := rfl
    refine zd (fun (h11 : (16 : Int32) ≤ ix) => ?_) (fun (h11 : ¬ (16 : Int32) ≤ ix) => ?_)
    · skip
      have g12 := i_le h11
      have hV13 : zV (ma_u m 94 0 (1 : Int32)) := uf_94_0 hV
      exact K ((0 : Int32)) _ (zF_u zF_rfl rfl) hV13 r_W r_GW r_GU r_OW r_GG r_WTS (show qRB (m 99) (m 100) (m 98) (m 101) (m 102) (m 103) (m 107) (m 108) (m 109) (m 111) (m 112) (m 113) (m 114) (m 94 55) (m 94 46) (m 94 11) (m 94 12) (m 94 62) (m 94 17) (m 94 9) (xWe aa ix ob) from by first | (unfold xWe; rw [qIf_n (Sl_n (Or.inl (by omega)))]; exact r_RB; done) | (unfold xWe; rw [qIf_n (Sl_n (Or.inr (by omega)))]; exact r_RB; done) | (exfalso; omega; done) | (exfalso; contradiction; done)) (show qI (xWe aa ix ob) from by first | (unfold xWe; rw [qIf_n (Sl_n (Or.inl (by omega)))]; exact r_QI; done) | (unfold xWe; rw [qIf_n (Sl_n (Or.inr (by omega)))]; exact r_QI; done) | (exfalso; omega; done) | (exfalso; contradiction; done)) (show (xWe aa ix ob) 87 8 = (m 94 58) from by first | (unfold xWe; rw [qIf_n (Sl_n (Or.inl (by omega)))]; exact r_MK; done) | (unfold xWe; rw [qIf_n (Sl_n (Or.inr (by omega)))]; exact r_MK; done) | (exfalso; omega; done) | (exfalso; contradiction; done)) (show cV (xWe aa ix ob) [] B from by first | (unfold xWe; rw [qIf_n (Sl_n (Or.inl (by omega)))]; exact r_VV; done) | (unfold xWe; rw [qIf_n (Sl_n (Or.inr (by omega)))]; exact r_VV; done) | (exfalso; omega; done) | (exfalso; contradiction; done)) (show qCt (m 105) (m 99) (m 100) (xWe aa ix ob) [] (-1) (-1) from by first | (unfold xWe; rw [qIf_n (Sl_n (Or.inl (by omega)))]; exact r_CT; done) | (unfold xWe; rw [qIf_n (Sl_n (Or.inr (by omega)))]; exact r_CT; done) | (exfalso; omega; done) | (exfalso; contradiction; done))
    · skip
      have g14 := i_nle h11
      refine zd (fun (h15 : (m 94 8) = (0 : Int32)) => ?_) (fun (h15 : ¬ (m 94 8) = (0 : Int32)) => ?_)
      · skip
        have g16 := i_eq h15
        exfalso; omega
      · skip
        have g17 := i_ne h15
        have b18 := i_bd ob
        have li19 : (-1 : Int32).toInt = -1 := rfl
        refine zd (fun (h20 : ob = (-1 : Int32)) => ?_) (fun (h20 : ¬ ob = (-1 : Int32)) => ?_)
        · skip
          have g21 := i_eq h20
          refine zd (fun (h22 : ob = (-1 : Int32)) => ?_) (fun (h22 : ¬ ob = (-1 : Int32)) => ?_)
          · skip
            have g23 := i_eq h22
            have hg24 : (0 ≤ ix ∧ ix.toNatClampNeg < 16) := i_ix (by omega) (by omega)
            refine ⟨hg24, ?_⟩
            first | have f25 : -1 ≤ (m 113 ix.toNatClampNeg).toInt ∧ (m 113 ix.toNatClampNeg).toInt ≤ 3099 := ra_113 (m := m) hV (k := ix.toNatClampNeg) (i_ix (n := 16) (by omega) (by omega)).2 | have b26 := i_bd (m 113 ix.toNatClampNeg)
            refine zd (fun (h27 : (0 : Int32) ≤ (m 113 ix.toNatClampNeg)) => ?_) (fun (h27 : ¬ (0 : Int32) ≤ (m 113 ix.toNatClampNeg)) => ?_)
            · skip
              have g28 := i_le h27
              have hg29 : (0 ≤ (m 113 ix.toNatClampNeg) ∧ (m 113 ix.toNatClampNeg).toNatClampNeg < 3100) := i_ix (by omega) (by omega)
              refine ⟨hg29, ?_⟩
              have hg30 : (0 ≤ ix ∧ ix.toNatClampNeg < 16) := i_ix (by omega) (by omega)
              refine ⟨hg30, ?_⟩
              have hV31 : zV (ma_u m 94 0 (0 : Int32)) := uf_94_0 hV
              have hV32 : zV (ma_u (ma_u m 94 0 (0 : Int32)) 94 0 (0 : Int32)) := uf_94_0 hV31
              have hV33 : zV (ma_u (ma_u (ma_u m 94 0 (0 : Int32)) 94 0 (0 : Int32)) 113 ix.toNatClampNeg (-1 : Int32)) := ua_113 hV32 (by omega) (by omega)
              first | have f34 : 0 ≤ (m 100 (m 113 ix.toNatClampNeg).toNatClampNeg).toInt ∧ (m 100 (m 113 ix.toNatClampNeg).toNatClampNeg).toInt ≤ 100000 := ra_100 (m := m) hV (k := (m 113 ix.toNatClampNeg).toNatClampNeg) (i_ix (n := 3100) (by omega) (by omega)).2 | have b35 := i_bd (m 100 (m 113 ix.toNatClampNeg).toNatClampNeg)
              exact K ((m 100 (m 113 ix.toNatClampNeg).toNatClampNeg)) _ (zF_u (zF_u (zF_u zF_rfl rfl) rfl) rfl) hV33 r_W r_GW r_GU r_OW r_GG r_WTS (show qRB (m 99) (m 100) (m 98) (m 101) (m 102) (m 103) (m 107) (m 108) (m 109) (m 111) (m 112) ((ma_u m 113 ix.toNatClampNeg (-1 : Int32)) 113) (m 114) (m 94 55) (m 94 46) (m 94 11) (m 94 12) (m 94 62) (m 94 17) (m 94 9) (xWe aa ix ob) from by first | (rw [We_y r_RB.1 (by omega) (by omega) (As_n (us := (m 99)) (nr := (m 100)) (a := aa) (o := ob) (by assumption))]; exact RB_wk r_RB (As_u (As_n (us := (m 99)) (nr := (m 100)) (a := aa) (o := ob) (by assumption))); done) | (exfalso; omega; done) | (exfalso; contradiction; done)) (show qI (xWe aa ix ob) from by first | (rw [We_y r_RB.1 (by omega) (by omega) (As_n (us := (m 99)) (nr := (m 100)) (a := aa) (o := ob) (by assumption))]; exact I_u r_QI (Or.inr (Or.inl rfl)); done) | (exfalso; omega; done) | (exfalso; contradiction; done)) (show (xWe aa ix ob) 87 8 = (m 94 58) from by first | (rw [We_y r_RB.1 (by omega) (by omega) (As_n (us := (m 99)) (nr := (m 100)) (a := aa) (o := ob) (by assumption))]; rw [un (by decide)]; exact r_MK; done) | (exfalso; omega; done) | (exfalso; contradiction; done)) (show cV (xWe aa ix ob) [] B from by first | (rw [We_y r_RB.1 (by omega) (by omega) (As_n (us := (m 99)) (nr := (m 100)) (a := aa) (o := ob) (by assumption))]; exact V_0 (Cu_4 r_VV (Or.inl rfl)); done) | (exfalso; omega; done) | (exfalso; contradiction; done)) (show qCt (m 105) (m 99) (m 100) (xWe aa ix ob) [] (-1) (-1) from by first | (rw [We_y r_RB.1 (by omega) (by omega) (As_n (us := (m 99)) (nr := (m 100)) (a := aa) (o := ob) (by assumption))]; exact Ct_K (RB_wk r_RB (As_u (As_n (us := (m 99)) (nr := (m 100)) (a := aa) (o := ob) (by assumption)))).1 (Cu_4 r_VV (Or.inl rfl)) r_CT; done) | (exfalso; omega; done) | (exfalso; contradiction; done))
            · skip
              have g36 := i_nle h27
              have hg37 : (0 ≤ ix ∧ ix.toNatClampNeg < 16) := i_ix (by omega) (by omega)
              refine ⟨hg37, ?_⟩
              have hV38 : zV (ma_u m 94 0 (0 : Int32)) := uf_94_0 hV
              have hV39 : zV (ma_u (ma_u m 94 0 (0 : Int32)) 94 0 (0 : Int32)) := uf_94_0 hV38
              have hV40 : zV (ma_u (ma_u (ma_u m 94 0 (0 : Int32)) 94 0 (0 : Int32)) 113 ix.toNatClampNeg (-1 : Int32)) := ua_113 hV39 (by omega) (by omega)
              exact K ((-1 : Int32)) _ (zF_u (zF_u (zF_u zF_rfl rfl) rfl) rfl) hV40 r_W r_GW r_GU r_OW r_GG r_WTS (show qRB (m 99) (m 100) (m 98) (m 101) (m 102) (m 103) (m 107) (m 108) (m 109) (m 111) (m 112) ((ma_u m 113 ix.toNatClampNeg (-1 : Int32)) 113) (m 114) (m 94 55) (m 94 46) (m 94 11) (m 94 12) (m 94 62) (m 94 17) (m 94 9) (xWe aa ix ob) from by first | (rw [We_y r_RB.1 (by omega) (by omega) (As_n (us := (m 99)) (nr := (m 100)) (a := aa) (o := ob) (by assumption))]; exact RB_wk r_RB (As_u (As_n (us := (m 99)) (nr := (m 100)) (a := aa) (o := ob) (by assumption))); done) | (exfalso; omega; done) | (exfalso; contradiction; done)) (show qI (xWe aa ix ob) from by first | (rw [We_y r_RB.1 (by omega) (by omega) (As_n (us := (m 99)) (nr := (m 100)) (a := aa) (o := ob) (by assumption))]; exact I_u r_QI (Or.inr (Or.inl rfl)); done) | (exfalso; omega; done) | (exfalso; contradiction; done)) (show (xWe aa ix ob) 87 8 = (m 94 58) from by first | (rw [We_y r_RB.1 (by omega) (by omega) (As_n (us := (m 99)) (nr := (m 100)) (a := aa) (o := ob) (by assumption))]; rw [un (by decide)]; exact r_MK; done) | (exfalso; omega; done) | (exfalso; contradiction; done)) (show cV (xWe aa ix ob) [] B from by first | (rw [We_y r_RB.1 (by omega) (by omega) (As_n (us := (m 99)) (nr := (m 100)) (a := aa) (o := ob) (by assumption))]; exact V_0 (Cu_4 r_VV (Or.inl rfl)); done) | (exfalso; omega; done) | (exfalso; contradiction; done)) (show qCt (m 105) (m 99) (m 100) (xWe aa ix ob) [] (-1) (-1) from by first | (rw [We_y r_RB.1 (by omega) (by omega) (As_n (us := (m 99)) (nr := (m 100)) (a := aa) (o := ob) (by assumption))]; exact Ct_K (RB_wk r_RB (As_u (As_n (us := (m 99)) (nr := (m 100)) (a := aa) (o := ob) (by assumption)))).1 (Cu_4 r_VV (Or.inl rfl)) r_CT; done) | (exfalso; omega; done) | (exfalso; contradiction; done))
          · skip
            have g41 := i_ne h22
            have hV42 : zV (ma_u m 94 0 (0 : Int32)) := uf_94_0 hV
            have hV43 : zV (ma_u (ma_u m 94 0 (0 : Int32)) 94 0 (3 : Int32)) := uf_94_0 hV42
            exact K ((0 : Int32)) _ (zF_u (zF_u zF_rfl rfl) rfl) hV43 r_W r_GW r_GU r_OW r_GG r_WTS (show qRB (m 99) (m 100) (m 98) (m 101) (m 102) (m 103) (m 107) (m 108) (m 109) (m 111) (m 112) (m 113) (m 114) (m 94 55) (m 94 46) (m 94 11) (m 94 12) (m 94 62) (m 94 17) (m 94 9) (xWe aa ix ob) from by first | (unfold xWe; rw [qIf_n (Sl_n (Or.inl (by omega)))]; exact r_RB; done) | (unfold xWe; rw [qIf_n (Sl_n (Or.inr (by omega)))]; exact r_RB; done) | (exfalso; omega; done) | (exfalso; contradiction; done)) (show qI (xWe aa ix ob) from by first | (unfold xWe; rw [qIf_n (Sl_n (Or.inl (by omega)))]; exact r_QI; done) | (unfold xWe; rw [qIf_n (Sl_n (Or.inr (by omega)))]; exact r_QI; done) | (exfalso; omega; done) | (exfalso; contradiction; done)) (show (xWe aa ix ob) 87 8 = (m 94 58) from by first | (unfold xWe; rw [qIf_n (Sl_n (Or.inl (by omega)))]; exact r_MK; done) | (unfold xWe; rw [qIf_n (Sl_n (Or.inr (by omega)))]; exact r_MK; done) | (exfalso; omega; done) | (exfalso; contradiction; done)) (show cV (xWe aa ix ob) [] B from by first | (unfold xWe; rw [qIf_n (Sl_n (Or.inl (by omega)))]; exact r_VV; done) | (unfold xWe; rw [qIf_n (Sl_n (Or.inr (by omega)))]; exact r_VV; done) | (exfalso; omega; done) | (exfalso; contradiction; done)) (show qCt (m 105) (m 99) (m 100) (xWe aa ix ob) [] (-1) (-1) from by first | (unfold xWe; rw [qIf_n (Sl_n (Or.inl (by omega)))]; exact r_CT; done) | (unfold xWe; rw [qIf_n (Sl_n (Or.inr (by omega)))]; exact r_CT; done) | (exfalso; omega; done) | (exfalso; contradiction; done))
        · skip
          have g44 := i_ne h20
          have hV45 : zV (ma_u m 94 0 (0 : Int32)) := uf_94_0 hV
          refine sp_245r (aa := aa) (ob) hV45 r_W r_RB r_QI (fun v2 m1 hV_m1 p0_m1 p1_m1 p2_m1 => zmi_n ?_)
          have p0_m1 : -1 ≤ v2.toInt ∧ v2.toInt ≤ 3099 := p0_m1
          have p1_m1 : v2.toInt < 0 ∨ (m 99) v2.toNatClampNeg ≠ 0 := p1_m1
          have p2_m1 : qRe (m 99) (m 100) aa ob v2 := p2_m1
          refine zd (fun (h46 : ob = (-1 : Int32)) => ?_) (fun (h46 : ¬ ob = (-1 : Int32)) => ?_)
          · skip
            have g47 := i_eq h46
            have hg48 : (0 ≤ ix ∧ ix.toNatClampNeg < 16) := i_ix (by omega) (by omega)
            refine ⟨hg48, ?_⟩
            first | have f49 : -1 ≤ (m 113 ix.toNatClampNeg).toInt ∧ (m 113 ix.toNatClampNeg).toInt ≤ 3099 := ra_113 (m := m) hV (k := ix.toNatClampNeg) (i_ix (n := 16) (by omega) (by omega)).2 | have b50 := i_bd (m 113 ix.toNatClampNeg)
            refine zd (fun (h51 : (0 : Int32) ≤ (m 113 ix.toNatClampNeg)) => ?_) (fun (h51 : ¬ (0 : Int32) ≤ (m 113 ix.toNatClampNeg)) => ?_)
            · skip
              have g52 := i_le h51
              have hg53 : (0 ≤ (m 113 ix.toNatClampNeg) ∧ (m 113 ix.toNatClampNeg).toNatClampNeg < 3100) := i_ix (by omega) (by omega)
              refine ⟨hg53, ?_⟩
              have hg54 : (0 ≤ ix ∧ ix.toNatClampNeg < 16) := i_ix (by omega) (by omega)
              refine ⟨hg54, ?_⟩
              have hV55 : zV (ma_u (zov wr_245 (ma_u m 94 0 (0 : Int32)) m1) 94 0 (0 : Int32)) := uf_94_0 hV_m1
              have b57 := i_bd v2
              have hV56 : zV (ma_u (ma_u (zov wr_245 (ma_u m 94 0 (0 : Int32)) m1) 94 0 (0 : Int32)) 113 ix.toNatClampNeg v2) := ua_113 hV55 (by omega) (by omega)
              first | have f58 : 0 ≤ (m 100 (m 113 ix.toNatClampNeg).toNatClampNeg).toInt ∧ (m 100 (m 113 ix.toNatClampNeg).toNatClampNeg).toInt ≤ 100000 := ra_100 (m := m) hV (k := (m 113 ix.toNatClampNeg).toNatClampNeg) (i_ix (n := 3100) (by omega) (by omega)).2 | have b59 := i_bd (m 100 (m 113 ix.toNatClampNeg).toNatClampNeg)
              exact K ((m 100 (m 113 ix.toNatClampNeg).toNatClampNeg)) _ (zF_u (zF_u (zF_zov (zF_u zF_rfl rfl) ws_245_251) rfl) rfl) hV56 r_W r_GW r_GU r_OW r_GG r_WTS (show qRB (m 99) (m 100) (m 98) (m 101) (m 102) (m 103) (m 107) (m 108) (m 109) (m 111) (m 112) ((ma_u m 113 ix.toNatClampNeg v2) 113) (m 114) (m 94 55) (m 94 46) (m 94 11) (m 94 12) (m 94 62) (m 94 17) (m 94 9) (xWe aa ix ob) from by first | (rw [We_y r_RB.1 (by omega) (by omega) (As_y p2_m1 (by omega))]; exact RB_wk r_RB (As_u (As_y p2_m1 (by omega))); done) | (exfalso; omega; done) | (exfalso; contradiction; done)) (show qI (xWe aa ix ob) from by first | (rw [We_y r_RB.1 (by omega) (by omega) (As_y p2_m1 (by omega))]; exact I_u r_QI (Or.inr (Or.inl rfl)); done) | (exfalso; omega; done) | (exfalso; contradiction; done)) (show (xWe aa ix ob) 87 8 = (m 94 58) from by first | (rw [We_y r_RB.1 (by omega) (by omega) (As_y p2_m1 (by omega))]; rw [un (by decide)]; exact r_MK; done) | (exfalso; omega; done) | (exfalso; contradiction; done)) (show cV (xWe aa ix ob) [] B from by first | (rw [We_y r_RB.1 (by omega) (by omega) (As_y p2_m1 (by omega))]; exact V_0 (Cu_4 r_VV (Or.inl rfl)); done) | (exfalso; omega; done) | (exfalso; contradiction; done)) (show qCt (m 105) (m 99) (m 100) (xWe aa ix ob) [] (-1) (-1) from by first | (rw [We_y r_RB.1 (by omega) (by omega) (As_y p2_m1 (by omega))]; exact Ct_K (RB_wk r_RB (As_u (As_y p2_m1 (by omega)))).1 (Cu_4 r_VV (Or.inl rfl)) r_CT; done) | (exfalso; omega; done) | (exfalso; contradiction; done))
            · skip
              have g60 := i_nle h51
              have hg61 : (0 ≤ ix ∧ ix.toNatClampNeg < 16) := i_ix (by omega) (by omega)
              refine ⟨hg61, ?_⟩
              have hV62 : zV (ma_u (zov wr_245 (ma_u m 94 0 (0 : Int32)) m1) 94 0 (0 : Int32)) := uf_94_0 hV_m1
              have b64 := i_bd v2
              have hV63 : zV (ma_u (ma_u (zov wr_245 (ma_u m 94 0 (0 : Int32)) m1) 94 0 (0 : Int32)) 113 ix.toNatClampNeg v2) := ua_113 hV62 (by omega) (by omega)
              exact K ((-1 : Int32)) _ (zF_u (zF_u (zF_zov (zF_u zF_rfl rfl) ws_245_251) rfl) rfl) hV63 r_W r_GW r_GU r_OW r_GG r_WTS (show qRB (m 99) (m 100) (m 98) (m 101) (m 102) (m 103) (m 107) (m 108) (m 109) (m 111) (m 112) ((ma_u m 113 ix.toNatClampNeg v2) 113) (m 114) (m 94 55) (m 94 46) (m 94 11) (m 94 12) (m 94 62) (m 94 17) (m 94 9) (xWe aa ix ob) from by first | (rw [We_y r_RB.1 (by omega) (by omega) (As_y p2_m1 (by omega))]; exact RB_wk r_RB (As_u (As_y p2_m1 (by omega))); done) | (exfalso; omega; done) | (exfalso; contradiction; done)) (show qI (xWe aa ix ob) from by first | (rw [We_y r_RB.1 (by omega) (by omega) (As_y p2_m1 (by omega))]; exact I_u r_QI (Or.inr (Or.inl rfl)); done) | (exfalso; omega; done) | (exfalso; contradiction; done)) (show (xWe aa ix ob) 87 8 = (m 94 58) from by first | (rw [We_y r_RB.1 (by omega) (by omega) (As_y p2_m1 (by omega))]; rw [un (by decide)]; exact r_MK; done) | (exfalso; omega; done) | (exfalso; contradiction; done)) (show cV (xWe aa ix ob) [] B from by first | (rw [We_y r_RB.1 (by omega) (by omega) (As_y p2_m1 (by omega))]; exact V_0 (Cu_4 r_VV (Or.inl rfl)); done) | (exfalso; omega; done) | (exfalso; contradiction; done)) (show qCt (m 105) (m 99) (m 100) (xWe aa ix ob) [] (-1) (-1) from by first | (rw [We_y r_RB.1 (by omega) (by omega) (As_y p2_m1 (by omega))]; exact Ct_K (RB_wk r_RB (As_u (As_y p2_m1 (by omega)))).1 (Cu_4 r_VV (Or.inl rfl)) r_CT; done) | (exfalso; omega; done) | (exfalso; contradiction; done))
          · skip
            have g65 := i_ne h46
            have b66 := i_bd v2
            refine zd (fun (h67 : (0 : Int32) ≤ v2) => ?_) (fun (h67 : ¬ (0 : Int32) ≤ v2) => ?_)
            · skip
              have g68 := i_le h67
              have hg69 : (0 ≤ ix ∧ ix.toNatClampNeg < 16) := i_ix (by omega) (by omega)
              refine ⟨hg69, ?_⟩
              first | have f70 : -1 ≤ (m 113 ix.toNatClampNeg).toInt ∧ (m 113 ix.toNatClampNeg).toInt ≤ 3099 := ra_113 (m := m) hV (k := ix.toNatClampNeg) (i_ix (n := 16) (by omega) (by omega)).2 | have b71 := i_bd (m 113 ix.toNatClampNeg)
              refine zd (fun (h72 : (0 : Int32) ≤ (m 113 ix.toNatClampNeg)) => ?_) (fun (h72 : ¬ (0 : Int32) ≤ (m 113 ix.toNatClampNeg)) => ?_)
              · skip
                have g73 := i_le h72
                have hg74 : (0 ≤ (m 113 ix.toNatClampNeg) ∧ (m 113 ix.toNatClampNeg).toNatClampNeg < 3100) := i_ix (by omega) (by omega)
                refine ⟨hg74, ?_⟩
                have hg75 : (0 ≤ ix ∧ ix.toNatClampNeg < 16) := i_ix (by omega) (by omega)
                refine ⟨hg75, ?_⟩
                have hV76 : zV (ma_u (zov wr_245 (ma_u m 94 0 (0 : Int32)) m1) 94 0 (0 : Int32)) := uf_94_0 hV_m1
                have hV77 : zV (ma_u (ma_u (zov wr_245 (ma_u m 94 0 (0 : Int32)) m1) 94 0 (0 : Int32)) 113 ix.toNatClampNeg v2) := ua_113 hV76 (by omega) (by omega)
                first | have f78 : 0 ≤ (m 100 (m 113 ix.toNatClampNeg).toNatClampNeg).toInt ∧ (m 100 (m 113 ix.toNatClampNeg).toNatClampNeg).toInt ≤ 100000 := ra_100 (m := m) hV (k := (m 113 ix.toNatClampNeg).toNatClampNeg) (i_ix (n := 3100) (by omega) (by omega)).2 | have b79 := i_bd (m 100 (m 113 ix.toNatClampNeg).toNatClampNeg)
                exact K ((m 100 (m 113 ix.toNatClampNeg).toNatClampNeg)) _ (zF_u (zF_u (zF_zov (zF_u zF_rfl rfl) ws_245_251) rfl) rfl) hV77 r_W r_GW r_GU r_OW r_GG r_WTS (show qRB (m 99) (m 100) (m 98) (m 101) (m 102) (m 103) (m 107) (m 108) (m 109) (m 111) (m 112) ((ma_u m 113 ix.toNatClampNeg v2) 113) (m 114) (m 94 55) (m 94 46) (m 94 11) (m 94 12) (m 94 62) (m 94 17) (m 94 9) (xWe aa ix ob) from by first | (rw [We_y r_RB.1 (by omega) (by omega) (As_y p2_m1 (by omega))]; exact RB_wk r_RB (As_u (As_y p2_m1 (by omega))); done) | (exfalso; omega; done) | (exfalso; contradiction; done)) (show qI (xWe aa ix ob) from by first | (rw [We_y r_RB.1 (by omega) (by omega) (As_y p2_m1 (by omega))]; exact I_u r_QI (Or.inr (Or.inl rfl)); done) | (exfalso; omega; done) | (exfalso; contradiction; done)) (show (xWe aa ix ob) 87 8 = (m 94 58) from by first | (rw [We_y r_RB.1 (by omega) (by omega) (As_y p2_m1 (by omega))]; rw [un (by decide)]; exact r_MK; done) | (exfalso; omega; done) | (exfalso; contradiction; done)) (show cV (xWe aa ix ob) [] B from by first | (rw [We_y r_RB.1 (by omega) (by omega) (As_y p2_m1 (by omega))]; exact V_0 (Cu_4 r_VV (Or.inl rfl)); done) | (exfalso; omega; done) | (exfalso; contradiction; done)) (show qCt (m 105) (m 99) (m 100) (xWe aa ix ob) [] (-1) (-1) from by first | (rw [We_y r_RB.1 (by omega) (by omega) (As_y p2_m1 (by omega))]; exact Ct_K (RB_wk r_RB (As_u (As_y p2_m1 (by omega)))).1 (Cu_4 r_VV (Or.inl rfl)) r_CT; done) | (exfalso; omega; done) | (exfalso; contradiction; done))
              · skip
                have g80 := i_nle h72
                have hg81 : (0 ≤ ix ∧ ix.toNatClampNeg < 16) := i_ix (by omega) (by omega)
                refine ⟨hg81, ?_⟩
                have hV82 : zV (ma_u (zov wr_245 (ma_u m 94 0 (0 : Int32)) m1) 94 0 (0 : Int32)) := uf_94_0 hV_m1
                have hV83 : zV (ma_u (ma_u (zov wr_245 (ma_u m 94 0 (0 : Int32)) m1) 94 0 (0 : Int32)) 113 ix.toNatClampNeg v2) := ua_113 hV82 (by omega) (by omega)
                exact K ((-1 : Int32)) _ (zF_u (zF_u (zF_zov (zF_u zF_rfl rfl) ws_245_251) rfl) rfl) hV83 r_W r_GW r_GU r_OW r_GG r_WTS (show qRB (m 99) (m 100) (m 98) (m 101) (m 102) (m 103) (m 107) (m 108) (m 109) (m 111) (m 112) ((ma_u m 113 ix.toNatClampNeg v2) 113) (m 114) (m 94 55) (m 94 46) (m 94 11) (m 94 12) (m 94 62) (m 94 17) (m 94 9) (xWe aa ix ob) from by first | (rw [We_y r_RB.1 (by omega) (by omega) (As_y p2_m1 (by omega))]; exact RB_wk r_RB (As_u (As_y p2_m1 (by omega))); done) | (exfalso; omega; done) | (exfalso; contradiction; done)) (show qI (xWe aa ix ob) from by first | (rw [We_y r_RB.1 (by omega) (by omega) (As_y p2_m1 (by omega))]; exact I_u r_QI (Or.inr (Or.inl rfl)); done) | (exfalso; omega; done) | (exfalso; contradiction; done)) (show (xWe aa ix ob) 87 8 = (m 94 58) from by first | (rw [We_y r_RB.1 (by omega) (by omega) (As_y p2_m1 (by omega))]; rw [un (by decide)]; exact r_MK; done) | (exfalso; omega; done) | (exfalso; contradiction; done)) (show cV (xWe aa ix ob) [] B from by first | (rw [We_y r_RB.1 (by omega) (by omega) (As_y p2_m1 (by omega))]; exact V_0 (Cu_4 r_VV (Or.inl rfl)); done) | (exfalso; omega; done) | (exfalso; contradiction; done)) (show qCt (m 105) (m 99) (m 100) (xWe aa ix ob) [] (-1) (-1) from by first | (rw [We_y r_RB.1 (by omega) (by omega) (As_y p2_m1 (by omega))]; exact Ct_K (RB_wk r_RB (As_u (As_y p2_m1 (by omega)))).1 (Cu_4 r_VV (Or.inl rfl)) r_CT; done) | (exfalso; omega; done) | (exfalso; contradiction; done))
            · skip
              have g84 := i_nle h67
              have hV85 : zV (ma_u (zov wr_245 (ma_u m 94 0 (0 : Int32)) m1) 94 0 (3 : Int32)) := uf_94_0 hV_m1
              exact K ((0 : Int32)) _ (zF_u (zF_zov (zF_u zF_rfl rfl) ws_245_251) rfl) hV85 r_W r_GW r_GU r_OW r_GG r_WTS (show qRB (m 99) (m 100) (m 98) (m 101) (m 102) (m 103) (m 107) (m 108) (m 109) (m 111) (m 112) (m 113) (m 114) (m 94 55) (m 94 46) (m 94 11) (m 94 12) (m 94 62) (m 94 17) (m 94 9) (xWe aa ix ob) from by first | (unfold xWe; rw [qIf_n (Sl_n (Or.inl (by omega)))]; exact r_RB; done) | (unfold xWe; rw [qIf_n (Sl_n (Or.inr (by omega)))]; exact r_RB; done) | (unfold xWe; rw [qIf_n (Sl_r (by assumption) (Re_n p2_m1 (by omega)))]; exact r_RB; done) | (exfalso; omega; done) | (exfalso; contradiction; done)) (show qI (xWe aa ix ob) from by first | (unfold xWe; rw [qIf_n (Sl_n (Or.inl (by omega)))]; exact r_QI; done) | (unfold xWe; rw [qIf_n (Sl_n (Or.inr (by omega)))]; exact r_QI; done) | (unfold xWe; rw [qIf_n (Sl_r (by assumption) (Re_n p2_m1 (by omega)))]; exact r_QI; done) | (exfalso; omega; done) | (exfalso; contradiction; done)) (show (xWe aa ix ob) 87 8 = (m 94 58) from by first | (unfold xWe; rw [qIf_n (Sl_n (Or.inl (by omega)))]; exact r_MK; done) | (unfold xWe; rw [qIf_n (Sl_n (Or.inr (by omega)))]; exact r_MK; done) | (unfold xWe; rw [qIf_n (Sl_r (by assumption) (Re_n p2_m1 (by omega)))]; exact r_MK; done) | (exfalso; omega; done) | (exfalso; contradiction; done)) (show cV (xWe aa ix ob) [] B from by first | (unfold xWe; rw [qIf_n (Sl_n (Or.inl (by omega)))]; exact r_VV; done) | (unfold xWe; rw [qIf_n (Sl_n (Or.inr (by omega)))]; exact r_VV; done) | (unfold xWe; rw [qIf_n (Sl_r (by assumption) (Re_n p2_m1 (by omega)))]; exact r_VV; done) | (exfalso; omega; done) | (exfalso; contradiction; done)) (show qCt (m 105) (m 99) (m 100) (xWe aa ix ob) [] (-1) (-1) from by first | (unfold xWe; rw [qIf_n (Sl_n (Or.inl (by omega)))]; exact r_CT; done) | (unfold xWe; rw [qIf_n (Sl_n (Or.inr (by omega)))]; exact r_CT; done) | (unfold xWe; rw [qIf_n (Sl_r (by assumption) (Re_n p2_m1 (by omega)))]; exact r_CT; done) | (exfalso; omega; done) | (exfalso; contradiction; done))
set_option maxHeartbeats 8000000 in
theorem sp_254r4 {X : Nat × (Nat → Int32)} {P : Option ma_V → (Nat → Nat → Int32) → Prop} {T : Nat} {aa : Nat→Nat→Int32} {B : Int} {m : Nat → Nat → Int32} (ob : Int32) (hV : zV m) (hpre0 : T + 1 ≤ 3000) (hpre1 : T ≤ 512) (hpre2 : B ≤ 1000000) (r_W : zW (m 94 7) (m 98) (m 101) (m 102) (m 108)) (r_GW : zGW T (m 94 55) (m 109)) (r_GU : zGU T (m 94 46) (m 99)) (r_OW : zOw (m 99) (m 103) (m 111)) (r_GG : zGG (m 94 58) (m 94 56) (m 94 57) (m 106)) (hpre8 : (m 94 10).toInt = 4 ∧ (m 94 58).toInt = 0) (hpre9 : (m 94 8).toInt = 1) (r_RB : qRB (m 99) (m 100) (m 98) (m 101) (m 102) (m 103) (m 107) (m 108) (m 109) (m 111) (m 112) (m 113) (m 114) (m 94 55) (m 94 46) (m 94 11) (m 94 12) (m 94 62) (m 94 17) (m 94 9) aa) (r_QI : qI aa) (r_MK : aa 87 8 = (m 94 58)) (r_WTS : (m 94 45).toInt = sm (zbU (m 99)) (m 102) 3100) (r_VV : cV aa [] B) (r_CT : qCt (m 105) (m 99) (m 100) aa [] (-1) (-1)) (KZ : ∀ v m₉, zV (zov wr_254 m m₉) → (zW (m 94 7) (m 98) (m 101) (m 102) (m 108)) → (zGW (T + 1) (m 94 55) (m₉ 109)) → (zGU T (m 94 46) (m 99)) → (zOw (m 99) (m 103) (m 111)) → (zGG (m 94 58) (m 94 56) (m 94 57) (m 106)) → ((m 94 45).toInt = sm (zbU (m 99)) (m 102) 3100) → (qRB (m 99) (m 100) (m 98) (m 101) (m 102) (m 103) (m 107) (m 108) (m₉ 109) (m 111) (m 112) (m 113) (m 114) (m 94 55) (m 94 46) (m 94 11) (m 94 12) (m 94 62) (m 94 17) (m 94 9) (xWi aa ob)) → (qI (xWi aa ob)) → ((xWi aa ob) 87 8 = (m 94 58)) → (cV (xWi aa ob) [] B) → (qCt (m 105) (m 99) (m 100) (xWi aa ob) [] (-1) (-1)) → P (some (.inl v)) (zov wr_254 m m₉)) : zm X 5 109 254 0 [(0, .inr (.inr (some 94))), (1, .inl ob)] m P := by
  have K : ∀ v m₉, zF wr_254 m m₉ → zV m₉ → (zW (m₉ 94 7) (m₉ 98) (m₉ 101) (m₉ 102) (m₉ 108)) → (zGW (T + 1) (m₉ 94 55) (m₉ 109)) → (zGU T (m₉ 94 46) (m₉ 99)) → (zOw (m₉ 99) (m₉ 103) (m₉ 111)) → (zGG (m₉ 94 58) (m₉ 94 56) (m₉ 94 57) (m₉ 106)) → ((m₉ 94 45).toInt = sm (zbU (m₉ 99)) (m₉ 102) 3100) → (qRB (m₉ 99) (m₉ 100) (m₉ 98) (m₉ 101) (m₉ 102) (m₉ 103) (m₉ 107) (m₉ 108) (m₉ 109) (m₉ 111) (m₉ 112) (m₉ 113) (m₉ 114) (m₉ 94 55) (m₉ 94 46) (m₉ 94 11) (m₉ 94 12) (m₉ 94 62) (m₉ 94 17) (m₉ 94 9) (xWi aa ob)) → (qI (xWi aa ob)) → ((xWi aa ob) 87 8 = (m₉ 94 58)) → (cV (xWi aa ob) [] B) → (qCt (m₉ 105) (m₉ 99) (m₉ 100) (xWi aa ob) [] (-1) (-1)) → P (some (.inl v)) m₉ := by
    intro v m₉ hf z q0 q1 q2 q3 q4 q5 q6 q7 q8 q9 q10
    have e := zov_eq hf
    rw [e] at z ⊢
    try rw [e] at q0
    try rw [e] at q1
    try rw [e] at q2
    try rw [e] at q3
    try rw [e] at q4
    try rw [e] at q5
    try rw [e] at q6
    try rw [e] at q7
    try rw [e] at q8
    try rw [e] at q9
    try rw [e] at q10
    exact KZ v m₉ z q0 q1 q2 q3 q4 q5 q6 q7 q8 q9 q10
  refine g_254_0 ob ?_
  have f1 : 0 ≤ (m 94 10).toInt ∧ (m 94 10).toInt ≤ 6 := rs_94_10 (m := m) hV
  have f2 : 0 ≤ (m 94 58).toInt ∧ (m 94 58).toInt ≤ 1 := rs_94_58 (m := m) hV
  have f3 : 0 ≤ (m 94 8).toInt ∧ (m 94 8).toInt ≤ 1 := rs_94_8 (m := m) hV
  have li4 : (0 : Int32).toInt = 0 := rfl
  refine zd (fun (h5 : (m 94 8) = (0 : Int32)) => ?_) (fun (h5 : ¬ (m 94 8) = (0 : Int32)) => ?_)
  · skip
    have g6 := i_eq h5
    exfalso; omega
  · skip
    have g7 := i_ne h5
    have b8 := i_bd ob
    have hV9 : zV (ma_u m 94 0 (0 : Int32)) := uf_94_0 hV
    refine sp_245r (aa := aa) (ob) hV9 r_W r_RB r_QI (fun v2 m1 hV_m1 p0_m1 p1_m1 p2_m1 => zmi_n ?_)
    have p0_m1 : -1 ≤ v2.toInt ∧ v2.toInt ≤ 3099 := p0_m1
    have p1_m1 : v2.toInt < 0 ∨ (m 99) v2.toNatClampNeg ≠ 0 := p1_m1
    have p2_m1 : qRe (m 99) (m 100) aa ob v2 := p2_m1
    have b10 := i_bd v2
    refine zd (fun (h11 : (0 : Int32) ≤ v2) => ?_) (fun (h11 : ¬ (0 : Int32) ≤ v2) => ?_)
    · skip
      have g12 := i_le h11
      have hg13 : (0 ≤ v2 ∧ v2.toNatClampNeg < 3100) := i_ix (by omega) (by omega)
      refine ⟨hg13, ?_⟩
      first | have f14 : 0 ≤ (m 109 v2.toNatClampNeg).toInt ∧ (m 109 v2.toNatClampNeg).toInt ≤ 1 := ra_109 (m := m) hV (k := v2.toNatClampNeg) (i_ix (n := 3100) (by omega) (by omega)).2 | have b15 := i_bd (m 109 v2.toNatClampNeg)
      refine zd (fun (h16 : (m 109 v2.toNatClampNeg) = (0 : Int32)) => ?_) (fun (h16 : ¬ (m 109 v2.toNatClampNeg) = (0 : Int32)) => ?_)
      · skip
        have g17 := i_eq h16
        have hg18 : (0 ≤ v2 ∧ v2.toNatClampNeg < 3100) := i_ix (by omega) (by omega)
        refine ⟨hg18, ?_⟩
        have hV19 : zV (ma_u (zov wr_245 (ma_u m 94 0 (0 : Int32)) m1) 94 0 (0 : Int32)) := uf_94_0 hV_m1
        have li21 : (1 : Int32).toInt = 1 := rfl
        have hV20 : zV (ma_u (ma_u (zov wr_245 (ma_u m 94 0 (0 : Int32)) m1) 94 0 (0 : Int32)) 109 v2.toNatClampNeg (1 : Int32)) := ua_109 hV19 (by omega) (by omega)
        exact K ((1 : Int32)) _ (zF_u (zF_u (zF_zov (zF_u zF_rfl rfl) ws_245_254) rfl) rfl) hV20 r_W (show zGW (T + 1) (m 94 55) ((ma_u m 109 v2.toNatClampNeg (1 : Int32)) 109) from by first | (exact GW_more r_GW (by omega)) | (exfalso; omega; done) | (exfalso; contradiction; done)) r_GU r_OW r_GG r_WTS (show qRB (m 99) (m 100) (m 98) (m 101) (m 102) (m 103) (m 107) (m 108) ((ma_u m 109 v2.toNatClampNeg (1 : Int32)) 109) (m 111) (m 112) (m 113) (m 114) (m 94 55) (m 94 46) (m 94 11) (m 94 12) (m 94 62) (m 94 17) (m 94 9) (xWi aa ob) from by first | (rw [Wi_y p2_m1 (by omega)]; exact RB_wi r_RB (by omega) (Re_y p2_m1 (by omega)).2.1; done) | (exfalso; omega; done) | (exfalso; contradiction; done)) (show qI (xWi aa ob) from by first | (rw [Wi_y p2_m1 (by omega)]; exact I_u r_QI (Or.inr (Or.inr (Or.inr rfl))); done) | (exfalso; omega; done) | (exfalso; contradiction; done)) (show (xWi aa ob) 87 8 = (m 94 58) from by first | (rw [Wi_y p2_m1 (by omega)]; rw [un (by decide)]; exact r_MK; done) | (exfalso; omega; done) | (exfalso; contradiction; done)) (show cV (xWi aa ob) [] B from by first | (rw [Wi_y p2_m1 (by omega)]; exact V_0 (Cu_4 r_VV (Or.inr rfl)); done) | (exfalso; omega; done) | (exfalso; contradiction; done)) (show qCt (m 105) (m 99) (m 100) (xWi aa ob) [] (-1) (-1) from by first | (rw [Wi_y p2_m1 (by omega)]; exact Ct_K (RB_wi (x := 1) r_RB (tn_lt (by omega) (by omega)) (Re_y p2_m1 (by omega)).2.1).1 (Cu_4 r_VV (Or.inr rfl)) r_CT; done) | (exfalso; omega; done) | (exfalso; contradiction; done))
      · skip
        have g22 := i_ne h16
        have hg23 : (0 ≤ v2 ∧ v2.toNatClampNeg < 3100) := i_ix (by omega) (by omega)
        refine ⟨hg23, ?_⟩
        have hV24 : zV (ma_u (zov wr_245 (ma_u m 94 0 (0 : Int32)) m1) 94 0 (0 : Int32)) := uf_94_0 hV_m1
        have li26 : (1 : Int32).toInt = 1 := rfl
        have hV25 : zV (ma_u (ma_u (zov wr_245 (ma_u m 94 0 (0 : Int32)) m1) 94 0 (0 : Int32)) 109 v2.toNatClampNeg (1 : Int32)) := ua_109 hV24 (by omega) (by omega)
        exact K ((0 : Int32)) _ (zF_u (zF_u (zF_zov (zF_u zF_rfl rfl) ws_245_254) rfl) rfl) hV25 r_W (show zGW (T + 1) (m 94 55) ((ma_u m 109 v2.toNatClampNeg (1 : Int32)) 109) from by first | (exact GW_more r_GW (by omega)) | (exfalso; omega; done) | (exfalso; contradiction; done)) r_GU r_OW r_GG r_WTS (show qRB (m 99) (m 100) (m 98) (m 101) (m 102) (m 103) (m 107) (m 108) ((ma_u m 109 v2.toNatClampNeg (1 : Int32)) 109) (m 111) (m 112) (m 113) (m 114) (m 94 55) (m 94 46) (m 94 11) (m 94 12) (m 94 62) (m 94 17) (m 94 9) (xWi aa ob) from by first | (rw [Wi_y p2_m1 (by omega)]; exact RB_wi r_RB (by omega) (Re_y p2_m1 (by omega)).2.1; done) | (exfalso; omega; done) | (exfalso; contradiction; done)) (show qI (xWi aa ob) from by first | (rw [Wi_y p2_m1 (by omega)]; exact I_u r_QI (Or.inr (Or.inr (Or.inr rfl))); done) | (exfalso; omega; done) | (exfalso; contradiction; done)) (show (xWi aa ob) 87 8 = (m 94 58) from by first | (rw [Wi_y p2_m1 (by omega)]; rw [un (by decide)]; exact r_MK; done) | (exfalso; omega; done) | (exfalso; contradiction; done)) (show cV (xWi aa ob) [] B from by first | (rw [Wi_y p2_m1 (by omega)]; exact V_0 (Cu_4 r_VV (Or.inr rfl)); done) | (exfalso; omega; done) | (exfalso; contradiction; done)) (show qCt (m 105) (m 99) (m 100) (xWi aa ob) [] (-1) (-1) from by first | (rw [Wi_y p2_m1 (by omega)]; exact Ct_K (RB_wi (x := 1) r_RB (tn_lt (by omega) (by omega)) (Re_y p2_m1 (by omega)).2.1).1 (Cu_4 r_VV (Or.inr rfl)) r_CT; done) | (exfalso; omega; done) | (exfalso; contradiction; done))
    · skip
      have g27 := i_nle h11
      have hV28 : zV (ma_u (zov wr_245 (ma_u m 94 0 (0 : Int32)) m1) 94 0 (2 : Int32)) := uf_94_0 hV_m1
      exact K ((0 : Int32)) _ (zF_u (zF_zov (zF_u zF_rfl rfl) ws_245_254) rfl) hV28 r_W (show zGW (T + 1) (m 94 55) (m 109) from by first | (exact GW_up r_GW (by omega)) | (exfalso; omega; done) | (exfalso; contradiction; done)) r_GU r_OW r_GG r_WTS (show qRB (m 99) (m 100) (m 98) (m 101) (m 102) (m 103) (m 107) (m 108) (m 109) (m 111) (m 112) (m 113) (m 114) (m 94 55) (m 94 46) (m 94 11) (m 94 12) (m 94 62) (m 94 17) (m 94 9) (xWi aa ob) from by first | (unfold xWi; rw [qIf_n (Re_n p2_m1 (by omega))]; exact r_RB; done) | (exfalso; omega; done) | (exfalso; contradiction; done)) (show qI (xWi aa ob) from by first | (unfold xWi; rw [qIf_n (Re_n p2_m1 (by omega))]; exact r_QI; done) | (exfalso; omega; done) | (exfalso; contradiction; done)) (show (xWi aa ob) 87 8 = (m 94 58) from by first | (unfold xWi; rw [qIf_n (Re_n p2_m1 (by omega))]; exact r_MK; done) | (exfalso; omega; done) | (exfalso; contradiction; done)) (show cV (xWi aa ob) [] B from by first | (unfold xWi; rw [qIf_n (Re_n p2_m1 (by omega))]; exact r_VV; done) | (exfalso; omega; done) | (exfalso; contradiction; done)) (show qCt (m 105) (m 99) (m 100) (xWi aa ob) [] (-1) (-1) from by first | (unfold xWi; rw [qIf_n (Re_n p2_m1 (by omega))]; exact r_CT; done) | (exfalso; omega; done) | (exfalso; contradiction; done))

/-! from 95.o08 -/
/-! the reference under COUNTS (written by wip/tools/gen20s.py) -/
/-! COUNTS, the reference: a hold -/
section D6
variable {a : Nat → Nat → Int32} {us nr kr kd ws at₉ ho wd wi ow rt wk wl ct ct₉ : Nat → Int32} {wm nu ro fo le ra pi y v o im : Int32} {m : Nat → Nat → Int32} {B : Int}
theorem Ho_P0 (h : ¬ zRq a o) : kHo a o y = a := qIf_n (fun w => h w.1)
theorem Ho_E (hR : qRB us nr kr kd ws at₉ ho wd wi ow rt wk wl wm nu ro fo le ra pi a) (h : qRe us nr a o v) (hv : 0 ≤ v.toInt) (h0 : y = 0) (hh : ¬ ho v.toNatClampNeg = 0) : kHo a o y = cLe (ma_u a 133 (nr v.toNatClampNeg).toNatClampNeg (ho v.toNatClampNeg + -1)) (qNo nr v) := by
  rw [No_y hv]
  exact kHo_y hR h hv (Or.inr hh) (by rw [if_pos h0])
theorem Ho_P1 (hR : qRB us nr kr kd ws at₉ (m 107) wd wi ow rt wk wl wm nu ro fo le ra pi a) (hI : qI a) (h8 : a 87 8 = im) (hV : cV a [] B) (hB : B + 1 ≤ 1000000) (hC : qCt ct us nr a [] (-1) (-1)) (h : qRe us nr a o v) (hv : 0 ≤ v.toInt) (h0 : ¬ y = 0) (e : ct₉ = zUp ct v.toNatClampNeg (ct v.toNatClampNeg + 1)) : qRB us nr kr kd ws at₉ (ma_u m 107 v.toNatClampNeg (m 107 v.toNatClampNeg + 1) 107) wd wi ow rt wk wl wm nu ro fo le ra pi (kHo a o y) ∧ qI (kHo a o y) ∧ kHo a o y 87 8 = im ∧ cV (kHo a o y) [] (B + 1) ∧ qCt ct₉ us nr (kHo a o y) [] (-1) (-1) := by
  have q := Re_y h hv
  have hon := Ho_on hR hV hB hC hv (by omega) q.2.1 e
  rw [kHo_y hR h hv (Or.inl h0) (by rw [if_neg h0]), hon.1]
  refine ⟨RB_ho hR (tn_lt hv (by omega)) q.2.1, I_u hI (Or.inr (Or.inr (Or.inl rfl))), ?_, hon.2.1, hon.2.2⟩
  rw [un (by decide)]
  exact h8
end D6
set_option maxHeartbeats 8000000 in
theorem sp_253r4 {X : Nat × (Nat → Int32)} {P : Option ma_V → (Nat → Nat → Int32) → Prop} {T : Nat} {aa : Nat→Nat→Int32} {B : Int} {m : Nat → Nat → Int32} (ob : Int32) (on : Int32) (hV : zV m) (hpre0 : 0 ≤ on.toInt) (hpre1 : on.toInt ≤ 1) (hpre2 : B + 1 ≤ 1000000) (hpre3 : T ≤ 512) (hpre4 : B ≤ 1000000) (r_W : zW (m 94 7) (m 98) (m 101) (m 102) (m 108)) (r_GW : zGW T (m 94 55) (m 109)) (r_GU : zGU T (m 94 46) (m 99)) (r_OW : zOw (m 99) (m 103) (m 111)) (r_GG : zGG (m 94 58) (m 94 56) (m 94 57) (m 106)) (hpre10 : (m 94 10).toInt = 4 ∧ (m 94 58).toInt = 0) (hpre11 : (m 94 8).toInt = 1) (r_RB : qRB (m 99) (m 100) (m 98) (m 101) (m 102) (m 103) (m 107) (m 108) (m 109) (m 111) (m 112) (m 113) (m 114) (m 94 55) (m 94 46) (m 94 11) (m 94 12) (m 94 62) (m 94 17) (m 94 9) aa) (r_QI : qI aa) (r_MK : aa 87 8 = (m 94 58)) (r_WTS : (m 94 45).toInt = sm (zbU (m 99)) (m 102) 3100) (r_VV : cV aa [] B) (r_CT : qCt (m 105) (m 99) (m 100) aa [] (-1) (-1)) (KZ : ∀ v m₉, zV (zov wr_253 m m₉) → (zW (m 94 7) (m 98) (m 101) (m 102) (m 108)) → (zGW T (m₉ 94 55) (m₉ 109)) → (zGU T (m 94 46) (m₉ 99)) → (zOw (m₉ 99) (m 103) (m₉ 111)) → (zGG (m 94 58) (m 94 56) (m 94 57) (m 106)) → ((m₉ 94 45).toInt = sm (zbU (m₉ 99)) (m 102) 3100) → (qRB (m₉ 99) (m 100) (m 98) (m 101) (m 102) (m 103) (m₉ 107) (m 108) (m₉ 109) (m₉ 111) (m 112) (m₉ 113) (m₉ 114) (m₉ 94 55) (m 94 46) (m 94 11) (m 94 12) (m 94 62) (m 94 17) (m 94 9) (kHo aa ob on)) → (qI (kHo aa ob on)) → ((kHo aa ob on) 87 8 = (m 94 58)) → (cV (kHo aa ob on) [] (B + 1)) → (qCt (m₉ 105) (m₉ 99) (m 100) (kHo aa ob on) [] (-1) (-1)) → P (some (.inl v)) (zov wr_253 m m₉)) : zm X 5 109 253 0 [(0, .inr (.inr (some 94))), (1, .inl ob), (2, .inl on)] m P := by
  have K : ∀ v m₉, zF wr_253 m m₉ → zV m₉ → (zW (m₉ 94 7) (m₉ 98) (m₉ 101) (m₉ 102) (m₉ 108)) → (zGW T (m₉ 94 55) (m₉ 109)) → (zGU T (m₉ 94 46) (m₉ 99)) → (zOw (m₉ 99) (m₉ 103) (m₉ 111)) → (zGG (m₉ 94 58) (m₉ 94 56) (m₉ 94 57) (m₉ 106)) → ((m₉ 94 45).toInt = sm (zbU (m₉ 99)) (m₉ 102) 3100) → (qRB (m₉ 99) (m₉ 100) (m₉ 98) (m₉ 101) (m₉ 102) (m₉ 103) (m₉ 107) (m₉ 108) (m₉ 109) (m₉ 111) (m₉ 112) (m₉ 113) (m₉ 114) (m₉ 94 55) (m₉ 94 46) (m₉ 94 11) (m₉ 94 12) (m₉ 94 62) (m₉ 94 17) (m₉ 94 9) (kHo aa ob on)) → (qI (kHo aa ob on)) → ((kHo aa ob on) 87 8 = (m₉ 94 58)) → (cV (kHo aa ob on) [] (B + 1)) → (qCt (m₉ 105) (m₉ 99) (m₉ 100) (kHo aa ob on) [] (-1) (-1)) → P (some (.inl v)) m₉ := by
    intro v m₉ hf z q0 q1 q2 q3 q4 q5 q6 q7 q8 q9 q10
    have e := zov_eq hf
    rw [e] at z ⊢
    try rw [e] at q0
    try rw [e] at q1
    try rw [e] at q2
    try rw [e] at q3
    try rw [e] at q4
    try rw [e] at q5
    try rw [e] at q6
    try rw [e] at q7
    try rw [e] at q8
    try rw [e] at q9
    try rw [e] at q10
    exact KZ v m₉ z q0 q1 q2 q3 q4 q5 q6 q7 q8 q9 q10
  refine g_253_0 ob on ?_
  have f1 : 0 ≤ (m 94 10).toInt ∧ (m 94 10).toInt ≤ 6 := rs_94_10 (m := m) hV
  have f2 : 0 ≤ (m 94 58).toInt ∧ (m 94 58).toInt ≤ 1 := rs_94_58 (m := m) hV
  have f3 : 0 ≤ (m 94 8).toInt ∧ (m 94 8).toInt ≤ 1 := rs_94_8 (m := m) hV
  have li4 : (0 : Int32).toInt = 0 := rfl
  refine zd (fun (h5 : (m 94 8) = (0 : Int32)) => ?_) (fun (h5 : ¬ (m 94 8) = (0 : Int32)) => ?_)
  · skip
    have g6 := i_eq h5
    exfalso; omega
  · skip
    have g7 := i_ne h5
    have b8 := i_bd ob
    have hV9 : zV (ma_u m 94 0 (0 : Int32)) := uf_94_0 hV
    refine sp_245r (aa := aa) (ob) hV9 r_W r_RB r_QI (fun v2 m1 hV_m1 p0_m1 p1_m1 p2_m1 => zmi_n ?_)
    have p0_m1 : -1 ≤ v2.toInt ∧ v2.toInt ≤ 3099 := p0_m1
    have p1_m1 : v2.toInt < 0 ∨ (m 99) v2.toNatClampNeg ≠ 0 := p1_m1
    have p2_m1 : qRe (m 99) (m 100) aa ob v2 := p2_m1
    have b10 := i_bd v2
    refine zd (fun (h11 : (0 : Int32) ≤ v2) => ?_) (fun (h11 : ¬ (0 : Int32) ≤ v2) => ?_)
    · skip
      have g12 := i_le h11
      have li13 : (2 : Int32).toInt = 2 := rfl
      refine zd (fun (h14 : (m 94 10) = (2 : Int32)) => ?_) (fun (h14 : ¬ (m 94 10) = (2 : Int32)) => ?_)
      · skip
        have g15 := i_eq h14
        exfalso; omega
      · skip
        have g16 := i_ne h14
        have li17 : (3 : Int32).toInt = 3 := rfl
        refine zd (fun (h18 : (m 94 10) = (3 : Int32)) => ?_) (fun (h18 : ¬ (m 94 10) = (3 : Int32)) => ?_)
        · skip
          have g19 := i_eq h18
          exfalso; omega
        · skip
          have g20 := i_ne h18
          have b21 := i_bd on
          refine zd (fun (h22 : on = (0 : Int32)) => ?_) (fun (h22 : ¬ on = (0 : Int32)) => ?_)
          · skip
            have g23 := i_eq h22
            have hg24 : (0 ≤ v2 ∧ v2.toNatClampNeg < 3100) := i_ix (by omega) (by omega)
            refine ⟨hg24, ?_⟩
            have b25 := i_bd (m 107 v2.toNatClampNeg)
            refine zd (fun (h26 : (m 107 v2.toNatClampNeg) = (0 : Int32)) => ?_) (fun (h26 : ¬ (m 107 v2.toNatClampNeg) = (0 : Int32)) => ?_)
            · skip
              have g27 := i_eq h26
              have hV28 : zV (ma_u (zov wr_245 (ma_u m 94 0 (0 : Int32)) m1) 94 0 (3 : Int32)) := uf_94_0 hV_m1
              exact K ((0 : Int32)) _ (zF_u (zF_zov (zF_u zF_rfl rfl) ws_245_253) rfl) hV28 r_W r_GW r_GU r_OW r_GG r_WTS (show qRB (m 99) (m 100) (m 98) (m 101) (m 102) (m 103) (m 107) (m 108) (m 109) (m 111) (m 112) (m 113) (m 114) (m 94 55) (m 94 46) (m 94 11) (m 94 12) (m 94 62) (m 94 17) (m 94 9) (kHo aa ob on) from by first | (rw [Ho_P0 (Re_n p2_m1 (by omega))]; exact r_RB; done) | (rw [kHo_x r_RB p2_m1 (by omega) (i_zer (by omega)) (i_zer (by omega))]; exact r_RB; done) | (exfalso; omega; done) | (exfalso; contradiction; done)) (show qI (kHo aa ob on) from by first | (rw [Ho_P0 (Re_n p2_m1 (by omega))]; exact r_QI; done) | (rw [kHo_x r_RB p2_m1 (by omega) (i_zer (by omega)) (i_zer (by omega))]; exact r_QI; done) | (exfalso; omega; done) | (exfalso; contradiction; done)) (show (kHo aa ob on) 87 8 = (m 94 58) from by first | (rw [Ho_P0 (Re_n p2_m1 (by omega))]; exact r_MK; done) | (rw [kHo_x r_RB p2_m1 (by omega) (i_zer (by omega)) (i_zer (by omega))]; exact r_MK; done) | (exfalso; omega; done) | (exfalso; contradiction; done)) (show cV (kHo aa ob on) [] (B + 1) from by first | (rw [Ho_P0 (Re_n p2_m1 (by omega))]; exact V_up r_VV; done) | (rw [kHo_x r_RB p2_m1 (by omega) (i_zer (by omega)) (i_zer (by omega))]; exact V_up r_VV; done) | (exfalso; omega; done) | (exfalso; contradiction; done)) (show qCt (m 105) (m 99) (m 100) (kHo aa ob on) [] (-1) (-1) from by first | (rw [Ho_P0 (Re_n p2_m1 (by omega))]; exact r_CT; done) | (rw [kHo_x r_RB p2_m1 (by omega) (i_zer (by omega)) (i_zer (by omega))]; exact r_CT; done) | (exfalso; omega; done) | (exfalso; contradiction; done))
            · skip
              have g29 := i_ne h26
              have hg30 : (0 ≤ v2 ∧ v2.toNatClampNeg < 3100) := i_ix (by omega) (by omega)
              refine ⟨hg30, ?_⟩
              refine zd (fun (h31 : on = (0 : Int32)) => ?_) (fun (h31 : ¬ on = (0 : Int32)) => ?_)
              · skip
                have g32 := i_eq h31
                have hg33 : (0 ≤ v2 ∧ v2.toNatClampNeg < 3100) := i_ix (by omega) (by omega)
                refine ⟨hg33, ?_⟩
                refine zd (fun (h34 : on = (0 : Int32)) => ?_) (fun (h34 : ¬ on = (0 : Int32)) => ?_)
                · skip
                  have g35 := i_eq h34
                  have hV36 : zV (ma_u (zov wr_245 (ma_u m 94 0 (0 : Int32)) m1) 94 0 (0 : Int32)) := uf_94_0 hV_m1
                  have hV37 : zV (ma_u (ma_u (zov wr_245 (ma_u m 94 0 (0 : Int32)) m1) 94 0 (0 : Int32)) 107 v2.toNatClampNeg ((m 107 v2.toNatClampNeg) + (-1 : Int32))) := ua_107 hV36
                  refine sp_241r4 (aa := (ma_u aa 133 (m 100 v2.toNatClampNeg).toNatClampNeg ((m 107 v2.toNatClampNeg) + (-1 : Int32)))) (x := (-1 : Int32)) (B := (B + 1)) (v2) hV37 (by omega) (by omega) (by omega) (by omega) (show (m 94 10).toInt = 4 ∧ (m 94 58).toInt = 0 from by omega) r_W r_GW r_GU r_OW (show qRB (m 99) (m 100) (m 98) (m 101) (m 102) (m 103) ((ma_u m 107 v2.toNatClampNeg ((m 107 v2.toNatClampNeg) + (-1 : Int32))) 107) (m 108) (m 109) (m 111) (m 112) (m 113) (m 114) (m 94 55) (m 94 46) (m 94 11) (m 94 12) (m 94 62) (m 94 17) (m 94 9) (ma_u aa 133 (m 100 v2.toNatClampNeg).toNatClampNeg ((m 107 v2.toNatClampNeg) + (-1 : Int32))) from by first | (exact RB_ho r_RB (tn_lt (by omega) (by omega)) (Re_y p2_m1 (by omega)).2.1) | (exfalso; omega; done) | (exfalso; contradiction; done)) (show qI (ma_u aa 133 (m 100 v2.toNatClampNeg).toNatClampNeg ((m 107 v2.toNatClampNeg) + (-1 : Int32))) from by first | (exact I_u r_QI (Or.inr (Or.inr (Or.inl rfl)))) | (exfalso; omega; done) | (exfalso; contradiction; done)) (show (ma_u aa 133 (m 100 v2.toNatClampNeg).toNatClampNeg ((m 107 v2.toNatClampNeg) + (-1 : Int32))) 87 8 = (m 94 58) from by first | (rw [un (by decide)]; exact r_MK; done) | (exfalso; omega; done) | (exfalso; contradiction; done)) r_WTS (show cV (ma_u aa 133 (m 100 v2.toNatClampNeg).toNatClampNeg ((m 107 v2.toNatClampNeg) + (-1 : Int32))) [] (B + 1) from by first | (exact (Ho_of r_RB r_VV (by omega) r_CT (by omega) (by omega) (Re_y p2_m1 (by omega)).2.1 (i_nz2 (by omega))).1) | (exfalso; omega; done) | (exfalso; contradiction; done)) (show qCt (m 105) (m 99) (m 100) (ma_u aa 133 (m 100 v2.toNatClampNeg).toNatClampNeg ((m 107 v2.toNatClampNeg) + (-1 : Int32))) [] (-1 : Int32) (qNo (m 100) v2) from by first | (exact (Ho_of r_RB r_VV (by omega) r_CT (by omega) (by omega) (Re_y p2_m1 (by omega)).2.1 (i_nz2 (by omega))).2) | (exfalso; omega; done) | (exfalso; contradiction; done)) (show qU (m 99) v2 from by first | (exact Or.inr ⟨by omega, (Re_y p2_m1 (by omega)).2.1⟩) | (assumption; done) | (exact ow5.1) | (exact ow3.1) | (exfalso; omega; done) | (exfalso; contradiction; done)) (show qXr (ma_u aa 133 (m 100 v2.toNatClampNeg).toNatClampNeg ((m 107 v2.toNatClampNeg) + (-1 : Int32))) (-1 : Int32) from by first | (exact Xr_m1) | (exfalso; omega; done) | (exfalso; contradiction; done)) (fun m7 hV_m7 p0_m7 p1_m7 p2_m7 p3_m7 p4_m7 p5_m7 p6_m7 p7_m7 p8_m7 p9_m7 => zmv_n ?_)
                  have p0_m7 : zGW T (m7 94 55) (m7 109) := p0_m7
                  have p1_m7 : zGU T (m 94 46) (m7 99) := p1_m7
                  have p2_m7 : zOw (m7 99) (m 103) (m7 111) := p2_m7
                  have p3_m7 : (m7 94 45).toInt = sm (zbU (m7 99)) (m 102) 3100 := p3_m7
                  have p4_m7 : qRB (m7 99) (m 100) (m 98) (m 101) (m 102) (m 103) ((ma_u m 107 v2.toNatClampNeg ((m 107 v2.toNatClampNeg) + (-1 : Int32))) 107) (m 108) (m7 109) (m7 111) (m 112) (m7 113) (m7 114) (m7 94 55) (m 94 46) (m 94 11) (m 94 12) (m 94 62) (m 94 17) (m 94 9) (cLe (ma_u aa 133 (m 100 v2.toNatClampNeg).toNatClampNeg ((m 107 v2.toNatClampNeg) + (-1 : Int32))) (qNo (m 100) v2)) := p4_m7
                  have p5_m7 : qI (cLe (ma_u aa 133 (m 100 v2.toNatClampNeg).toNatClampNeg ((m 107 v2.toNatClampNeg) + (-1 : Int32))) (qNo (m 100) v2)) := p5_m7
                  have p6_m7 : (cLe (ma_u aa 133 (m 100 v2.toNatClampNeg).toNatClampNeg ((m 107 v2.toNatClampNeg) + (-1 : Int32))) (qNo (m 100) v2)) 87 8 = (m 94 58) := p6_m7
                  have p7_m7 : cV (cLe (ma_u aa 133 (m 100 v2.toNatClampNeg).toNatClampNeg ((m 107 v2.toNatClampNeg) + (-1 : Int32))) (qNo (m 100) v2)) [] (B + 1) := p7_m7
                  have p8_m7 : qCt (m7 105) (m7 99) (m 100) (cLe (ma_u aa 133 (m 100 v2.toNatClampNeg).toNatClampNeg ((m 107 v2.toNatClampNeg) + (-1 : Int32))) (qNo (m 100) v2)) [] (-1 : Int32) (-1) := p8_m7
                  have p9_m7 : qXr (cLe (ma_u aa 133 (m 100 v2.toNatClampNeg).toNatClampNeg ((m 107 v2.toNatClampNeg) + (-1 : Int32))) (qNo (m 100) v2)) (-1 : Int32) := p9_m7
                  first | have e38 : ((m 107 v2.toNatClampNeg) + (-1 : Int32)).toInt = (m 107 v2.toNatClampNeg).toInt + (-1) := i_addk rfl (by omega) (by omega) | have b39 := i_bd ((m 107 v2.toNatClampNeg) + (-1 : Int32))
                  exact K (((m 107 v2.toNatClampNeg) + (-1 : Int32))) _ (zF_zov (zF_u (zF_u (zF_zov (zF_u zF_rfl rfl) ws_245_253) rfl) rfl) ws_241_253) hV_m7 r_W p0_m7 p1_m7 p2_m7 r_GG p3_m7 (show qRB (m7 99) (m 100) (m 98) (m 101) (m 102) (m 103) ((ma_u m 107 v2.toNatClampNeg ((m 107 v2.toNatClampNeg) + (-1 : Int32))) 107) (m 108) (m7 109) (m7 111) (m 112) (m7 113) (m7 114) (m7 94 55) (m 94 46) (m 94 11) (m 94 12) (m 94 62) (m 94 17) (m 94 9) (kHo aa ob on) from by first | (rw [Ho_E r_RB p2_m1 (by omega) (i_zer (by omega)) (i_nz2 (by omega))]; exact p4_m7; done) | (exfalso; omega; done) | (exfalso; contradiction; done)) (show qI (kHo aa ob on) from by first | (rw [Ho_E r_RB p2_m1 (by omega) (i_zer (by omega)) (i_nz2 (by omega))]; exact p5_m7; done) | (exfalso; omega; done) | (exfalso; contradiction; done)) (show (kHo aa ob on) 87 8 = (m 94 58) from by first | (rw [Ho_E r_RB p2_m1 (by omega) (i_zer (by omega)) (i_nz2 (by omega))]; exact p6_m7; done) | (exfalso; omega; done) | (exfalso; contradiction; done)) (show cV (kHo aa ob on) [] (B + 1) from by first | (rw [Ho_E r_RB p2_m1 (by omega) (i_zer (by omega)) (i_nz2 (by omega))]; exact p7_m7; done) | (exfalso; omega; done) | (exfalso; contradiction; done)) (show qCt (m7 105) (m7 99) (m 100) (kHo aa ob on) [] (-1) (-1) from by first | (rw [Ho_E r_RB p2_m1 (by omega) (i_zer (by omega)) (i_nz2 (by omega))]; exact p8_m7; done) | (exfalso; omega; done) | (exfalso; contradiction; done))
                · skip
                  exact absurd h31 h34
              · skip
                exact absurd h22 h31
          · skip
            have g42 := i_ne h22
            have hg43 : (0 ≤ v2 ∧ v2.toNatClampNeg < 3100) := i_ix (by omega) (by omega)
            refine ⟨hg43, ?_⟩
            refine zd (fun (h44 : on = (0 : Int32)) => ?_) (fun (h44 : ¬ on = (0 : Int32)) => ?_)
            · skip
              exact absurd h44 h22
            · skip
              have g46 := i_ne h44
              have hg47 : (0 ≤ v2 ∧ v2.toNatClampNeg < 3100) := i_ix (by omega) (by omega)
              refine ⟨hg47, ?_⟩
              refine zd (fun (h48 : on = (0 : Int32)) => ?_) (fun (h48 : ¬ on = (0 : Int32)) => ?_)
              · skip
                exact absurd h48 h44
              · skip
                have g50 := i_ne h48
                refine zd (fun (h51 : v2 < (0 : Int32)) => ?_) (fun (h51 : ¬ v2 < (0 : Int32)) => ?_)
                · skip
                  have g52 := i_lt h51
                  exfalso; omega
                · skip
                  have g53 := i_nlt h51
                  have li54 : (4 : Int32).toInt = 4 := rfl
                  refine zd (fun (h55 : (m 94 10) = (4 : Int32)) => ?_) (fun (h55 : ¬ (m 94 10) = (4 : Int32)) => ?_)
                  · skip
                    have g56 := i_eq h55
                    have hg57 : (0 ≤ v2 ∧ v2.toNatClampNeg < 3100) := i_ix (by omega) (by omega)
                    refine ⟨hg57, ?_⟩
                    have hg58 : (0 ≤ v2 ∧ v2.toNatClampNeg < 3100) := i_ix (by omega) (by omega)
                    refine ⟨hg58, ?_⟩
                    have hV59 : zV (ma_u (zov wr_245 (ma_u m 94 0 (0 : Int32)) m1) 94 0 (0 : Int32)) := uf_94_0 hV_m1
                    have hV60 : zV (ma_u (ma_u (zov wr_245 (ma_u m 94 0 (0 : Int32)) m1) 94 0 (0 : Int32)) 107 v2.toNatClampNeg ((m 107 v2.toNatClampNeg) + (1 : Int32))) := ua_107 hV59
                    have hV61 : zV (ma_u (ma_u (ma_u (zov wr_245 (ma_u m 94 0 (0 : Int32)) m1) 94 0 (0 : Int32)) 107 v2.toNatClampNeg ((m 107 v2.toNatClampNeg) + (1 : Int32))) 105 v2.toNatClampNeg ((m 105 v2.toNatClampNeg) + (1 : Int32))) := ua_105 hV60
                    have b62 := i_bd (m 107 v2.toNatClampNeg)
                    first | have e63 : ((m 107 v2.toNatClampNeg) + (1 : Int32)).toInt = (m 107 v2.toNatClampNeg).toInt + (1) := i_addk rfl (by omega) (by omega) | have b64 := i_bd ((m 107 v2.toNatClampNeg) + (1 : Int32))
                    exact K (((m 107 v2.toNatClampNeg) + (1 : Int32))) _ (zF_u (zF_u (zF_u (zF_zov (zF_u zF_rfl rfl) ws_245_253) rfl) rfl) rfl) hV61 r_W r_GW r_GU r_OW r_GG r_WTS (show qRB (m 99) (m 100) (m 98) (m 101) (m 102) (m 103) ((ma_u m 107 v2.toNatClampNeg ((m 107 v2.toNatClampNeg) + (1 : Int32))) 107) (m 108) (m 109) (m 111) (m 112) (m 113) (m 114) (m 94 55) (m 94 46) (m 94 11) (m 94 12) (m 94 62) (m 94 17) (m 94 9) (kHo aa ob on) from by first | (exact (Ho_P1 (m := m) r_RB r_QI r_MK r_VV (by omega) r_CT p2_m1 (by omega) (i_nz2 (by omega)) (mu_up (m := m) (c := 105))).1) | (exfalso; omega; done) | (exfalso; contradiction; done)) (show qI (kHo aa ob on) from by first | (exact (Ho_P1 (m := m) r_RB r_QI r_MK r_VV (by omega) r_CT p2_m1 (by omega) (i_nz2 (by omega)) (mu_up (m := m) (c := 105))).2.1) | (exfalso; omega; done) | (exfalso; contradiction; done)) (show (kHo aa ob on) 87 8 = (m 94 58) from by first | (exact (Ho_P1 (m := m) r_RB r_QI r_MK r_VV (by omega) r_CT p2_m1 (by omega) (i_nz2 (by omega)) (mu_up (m := m) (c := 105))).2.2.1) | (exfalso; omega; done) | (exfalso; contradiction; done)) (show cV (kHo aa ob on) [] (B + 1) from by first | (exact (Ho_P1 (m := m) r_RB r_QI r_MK r_VV (by omega) r_CT p2_m1 (by omega) (i_nz2 (by omega)) (mu_up (m := m) (c := 105))).2.2.2.1) | (exfalso; omega; done) | (exfalso; contradiction; done)) (show qCt ((ma_u m 105 v2.toNatClampNeg ((m 105 v2.toNatClampNeg) + (1 : Int32))) 105) (m 99) (m 100) (kHo aa ob on) [] (-1) (-1) from by first | (exact (Ho_P1 (m := m) r_RB r_QI r_MK r_VV (by omega) r_CT p2_m1 (by omega) (i_nz2 (by omega)) (mu_up (m := m) (c := 105))).2.2.2.2) | (exfalso; omega; done) | (exfalso; contradiction; done))
                  · skip
                    have g65 := i_ne h55
                    exfalso; omega
    · skip
      have g66 := i_nle h11
      have hV67 : zV (ma_u (zov wr_245 (ma_u m 94 0 (0 : Int32)) m1) 94 0 (2 : Int32)) := uf_94_0 hV_m1
      exact K ((0 : Int32)) _ (zF_u (zF_zov (zF_u zF_rfl rfl) ws_245_253) rfl) hV67 r_W r_GW r_GU r_OW r_GG r_WTS (show qRB (m 99) (m 100) (m 98) (m 101) (m 102) (m 103) (m 107) (m 108) (m 109) (m 111) (m 112) (m 113) (m 114) (m 94 55) (m 94 46) (m 94 11) (m 94 12) (m 94 62) (m 94 17) (m 94 9) (kHo aa ob on) from by first | (rw [Ho_P0 (Re_n p2_m1 (by omega))]; exact r_RB; done) | (rw [kHo_x r_RB p2_m1 (by omega) (i_zer (by omega)) (i_zer (by omega))]; exact r_RB; done) | (exfalso; omega; done) | (exfalso; contradiction; done)) (show qI (kHo aa ob on) from by first | (rw [Ho_P0 (Re_n p2_m1 (by omega))]; exact r_QI; done) | (rw [kHo_x r_RB p2_m1 (by omega) (i_zer (by omega)) (i_zer (by omega))]; exact r_QI; done) | (exfalso; omega; done) | (exfalso; contradiction; done)) (show (kHo aa ob on) 87 8 = (m 94 58) from by first | (rw [Ho_P0 (Re_n p2_m1 (by omega))]; exact r_MK; done) | (rw [kHo_x r_RB p2_m1 (by omega) (i_zer (by omega)) (i_zer (by omega))]; exact r_MK; done) | (exfalso; omega; done) | (exfalso; contradiction; done)) (show cV (kHo aa ob on) [] (B + 1) from by first | (rw [Ho_P0 (Re_n p2_m1 (by omega))]; exact V_up r_VV; done) | (rw [kHo_x r_RB p2_m1 (by omega) (i_zer (by omega)) (i_zer (by omega))]; exact V_up r_VV; done) | (exfalso; omega; done) | (exfalso; contradiction; done)) (show qCt (m 105) (m 99) (m 100) (kHo aa ob on) [] (-1) (-1) from by first | (rw [Ho_P0 (Re_n p2_m1 (by omega))]; exact r_CT; done) | (rw [kHo_x r_RB p2_m1 (by omega) (i_zer (by omega)) (i_zer (by omega))]; exact r_CT; done) | (exfalso; omega; done) | (exfalso; contradiction; done))
set_option maxHeartbeats 8000000 in
theorem sp_252r4 {X : Nat × (Nat → Int32)} {P : Option ma_V → (Nat → Nat → Int32) → Prop} {T : Nat} {aa : Nat→Nat→Int32} {B : Int} {m : Nat → Nat → Int32} (ix : Int32) (r1 : Int32) (hV : zV m) (hpre0 : T ≤ 512) (hpre1 : B ≤ 1000000) (r_W : zW (m 94 7) (m 98) (m 101) (m 102) (m 108)) (r_GW : zGW T (m 94 55) (m 109)) (r_GU : zGU T (m 94 46) (m 99)) (r_OW : zOw (m 99) (m 103) (m 111)) (r_GG : zGG (m 94 58) (m 94 56) (m 94 57) (m 106)) (hpre7 : (m 94 10).toInt = 4 ∧ (m 94 58).toInt = 0) (hpre8 : (m 94 8).toInt = 1) (r_RB : qRB (m 99) (m 100) (m 98) (m 101) (m 102) (m 103) (m 107) (m 108) (m 109) (m 111) (m 112) (m 113) (m 114) (m 94 55) (m 94 46) (m 94 11) (m 94 12) (m 94 62) (m 94 17) (m 94 9) aa) (r_QI : qI aa) (r_MK : aa 87 8 = (m 94 58)) (r_WTS : (m 94 45).toInt = sm (zbU (m 99)) (m 102) 3100) (r_VV : cV aa [] B) (r_CT : qCt (m 105) (m 99) (m 100) aa [] (-1) (-1)) (KZ : ∀ v m₉, zV (zov wr_252 m m₉) → (zW (m 94 7) (m 98) (m 101) (m 102) (m 108)) → (zGW T (m₉ 94 55) (m₉ 109)) → (zGU T (m 94 46) (m₉ 99)) → (zOw (m₉ 99) (m 103) (m₉ 111)) → (zGG (m 94 58) (m₉ 94 56) (m 94 57) (m₉ 106)) → ((m₉ 94 45).toInt = sm (zbU (m₉ 99)) (m 102) 3100) → (qRB (m₉ 99) (m 100) (m 98) (m 101) (m 102) (m 103) (m 107) (m 108) (m₉ 109) (m₉ 111) (m₉ 112) (m₉ 113) (m₉ 114) (m₉ 94 55) (m 94 46) (m 94 11) (m 94 12) (m 94 62) (m 94 17) (m 94 9) (kSg aa ix r1)) → (qI (kSg aa ix r1)) → ((kSg aa ix r1) 87 8 = (m 94 58)) → (cV (kSg aa ix r1) [] B) → (qCt (m₉ 105) (m₉ 99) (m 100) (kSg aa ix r1) [] (-1) (-1)) → P (some (.inl v)) (zov wr_252 m m₉)) : zm X 5 111 252 0 [(0, .inr (.inr (some 94))), (1, .inl ix), (2, .inl r1)] m P := by
  have K : ∀ v m₉, zF wr_252 m m₉ → zV m₉ → (zW (m₉ 94 7) (m₉ 98) (m₉ 101) (m₉ 102) (m₉ 108)) → (zGW T (m₉ 94 55) (m₉ 109)) → (zGU T (m₉ 94 46) (m₉ 99)) → (zOw (m₉ 99) (m₉ 103) (m₉ 111)) → (zGG (m₉ 94 58) (m₉ 94 56) (m₉ 94 57) (m₉ 106)) → ((m₉ 94 45).toInt = sm (zbU (m₉ 99)) (m₉ 102) 3100) → (qRB (m₉ 99) (m₉ 100) (m₉ 98) (m₉ 101) (m₉ 102) (m₉ 103) (m₉ 107) (m₉ 108) (m₉ 109) (m₉ 111) (m₉ 112) (m₉ 113) (m₉ 114) (m₉ 94 55) (m₉ 94 46) (m₉ 94 11) (m₉ 94 12) (m₉ 94 62) (m₉ 94 17) (m₉ 94 9) (kSg aa ix r1)) → (qI (kSg aa ix r1)) → ((kSg aa ix r1) 87 8 = (m₉ 94 58)) → (cV (kSg aa ix r1) [] B) → (qCt (m₉ 105) (m₉ 99) (m₉ 100) (kSg aa ix r1) [] (-1) (-1)) → P (some (.inl v)) m₉ := by
    intro v m₉ hf z q0 q1 q2 q3 q4 q5 q6 q7 q8 q9 q10
    have e := zov_eq hf
    rw [e] at z ⊢
    try rw [e] at q0
    try rw [e] at q1
    try rw [e] at q2
    try rw [e] at q3
    try rw [e] at q4
    try rw [e] at q5
    try rw [e] at q6
    try rw [e] at q7
    try rw [e] at q8
    try rw [e] at q9
    try rw [e] at q10
    exact KZ v m₉ z q0 q1 q2 q3 q4 q5 q6 q7 q8 q9 q10
  refine g_252_0 ix r1 ?_
  have f1 : 0 ≤ (m 94 10).toInt ∧ (m 94 10).toInt ≤ 6 := rs_94_10 (m := m) hV
  have f2 : 0 ≤ (m 94 58).toInt ∧ (m 94 58).toInt ≤ 1 := rs_94_58 (m := m) hV
  have f3 : 0 ≤ (m 94 8).toInt ∧ (m 94 8).toInt ≤ 1 := rs_94_8 (m := m) hV
  have b4 := i_bd ix
  have li5 : (0 : Int32).toInt = 0 := rfl
  refine zd (fun (h6 : ix < (0 : Int32)) => ?_) (fun (h6 : ¬ ix < (0 : Int32)) => ?_)
  · skip
    have g7 := i_lt h6
    have hV8 : zV (ma_u m 94 0 (1 : Int32)) := uf_94_0 hV
    exact K ((0 : Int32)) _ (zF_u zF_rfl rfl) hV8 r_W r_GW r_GU r_OW r_GG r_WTS (show qRB (m 99) (m 100) (m 98) (m 101) (m 102) (m 103) (m 107) (m 108) (m 109) (m 111) (m 112) (m 113) (m 114) (m 94 55) (m 94 46) (m 94 11) (m 94 12) (m 94 62) (m 94 17) (m 94 9) (kSg aa ix r1) from by first | (rw [kSg_n r_RB (by omega) (by omega) (by omega)]; exact r_RB; done) | (rw [kSg_x (by omega)]; exact r_RB; done) | (exfalso; omega; done) | (exfalso; contradiction; done)) (show qI (kSg aa ix r1) from by first | (rw [kSg_n r_RB (by omega) (by omega) (by omega)]; exact r_QI; done) | (rw [kSg_x (by omega)]; exact r_QI; done) | (exfalso; omega; done) | (exfalso; contradiction; done)) (show (kSg aa ix r1) 87 8 = (m 94 58) from by first | (rw [kSg_n r_RB (by omega) (by omega) (by omega)]; exact r_MK; done) | (rw [kSg_x (by omega)]; exact r_MK; done) | (exfalso; omega; done) | (exfalso; contradiction; done)) (show cV (kSg aa ix r1) [] B from by first | (rw [kSg_n r_RB (by omega) (by omega) (by omega)]; exact r_VV; done) | (rw [kSg_x (by omega)]; exact r_VV; done) | (exfalso; omega; done) | (exfalso; contradiction; done)) (show qCt (m 105) (m 99) (m 100) (kSg aa ix r1) [] (-1) (-1) from by first | (rw [kSg_n r_RB (by omega) (by omega) (by omega)]; exact r_CT; done) | (rw [kSg_x (by omega)]; exact r_CT; done) | (exfalso; omega; done) | (exfalso; contradiction; done))
  · skip
    have g9 := i_nlt h6
    have li10 : (16 : Int32).toInt = 16 := rfl
    refine zd (fun (h11 : (16 : Int32) ≤ ix) => ?_) (fun (h11 : ¬ (16 : Int32) ≤ ix) => ?_)
    · skip
      have g12 := i_le h11
      have hV13 : zV (ma_u m 94 0 (1 : Int32)) := uf_94_0 hV
      exact K ((0 : Int32)) _ (zF_u zF_rfl rfl) hV13 r_W r_GW r_GU r_OW r_GG r_WTS (show qRB (m 99) (m 100) (m 98) (m 101) (m 102) (m 103) (m 107) (m 108) (m 109) (m 111) (m 112) (m 113) (m 114) (m 94 55) (m 94 46) (m 94 11) (m 94 12) (m 94 62) (m 94 17) (m 94 9) (kSg aa ix r1) from by first | (rw [kSg_n r_RB (by omega) (by omega) (by omega)]; exact r_RB; done) | (rw [kSg_x (by omega)]; exact r_RB; done) | (exfalso; omega; done) | (exfalso; contradiction; done)) (show qI (kSg aa ix r1) from by first | (rw [kSg_n r_RB (by omega) (by omega) (by omega)]; exact r_QI; done) | (rw [kSg_x (by omega)]; exact r_QI; done) | (exfalso; omega; done) | (exfalso; contradiction; done)) (show (kSg aa ix r1) 87 8 = (m 94 58) from by first | (rw [kSg_n r_RB (by omega) (by omega) (by omega)]; exact r_MK; done) | (rw [kSg_x (by omega)]; exact r_MK; done) | (exfalso; omega; done) | (exfalso; contradiction; done)) (show cV (kSg aa ix r1) [] B from by first | (rw [kSg_n r_RB (by omega) (by omega) (by omega)]; exact r_VV; done) | (rw [kSg_x (by omega)]; exact r_VV; done) | (exfalso; omega; done) | (exfalso; contradiction; done)) (show qCt (m 105) (m 99) (m 100) (kSg aa ix r1) [] (-1) (-1) from by first | (rw [kSg_n r_RB (by omega) (by omega) (by omega)]; exact r_CT; done) | (rw [kSg_x (by omega)]; exact r_CT; done) | (exfalso; omega; done) | (exfalso; contradiction; done))
    · skip
      have g14 := i_nle h11
      have b15 := i_bd r1
      refine zd (fun (h16 : r1 < (0 : Int32)) => ?_) (fun (h16 : ¬ r1 < (0 : Int32)) => ?_)
      · skip
        have g17 := i_lt h16
        have hV18 : zV (ma_u m 94 0 (1 : Int32)) := uf_94_0 hV
        exact K ((0 : Int32)) _ (zF_u zF_rfl rfl) hV18 r_W r_GW r_GU r_OW r_GG r_WTS (show qRB (m 99) (m 100) (m 98) (m 101) (m 102) (m 103) (m 107) (m 108) (m 109) (m 111) (m 112) (m 113) (m 114) (m 94 55) (m 94 46) (m 94 11) (m 94 12) (m 94 62) (m 94 17) (m 94 9) (kSg aa ix r1) from by first | (rw [kSg_n r_RB (by omega) (by omega) (by omega)]; exact r_RB; done) | (rw [kSg_x (by omega)]; exact r_RB; done) | (exfalso; omega; done) | (exfalso; contradiction; done)) (show qI (kSg aa ix r1) from by first | (rw [kSg_n r_RB (by omega) (by omega) (by omega)]; exact r_QI; done) | (rw [kSg_x (by omega)]; exact r_QI; done) | (exfalso; omega; done) | (exfalso; contradiction; done)) (show (kSg aa ix r1) 87 8 = (m 94 58) from by first | (rw [kSg_n r_RB (by omega) (by omega) (by omega)]; exact r_MK; done) | (rw [kSg_x (by omega)]; exact r_MK; done) | (exfalso; omega; done) | (exfalso; contradiction; done)) (show cV (kSg aa ix r1) [] B from by first | (rw [kSg_n r_RB (by omega) (by omega) (by omega)]; exact r_VV; done) | (rw [kSg_x (by omega)]; exact r_VV; done) | (exfalso; omega; done) | (exfalso; contradiction; done)) (show qCt (m 105) (m 99) (m 100) (kSg aa ix r1) [] (-1) (-1) from by first | (rw [kSg_n r_RB (by omega) (by omega) (by omega)]; exact r_CT; done) | (rw [kSg_x (by omega)]; exact r_CT; done) | (exfalso; omega; done) | (exfalso; contradiction; done))
      · skip
        have g19 := i_nlt h16
        refine zd (fun (h20 : (16 : Int32) ≤ r1) => ?_) (fun (h20 : ¬ (16 : Int32) ≤ r1) => ?_)
        · skip
          have g21 := i_le h20
          have hV22 : zV (ma_u m 94 0 (1 : Int32)) := uf_94_0 hV
          exact K ((0 : Int32)) _ (zF_u zF_rfl rfl) hV22 r_W r_GW r_GU r_OW r_GG r_WTS (show qRB (m 99) (m 100) (m 98) (m 101) (m 102) (m 103) (m 107) (m 108) (m 109) (m 111) (m 112) (m 113) (m 114) (m 94 55) (m 94 46) (m 94 11) (m 94 12) (m 94 62) (m 94 17) (m 94 9) (kSg aa ix r1) from by first | (rw [kSg_n r_RB (by omega) (by omega) (by omega)]; exact r_RB; done) | (rw [kSg_x (by omega)]; exact r_RB; done) | (exfalso; omega; done) | (exfalso; contradiction; done)) (show qI (kSg aa ix r1) from by first | (rw [kSg_n r_RB (by omega) (by omega) (by omega)]; exact r_QI; done) | (rw [kSg_x (by omega)]; exact r_QI; done) | (exfalso; omega; done) | (exfalso; contradiction; done)) (show (kSg aa ix r1) 87 8 = (m 94 58) from by first | (rw [kSg_n r_RB (by omega) (by omega) (by omega)]; exact r_MK; done) | (rw [kSg_x (by omega)]; exact r_MK; done) | (exfalso; omega; done) | (exfalso; contradiction; done)) (show cV (kSg aa ix r1) [] B from by first | (rw [kSg_n r_RB (by omega) (by omega) (by omega)]; exact r_VV; done) | (rw [kSg_x (by omega)]; exact r_VV; done) | (exfalso; omega; done) | (exfalso; contradiction; done)) (show qCt (m 105) (m 99) (m 100) (kSg aa ix r1) [] (-1) (-1) from by first | (rw [kSg_n r_RB (by omega) (by omega) (by omega)]; exact r_CT; done) | (rw [kSg_x (by omega)]; exact r_CT; done) | (exfalso; omega; done) | (exfalso; contradiction; done))
        · skip
          have g23 := i_nle h20
          refine zd (fun (h24 : (m 94 8) = (0 : Int32)) => ?_) (fun (h24 : ¬ (m 94 8) = (0 : Int32)) => ?_)
          · skip
            have g25 := i_eq h24
            exfalso; omega
          · skip
            have g26 := i_ne h24
            have hg27 : (0 ≤ ix ∧ ix.toNatClampNeg < 16) := i_ix (by omega) (by omega)
            refine ⟨hg27, ?_⟩
            first | have f28 : -1 ≤ (m 113 ix.toNatClampNeg).toInt ∧ (m 113 ix.toNatClampNeg).toInt ≤ 3099 := ra_113 (m := m) hV (k := ix.toNatClampNeg) (i_ix (n := 16) (by omega) (by omega)).2 | have b29 := i_bd (m 113 ix.toNatClampNeg)
            refine zd (fun (h30 : (0 : Int32) ≤ (m 113 ix.toNatClampNeg)) => ?_) (fun (h30 : ¬ (0 : Int32) ≤ (m 113 ix.toNatClampNeg)) => ?_)
            · skip
              have g31 := i_le h30
              refine zd (fun (h32 : (m 94 58) = (0 : Int32)) => ?_) (fun (h32 : ¬ (m 94 58) = (0 : Int32)) => ?_)
              · skip
                have g33 := i_eq h32
                have hV34 : zV (ma_u m 94 0 (0 : Int32)) := uf_94_0 hV
                refine sp_238r4 (x := (-1 : Int32)) (r1) ((m 113 ix.toNatClampNeg)) hV34 (by omega) (by omega) (by omega) (by omega) (by omega) (by omega) (show (m 94 10).toInt = 4 ∧ (m 94 58).toInt = 0 from by omega) r_W r_GW r_GU r_OW r_RB r_QI r_MK r_WTS r_VV (show qCt (m 105) (m 99) (m 100) aa [] (-1 : Int32) (-1) from by first | (exact r_CT) | (exfalso; omega; done) | (exfalso; contradiction; done)) (show qU (m 99) (m 113 ix.toNatClampNeg) from by first | (exact (r_RB.2.2.2.1 ix.toNatClampNeg (by omega)).1) | (assumption; done) | (exact ow5.1) | (exact ow3.1) | (exfalso; omega; done) | (exfalso; contradiction; done)) (show (-1 : Int32).toInt < 0 ∨ (-1 : Int32) = qNo (m 100) (m 113 ix.toNatClampNeg) from by first | (exact Or.inl (by decide)) | (exfalso; omega; done) | (exfalso; contradiction; done)) (fun m1 hV_m1 p0_m1 p1_m1 p2_m1 p3_m1 p4_m1 p5_m1 p6_m1 p7_m1 p8_m1 p9_m1 p10_m1 => zmv_n ?_)
                have p0_m1 : zGW T (m1 94 55) (m1 109) := p0_m1
                have p1_m1 : zGU T (m 94 46) (m1 99) := p1_m1
                have p2_m1 : zOw (m1 99) (m 103) (m1 111) := p2_m1
                have p3_m1 : (m1 94 45).toInt = sm (zbU (m1 99)) (m 102) 3100 := p3_m1
                have p4_m1 : qRB (m1 99) (m 100) (m 98) (m 101) (m 102) (m 103) (m 107) (m 108) (m1 109) (m1 111) (m1 112) (m1 113) (m1 114) (m1 94 55) (m 94 46) (m 94 11) (m 94 12) (m 94 62) (m 94 17) (m 94 9) (kRt aa r1 (qNo (m 100) (m 113 ix.toNatClampNeg))) := p4_m1
                have p5_m1 : qI (kRt aa r1 (qNo (m 100) (m 113 ix.toNatClampNeg))) := p5_m1
                have p6_m1 : (kRt aa r1 (qNo (m 100) (m 113 ix.toNatClampNeg))) 87 8 = (m 94 58) := p6_m1
                have p7_m1 : cV (kRt aa r1 (qNo (m 100) (m 113 ix.toNatClampNeg))) [] B := p7_m1
                have p8_m1 : qCt (m1 105) (m1 99) (m 100) (kRt aa r1 (qNo (m 100) (m 113 ix.toNatClampNeg))) [] (-1 : Int32) (-1) := p8_m1
                have p9_m1 : qXr (kRt aa r1 (qNo (m 100) (m 113 ix.toNatClampNeg))) (-1 : Int32) := p9_m1
                have p10_m1 : (m1 112) r1.toNatClampNeg = (m 113 ix.toNatClampNeg) := p10_m1
                have hg35 : (0 ≤ (m 113 ix.toNatClampNeg) ∧ (m 113 ix.toNatClampNeg).toNatClampNeg < 3100) := i_ix (by omega) (by omega)
                refine ⟨hg35, ?_⟩
                first | have f36 : 0 ≤ (m 100 (m 113 ix.toNatClampNeg).toNatClampNeg).toInt ∧ (m 100 (m 113 ix.toNatClampNeg).toNatClampNeg).toInt ≤ 100000 := ra_100 (m := m) hV (k := (m 113 ix.toNatClampNeg).toNatClampNeg) (i_ix (n := 3100) (by omega) (by omega)).2 | have b37 := i_bd (m 100 (m 113 ix.toNatClampNeg).toNatClampNeg)
                exact K ((m 100 (m 113 ix.toNatClampNeg).toNatClampNeg)) _ (zF_zov (zF_u zF_rfl rfl) ws_238_252) hV_m1 r_W p0_m1 p1_m1 p2_m1 (show zGG (m 94 58) (m1 94 56) (m 94 57) (m1 106) from by first | (exact r_GG) | (exact fun z => absurd z (by omega)) | (exact fun z => absurd z (by decide)) | (exact fun z => absurd z (by omega)) | (exfalso; omega; done) | (exfalso; contradiction; done)) p3_m1 (show qRB (m1 99) (m 100) (m 98) (m 101) (m 102) (m 103) (m 107) (m 108) (m1 109) (m1 111) (m1 112) (m1 113) (m1 114) (m1 94 55) (m 94 46) (m 94 11) (m 94 12) (m 94 62) (m 94 17) (m 94 9) (kSg aa ix r1) from by first | (rw [kSg_y r_RB (by omega) (by omega) (by omega) (by omega) (by omega)]; exact p4_m1; done) | (exfalso; omega; done) | (exfalso; contradiction; done)) (show qI (kSg aa ix r1) from by first | (rw [kSg_y r_RB (by omega) (by omega) (by omega) (by omega) (by omega)]; exact p5_m1; done) | (exfalso; omega; done) | (exfalso; contradiction; done)) (show (kSg aa ix r1) 87 8 = (m 94 58) from by first | (rw [kSg_y r_RB (by omega) (by omega) (by omega) (by omega) (by omega)]; exact p6_m1; done) | (exfalso; omega; done) | (exfalso; contradiction; done)) (show cV (kSg aa ix r1) [] B from by first | (rw [kSg_y r_RB (by omega) (by omega) (by omega) (by omega) (by omega)]; exact p7_m1; done) | (exfalso; omega; done) | (exfalso; contradiction; done)) (show qCt (m1 105) (m1 99) (m 100) (kSg aa ix r1) [] (-1) (-1) from by first | (rw [kSg_y r_RB (by omega) (by omega) (by omega) (by omega) (by omega)]; exact p8_m1; done) | (exfalso; omega; done) | (exfalso; contradiction; done))
              · skip
                have g38 := i_ne h32
                exfalso; omega
            · skip
              have g39 := i_nle h30
              have hV40 : zV (ma_u m 94 0 (0 : Int32)) := uf_94_0 hV
              have li41 : (-1 : Int32).toInt = -1 := rfl
              exact K ((-1 : Int32)) _ (zF_u zF_rfl rfl) hV40 r_W r_GW r_GU r_OW r_GG r_WTS (show qRB (m 99) (m 100) (m 98) (m 101) (m 102) (m 103) (m 107) (m 108) (m 109) (m 111) (m 112) (m 113) (m 114) (m 94 55) (m 94 46) (m 94 11) (m 94 12) (m 94 62) (m 94 17) (m 94 9) (kSg aa ix r1) from by first | (rw [kSg_n r_RB (by omega) (by omega) (by omega)]; exact r_RB; done) | (rw [kSg_x (by omega)]; exact r_RB; done) | (exfalso; omega; done) | (exfalso; contradiction; done)) (show qI (kSg aa ix r1) from by first | (rw [kSg_n r_RB (by omega) (by omega) (by omega)]; exact r_QI; done) | (rw [kSg_x (by omega)]; exact r_QI; done) | (exfalso; omega; done) | (exfalso; contradiction; done)) (show (kSg aa ix r1) 87 8 = (m 94 58) from by first | (rw [kSg_n r_RB (by omega) (by omega) (by omega)]; exact r_MK; done) | (rw [kSg_x (by omega)]; exact r_MK; done) | (exfalso; omega; done) | (exfalso; contradiction; done)) (show cV (kSg aa ix r1) [] B from by first | (rw [kSg_n r_RB (by omega) (by omega) (by omega)]; exact r_VV; done) | (rw [kSg_x (by omega)]; exact r_VV; done) | (exfalso; omega; done) | (exfalso; contradiction; done)) (show qCt (m 105) (m 99) (m 100) (kSg aa ix r1) [] (-1) (-1) from by first | (rw [kSg_n r_RB (by omega) (by omega) (by omega)]; exact r_CT; done) | (rw [kSg_x (by omega)]; exact r_CT; done) | (exfalso; omega; done) | (exfalso; contradiction; done))

/-! from 95.o09 -/
/-! the reference under COUNTS (written by wip/tools/gen20s.py) -/
set_option maxHeartbeats 8000000 in
theorem lp_255r4_61 {X : Nat × (Nat → Int32)} {P : Option ma_V → (Nat → Nat → Int32) → Prop} {T : Nat} {aa : Nat→Nat→Int32} {B : Int} {r1 : Int32} {m0 : Nat → Nat → Int32} (h0 : zV m0) (K : ∀ v m₉, zF wr_255 m0 m₉ → zV m₉ → (zW (m₉ 94 7) (m₉ 98) (m₉ 101) (m₉ 102) (m₉ 108)) → (zGW T (m₉ 94 55) (m₉ 109)) → (zGU T (m₉ 94 46) (m₉ 99)) → (zOw (m₉ 99) (m₉ 103) (m₉ 111)) → (zGG (m₉ 94 58) (m₉ 94 56) (m₉ 94 57) (m₉ 106)) → ((m₉ 94 45).toInt = sm (zbU (m₉ 99)) (m₉ 102) 3100) → (qRB (m₉ 99) (m₉ 100) (m₉ 98) (m₉ 101) (m₉ 102) (m₉ 103) (m₉ 107) (m₉ 108) (m₉ 109) (m₉ 111) (m₉ 112) (m₉ 113) (m₉ 114) (m₉ 94 55) (m₉ 94 46) (m₉ 94 11) (m₉ 94 12) (m₉ 94 62) (m₉ 94 17) (m₉ 94 9) (kGr aa r1)) → (qI (kGr aa r1)) → ((kGr aa r1) 87 8 = (m₉ 94 58)) → (cV (kGr aa r1) [] B) → (qCt (m₉ 105) (m₉ 99) (m₉ 100) (kGr aa r1) [] (-1) (-1)) → P (some (.inl v)) m₉) : ∀ (n : Nat) (m : Nat → Nat → Int32) (l1 : Int32) (l2 : Int32) (l3 : Int32), (3100 - l3.toInt).toNat = n → zF wr_255 m0 m → zV m → (0 ≤ l3.toInt) → (0 ≤ l1.toInt) → (l1.toInt ≤ 15) → (l1.toInt = r1.toInt) → (l1 = r1) → (0 ≤ l2.toInt) → (l2.toInt ≤ 3099) → (B ≤ 1000000) → (T ≤ 512) → (1 ≤ (m0 94 55).toInt) → ((m 94 55).toInt = (m0 94 55).toInt - 1) → (l3.toInt ≤ (m 94 55).toInt) → (zW (m 94 7) (m 98) (m 101) (m 102) (m 108)) → (zGW T (m 94 55) (m 109)) → (zGU T (m 94 46) (m 99)) → (zOw (m 99) (m 103) (m 111)) → (zGG (m 94 58) (m 94 56) (m 94 57) (m 106)) → ((m 94 10).toInt = 4 ∧ (m 94 58).toInt = 0) → ((m 94 8).toInt = 1) → (qRB (m 99) (m 100) (m 98) (m 101) (m 102) (m 103) (m 107) (m 108) (m 109) (m 111) (m 112) (m 113) (m0 114) (m0 94 55) (m 94 46) (m 94 11) (m 94 12) (m 94 62) (m 94 17) (m 94 9) aa) → (qI aa) → (aa 87 8 = (m 94 58)) → ((m 94 45).toInt = sm (zbU (m 99)) (m 102) 3100) → (cV aa [] B) → (qCt (m 105) (m 99) (m 100) aa [] (-1) (-1)) → (qSh (m0 114) (m 114) l3.toInt) → ((m 94 55) = (m0 94 55) - 1) → (l2 = (m0 114) 0) → zm X 5 111 255 61 [(0, .inr (.inr (some 94))), (1, .inl l1), (2, .inl l2), (3, .inl l3)] m P := by
  intro n
  induction n using Nat.strongRecOn with
  | _ n IH =>
    intro m l1 l2 l3 hmu hF hV hi0 hi1 hi2 hi3 r_R1e hi5 hi6 hi7 hi8 hi9 hi10 hi11 r_W r_GW r_GU r_OW r_GG hi17 hi18 r_RB0 r_QI r_MK r_WTS r_VV r_CT r_SHl r_WMe r_L2s
    refine g_255_61 l1 l2 l3 ?_
    have f1 : 0 ≤ (m0 94 55).toInt ∧ (m0 94 55).toInt ≤ 3100 := rs_94_55 (m := m0) h0
    have f2 : 0 ≤ (m 94 55).toInt ∧ (m 94 55).toInt ≤ 3100 := rs_94_55 (m := m) hV
    have f3 : 0 ≤ (m 94 10).toInt ∧ (m 94 10).toInt ≤ 6 := rs_94_10 (m := m) hV
    have f4 : 0 ≤ (m 94 58).toInt ∧ (m 94 58).toInt ≤ 1 := rs_94_58 (m := m) hV
    have f5 : 0 ≤ (m 94 8).toInt ∧ (m 94 8).toInt ≤ 1 := rs_94_8 (m := m) hV
    have b6 := i_bd l3
    refine zd (fun (h7 : (m 94 55) ≤ l3) => ?_) (fun (h7 : ¬ (m 94 55) ≤ l3) => ?_)
    · skip
      have g8 := i_le h7
      have b9 := i_bd l2
      have hg10 : (0 ≤ l2 ∧ l2.toNatClampNeg < 3100) := i_ix (by omega) (by omega)
      refine ⟨hg10, ?_⟩
      have b11 := i_bd l1
      refine sp_238r4 (aa := (aTw aa)) (x := (qNo (m 100) l2)) (l1) (l2) hV (by omega) (by omega) (by omega) (by omega) (by omega) (by omega) (show (m 94 10).toInt = 4 ∧ (m 94 58).toInt = 0 from by omega) r_W r_GW r_GU r_OW (show qRB (m 99) (m 100) (m 98) (m 101) (m 102) (m 103) (m 107) (m 108) (m 109) (m 111) (m 112) (m 113) (m 114) (m 94 55) (m 94 46) (m 94 11) (m 94 12) (m 94 62) (m 94 17) (m 94 9) (aTw aa) from by first | (exact RB_tw r_RB0 (by omega) r_SHl (by rw [congrArg Int32.toInt r_WMe] at *; omega) r_WMe) | (exact RB_tw r_RB0 (by omega) r_SHl (by omega) r_WMe) | (exfalso; omega; done) | (exfalso; contradiction; done)) (show qI (aTw aa) from by first | (exact I_tw r_QI (show 0 < (aa 69 5).toInt from by rw [r_RB0.2.2.2.2.1.1]; omega)) | (exfalso; omega; done) | (exfalso; contradiction; done)) (show (aTw aa) 87 8 = (m 94 58) from by first | (rw [(Tw_r (show 0 < (aa 69 5).toInt from by rw [r_RB0.2.2.2.2.1.1]; omega)).2.2.1 87 (by decide) (by decide)]; exact r_MK; done) | (exfalso; omega; done) | (exfalso; contradiction; done)) r_WTS (show cV (aTw aa) [] B from by first | (exact V_tw4 r_VV) | (exfalso; omega; done) | (exfalso; contradiction; done)) (show qCt (m 105) (m 99) (m 100) (aTw aa) [] (qNo (m 100) l2) (-1) from by first | (exact Ct_tw r_RB0 r_CT (by omega) (by rw [← r_RB0.2.2.2.2.1.1]; exact r_QI.2.2.2.1.2.1.2) r_L2s) | (exfalso; omega; done) | (exfalso; contradiction; done)) (show qU (m 99) l2 from by first | (rw [r_L2s]; exact Or.inr (r_RB0.2.2.2.2.1.2 0 (by omega)).1.2; done) | (assumption; done) | (exact ow5.1) | (exact ow3.1) | (exfalso; omega; done) | (exfalso; contradiction; done)) (show (qNo (m 100) l2).toInt < 0 ∨ (qNo (m 100) l2) = qNo (m 100) l2 from by first | (exact Or.inr rfl) | (exfalso; omega; done) | (exfalso; contradiction; done)) (fun m1 hV_m1 p0_m1 p1_m1 p2_m1 p3_m1 p4_m1 p5_m1 p6_m1 p7_m1 p8_m1 p9_m1 p10_m1 => zmv_n ?_)
      have p0_m1 : zGW T (m1 94 55) (m1 109) := p0_m1
      have p1_m1 : zGU T (m 94 46) (m1 99) := p1_m1
      have p2_m1 : zOw (m1 99) (m 103) (m1 111) := p2_m1
      have p3_m1 : (m1 94 45).toInt = sm (zbU (m1 99)) (m 102) 3100 := p3_m1
      have p4_m1 : qRB (m1 99) (m 100) (m 98) (m 101) (m 102) (m 103) (m 107) (m 108) (m1 109) (m1 111) (m1 112) (m1 113) (m1 114) (m1 94 55) (m 94 46) (m 94 11) (m 94 12) (m 94 62) (m 94 17) (m 94 9) (kRt (aTw aa) l1 (qNo (m 100) l2)) := p4_m1
      have p5_m1 : qI (kRt (aTw aa) l1 (qNo (m 100) l2)) := p5_m1
      have p6_m1 : (kRt (aTw aa) l1 (qNo (m 100) l2)) 87 8 = (m 94 58) := p6_m1
      have p7_m1 : cV (kRt (aTw aa) l1 (qNo (m 100) l2)) [] B := p7_m1
      have p8_m1 : qCt (m1 105) (m1 99) (m 100) (kRt (aTw aa) l1 (qNo (m 100) l2)) [] (qNo (m 100) l2) (-1) := p8_m1
      have p9_m1 : qXr (kRt (aTw aa) l1 (qNo (m 100) l2)) (qNo (m 100) l2) := p9_m1
      have p10_m1 : (m1 112) l1.toNatClampNeg = l2 := p10_m1
      refine sp_241r4 (aa := (kRt (aTw aa) l1 (qNo (m 100) l2))) (x := (-1 : Int32)) (l2) hV_m1 (by omega) (by omega) (by omega) (by omega) (show (m 94 10).toInt = 4 ∧ (m 94 58).toInt = 0 from by omega) r_W p0_m1 p1_m1 p2_m1 p4_m1 p5_m1 p6_m1 p3_m1 p7_m1 (show qCt (m1 105) (m1 99) (m 100) (kRt (aTw aa) l1 (qNo (m 100) l2)) [] (-1 : Int32) (qNo (m 100) l2) from by first | (exact Ct_sw p8_m1) | (exfalso; omega; done) | (exfalso; contradiction; done)) (show qU (m1 99) l2 from by first | (have q := (p4_m1.2.2.1 l1.toNatClampNeg (by have h0 := tn_cast (x := l1) (by omega); omega)).1; rw [p10_m1] at q; exact q; done) | (assumption; done) | (exact ow5.1) | (exact ow3.1) | (exfalso; omega; done) | (exfalso; contradiction; done)) (show qXr (kRt (aTw aa) l1 (qNo (m 100) l2)) (-1 : Int32) from by first | (exact Xr_m1) | (exfalso; omega; done) | (exfalso; contradiction; done)) (fun m3 hV_m3 p0_m3 p1_m3 p2_m3 p3_m3 p4_m3 p5_m3 p6_m3 p7_m3 p8_m3 p9_m3 => zmv_n ?_)
      have p0_m3 : zGW T (m3 94 55) (m3 109) := p0_m3
      have p1_m3 : zGU T (m 94 46) (m3 99) := p1_m3
      have p2_m3 : zOw (m3 99) (m 103) (m3 111) := p2_m3
      have p3_m3 : (m3 94 45).toInt = sm (zbU (m3 99)) (m 102) 3100 := p3_m3
      have p4_m3 : qRB (m3 99) (m 100) (m 98) (m 101) (m 102) (m 103) (m 107) (m 108) (m3 109) (m3 111) (m1 112) (m3 113) (m3 114) (m3 94 55) (m 94 46) (m 94 11) (m 94 12) (m 94 62) (m 94 17) (m 94 9) (cLe (kRt (aTw aa) l1 (qNo (m 100) l2)) (qNo (m 100) l2)) := p4_m3
      have p5_m3 : qI (cLe (kRt (aTw aa) l1 (qNo (m 100) l2)) (qNo (m 100) l2)) := p5_m3
      have p6_m3 : (cLe (kRt (aTw aa) l1 (qNo (m 100) l2)) (qNo (m 100) l2)) 87 8 = (m 94 58) := p6_m3
      have p7_m3 : cV (cLe (kRt (aTw aa) l1 (qNo (m 100) l2)) (qNo (m 100) l2)) [] B := p7_m3
      have p8_m3 : qCt (m3 105) (m3 99) (m 100) (cLe (kRt (aTw aa) l1 (qNo (m 100) l2)) (qNo (m 100) l2)) [] (-1 : Int32) (-1) := p8_m3
      have p9_m3 : qXr (cLe (kRt (aTw aa) l1 (qNo (m 100) l2)) (qNo (m 100) l2)) (-1 : Int32) := p9_m3
      first | have f12 : 0 ≤ (m 100 l2.toNatClampNeg).toInt ∧ (m 100 l2.toNatClampNeg).toInt ≤ 100000 := ra_100 (m := m) hV (k := l2.toNatClampNeg) (i_ix (n := 3100) (by omega) (by omega)).2 | have b13 := i_bd (m 100 l2.toNatClampNeg)
      exact K ((m 100 l2.toNatClampNeg)) _ (zF_zov (zF_zov hF ws_238_255) ws_241_255) hV_m3 r_W p0_m3 p1_m3 p2_m3 (show zGG (m 94 58) (m1 94 56) (m 94 57) (m1 106) from by first | (exact r_GG) | (exact fun z => absurd z (by omega)) | (exact fun z => absurd z (by decide)) | (exact fun z => absurd z (by omega)) | (exfalso; omega; done) | (exfalso; contradiction; done)) p3_m3 (show qRB (m3 99) (m 100) (m 98) (m 101) (m 102) (m 103) (m 107) (m 108) (m3 109) (m3 111) (m1 112) (m3 113) (m3 114) (m3 94 55) (m 94 46) (m 94 11) (m 94 12) (m 94 62) (m 94 17) (m 94 9) (kGr aa r1) from by first | (rw [kGr_y r_RB0 (by omega) (by omega) (by omega), ← r_L2s, ← r_R1e]; have q := p4_m3; rw [Le_rt2 p7_m1 p4_m1.1 (by have q := (p4_m1.2.2.1 l1.toNatClampNeg (by have h0 := tn_cast (x := l1) (by omega); omega)).1; rw [p10_m1] at q; exact q) (by omega) p9_m1] at q; exact q; done) | (exfalso; omega; done) | (exfalso; contradiction; done)) (show qI (kGr aa r1) from by first | (rw [kGr_y r_RB0 (by omega) (by omega) (by omega), ← r_L2s, ← r_R1e]; have q := p5_m3; rw [Le_rt2 p7_m1 p4_m1.1 (by have q := (p4_m1.2.2.1 l1.toNatClampNeg (by have h0 := tn_cast (x := l1) (by omega); omega)).1; rw [p10_m1] at q; exact q) (by omega) p9_m1] at q; exact q; done) | (exfalso; omega; done) | (exfalso; contradiction; done)) (show (kGr aa r1) 87 8 = (m 94 58) from by first | (rw [kGr_y r_RB0 (by omega) (by omega) (by omega), ← r_L2s, ← r_R1e]; have q := p6_m3; rw [Le_rt2 p7_m1 p4_m1.1 (by have q := (p4_m1.2.2.1 l1.toNatClampNeg (by have h0 := tn_cast (x := l1) (by omega); omega)).1; rw [p10_m1] at q; exact q) (by omega) p9_m1] at q; exact q; done) | (exfalso; omega; done) | (exfalso; contradiction; done)) (show cV (kGr aa r1) [] B from by first | (rw [kGr_y r_RB0 (by omega) (by omega) (by omega), ← r_L2s, ← r_R1e]; have q := p7_m3; rw [Le_rt2 p7_m1 p4_m1.1 (by have q := (p4_m1.2.2.1 l1.toNatClampNeg (by have h0 := tn_cast (x := l1) (by omega); omega)).1; rw [p10_m1] at q; exact q) (by omega) p9_m1] at q; exact q; done) | (exfalso; omega; done) | (exfalso; contradiction; done)) (show qCt (m3 105) (m3 99) (m 100) (kGr aa r1) [] (-1) (-1) from by first | (rw [kGr_y r_RB0 (by omega) (by omega) (by omega), ← r_L2s, ← r_R1e]; have q := p8_m3; rw [Le_rt2 p7_m1 p4_m1.1 (by have q := (p4_m1.2.2.1 l1.toNatClampNeg (by have h0 := tn_cast (x := l1) (by omega); omega)).1; rw [p10_m1] at q; exact q) (by omega) p9_m1] at q; exact q; done) | (exfalso; omega; done) | (exfalso; contradiction; done))
    · skip
      have g14 := i_nle h7
      first | have e15 : (l3 + (1 : Int32)).toInt = l3.toInt + (1) := i_addk rfl (by omega) (by omega) | have b16 := i_bd (l3 + (1 : Int32))
      have hg17 : (0 ≤ (l3 + (1 : Int32)) ∧ (l3 + (1 : Int32)).toNatClampNeg < 3100) := i_ix (by omega) (by omega)
      refine ⟨hg17, ?_⟩
      have hg18 : (0 ≤ l3 ∧ l3.toNatClampNeg < 3100) := i_ix (by omega) (by omega)
      refine ⟨hg18, ?_⟩
      first | have f20 : 0 ≤ (m 114 (l3 + (1 : Int32)).toNatClampNeg).toInt ∧ (m 114 (l3 + (1 : Int32)).toNatClampNeg).toInt ≤ 3099 := ra_114 (m := m) hV (k := (l3 + (1 : Int32)).toNatClampNeg) (i_ix (n := 3100) (by omega) (by omega)).2 | have b21 := i_bd (m 114 (l3 + (1 : Int32)).toNatClampNeg)
      have hV19 : zV (ma_u m 114 l3.toNatClampNeg (m 114 (l3 + (1 : Int32)).toNatClampNeg)) := ua_114 hV (by omega) (by omega)
      have b22 := i_bd l1
      have b23 := i_bd l2
      exact IH (3100 - (l3 + (1 : Int32)).toInt).toNat (by omega) _ (l1) (l2) ((l3 + (1 : Int32))) rfl (zF_u hF rfl) hV19 (by omega) (by omega) (by omega) (by omega) r_R1e (by omega) (by omega) (by omega) (by omega) (show 1 ≤ (m0 94 55).toInt from by omega) (show (m 94 55).toInt = (m0 94 55).toInt - 1 from by omega) (show (l3 + (1 : Int32)).toInt ≤ (m 94 55).toInt from by omega) r_W r_GW r_GU r_OW r_GG (show (m 94 10).toInt = 4 ∧ (m 94 58).toInt = 0 from by omega) (show (m 94 8).toInt = 1 from by omega) r_RB0 r_QI r_MK r_WTS r_VV r_CT (show qSh (m0 114) ((ma_u m 114 l3.toNatClampNeg (m 114 (l3 + (1 : Int32)).toNatClampNeg)) 114) (l3 + (1 : Int32)).toInt from by first | (exact Sh_s r_SHl (by omega) (by omega) (by omega)) | (exfalso; omega; done) | (exfalso; contradiction; done)) r_WMe r_L2s
set_option maxHeartbeats 8000000 in
theorem sp_255r4 {X : Nat × (Nat → Int32)} {P : Option ma_V → (Nat → Nat → Int32) → Prop} {T : Nat} {aa : Nat→Nat→Int32} {B : Int} {m : Nat → Nat → Int32} (r1 : Int32) (hV : zV m) (hpre0 : T ≤ 512) (hpre1 : B ≤ 1000000) (r_W : zW (m 94 7) (m 98) (m 101) (m 102) (m 108)) (r_GW : zGW T (m 94 55) (m 109)) (r_GU : zGU T (m 94 46) (m 99)) (r_OW : zOw (m 99) (m 103) (m 111)) (r_GG : zGG (m 94 58) (m 94 56) (m 94 57) (m 106)) (hpre7 : (m 94 10).toInt = 4 ∧ (m 94 58).toInt = 0) (hpre8 : (m 94 8).toInt = 1) (r_RB : qRB (m 99) (m 100) (m 98) (m 101) (m 102) (m 103) (m 107) (m 108) (m 109) (m 111) (m 112) (m 113) (m 114) (m 94 55) (m 94 46) (m 94 11) (m 94 12) (m 94 62) (m 94 17) (m 94 9) aa) (r_QI : qI aa) (r_MK : aa 87 8 = (m 94 58)) (r_WTS : (m 94 45).toInt = sm (zbU (m 99)) (m 102) 3100) (r_VV : cV aa [] B) (r_CT : qCt (m 105) (m 99) (m 100) aa [] (-1) (-1)) (KZ : ∀ v m₉, zV (zov wr_255 m m₉) → (zW (m 94 7) (m 98) (m 101) (m 102) (m 108)) → (zGW T (m₉ 94 55) (m₉ 109)) → (zGU T (m 94 46) (m₉ 99)) → (zOw (m₉ 99) (m 103) (m₉ 111)) → (zGG (m 94 58) (m₉ 94 56) (m 94 57) (m₉ 106)) → ((m₉ 94 45).toInt = sm (zbU (m₉ 99)) (m 102) 3100) → (qRB (m₉ 99) (m 100) (m 98) (m 101) (m 102) (m 103) (m 107) (m 108) (m₉ 109) (m₉ 111) (m₉ 112) (m₉ 113) (m₉ 114) (m₉ 94 55) (m 94 46) (m 94 11) (m 94 12) (m 94 62) (m 94 17) (m 94 9) (kGr aa r1)) → (qI (kGr aa r1)) → ((kGr aa r1) 87 8 = (m 94 58)) → (cV (kGr aa r1) [] B) → (qCt (m₉ 105) (m₉ 99) (m 100) (kGr aa r1) [] (-1) (-1)) → P (some (.inl v)) (zov wr_255 m m₉)) : zm X 5 111 255 0 [(0, .inr (.inr (some 94))), (1, .inl r1)] m P := by
  have K : ∀ v m₉, zF wr_255 m m₉ → zV m₉ → (zW (m₉ 94 7) (m₉ 98) (m₉ 101) (m₉ 102) (m₉ 108)) → (zGW T (m₉ 94 55) (m₉ 109)) → (zGU T (m₉ 94 46) (m₉ 99)) → (zOw (m₉ 99) (m₉ 103) (m₉ 111)) → (zGG (m₉ 94 58) (m₉ 94 56) (m₉ 94 57) (m₉ 106)) → ((m₉ 94 45).toInt = sm (zbU (m₉ 99)) (m₉ 102) 3100) → (qRB (m₉ 99) (m₉ 100) (m₉ 98) (m₉ 101) (m₉ 102) (m₉ 103) (m₉ 107) (m₉ 108) (m₉ 109) (m₉ 111) (m₉ 112) (m₉ 113) (m₉ 114) (m₉ 94 55) (m₉ 94 46) (m₉ 94 11) (m₉ 94 12) (m₉ 94 62) (m₉ 94 17) (m₉ 94 9) (kGr aa r1)) → (qI (kGr aa r1)) → ((kGr aa r1) 87 8 = (m₉ 94 58)) → (cV (kGr aa r1) [] B) → (qCt (m₉ 105) (m₉ 99) (m₉ 100) (kGr aa r1) [] (-1) (-1)) → P (some (.inl v)) m₉ := by
    intro v m₉ hf z q0 q1 q2 q3 q4 q5 q6 q7 q8 q9 q10
    have e := zov_eq hf
    rw [e] at z ⊢
    try rw [e] at q0
    try rw [e] at q1
    try rw [e] at q2
    try rw [e] at q3
    try rw [e] at q4
    try rw [e] at q5
    try rw [e] at q6
    try rw [e] at q7
    try rw [e] at q8
    try rw [e] at q9
    try rw [e] at q10
    exact KZ v m₉ z q0 q1 q2 q3 q4 q5 q6 q7 q8 q9 q10
  refine g_255_0 r1 ?_
  have f1 : 0 ≤ (m 94 10).toInt ∧ (m 94 10).toInt ≤ 6 := rs_94_10 (m := m) hV
  have f2 : 0 ≤ (m 94 58).toInt ∧ (m 94 58).toInt ≤ 1 := rs_94_58 (m := m) hV
  have f3 : 0 ≤ (m 94 8).toInt ∧ (m 94 8).toInt ≤ 1 := rs_94_8 (m := m) hV
  have b4 := i_bd r1
  have li5 : (0 : Int32).toInt = 0 := rfl
  refine zd (fun (h6 : r1 < (0 : Int32)) => ?_) (fun (h6 : ¬ r1 < (0 : Int32)) => ?_)
  · skip
    have g7 := i_lt h6
    have hV8 : zV (ma_u m 94 0 (1 : Int32)) := uf_94_0 hV
    exact K ((0 : Int32)) _ (zF_u zF_rfl rfl) hV8 r_W r_GW r_GU r_OW r_GG r_WTS (show qRB (m 99) (m 100) (m 98) (m 101) (m 102) (m 103) (m 107) (m 108) (m 109) (m 111) (m 112) (m 113) (m 114) (m 94 55) (m 94 46) (m 94 11) (m 94 12) (m 94 62) (m 94 17) (m 94 9) (kGr aa r1) from by first | (unfold kGr; rw [qIf_n (fun w => by have w1 := w.1; have w2 := w.2; omega)]; exact r_RB; done) | (rw [kGr_0 r_RB (i_zer (by omega))]; exact r_RB; done) | (exfalso; omega; done) | (exfalso; contradiction; done)) (show qI (kGr aa r1) from by first | (unfold kGr; rw [qIf_n (fun w => by have w1 := w.1; have w2 := w.2; omega)]; exact r_QI; done) | (rw [kGr_0 r_RB (i_zer (by omega))]; exact r_QI; done) | (exfalso; omega; done) | (exfalso; contradiction; done)) (show (kGr aa r1) 87 8 = (m 94 58) from by first | (unfold kGr; rw [qIf_n (fun w => by have w1 := w.1; have w2 := w.2; omega)]; exact r_MK; done) | (rw [kGr_0 r_RB (i_zer (by omega))]; exact r_MK; done) | (exfalso; omega; done) | (exfalso; contradiction; done)) (show cV (kGr aa r1) [] B from by first | (unfold kGr; rw [qIf_n (fun w => by have w1 := w.1; have w2 := w.2; omega)]; exact r_VV; done) | (rw [kGr_0 r_RB (i_zer (by omega))]; exact r_VV; done) | (exfalso; omega; done) | (exfalso; contradiction; done)) (show qCt (m 105) (m 99) (m 100) (kGr aa r1) [] (-1) (-1) from by first | (unfold kGr; rw [qIf_n (fun w => by have w1 := w.1; have w2 := w.2; omega)]; exact r_CT; done) | (rw [kGr_0 r_RB (i_zer (by omega))]; exact r_CT; done) | (exfalso; omega; done) | (exfalso; contradiction; done))
  · skip
    have g9 := i_nlt h6
    have li10 : (16 : Int32).toInt = 16 := rfl
    refine zd (fun (h11 : (16 : Int32) ≤ r1) => ?_) (fun (h11 : ¬ (16 : Int32) ≤ r1) => ?_)
    · skip
      have g12 := i_le h11
      have hV13 : zV (ma_u m 94 0 (1 : Int32)) := uf_94_0 hV
      exact K ((0 : Int32)) _ (zF_u zF_rfl rfl) hV13 r_W r_GW r_GU r_OW r_GG r_WTS (show qRB (m 99) (m 100) (m 98) (m 101) (m 102) (m 103) (m 107) (m 108) (m 109) (m 111) (m 112) (m 113) (m 114) (m 94 55) (m 94 46) (m 94 11) (m 94 12) (m 94 62) (m 94 17) (m 94 9) (kGr aa r1) from by first | (unfold kGr; rw [qIf_n (fun w => by have w1 := w.1; have w2 := w.2; omega)]; exact r_RB; done) | (rw [kGr_0 r_RB (i_zer (by omega))]; exact r_RB; done) | (exfalso; omega; done) | (exfalso; contradiction; done)) (show qI (kGr aa r1) from by first | (unfold kGr; rw [qIf_n (fun w => by have w1 := w.1; have w2 := w.2; omega)]; exact r_QI; done) | (rw [kGr_0 r_RB (i_zer (by omega))]; exact r_QI; done) | (exfalso; omega; done) | (exfalso; contradiction; done)) (show (kGr aa r1) 87 8 = (m 94 58) from by first | (unfold kGr; rw [qIf_n (fun w => by have w1 := w.1; have w2 := w.2; omega)]; exact r_MK; done) | (rw [kGr_0 r_RB (i_zer (by omega))]; exact r_MK; done) | (exfalso; omega; done) | (exfalso; contradiction; done)) (show cV (kGr aa r1) [] B from by first | (unfold kGr; rw [qIf_n (fun w => by have w1 := w.1; have w2 := w.2; omega)]; exact r_VV; done) | (rw [kGr_0 r_RB (i_zer (by omega))]; exact r_VV; done) | (exfalso; omega; done) | (exfalso; contradiction; done)) (show qCt (m 105) (m 99) (m 100) (kGr aa r1) [] (-1) (-1) from by first | (unfold kGr; rw [qIf_n (fun w => by have w1 := w.1; have w2 := w.2; omega)]; exact r_CT; done) | (rw [kGr_0 r_RB (i_zer (by omega))]; exact r_CT; done) | (exfalso; omega; done) | (exfalso; contradiction; done))
    · skip
      have g14 := i_nle h11
      refine zd (fun (h15 : (m 94 8) = (0 : Int32)) => ?_) (fun (h15 : ¬ (m 94 8) = (0 : Int32)) => ?_)
      · skip
        have g16 := i_eq h15
        exfalso; omega
      · skip
        have g17 := i_ne h15
        have f18 : 0 ≤ (m 94 55).toInt ∧ (m 94 55).toInt ≤ 3100 := rs_94_55 (m := m) hV
        refine zd (fun (h19 : (m 94 55) = (0 : Int32)) => ?_) (fun (h19 : ¬ (m 94 55) = (0 : Int32)) => ?_)
        · skip
          have g20 := i_eq h19
          have hV21 : zV (ma_u m 94 0 (0 : Int32)) := uf_94_0 hV
          have li22 : (-1 : Int32).toInt = -1 := rfl
          exact K ((-1 : Int32)) _ (zF_u zF_rfl rfl) hV21 r_W r_GW r_GU r_OW r_GG r_WTS (show qRB (m 99) (m 100) (m 98) (m 101) (m 102) (m 103) (m 107) (m 108) (m 109) (m 111) (m 112) (m 113) (m 114) (m 94 55) (m 94 46) (m 94 11) (m 94 12) (m 94 62) (m 94 17) (m 94 9) (kGr aa r1) from by first | (unfold kGr; rw [qIf_n (fun w => by have w1 := w.1; have w2 := w.2; omega)]; exact r_RB; done) | (rw [kGr_0 r_RB (i_zer (by omega))]; exact r_RB; done) | (exfalso; omega; done) | (exfalso; contradiction; done)) (show qI (kGr aa r1) from by first | (unfold kGr; rw [qIf_n (fun w => by have w1 := w.1; have w2 := w.2; omega)]; exact r_QI; done) | (rw [kGr_0 r_RB (i_zer (by omega))]; exact r_QI; done) | (exfalso; omega; done) | (exfalso; contradiction; done)) (show (kGr aa r1) 87 8 = (m 94 58) from by first | (unfold kGr; rw [qIf_n (fun w => by have w1 := w.1; have w2 := w.2; omega)]; exact r_MK; done) | (rw [kGr_0 r_RB (i_zer (by omega))]; exact r_MK; done) | (exfalso; omega; done) | (exfalso; contradiction; done)) (show cV (kGr aa r1) [] B from by first | (unfold kGr; rw [qIf_n (fun w => by have w1 := w.1; have w2 := w.2; omega)]; exact r_VV; done) | (rw [kGr_0 r_RB (i_zer (by omega))]; exact r_VV; done) | (exfalso; omega; done) | (exfalso; contradiction; done)) (show qCt (m 105) (m 99) (m 100) (kGr aa r1) [] (-1) (-1) from by first | (unfold kGr; rw [qIf_n (fun w => by have w1 := w.1; have w2 := w.2; omega)]; exact r_CT; done) | (rw [kGr_0 r_RB (i_zer (by omega))]; exact r_CT; done) | (exfalso; omega; done) | (exfalso; contradiction; done))
        · skip
          have g23 := i_ne h19
          have hV24 : zV (ma_u m 94 0 (0 : Int32)) := uf_94_0 hV
          first | have e26 : ((m 94 55) - (1 : Int32)).toInt = (m 94 55).toInt - (1) := i_subk rfl (by omega) (by omega) | have b27 := i_bd ((m 94 55) - (1 : Int32))
          have hV25 : zV (ma_u (ma_u m 94 0 (0 : Int32)) 94 55 ((m 94 55) - (1 : Int32))) := us_94_55 hV24 (by omega) (by omega)
          have f28 : 0 ≤ (m 114 0).toInt ∧ (m 114 0).toInt ≤ 3099 := ra_114 (m := m) hV (k := 0) (by decide)
          exact lp_255r4_61 (r1 := r1) hV K _ _ (r1) ((m 114 0)) ((0 : Int32)) rfl (zF_u (zF_u zF_rfl rfl) rfl) hV25 (by omega) (by omega) (by omega) (by omega) (show r1 = r1 from by first | (exact rfl) | (exfalso; omega; done) | (exfalso; contradiction; done)) (by omega) (by omega) (by omega) (by omega) (show 1 ≤ (m 94 55).toInt from by omega) (show ((m 94 55) - (1 : Int32)).toInt = (m 94 55).toInt - 1 from by omega) (show (0 : Int32).toInt ≤ ((m 94 55) - (1 : Int32)).toInt from by omega) r_W (show zGW T ((m 94 55) - (1 : Int32)) (m 109) from by first | (exact GW_le r_GW (by omega)) | (exfalso; omega; done) | (exfalso; contradiction; done)) r_GU r_OW r_GG (show (m 94 10).toInt = 4 ∧ (m 94 58).toInt = 0 from by omega) (show (m 94 8).toInt = 1 from by omega) (show qRB (m 99) (m 100) (m 98) (m 101) (m 102) (m 103) (m 107) (m 108) (m 109) (m 111) (m 112) (m 113) (m 114) (m 94 55) (m 94 46) (m 94 11) (m 94 12) (m 94 62) (m 94 17) (m 94 9) aa from by first | (exact r_RB) | (exfalso; omega; done) | (exfalso; contradiction; done)) r_QI r_MK r_WTS r_VV r_CT (show qSh (m 114) (m 114) (0 : Int32).toInt from by first | (exact Sh_0 (by decide)) | (exfalso; omega; done) | (exfalso; contradiction; done)) (show ((m 94 55) - (1 : Int32)) = (m 94 55) - 1 from by first | (exact rfl) | (exfalso; omega; done) | (exfalso; contradiction; done)) (show (m 114 0) = (m 114) 0 from by first | (exact rfl) | (exfalso; omega; done) | (exfalso; contradiction; done))

/-! from 95.o10 -/
/-! the reference under COUNTS (written by wip/tools/gen20s.py) -/
theorem Ct_l2 {a : Nat → Nat → Int32} {us nr ct : Nat → Int32} {s z i : Int32} {n : Nat} (hI : qI a) (q : qCt ct us nr a [] (-1) (qNo nr s)) (W : qWp a n i) (hb : a (1000 + n) i.toNatClampNeg ≠ 0) (ew : aRef a n i = z) : qCt ct us nr (aCi a n i (qNo nr s)) [] (-1) z := fun t ht hv => by
  have r := Rf_w (x := qNo nr s) (n := (nr t).toNatClampNeg) (cQ_I hI) W W.1.1 hb
  rw [Ci_eq hI W, q t ht hv, ← ew]
  exact congrArg Int32.ofInt (by omega)

/-! from 95.o11 -/
/-! the reference under COUNTS (written by wip/tools/gen20s.py) -/
set_option maxHeartbeats 8000000 in
theorem lp_247r4_207 {X : Nat × (Nat → Int32)} {P : Option ma_V → (Nat → Nat → Int32) → Prop} {T : Nat} {aa : Nat→Nat→Int32} {B : Int} {ob : Int32} {ix : Int32} {oo : Int32} {m0 : Nat → Nat → Int32} (h0 : zV m0) (K : ∀ v m₉, zF wr_247 m0 m₉ → zV m₉ → (zW (m₉ 94 7) (m₉ 98) (m₉ 101) (m₉ 102) (m₉ 108)) → (zGW T (m₉ 94 55) (m₉ 109)) → (zGU T (m₉ 94 46) (m₉ 99)) → (zOw (m₉ 99) (m₉ 103) (m₉ 111)) → (zGG (m₉ 94 58) (m₉ 94 56) (m₉ 94 57) (m₉ 106)) → ((m₉ 94 45).toInt = sm (zbU (m₉ 99)) (m₉ 102) 3100) → (qRB (m₉ 99) (m₉ 100) (m₉ 98) (m₉ 101) (m₉ 102) (m₉ 103) (m₉ 107) (m₉ 108) (m₉ 109) (m₉ 111) (m₉ 112) (m₉ 113) (m₉ 114) (m₉ 94 55) (m₉ 94 46) (m₉ 94 11) (m₉ 94 12) (m₉ 94 62) (m₉ 94 17) (m₉ 94 9) (kLi aa ob ix oo)) → (qI (kLi aa ob ix oo)) → ((kLi aa ob ix oo) 87 8 = (m₉ 94 58)) → (cV (kLi aa ob ix oo) [] B) → (qCt (m₉ 105) (m₉ 99) (m₉ 100) (kLi aa ob ix oo) [] (-1) (-1)) → P (some (.inl v)) m₉) : ∀ (n : Nat) (m : Nat → Nat → Int32) (l6 : Int32) (l7 : Int32) (l8 : Int32), ((0 : Int)).toNat = n → zF wr_247 m0 m → zV m → (-1 ≤ l6.toInt) → (l6.toInt ≤ 3099) → (-1 ≤ l7.toInt) → (l7.toInt ≤ 3099) → (B ≤ 1000000) → (T ≤ 512) → (zW (m 94 7) (m 98) (m 101) (m 102) (m 108)) → (zGW T (m 94 55) (m 109)) → (zGU T (m 94 46) (m 99)) → (zOw (m 99) (m 103) (m 111)) → (zGG (m 94 58) (m 94 56) (m 94 57) (m 106)) → ((m 94 10).toInt = 4 ∧ (m 94 58).toInt = 0) → ((m 94 8).toInt = 1) → (qRB (m 99) (m 100) (m 98) (m 101) (m 102) (m 103) (m 107) (m 108) (m 109) (m 111) (m 112) (m 113) (m 114) (m 94 55) (m 94 46) (m 94 11) (m 94 12) (m 94 62) (m 94 17) (m 94 9) (aCi aa ob.toNatClampNeg ix (qNo (m 100) l6))) → (qI (aCi aa ob.toNatClampNeg ix (qNo (m 100) l6))) → ((aCi aa ob.toNatClampNeg ix (qNo (m 100) l6)) 87 8 = (m 94 58)) → ((m 94 45).toInt = sm (zbU (m 99)) (m 102) 3100) → (cV (aCi aa ob.toNatClampNeg ix (qNo (m 100) l6)) [] B) → (qCt (m 105) (m 99) (m 100) (aCi aa ob.toNatClampNeg ix (qNo (m 100) l6)) [] (-1) (qNo (m 100) l7)) → (kLi aa ob ix oo = cLe (aCi aa ob.toNatClampNeg ix (qNo (m 100) l6)) (qNo (m 100) l7)) → (qU (m 99) l7) → (qU (m 99) l6) → zm X 5 109 247 207 [(0, .inr (.inr (some 94))), (6, .inl l6), (7, .inl l7), (8, .inl l8)] m P := by
  intro n
  induction n using Nat.strongRecOn with
  | _ n IH =>
    intro m l6 l7 l8 hmu hF hV hi0 hi1 hi2 hi3 hi4 hi5 r_W r_GW r_GU r_OW r_GG hi11 hi12 r_RB r_QI r_MK r_WTS r_VV r_CT r_LIq r_UVl r_UTl
    refine g_247_207 l6 l7 l8 ?_
    have f1 : 0 ≤ (m 94 10).toInt ∧ (m 94 10).toInt ≤ 6 := rs_94_10 (m := m) hV
    have f2 : 0 ≤ (m 94 58).toInt ∧ (m 94 58).toInt ≤ 1 := rs_94_58 (m := m) hV
    have f3 : 0 ≤ (m 94 8).toInt ∧ (m 94 8).toInt ≤ 1 := rs_94_8 (m := m) hV
    have b4 := i_bd l7
    have b5 := i_bd l6
    refine sp_240r4 (l7) (l6) hV (show (m 94 10).toInt = 4 ∧ (m 94 58).toInt = 0 from by omega) (fun m1 hV_m1  => zmv_n ?_)
    refine sp_241r4 (aa := (aCi aa ob.toNatClampNeg ix (qNo (m 100) l6))) (x := (-1 : Int32)) (l7) hV_m1 (by omega) (by omega) (by omega) (by omega) (show (m 94 10).toInt = 4 ∧ (m 94 58).toInt = 0 from by omega) r_W r_GW r_GU r_OW r_RB r_QI r_MK r_WTS r_VV (show qCt (m 105) (m 99) (m 100) (aCi aa ob.toNatClampNeg ix (qNo (m 100) l6)) [] (-1 : Int32) (qNo (m 100) l7) from by first | (exact r_CT) | (exfalso; omega; done) | (exfalso; contradiction; done)) (show qU (m 99) l7 from by first | (exact r_UVl) | (assumption; done) | (exact ow5.1) | (exact ow3.1) | (exfalso; omega; done) | (exfalso; contradiction; done)) (show qXr (aCi aa ob.toNatClampNeg ix (qNo (m 100) l6)) (-1 : Int32) from by first | (exact Xr_m1) | (exfalso; omega; done) | (exfalso; contradiction; done)) (fun m3 hV_m3 p0_m3 p1_m3 p2_m3 p3_m3 p4_m3 p5_m3 p6_m3 p7_m3 p8_m3 p9_m3 => zmv_n ?_)
    have p0_m3 : zGW T (m3 94 55) (m3 109) := p0_m3
    have p1_m3 : zGU T (m 94 46) (m3 99) := p1_m3
    have p2_m3 : zOw (m3 99) (m 103) (m3 111) := p2_m3
    have p3_m3 : (m3 94 45).toInt = sm (zbU (m3 99)) (m 102) 3100 := p3_m3
    have p4_m3 : qRB (m3 99) (m 100) (m 98) (m 101) (m 102) (m 103) (m 107) (m 108) (m3 109) (m3 111) (m 112) (m3 113) (m3 114) (m3 94 55) (m 94 46) (m 94 11) (m 94 12) (m 94 62) (m 94 17) (m 94 9) (cLe (aCi aa ob.toNatClampNeg ix (qNo (m 100) l6)) (qNo (m 100) l7)) := p4_m3
    have p5_m3 : qI (cLe (aCi aa ob.toNatClampNeg ix (qNo (m 100) l6)) (qNo (m 100) l7)) := p5_m3
    have p6_m3 : (cLe (aCi aa ob.toNatClampNeg ix (qNo (m 100) l6)) (qNo (m 100) l7)) 87 8 = (m 94 58) := p6_m3
    have p7_m3 : cV (cLe (aCi aa ob.toNatClampNeg ix (qNo (m 100) l6)) (qNo (m 100) l7)) [] B := p7_m3
    have p8_m3 : qCt (m3 105) (m3 99) (m 100) (cLe (aCi aa ob.toNatClampNeg ix (qNo (m 100) l6)) (qNo (m 100) l7)) [] (-1 : Int32) (-1) := p8_m3
    have p9_m3 : qXr (cLe (aCi aa ob.toNatClampNeg ix (qNo (m 100) l6)) (qNo (m 100) l7)) (-1 : Int32) := p9_m3
    try have w60 := (ra_102 hV (k := l4.toNatClampNeg) (by omega)).2
    have b6 := i_bd l8
    exact K (l8) _ (zF_zov (zF_zov hF ws_240_247) ws_241_247) hV_m3 r_W p0_m3 p1_m3 p2_m3 (show zGG (m 94 58) (m1 94 56) (m 94 57) (m1 106) from by first | (exact r_GG) | (exact fun z => absurd z (by omega)) | (exact fun z => absurd z (by decide)) | (exact fun z => absurd z (by omega)) | (exfalso; omega; done) | (exfalso; contradiction; done)) p3_m3 (show qRB (m3 99) (m 100) (m 98) (m 101) (m 102) (m 103) (m 107) (m 108) (m3 109) (m3 111) (m 112) (m3 113) (m3 114) (m3 94 55) (m 94 46) (m 94 11) (m 94 12) (m 94 62) (m 94 17) (m 94 9) (kLi aa ob ix oo) from by first | (rw [r_LIq]; exact p4_m3; done) | (exfalso; omega; done) | (exfalso; contradiction; done)) (show qI (kLi aa ob ix oo) from by first | (rw [r_LIq]; exact p5_m3; done) | (exfalso; omega; done) | (exfalso; contradiction; done)) (show (kLi aa ob ix oo) 87 8 = (m 94 58) from by first | (rw [r_LIq]; exact p6_m3; done) | (exfalso; omega; done) | (exfalso; contradiction; done)) (show cV (kLi aa ob ix oo) [] B from by first | (rw [r_LIq]; exact p7_m3; done) | (exfalso; omega; done) | (exfalso; contradiction; done)) (show qCt (m3 105) (m3 99) (m 100) (kLi aa ob ix oo) [] (-1) (-1) from by first | (rw [r_LIq]; exact p8_m3; done) | (exfalso; omega; done) | (exfalso; contradiction; done))
set_option maxHeartbeats 8000000 in
theorem lp_247r4_149 {X : Nat × (Nat → Int32)} {P : Option ma_V → (Nat → Nat → Int32) → Prop} {T : Nat} {aa : Nat→Nat→Int32} {B : Int} {ob : Int32} {ix : Int32} {oo : Int32} {m0 : Nat → Nat → Int32} (h0 : zV m0) (K : ∀ v m₉, zF wr_247 m0 m₉ → zV m₉ → (zW (m₉ 94 7) (m₉ 98) (m₉ 101) (m₉ 102) (m₉ 108)) → (zGW T (m₉ 94 55) (m₉ 109)) → (zGU T (m₉ 94 46) (m₉ 99)) → (zOw (m₉ 99) (m₉ 103) (m₉ 111)) → (zGG (m₉ 94 58) (m₉ 94 56) (m₉ 94 57) (m₉ 106)) → ((m₉ 94 45).toInt = sm (zbU (m₉ 99)) (m₉ 102) 3100) → (qRB (m₉ 99) (m₉ 100) (m₉ 98) (m₉ 101) (m₉ 102) (m₉ 103) (m₉ 107) (m₉ 108) (m₉ 109) (m₉ 111) (m₉ 112) (m₉ 113) (m₉ 114) (m₉ 94 55) (m₉ 94 46) (m₉ 94 11) (m₉ 94 12) (m₉ 94 62) (m₉ 94 17) (m₉ 94 9) (kLi aa ob ix oo)) → (qI (kLi aa ob ix oo)) → ((kLi aa ob ix oo) 87 8 = (m₉ 94 58)) → (cV (kLi aa ob ix oo) [] B) → (qCt (m₉ 105) (m₉ 99) (m₉ 100) (kLi aa ob ix oo) [] (-1) (-1)) → P (some (.inl v)) m₉) : ∀ (n : Nat) (m : Nat → Nat → Int32) (l2 : Int32) (l4 : Int32) (l6 : Int32) (l7 : Int32) (l8 : Int32), ((0 : Int)).toNat = n → zF wr_247 m0 m → zV m → (0 ≤ l4.toInt) → (l4.toInt ≤ 3099) → (0 ≤ l2.toInt) → (l2.toInt < (m 102 l4.toNatClampNeg).toInt) → ((m 101) l4.toNatClampNeg = 16 ∨ ((m 101) l4.toNatClampNeg < 16 ∧ (((m 98) ((m 101) l4.toNatClampNeg).toNatClampNeg >>> (l2 &&& 31)) &&& 1) = 1)) → (-1 ≤ l6.toInt) → (l6.toInt ≤ 3099) → (-1 ≤ l7.toInt) → (l7.toInt ≤ 3099) → (B ≤ 1000000) → (T ≤ 512) → (zW (m 94 7) (m 98) (m 101) (m 102) (m 108)) → (zGW T (m 94 55) (m 109)) → (zGU T (m 94 46) (m 99)) → (zOw (m 99) (m 103) (m 111)) → (zGG (m 94 58) (m 94 56) (m 94 57) (m 106)) → ((m 94 10).toInt = 4 ∧ (m 94 58).toInt = 0) → ((m 94 8).toInt = 1) → (qRB (m 99) (m 100) (m 98) (m 101) (m 102) (m 103) (m 107) (m 108) (m 109) (m 111) (m 112) (m 113) (m 114) (m 94 55) (m 94 46) (m 94 11) (m 94 12) (m 94 62) (m 94 17) (m 94 9) aa) → (qI aa) → (aa 87 8 = (m 94 58)) → ((m 94 45).toInt = sm (zbU (m 99)) (m 102) 3100) → (cV aa [] B) → (qCt (m 105) (m 99) (m 100) aa [] (-1) (qNo (m 100) l6)) → (l2 = ix) → (qRe (m 99) (m 100) aa ob l4) → (qAs (m 99) (m 100) aa oo l6) → (l7 = (m 108) (l4 * (60 : Int32) + l2).toNatClampNeg) → zm X 5 109 247 149 [(0, .inr (.inr (some 94))), (2, .inl l2), (4, .inl l4), (6, .inl l6), (7, .inl l7), (8, .inl l8)] m P := by
  intro n
  induction n using Nat.strongRecOn with
  | _ n IH =>
    intro m l2 l4 l6 l7 l8 hmu hF hV hi0 hi1 hi2 hi3 r_ISR hi5 hi6 hi7 hi8 hi9 hi10 r_W r_GW r_GU r_OW r_GG hi16 hi17 r_RB r_QI r_MK r_WTS r_VV r_CT r_L2e r_REl r_ASl r_L7e
    refine g_247_149 l2 l4 l6 l7 l8 ?_
    have b1 := i_bd l4
    first | have f2 : 0 ≤ (m 102 l4.toNatClampNeg).toInt ∧ (m 102 l4.toNatClampNeg).toInt ≤ 60 := ra_102 (m := m) hV (k := l4.toNatClampNeg) (i_ix (n := 3100) (by omega) (by omega)).2 | have b3 := i_bd (m 102 l4.toNatClampNeg)
    have f4 : 0 ≤ (m 94 10).toInt ∧ (m 94 10).toInt ≤ 6 := rs_94_10 (m := m) hV
    have f5 : 0 ≤ (m 94 58).toInt ∧ (m 94 58).toInt ≤ 1 := rs_94_58 (m := m) hV
    have f6 : 0 ≤ (m 94 8).toInt ∧ (m 94 8).toInt ≤ 1 := rs_94_8 (m := m) hV
    have li7 : (60 : Int32).toInt = 60 := rfl
    first | have e8 : (l4 * (60 : Int32)).toInt = l4.toInt * 60 := i_mulk rfl (by omega) (by omega) | have b9 := i_bd (l4 * (60 : Int32))
    have b10 := i_bd l2
    first | have e11 : ((l4 * (60 : Int32)) + l2).toInt = (l4 * (60 : Int32)).toInt + l2.toInt := i_add (by omega) (by omega) | have b12 := i_bd ((l4 * (60 : Int32)) + l2)
    have hg13 : (0 ≤ ((l4 * (60 : Int32)) + l2) ∧ ((l4 * (60 : Int32)) + l2).toNatClampNeg < 186000) := i_ix (by omega) (by omega)
    refine ⟨hg13, ?_⟩
    have li14 : (3 : Int32).toInt = 3 := rfl
    refine zd (fun (h15 : (m 94 10) = (3 : Int32)) => ?_) (fun (h15 : ¬ (m 94 10) = (3 : Int32)) => ?_)
    · skip
      have g16 := i_eq h15
      exfalso; omega
    · skip
      have g17 := i_ne h15
      try have w60 := (ra_102 hV (k := l4.toNatClampNeg) (by omega)).2
      try have ww := W_isr r_W (s := l4) (i := l2) (by omega) (by omega) (by omega) (by omega) (by omega) r_ISR
      have hV18 : zV (ma_u m 108 ((l4 * (60 : Int32)) + l2).toNatClampNeg l6) := ua_108 hV
      have b19 := i_bd l6
      have b20 := i_bd l7
      have b21 := i_bd l8
      exact lp_247r4_207 (ob := ob) (ix := ix) (oo := oo) h0 K _ _ (l6) (l7) (l8) rfl (zF_u hF rfl) hV18 (by omega) (by omega) (by omega) (by omega) (by omega) (by omega) (show zW (m 94 7) (m 98) (m 101) (m 102) ((ma_u m 108 ((l4 * (60 : Int32)) + l2).toNatClampNeg l6) 108) from by first | (exact W_link r_W (by omega) (by omega) (fun s2 i2 hs2 hi2 => zrf_link (s := l4) (i := l2) (by omega) (by omega) (by omega) (by omega) r_ISR s2 i2 (by have := (ra_102 hV hs2).2; omega))) | (exfalso; omega; done) | (exfalso; contradiction; done)) r_GW r_GU r_OW r_GG (show (m 94 10).toInt = 4 ∧ (m 94 58).toInt = 0 from by omega) (show (m 94 8).toInt = 1 from by omega) (show qRB (m 99) (m 100) (m 98) (m 101) (m 102) (m 103) (m 107) ((ma_u m 108 ((l4 * (60 : Int32)) + l2).toNatClampNeg l6) 108) (m 109) (m 111) (m 112) (m 113) (m 114) (m 94 55) (m 94 46) (m 94 11) (m 94 12) (m 94 62) (m 94 17) (m 94 9) (aCi aa ob.toNatClampNeg ix (qNo (m 100) l6)) from by first | (rw [← r_L2e]; exact (RB_li r_RB r_QI (s := l4) (by omega) (by omega) (Re_y r_REl (by omega)).2.1 (i := l2) (by omega) (by omega) r_ISR (Re_y r_REl (by omega)).2.2.1 (As_u r_ASl)).1; done) | (exfalso; omega; done) | (exfalso; contradiction; done)) (show qI (aCi aa ob.toNatClampNeg ix (qNo (m 100) l6)) from by first | (rw [← r_L2e, Ci_eq r_QI (RB_li r_RB r_QI (s := l4) (by omega) (by omega) (Re_y r_REl (by omega)).2.1 (i := l2) (by omega) (by omega) r_ISR (Re_y r_REl (by omega)).2.2.1 (As_u r_ASl)).2.2.1]; exact I_w r_QI (RB_li r_RB r_QI (s := l4) (by omega) (by omega) (Re_y r_REl (by omega)).2.1 (i := l2) (by omega) (by omega) r_ISR (Re_y r_REl (by omega)).2.2.1 (As_u r_ASl)).2.2.1; done) | (exfalso; omega; done) | (exfalso; contradiction; done)) (show (aCi aa ob.toNatClampNeg ix (qNo (m 100) l6)) 87 8 = (m 94 58) from by first | (rw [← r_L2e, Ci_eq r_QI (RB_li r_RB r_QI (s := l4) (by omega) (by omega) (Re_y r_REl (by omega)).2.1 (i := l2) (by omega) (by omega) r_ISR (Re_y r_REl (by omega)).2.2.1 (As_u r_ASl)).2.2.1, un (by decide)]; exact r_MK; done) | (exfalso; omega; done) | (exfalso; contradiction; done)) r_WTS (show cV (aCi aa ob.toNatClampNeg ix (qNo (m 100) l6)) [] B from by first | (rw [← r_L2e]; exact V_li4 r_VV r_RB.1 (RB_li r_RB r_QI (s := l4) (by omega) (by omega) (Re_y r_REl (by omega)).2.1 (i := l2) (by omega) (by omega) r_ISR (Re_y r_REl (by omega)).2.2.1 (As_u r_ASl)).2.2.1 (RB_li r_RB r_QI (s := l4) (by omega) (by omega) (Re_y r_REl (by omega)).2.1 (i := l2) (by omega) (by omega) r_ISR (Re_y r_REl (by omega)).2.2.1 (As_u r_ASl)).2.1 (As_u r_ASl); done) | (exfalso; omega; done) | (exfalso; contradiction; done)) (show qCt (m 105) (m 99) (m 100) (aCi aa ob.toNatClampNeg ix (qNo (m 100) l6)) [] (-1) (qNo (m 100) l7) from by first | (rw [← r_L2e]; exact Ct_l2 r_QI r_CT (RB_li r_RB r_QI (s := l4) (by omega) (by omega) (Re_y r_REl (by omega)).2.1 (i := l2) (by omega) (by omega) r_ISR (Re_y r_REl (by omega)).2.2.1 (As_u r_ASl)).2.2.1 (RB_li r_RB r_QI (s := l4) (by omega) (by omega) (Re_y r_REl (by omega)).2.1 (i := l2) (by omega) (by omega) r_ISR (Re_y r_REl (by omega)).2.2.1 (As_u r_ASl)).2.1 (by rw [r_L7e]; exact (RB_li r_RB r_QI (s := l4) (by omega) (by omega) (Re_y r_REl (by omega)).2.1 (i := l2) (by omega) (by omega) r_ISR (Re_y r_REl (by omega)).2.2.1 (As_u r_ASl)).2.2.2.1); done) | (exfalso; omega; done) | (exfalso; contradiction; done)) (show kLi aa ob ix oo = cLe (aCi aa ob.toNatClampNeg ix (qNo (m 100) l6)) (qNo (m 100) l7) from by first | (rw [← r_L2e, kLi_y r_RB r_REl (by omega) (by omega) (by omega) r_ISR r_ASl, (RB_li r_RB r_QI (s := l4) (by omega) (by omega) (Re_y r_REl (by omega)).2.1 (i := l2) (by omega) (by omega) r_ISR (Re_y r_REl (by omega)).2.2.1 (As_u r_ASl)).2.2.2.1, ← r_L7e]; done) | (exfalso; omega; done) | (exfalso; contradiction; done)) (show qU (m 99) l7 from by first | (rw [r_L7e]; exact (RB_li r_RB r_QI (s := l4) (by omega) (by omega) (Re_y r_REl (by omega)).2.1 (i := l2) (by omega) (by omega) r_ISR (Re_y r_REl (by omega)).2.2.1 (As_u r_ASl)).2.2.2.2; done) | (exfalso; omega; done) | (exfalso; contradiction; done)) (show qU (m 99) l6 from by first | (exact As_u r_ASl) | (exfalso; omega; done) | (exfalso; contradiction; done))
set_option maxHeartbeats 8000000 in
theorem lp_247r4_121 {X : Nat × (Nat → Int32)} {P : Option ma_V → (Nat → Nat → Int32) → Prop} {T : Nat} {aa : Nat→Nat→Int32} {B : Int} {ob : Int32} {ix : Int32} {oo : Int32} {m0 : Nat → Nat → Int32} (h0 : zV m0) (K : ∀ v m₉, zF wr_247 m0 m₉ → zV m₉ → (zW (m₉ 94 7) (m₉ 98) (m₉ 101) (m₉ 102) (m₉ 108)) → (zGW T (m₉ 94 55) (m₉ 109)) → (zGU T (m₉ 94 46) (m₉ 99)) → (zOw (m₉ 99) (m₉ 103) (m₉ 111)) → (zGG (m₉ 94 58) (m₉ 94 56) (m₉ 94 57) (m₉ 106)) → ((m₉ 94 45).toInt = sm (zbU (m₉ 99)) (m₉ 102) 3100) → (qRB (m₉ 99) (m₉ 100) (m₉ 98) (m₉ 101) (m₉ 102) (m₉ 103) (m₉ 107) (m₉ 108) (m₉ 109) (m₉ 111) (m₉ 112) (m₉ 113) (m₉ 114) (m₉ 94 55) (m₉ 94 46) (m₉ 94 11) (m₉ 94 12) (m₉ 94 62) (m₉ 94 17) (m₉ 94 9) (kLi aa ob ix oo)) → (qI (kLi aa ob ix oo)) → ((kLi aa ob ix oo) 87 8 = (m₉ 94 58)) → (cV (kLi aa ob ix oo) [] B) → (qCt (m₉ 105) (m₉ 99) (m₉ 100) (kLi aa ob ix oo) [] (-1) (-1)) → P (some (.inl v)) m₉) : ∀ (n : Nat) (m : Nat → Nat → Int32) (l2 : Int32) (l4 : Int32) (l6 : Int32), ((0 : Int)).toNat = n → zF wr_247 m0 m → zV m → (0 ≤ l4.toInt) → (l4.toInt ≤ 3099) → (0 ≤ l2.toInt) → (l2.toInt < (m 102 l4.toNatClampNeg).toInt) → ((m 101) l4.toNatClampNeg = 16 ∨ ((m 101) l4.toNatClampNeg < 16 ∧ (((m 98) ((m 101) l4.toNatClampNeg).toNatClampNeg >>> (l2 &&& 31)) &&& 1) = 1)) → (-1 ≤ l6.toInt) → (l6.toInt ≤ 3099) → (B ≤ 1000000) → (T ≤ 512) → (zW (m 94 7) (m 98) (m 101) (m 102) (m 108)) → (zGW T (m 94 55) (m 109)) → (zGU T (m 94 46) (m 99)) → (zOw (m 99) (m 103) (m 111)) → (zGG (m 94 58) (m 94 56) (m 94 57) (m 106)) → ((m 94 10).toInt = 4 ∧ (m 94 58).toInt = 0) → ((m 94 8).toInt = 1) → (qRB (m 99) (m 100) (m 98) (m 101) (m 102) (m 103) (m 107) (m 108) (m 109) (m 111) (m 112) (m 113) (m 114) (m 94 55) (m 94 46) (m 94 11) (m 94 12) (m 94 62) (m 94 17) (m 94 9) aa) → (qI aa) → (aa 87 8 = (m 94 58)) → ((m 94 45).toInt = sm (zbU (m 99)) (m 102) 3100) → (cV aa [] B) → (qCt (m 105) (m 99) (m 100) aa [] (-1) (-1)) → (l2 = ix) → (qRe (m 99) (m 100) aa ob l4) → (qAs (m 99) (m 100) aa oo l6) → zm X 5 109 247 121 [(0, .inr (.inr (some 94))), (2, .inl l2), (4, .inl l4), (6, .inl l6)] m P := by
  intro n
  induction n using Nat.strongRecOn with
  | _ n IH =>
    intro m l2 l4 l6 hmu hF hV hi0 hi1 hi2 hi3 r_ISR hi5 hi6 hi7 hi8 r_W r_GW r_GU r_OW r_GG hi14 hi15 r_RB r_QI r_MK r_WTS r_VV r_CT r_L2e r_REl r_ASl
    refine g_247_121 l2 l4 l6 ?_
    have b1 := i_bd l4
    first | have f2 : 0 ≤ (m 102 l4.toNatClampNeg).toInt ∧ (m 102 l4.toNatClampNeg).toInt ≤ 60 := ra_102 (m := m) hV (k := l4.toNatClampNeg) (i_ix (n := 3100) (by omega) (by omega)).2 | have b3 := i_bd (m 102 l4.toNatClampNeg)
    have f4 : 0 ≤ (m 94 10).toInt ∧ (m 94 10).toInt ≤ 6 := rs_94_10 (m := m) hV
    have f5 : 0 ≤ (m 94 58).toInt ∧ (m 94 58).toInt ≤ 1 := rs_94_58 (m := m) hV
    have f6 : 0 ≤ (m 94 8).toInt ∧ (m 94 8).toInt ≤ 1 := rs_94_8 (m := m) hV
    have li7 : (60 : Int32).toInt = 60 := rfl
    first | have e8 : (l4 * (60 : Int32)).toInt = l4.toInt * 60 := i_mulk rfl (by omega) (by omega) | have b9 := i_bd (l4 * (60 : Int32))
    have b10 := i_bd l2
    first | have e11 : ((l4 * (60 : Int32)) + l2).toInt = (l4 * (60 : Int32)).toInt + l2.toInt := i_add (by omega) (by omega) | have b12 := i_bd ((l4 * (60 : Int32)) + l2)
    have hg13 : (0 ≤ ((l4 * (60 : Int32)) + l2) ∧ ((l4 * (60 : Int32)) + l2).toNatClampNeg < 186000) := i_ix (by omega) (by omega)
    refine ⟨hg13, ?_⟩
    have li14 : (0 : Int32).toInt = 0 := rfl
    have b15 := i_bd (m 108 ((l4 * (60 : Int32)) + l2).toNatClampNeg)
    refine zd (fun (h16 : (0 : Int32) ≤ (m 108 ((l4 * (60 : Int32)) + l2).toNatClampNeg)) => ?_) (fun (h16 : ¬ (0 : Int32) ≤ (m 108 ((l4 * (60 : Int32)) + l2).toNatClampNeg)) => ?_)
    · skip
      have g17 := i_le h16
      try have w60 := (ra_102 hV (k := l4.toNatClampNeg) (by omega)).2
      try have ww := W_isr r_W (s := l4) (i := l2) (by omega) (by omega) (by omega) (by omega) (by omega) r_ISR
      have hg18 : (0 ≤ (m 108 ((l4 * (60 : Int32)) + l2).toNatClampNeg) ∧ (m 108 ((l4 * (60 : Int32)) + l2).toNatClampNeg).toNatClampNeg < 3100) := i_ix (by omega) (by omega)
      refine ⟨hg18, ?_⟩
      have b19 := i_bd l6
      refine zd (fun (h20 : l6 < (0 : Int32)) => ?_) (fun (h20 : ¬ l6 < (0 : Int32)) => ?_)
      · skip
        have g21 := i_lt h20
        try have w60 := (ra_102 hV (k := l4.toNatClampNeg) (by omega)).2
        try have ww := W_isr r_W (s := l4) (i := l2) (by omega) (by omega) (by omega) (by omega) (by omega) r_ISR
        first | have f22 : 0 ≤ (m 100 (m 108 ((l4 * (60 : Int32)) + l2).toNatClampNeg).toNatClampNeg).toInt ∧ (m 100 (m 108 ((l4 * (60 : Int32)) + l2).toNatClampNeg).toNatClampNeg).toInt ≤ 100000 := ra_100 (m := m) hV (k := (m 108 ((l4 * (60 : Int32)) + l2).toNatClampNeg).toNatClampNeg) (i_ix (n := 3100) (by omega) (by omega)).2 | have b23 := i_bd (m 100 (m 108 ((l4 * (60 : Int32)) + l2).toNatClampNeg).toNatClampNeg)
        exact lp_247r4_149 (ob := ob) (ix := ix) (oo := oo) h0 K _ _ (l2) (l4) (l6) ((m 108 ((l4 * (60 : Int32)) + l2).toNatClampNeg)) ((m 100 (m 108 ((l4 * (60 : Int32)) + l2).toNatClampNeg).toNatClampNeg)) rfl hF hV (by omega) (by omega) (by omega) (show l2.toInt < (m 102 l4.toNatClampNeg).toInt from by omega) r_ISR (by omega) (by omega) (by omega) (by omega) (by omega) (by omega) r_W r_GW r_GU r_OW r_GG (show (m 94 10).toInt = 4 ∧ (m 94 58).toInt = 0 from by omega) (show (m 94 8).toInt = 1 from by omega) r_RB r_QI r_MK r_WTS r_VV (show qCt (m 105) (m 99) (m 100) aa [] (-1) (qNo (m 100) l6) from by first | (exact Ct_mo r_RB.1 r_CT (As_u r_ASl) ⟨fun _ => mu_up, fun w => absurd w (by omega)⟩) | (exact Ct_mo r_RB.1 r_CT (As_u r_ASl) ⟨fun w => absurd w (by omega), fun _ => rfl⟩) | (exfalso; omega; done) | (exfalso; contradiction; done)) r_L2e r_REl r_ASl (show (m 108 ((l4 * (60 : Int32)) + l2).toNatClampNeg) = (m 108) (l4 * (60 : Int32) + l2).toNatClampNeg from by first | (exact rfl) | (exfalso; omega; done) | (exfalso; contradiction; done))
      · skip
        have g24 := i_nlt h20
        have li25 : (4 : Int32).toInt = 4 := rfl
        refine zd (fun (h26 : (m 94 10) = (4 : Int32)) => ?_) (fun (h26 : ¬ (m 94 10) = (4 : Int32)) => ?_)
        · skip
          have g27 := i_eq h26
          have hg28 : (0 ≤ l6 ∧ l6.toNatClampNeg < 3100) := i_ix (by omega) (by omega)
          refine ⟨hg28, ?_⟩
          have hg29 : (0 ≤ l6 ∧ l6.toNatClampNeg < 3100) := i_ix (by omega) (by omega)
          refine ⟨hg29, ?_⟩
          try have w60 := (ra_102 hV (k := l4.toNatClampNeg) (by omega)).2
          try have ww := W_isr r_W (s := l4) (i := l2) (by omega) (by omega) (by omega) (by omega) (by omega) r_ISR
          have hV30 : zV (ma_u m 105 l6.toNatClampNeg ((m 105 l6.toNatClampNeg) + (1 : Int32))) := ua_105 hV
          first | have f31 : 0 ≤ (m 100 (m 108 ((l4 * (60 : Int32)) + l2).toNatClampNeg).toNatClampNeg).toInt ∧ (m 100 (m 108 ((l4 * (60 : Int32)) + l2).toNatClampNeg).toNatClampNeg).toInt ≤ 100000 := ra_100 (m := m) hV (k := (m 108 ((l4 * (60 : Int32)) + l2).toNatClampNeg).toNatClampNeg) (i_ix (n := 3100) (by omega) (by omega)).2 | have b32 := i_bd (m 100 (m 108 ((l4 * (60 : Int32)) + l2).toNatClampNeg).toNatClampNeg)
          exact lp_247r4_149 (ob := ob) (ix := ix) (oo := oo) h0 K _ _ (l2) (l4) (l6) ((m 108 ((l4 * (60 : Int32)) + l2).toNatClampNeg)) ((m 100 (m 108 ((l4 * (60 : Int32)) + l2).toNatClampNeg).toNatClampNeg)) rfl (zF_u hF rfl) hV30 (by omega) (by omega) (by omega) (show l2.toInt < (m 102 l4.toNatClampNeg).toInt from by omega) r_ISR (by omega) (by omega) (by omega) (by omega) (by omega) (by omega) r_W r_GW r_GU r_OW r_GG (show (m 94 10).toInt = 4 ∧ (m 94 58).toInt = 0 from by omega) (show (m 94 8).toInt = 1 from by omega) r_RB r_QI r_MK r_WTS r_VV (show qCt ((ma_u m 105 l6.toNatClampNeg ((m 105 l6.toNatClampNeg) + (1 : Int32))) 105) (m 99) (m 100) aa [] (-1) (qNo (m 100) l6) from by first | (exact Ct_mo r_RB.1 r_CT (As_u r_ASl) ⟨fun _ => mu_up, fun w => absurd w (by omega)⟩) | (exact Ct_mo r_RB.1 r_CT (As_u r_ASl) ⟨fun w => absurd w (by omega), fun _ => rfl⟩) | (exfalso; omega; done) | (exfalso; contradiction; done)) r_L2e r_REl r_ASl (show (m 108 ((l4 * (60 : Int32)) + l2).toNatClampNeg) = (m 108) (l4 * (60 : Int32) + l2).toNatClampNeg from by first | (exact rfl) | (exfalso; omega; done) | (exfalso; contradiction; done))
        · skip
          have g33 := i_ne h26
          exfalso; omega
    · skip
      have g34 := i_nle h16
      have b35 := i_bd l6
      refine zd (fun (h36 : l6 < (0 : Int32)) => ?_) (fun (h36 : ¬ l6 < (0 : Int32)) => ?_)
      · skip
        have g37 := i_lt h36
        try have w60 := (ra_102 hV (k := l4.toNatClampNeg) (by omega)).2
        try have ww := W_isr r_W (s := l4) (i := l2) (by omega) (by omega) (by omega) (by omega) (by omega) r_ISR
        have li38 : (-1 : Int32).toInt = -1 := rfl
        exact lp_247r4_149 (ob := ob) (ix := ix) (oo := oo) h0 K _ _ (l2) (l4) (l6) ((m 108 ((l4 * (60 : Int32)) + l2).toNatClampNeg)) ((-1 : Int32)) rfl hF hV (by omega) (by omega) (by omega) (show l2.toInt < (m 102 l4.toNatClampNeg).toInt from by omega) r_ISR (by omega) (by omega) (by omega) (by omega) (by omega) (by omega) r_W r_GW r_GU r_OW r_GG (show (m 94 10).toInt = 4 ∧ (m 94 58).toInt = 0 from by omega) (show (m 94 8).toInt = 1 from by omega) r_RB r_QI r_MK r_WTS r_VV (show qCt (m 105) (m 99) (m 100) aa [] (-1) (qNo (m 100) l6) from by first | (exact Ct_mo r_RB.1 r_CT (As_u r_ASl) ⟨fun _ => mu_up, fun w => absurd w (by omega)⟩) | (exact Ct_mo r_RB.1 r_CT (As_u r_ASl) ⟨fun w => absurd w (by omega), fun _ => rfl⟩) | (exfalso; omega; done) | (exfalso; contradiction; done)) r_L2e r_REl r_ASl (show (m 108 ((l4 * (60 : Int32)) + l2).toNatClampNeg) = (m 108) (l4 * (60 : Int32) + l2).toNatClampNeg from by first | (exact rfl) | (exfalso; omega; done) | (exfalso; contradiction; done))
      · skip
        have g39 := i_nlt h36
        have li40 : (4 : Int32).toInt = 4 := rfl
        refine zd (fun (h41 : (m 94 10) = (4 : Int32)) => ?_) (fun (h41 : ¬ (m 94 10) = (4 : Int32)) => ?_)
        · skip
          have g42 := i_eq h41
          have hg43 : (0 ≤ l6 ∧ l6.toNatClampNeg < 3100) := i_ix (by omega) (by omega)
          refine ⟨hg43, ?_⟩
          have hg44 : (0 ≤ l6 ∧ l6.toNatClampNeg < 3100) := i_ix (by omega) (by omega)
          refine ⟨hg44, ?_⟩
          try have w60 := (ra_102 hV (k := l4.toNatClampNeg) (by omega)).2
          try have ww := W_isr r_W (s := l4) (i := l2) (by omega) (by omega) (by omega) (by omega) (by omega) r_ISR
          have hV45 : zV (ma_u m 105 l6.toNatClampNeg ((m 105 l6.toNatClampNeg) + (1 : Int32))) := ua_105 hV
          have li46 : (-1 : Int32).toInt = -1 := rfl
          exact lp_247r4_149 (ob := ob) (ix := ix) (oo := oo) h0 K _ _ (l2) (l4) (l6) ((m 108 ((l4 * (60 : Int32)) + l2).toNatClampNeg)) ((-1 : Int32)) rfl (zF_u hF rfl) hV45 (by omega) (by omega) (by omega) (show l2.toInt < (m 102 l4.toNatClampNeg).toInt from by omega) r_ISR (by omega) (by omega) (by omega) (by omega) (by omega) (by omega) r_W r_GW r_GU r_OW r_GG (show (m 94 10).toInt = 4 ∧ (m 94 58).toInt = 0 from by omega) (show (m 94 8).toInt = 1 from by omega) r_RB r_QI r_MK r_WTS r_VV (show qCt ((ma_u m 105 l6.toNatClampNeg ((m 105 l6.toNatClampNeg) + (1 : Int32))) 105) (m 99) (m 100) aa [] (-1) (qNo (m 100) l6) from by first | (exact Ct_mo r_RB.1 r_CT (As_u r_ASl) ⟨fun _ => mu_up, fun w => absurd w (by omega)⟩) | (exact Ct_mo r_RB.1 r_CT (As_u r_ASl) ⟨fun w => absurd w (by omega), fun _ => rfl⟩) | (exfalso; omega; done) | (exfalso; contradiction; done)) r_L2e r_REl r_ASl (show (m 108 ((l4 * (60 : Int32)) + l2).toNatClampNeg) = (m 108) (l4 * (60 : Int32) + l2).toNatClampNeg from by first | (exact rfl) | (exfalso; omega; done) | (exfalso; contradiction; done))
        · skip
          have g47 := i_ne h41
          exfalso; omega
set_option maxHeartbeats 8000000 in
theorem lp_247r4_105 {X : Nat × (Nat → Int32)} {P : Option ma_V → (Nat → Nat → Int32) → Prop} {T : Nat} {aa : Nat→Nat→Int32} {B : Int} {ob : Int32} {ix : Int32} {oo : Int32} {m0 : Nat → Nat → Int32} (h0 : zV m0) (K : ∀ v m₉, zF wr_247 m0 m₉ → zV m₉ → (zW (m₉ 94 7) (m₉ 98) (m₉ 101) (m₉ 102) (m₉ 108)) → (zGW T (m₉ 94 55) (m₉ 109)) → (zGU T (m₉ 94 46) (m₉ 99)) → (zOw (m₉ 99) (m₉ 103) (m₉ 111)) → (zGG (m₉ 94 58) (m₉ 94 56) (m₉ 94 57) (m₉ 106)) → ((m₉ 94 45).toInt = sm (zbU (m₉ 99)) (m₉ 102) 3100) → (qRB (m₉ 99) (m₉ 100) (m₉ 98) (m₉ 101) (m₉ 102) (m₉ 103) (m₉ 107) (m₉ 108) (m₉ 109) (m₉ 111) (m₉ 112) (m₉ 113) (m₉ 114) (m₉ 94 55) (m₉ 94 46) (m₉ 94 11) (m₉ 94 12) (m₉ 94 62) (m₉ 94 17) (m₉ 94 9) (kLi aa ob ix oo)) → (qI (kLi aa ob ix oo)) → ((kLi aa ob ix oo) 87 8 = (m₉ 94 58)) → (cV (kLi aa ob ix oo) [] B) → (qCt (m₉ 105) (m₉ 99) (m₉ 100) (kLi aa ob ix oo) [] (-1) (-1)) → P (some (.inl v)) m₉) : ∀ (n : Nat) (m : Nat → Nat → Int32) (l2 : Int32) (l3 : Int32) (l4 : Int32), ((0 : Int)).toNat = n → zF wr_247 m0 m → zV m → (0 ≤ l4.toInt) → (l4.toInt ≤ 3099) → (0 ≤ l2.toInt) → (l2.toInt < (m 102 l4.toNatClampNeg).toInt) → ((m 101) l4.toNatClampNeg = 16 ∨ ((m 101) l4.toNatClampNeg < 16 ∧ (((m 98) ((m 101) l4.toNatClampNeg).toNatClampNeg >>> (l2 &&& 31)) &&& 1) = 1)) → (B ≤ 1000000) → (T ≤ 512) → (zW (m 94 7) (m 98) (m 101) (m 102) (m 108)) → (zGW T (m 94 55) (m 109)) → (zGU T (m 94 46) (m 99)) → (zOw (m 99) (m 103) (m 111)) → (zGG (m 94 58) (m 94 56) (m 94 57) (m 106)) → ((m 94 10).toInt = 4 ∧ (m 94 58).toInt = 0) → ((m 94 8).toInt = 1) → (qRB (m 99) (m 100) (m 98) (m 101) (m 102) (m 103) (m 107) (m 108) (m 109) (m 111) (m 112) (m 113) (m 114) (m 94 55) (m 94 46) (m 94 11) (m 94 12) (m 94 62) (m 94 17) (m 94 9) aa) → (qI aa) → (aa 87 8 = (m 94 58)) → ((m 94 45).toInt = sm (zbU (m 99)) (m 102) 3100) → (cV aa [] B) → (qCt (m 105) (m 99) (m 100) aa [] (-1) (-1)) → (l2 = ix) → (l3 = oo) → (qRe (m 99) (m 100) aa ob l4) → (oo = -1 ∨ zRq aa oo) → zm X 5 109 247 105 [(0, .inr (.inr (some 94))), (2, .inl l2), (3, .inl l3), (4, .inl l4)] m P := by
  intro n
  induction n using Nat.strongRecOn with
  | _ n IH =>
    intro m l2 l3 l4 hmu hF hV hi0 hi1 hi2 hi3 r_ISR hi5 hi6 r_W r_GW r_GU r_OW r_GG hi12 hi13 r_RB r_QI r_MK r_WTS r_VV r_CT r_L2e r_L3e r_REl r_THy
    refine g_247_105 l2 l3 l4 ?_
    have b1 := i_bd l4
    first | have f2 : 0 ≤ (m 102 l4.toNatClampNeg).toInt ∧ (m 102 l4.toNatClampNeg).toInt ≤ 60 := ra_102 (m := m) hV (k := l4.toNatClampNeg) (i_ix (n := 3100) (by omega) (by omega)).2 | have b3 := i_bd (m 102 l4.toNatClampNeg)
    have f4 : 0 ≤ (m 94 10).toInt ∧ (m 94 10).toInt ≤ 6 := rs_94_10 (m := m) hV
    have f5 : 0 ≤ (m 94 58).toInt ∧ (m 94 58).toInt ≤ 1 := rs_94_58 (m := m) hV
    have f6 : 0 ≤ (m 94 8).toInt ∧ (m 94 8).toInt ≤ 1 := rs_94_8 (m := m) hV
    have b7 := i_bd l3
    have li8 : (-1 : Int32).toInt = -1 := rfl
    refine zd (fun (h9 : l3 = (-1 : Int32)) => ?_) (fun (h9 : ¬ l3 = (-1 : Int32)) => ?_)
    · skip
      have g10 := i_eq h9
      try have w60 := (ra_102 hV (k := l4.toNatClampNeg) (by omega)).2
      try have ww := W_isr r_W (s := l4) (i := l2) (by omega) (by omega) (by omega) (by omega) (by omega) r_ISR
      have b11 := i_bd l2
      exact lp_247r4_121 (ob := ob) (ix := ix) (oo := oo) h0 K _ _ (l2) (l4) ((-1 : Int32)) rfl hF hV (by omega) (by omega) (by omega) (show l2.toInt < (m 102 l4.toNatClampNeg).toInt from by omega) r_ISR (by omega) (by omega) (by omega) (by omega) r_W r_GW r_GU r_OW r_GG (show (m 94 10).toInt = 4 ∧ (m 94 58).toInt = 0 from by omega) (show (m 94 8).toInt = 1 from by omega) r_RB r_QI r_MK r_WTS r_VV r_CT r_L2e r_REl (show qAs (m 99) (m 100) aa oo (-1 : Int32) from by first | (exact As_n (r_L3e.symm.trans (by assumption))) | (exfalso; omega; done) | (exfalso; contradiction; done))
    · skip
      have g12 := i_ne h9
      refine sp_246r (l3) hV  (fun v2 m1 hV_m1 p0_m1 p1_m1 => zmi_n ?_)
      have p0_m1 : -1 ≤ v2.toInt ∧ v2.toInt ≤ 3099 := p0_m1
      have p1_m1 : qPl (m 99) (m 100) l3 v2 := p1_m1
      try have w60 := (ra_102 hV (k := l4.toNatClampNeg) (by omega)).2
      try have ww := W_isr r_W (s := l4) (i := l2) (by omega) (by omega) (by omega) (by omega) (by omega) r_ISR
      have b13 := i_bd l2
      have b14 := i_bd v2
      exact lp_247r4_121 (ob := ob) (ix := ix) (oo := oo) h0 K _ _ (l2) (l4) (v2) rfl (zF_zov hF ws_246_247) hV_m1 (by omega) (by omega) (by omega) (show l2.toInt < (m 102 l4.toNatClampNeg).toInt from by omega) r_ISR (by omega) (by omega) (by omega) (by omega) r_W r_GW r_GU r_OW r_GG (show (m 94 10).toInt = 4 ∧ (m 94 58).toInt = 0 from by omega) (show (m 94 8).toInt = 1 from by omega) r_RB r_QI r_MK r_WTS r_VV r_CT r_L2e r_REl (show qAs (m 99) (m 100) aa oo v2 from by first | (exact As_p r_RB p1_m1 r_L3e r_THy (by omega)) | (exfalso; omega; done) | (exfalso; contradiction; done))
set_option maxHeartbeats 8000000 in
theorem lp_247r4_53 {X : Nat × (Nat → Int32)} {P : Option ma_V → (Nat → Nat → Int32) → Prop} {T : Nat} {aa : Nat→Nat→Int32} {B : Int} {ob : Int32} {ix : Int32} {oo : Int32} {m0 : Nat → Nat → Int32} (h0 : zV m0) (K : ∀ v m₉, zF wr_247 m0 m₉ → zV m₉ → (zW (m₉ 94 7) (m₉ 98) (m₉ 101) (m₉ 102) (m₉ 108)) → (zGW T (m₉ 94 55) (m₉ 109)) → (zGU T (m₉ 94 46) (m₉ 99)) → (zOw (m₉ 99) (m₉ 103) (m₉ 111)) → (zGG (m₉ 94 58) (m₉ 94 56) (m₉ 94 57) (m₉ 106)) → ((m₉ 94 45).toInt = sm (zbU (m₉ 99)) (m₉ 102) 3100) → (qRB (m₉ 99) (m₉ 100) (m₉ 98) (m₉ 101) (m₉ 102) (m₉ 103) (m₉ 107) (m₉ 108) (m₉ 109) (m₉ 111) (m₉ 112) (m₉ 113) (m₉ 114) (m₉ 94 55) (m₉ 94 46) (m₉ 94 11) (m₉ 94 12) (m₉ 94 62) (m₉ 94 17) (m₉ 94 9) (kLi aa ob ix oo)) → (qI (kLi aa ob ix oo)) → ((kLi aa ob ix oo) 87 8 = (m₉ 94 58)) → (cV (kLi aa ob ix oo) [] B) → (qCt (m₉ 105) (m₉ 99) (m₉ 100) (kLi aa ob ix oo) [] (-1) (-1)) → P (some (.inl v)) m₉) : ∀ (n : Nat) (m : Nat → Nat → Int32) (l2 : Int32) (l3 : Int32) (l4 : Int32) (l5 : Int32), ((0 : Int)).toNat = n → zF wr_247 m0 m → zV m → (-1 ≤ l4.toInt) → (l4.toInt ≤ 3099) → (0 ≤ l5.toInt) → (l5.toInt ≤ 1) → (l5.toInt = 0 ∨ 0 ≤ l4.toInt) → (B ≤ 1000000) → (T ≤ 512) → (zW (m 94 7) (m 98) (m 101) (m 102) (m 108)) → (zGW T (m 94 55) (m 109)) → (zGU T (m 94 46) (m 99)) → (zOw (m 99) (m 103) (m 111)) → (zGG (m 94 58) (m 94 56) (m 94 57) (m 106)) → ((m 94 10).toInt = 4 ∧ (m 94 58).toInt = 0) → ((m 94 8).toInt = 1) → (qRB (m 99) (m 100) (m 98) (m 101) (m 102) (m 103) (m 107) (m 108) (m 109) (m 111) (m 112) (m 113) (m 114) (m 94 55) (m 94 46) (m 94 11) (m 94 12) (m 94 62) (m 94 17) (m 94 9) aa) → (qI aa) → (aa 87 8 = (m 94 58)) → ((m 94 45).toInt = sm (zbU (m 99)) (m 102) 3100) → (cV aa [] B) → (qCt (m 105) (m 99) (m 100) aa [] (-1) (-1)) → (l2 = ix) → (l3 = oo) → (qRe (m 99) (m 100) aa ob l4) → (qTh aa ob oo l5) → zm X 5 109 247 53 [(0, .inr (.inr (some 94))), (2, .inl l2), (3, .inl l3), (4, .inl l4), (5, .inl l5)] m P := by
  intro n
  induction n using Nat.strongRecOn with
  | _ n IH =>
    intro m l2 l3 l4 l5 hmu hF hV hi0 hi1 hi2 hi3 hi4 hi5 hi6 r_W r_GW r_GU r_OW r_GG hi12 hi13 r_RB r_QI r_MK r_WTS r_VV r_CT r_L2e r_L3e r_REl r_TH
    refine g_247_53 l2 l3 l4 l5 ?_
    have f1 : 0 ≤ (m 94 10).toInt ∧ (m 94 10).toInt ≤ 6 := rs_94_10 (m := m) hV
    have f2 : 0 ≤ (m 94 58).toInt ∧ (m 94 58).toInt ≤ 1 := rs_94_58 (m := m) hV
    have f3 : 0 ≤ (m 94 8).toInt ∧ (m 94 8).toInt ≤ 1 := rs_94_8 (m := m) hV
    have b4 := i_bd l5
    have li5 : (0 : Int32).toInt = 0 := rfl
    refine zd (fun (h6 : l5 = (0 : Int32)) => ?_) (fun (h6 : ¬ l5 = (0 : Int32)) => ?_)
    · skip
      have g7 := i_eq h6
      try have w60 := (ra_102 hV (k := l4.toNatClampNeg) (by omega)).2
      have hV8 : zV (ma_u m 94 0 (2 : Int32)) := uf_94_0 hV
      exact K ((0 : Int32)) _ (zF_u hF rfl) hV8 r_W r_GW r_GU r_OW r_GG r_WTS (show qRB (m 99) (m 100) (m 98) (m 101) (m 102) (m 103) (m 107) (m 108) (m 109) (m 111) (m 112) (m 113) (m 114) (m 94 55) (m 94 46) (m 94 11) (m 94 12) (m 94 62) (m 94 17) (m 94 9) (kLi aa ob ix oo) from by first | (rw [kTh_n r_TH (by omega)]; exact r_RB; done) | (rw [← r_L2e, kLi_h r_RB r_REl (by omega) (by omega)]; exact r_RB; done) | (rw [← r_L2e, kLi_i r_RB r_REl (by omega) (by omega) (by omega) (by assumption) (fun z => by first | exact absurd (Int32.lt_iff_toInt_lt.mp z.1) (by omega) | exact absurd z.2 (by assumption))]; exact r_RB; done) | (exfalso; omega; done) | (exfalso; contradiction; done)) (show qI (kLi aa ob ix oo) from by first | (rw [kTh_n r_TH (by omega)]; exact r_QI; done) | (rw [← r_L2e, kLi_h r_RB r_REl (by omega) (by omega)]; exact r_QI; done) | (rw [← r_L2e, kLi_i r_RB r_REl (by omega) (by omega) (by omega) (by assumption) (fun z => by first | exact absurd (Int32.lt_iff_toInt_lt.mp z.1) (by omega) | exact absurd z.2 (by assumption))]; exact r_QI; done) | (exfalso; omega; done) | (exfalso; contradiction; done)) (show (kLi aa ob ix oo) 87 8 = (m 94 58) from by first | (rw [kTh_n r_TH (by omega)]; exact r_MK; done) | (rw [← r_L2e, kLi_h r_RB r_REl (by omega) (by omega)]; exact r_MK; done) | (rw [← r_L2e, kLi_i r_RB r_REl (by omega) (by omega) (by omega) (by assumption) (fun z => by first | exact absurd (Int32.lt_iff_toInt_lt.mp z.1) (by omega) | exact absurd z.2 (by assumption))]; exact r_MK; done) | (exfalso; omega; done) | (exfalso; contradiction; done)) (show cV (kLi aa ob ix oo) [] B from by first | (rw [kTh_n r_TH (by omega)]; exact r_VV; done) | (rw [← r_L2e, kLi_h r_RB r_REl (by omega) (by omega)]; exact r_VV; done) | (rw [← r_L2e, kLi_i r_RB r_REl (by omega) (by omega) (by omega) (by assumption) (fun z => by first | exact absurd (Int32.lt_iff_toInt_lt.mp z.1) (by omega) | exact absurd z.2 (by assumption))]; exact r_VV; done) | (exfalso; omega; done) | (exfalso; contradiction; done)) (show qCt (m 105) (m 99) (m 100) (kLi aa ob ix oo) [] (-1) (-1) from by first | (rw [kTh_n r_TH (by omega)]; exact r_CT; done) | (rw [← r_L2e, kLi_h r_RB r_REl (by omega) (by omega)]; exact r_CT; done) | (rw [← r_L2e, kLi_i r_RB r_REl (by omega) (by omega) (by omega) (by assumption) (fun z => by first | exact absurd (Int32.lt_iff_toInt_lt.mp z.1) (by omega) | exact absurd z.2 (by assumption))]; exact r_CT; done) | (exfalso; omega; done) | (exfalso; contradiction; done))
    · skip
      have g9 := i_ne h6
      have b10 := i_bd l2
      refine zd (fun (h11 : l2 < (0 : Int32)) => ?_) (fun (h11 : ¬ l2 < (0 : Int32)) => ?_)
      · skip
        have g12 := i_lt h11
        try have w60 := (ra_102 hV (k := l4.toNatClampNeg) (by omega)).2
        have hV13 : zV (ma_u m 94 0 (3 : Int32)) := uf_94_0 hV
        exact K ((0 : Int32)) _ (zF_u hF rfl) hV13 r_W r_GW r_GU r_OW r_GG r_WTS (show qRB (m 99) (m 100) (m 98) (m 101) (m 102) (m 103) (m 107) (m 108) (m 109) (m 111) (m 112) (m 113) (m 114) (m 94 55) (m 94 46) (m 94 11) (m 94 12) (m 94 62) (m 94 17) (m 94 9) (kLi aa ob ix oo) from by first | (rw [kTh_n r_TH (by omega)]; exact r_RB; done) | (rw [← r_L2e, kLi_h r_RB r_REl (by omega) (by omega)]; exact r_RB; done) | (rw [← r_L2e, kLi_i r_RB r_REl (by omega) (by omega) (by omega) (by assumption) (fun z => by first | exact absurd (Int32.lt_iff_toInt_lt.mp z.1) (by omega) | exact absurd z.2 (by assumption))]; exact r_RB; done) | (exfalso; omega; done) | (exfalso; contradiction; done)) (show qI (kLi aa ob ix oo) from by first | (rw [kTh_n r_TH (by omega)]; exact r_QI; done) | (rw [← r_L2e, kLi_h r_RB r_REl (by omega) (by omega)]; exact r_QI; done) | (rw [← r_L2e, kLi_i r_RB r_REl (by omega) (by omega) (by omega) (by assumption) (fun z => by first | exact absurd (Int32.lt_iff_toInt_lt.mp z.1) (by omega) | exact absurd z.2 (by assumption))]; exact r_QI; done) | (exfalso; omega; done) | (exfalso; contradiction; done)) (show (kLi aa ob ix oo) 87 8 = (m 94 58) from by first | (rw [kTh_n r_TH (by omega)]; exact r_MK; done) | (rw [← r_L2e, kLi_h r_RB r_REl (by omega) (by omega)]; exact r_MK; done) | (rw [← r_L2e, kLi_i r_RB r_REl (by omega) (by omega) (by omega) (by assumption) (fun z => by first | exact absurd (Int32.lt_iff_toInt_lt.mp z.1) (by omega) | exact absurd z.2 (by assumption))]; exact r_MK; done) | (exfalso; omega; done) | (exfalso; contradiction; done)) (show cV (kLi aa ob ix oo) [] B from by first | (rw [kTh_n r_TH (by omega)]; exact r_VV; done) | (rw [← r_L2e, kLi_h r_RB r_REl (by omega) (by omega)]; exact r_VV; done) | (rw [← r_L2e, kLi_i r_RB r_REl (by omega) (by omega) (by omega) (by assumption) (fun z => by first | exact absurd (Int32.lt_iff_toInt_lt.mp z.1) (by omega) | exact absurd z.2 (by assumption))]; exact r_VV; done) | (exfalso; omega; done) | (exfalso; contradiction; done)) (show qCt (m 105) (m 99) (m 100) (kLi aa ob ix oo) [] (-1) (-1) from by first | (rw [kTh_n r_TH (by omega)]; exact r_CT; done) | (rw [← r_L2e, kLi_h r_RB r_REl (by omega) (by omega)]; exact r_CT; done) | (rw [← r_L2e, kLi_i r_RB r_REl (by omega) (by omega) (by omega) (by assumption) (fun z => by first | exact absurd (Int32.lt_iff_toInt_lt.mp z.1) (by omega) | exact absurd z.2 (by assumption))]; exact r_CT; done) | (exfalso; omega; done) | (exfalso; contradiction; done))
      · skip
        have g14 := i_nlt h11
        have b15 := i_bd l4
        have hg16 : (0 ≤ l4 ∧ l4.toNatClampNeg < 3100) := i_ix (by omega) (by omega)
        refine ⟨hg16, ?_⟩
        first | have f17 : 0 ≤ (m 102 l4.toNatClampNeg).toInt ∧ (m 102 l4.toNatClampNeg).toInt ≤ 60 := ra_102 (m := m) hV (k := l4.toNatClampNeg) (i_ix (n := 3100) (by omega) (by omega)).2 | have b18 := i_bd (m 102 l4.toNatClampNeg)
        refine zd (fun (h19 : l2 < (m 102 l4.toNatClampNeg)) => ?_) (fun (h19 : ¬ l2 < (m 102 l4.toNatClampNeg)) => ?_)
        · skip
          have g20 := i_lt h19
          have hg21 : (0 ≤ l4 ∧ l4.toNatClampNeg < 3100) := i_ix (by omega) (by omega)
          refine ⟨hg21, ?_⟩
          first | have f22 : 0 ≤ (m 101 l4.toNatClampNeg).toInt ∧ (m 101 l4.toNatClampNeg).toInt ≤ 17 := ra_101 (m := m) hV (k := l4.toNatClampNeg) (i_ix (n := 3100) (by omega) (by omega)).2 | have b23 := i_bd (m 101 l4.toNatClampNeg)
          have li24 : (16 : Int32).toInt = 16 := rfl
          refine zd (fun (h25 : (m 101 l4.toNatClampNeg) = (16 : Int32)) => ?_) (fun (h25 : ¬ (m 101 l4.toNatClampNeg) = (16 : Int32)) => ?_)
          · skip
            have g26 := i_eq h25
            try have w60 := (ra_102 hV (k := l4.toNatClampNeg) (by omega)).2
            have hV27 : zV (ma_u m 94 0 (0 : Int32)) := uf_94_0 hV
            have b28 := i_bd l3
            exact lp_247r4_105 (ob := ob) (ix := ix) (oo := oo) h0 K _ _ (l2) (l3) (l4) rfl (zF_u hF rfl) hV27 (by omega) (by omega) (by omega) (show l2.toInt < (m 102 l4.toNatClampNeg).toInt from by omega) (show (m 101) l4.toNatClampNeg = 16 ∨ ((m 101) l4.toNatClampNeg < 16 ∧ (((m 98) ((m 101) l4.toNatClampNeg).toNatClampNeg >>> (l2 &&& 31)) &&& 1) = 1) from by first | (exact Or.inl (by assumption)) | (exact Or.inr ⟨Int32.not_le.mp (by assumption), by assumption⟩) | (exfalso; omega; done) | (exfalso; contradiction; done)) (by omega) (by omega) r_W r_GW r_GU r_OW r_GG (show (m 94 10).toInt = 4 ∧ (m 94 58).toInt = 0 from by omega) (show (m 94 8).toInt = 1 from by omega) r_RB r_QI r_MK r_WTS r_VV r_CT r_L2e r_L3e r_REl (show oo = -1 ∨ zRq aa oo from by first | (exact Th_y r_TH (by omega)) | (exfalso; omega; done) | (exfalso; contradiction; done))
          · skip
            have g29 := i_ne h25
            have hg30 : (0 ≤ l4 ∧ l4.toNatClampNeg < 3100) := i_ix (by omega) (by omega)
            refine ⟨hg30, ?_⟩
            refine zd (fun (h31 : (16 : Int32) ≤ (m 101 l4.toNatClampNeg)) => ?_) (fun (h31 : ¬ (16 : Int32) ≤ (m 101 l4.toNatClampNeg)) => ?_)
            · skip
              have g32 := i_le h31
              try have w60 := (ra_102 hV (k := l4.toNatClampNeg) (by omega)).2
              have hV33 : zV (ma_u m 94 0 (4 : Int32)) := uf_94_0 hV
              exact K ((0 : Int32)) _ (zF_u hF rfl) hV33 r_W r_GW r_GU r_OW r_GG r_WTS (show qRB (m 99) (m 100) (m 98) (m 101) (m 102) (m 103) (m 107) (m 108) (m 109) (m 111) (m 112) (m 113) (m 114) (m 94 55) (m 94 46) (m 94 11) (m 94 12) (m 94 62) (m 94 17) (m 94 9) (kLi aa ob ix oo) from by first | (rw [kTh_n r_TH (by omega)]; exact r_RB; done) | (rw [← r_L2e, kLi_h r_RB r_REl (by omega) (by omega)]; exact r_RB; done) | (rw [← r_L2e, kLi_i r_RB r_REl (by omega) (by omega) (by omega) (by assumption) (fun z => by first | exact absurd (Int32.lt_iff_toInt_lt.mp z.1) (by omega) | exact absurd z.2 (by assumption))]; exact r_RB; done) | (exfalso; omega; done) | (exfalso; contradiction; done)) (show qI (kLi aa ob ix oo) from by first | (rw [kTh_n r_TH (by omega)]; exact r_QI; done) | (rw [← r_L2e, kLi_h r_RB r_REl (by omega) (by omega)]; exact r_QI; done) | (rw [← r_L2e, kLi_i r_RB r_REl (by omega) (by omega) (by omega) (by assumption) (fun z => by first | exact absurd (Int32.lt_iff_toInt_lt.mp z.1) (by omega) | exact absurd z.2 (by assumption))]; exact r_QI; done) | (exfalso; omega; done) | (exfalso; contradiction; done)) (show (kLi aa ob ix oo) 87 8 = (m 94 58) from by first | (rw [kTh_n r_TH (by omega)]; exact r_MK; done) | (rw [← r_L2e, kLi_h r_RB r_REl (by omega) (by omega)]; exact r_MK; done) | (rw [← r_L2e, kLi_i r_RB r_REl (by omega) (by omega) (by omega) (by assumption) (fun z => by first | exact absurd (Int32.lt_iff_toInt_lt.mp z.1) (by omega) | exact absurd z.2 (by assumption))]; exact r_MK; done) | (exfalso; omega; done) | (exfalso; contradiction; done)) (show cV (kLi aa ob ix oo) [] B from by first | (rw [kTh_n r_TH (by omega)]; exact r_VV; done) | (rw [← r_L2e, kLi_h r_RB r_REl (by omega) (by omega)]; exact r_VV; done) | (rw [← r_L2e, kLi_i r_RB r_REl (by omega) (by omega) (by omega) (by assumption) (fun z => by first | exact absurd (Int32.lt_iff_toInt_lt.mp z.1) (by omega) | exact absurd z.2 (by assumption))]; exact r_VV; done) | (exfalso; omega; done) | (exfalso; contradiction; done)) (show qCt (m 105) (m 99) (m 100) (kLi aa ob ix oo) [] (-1) (-1) from by first | (rw [kTh_n r_TH (by omega)]; exact r_CT; done) | (rw [← r_L2e, kLi_h r_RB r_REl (by omega) (by omega)]; exact r_CT; done) | (rw [← r_L2e, kLi_i r_RB r_REl (by omega) (by omega) (by omega) (by assumption) (fun z => by first | exact absurd (Int32.lt_iff_toInt_lt.mp z.1) (by omega) | exact absurd z.2 (by assumption))]; exact r_CT; done) | (exfalso; omega; done) | (exfalso; contradiction; done))
            · skip
              have g34 := i_nle h31
              have hg35 : (0 ≤ l4 ∧ l4.toNatClampNeg < 3100) := i_ix (by omega) (by omega)
              refine ⟨hg35, ?_⟩
              have hg36 : (0 ≤ (m 101 l4.toNatClampNeg) ∧ (m 101 l4.toNatClampNeg).toNatClampNeg < 16) := i_ix (by omega) (by omega)
              refine ⟨hg36, ?_⟩
              have b37 := i_bd (((m 98 (m 101 l4.toNatClampNeg).toNatClampNeg) >>> (l2 &&& 31)) &&& (1 : Int32))
              have li38 : (1 : Int32).toInt = 1 := rfl
              refine zd (fun (h39 : (((m 98 (m 101 l4.toNatClampNeg).toNatClampNeg) >>> (l2 &&& 31)) &&& (1 : Int32)) = (1 : Int32)) => ?_) (fun (h39 : ¬ (((m 98 (m 101 l4.toNatClampNeg).toNatClampNeg) >>> (l2 &&& 31)) &&& (1 : Int32)) = (1 : Int32)) => ?_)
              · skip
                have g40 := i_eq h39
                try have w60 := (ra_102 hV (k := l4.toNatClampNeg) (by omega)).2
                have hV41 : zV (ma_u m 94 0 (0 : Int32)) := uf_94_0 hV
                have b42 := i_bd l3
                exact lp_247r4_105 (ob := ob) (ix := ix) (oo := oo) h0 K _ _ (l2) (l3) (l4) rfl (zF_u hF rfl) hV41 (by omega) (by omega) (by omega) (show l2.toInt < (m 102 l4.toNatClampNeg).toInt from by omega) (show (m 101) l4.toNatClampNeg = 16 ∨ ((m 101) l4.toNatClampNeg < 16 ∧ (((m 98) ((m 101) l4.toNatClampNeg).toNatClampNeg >>> (l2 &&& 31)) &&& 1) = 1) from by first | (exact Or.inl (by assumption)) | (exact Or.inr ⟨Int32.not_le.mp (by assumption), by assumption⟩) | (exfalso; omega; done) | (exfalso; contradiction; done)) (by omega) (by omega) r_W r_GW r_GU r_OW r_GG (show (m 94 10).toInt = 4 ∧ (m 94 58).toInt = 0 from by omega) (show (m 94 8).toInt = 1 from by omega) r_RB r_QI r_MK r_WTS r_VV r_CT r_L2e r_L3e r_REl (show oo = -1 ∨ zRq aa oo from by first | (exact Th_y r_TH (by omega)) | (exfalso; omega; done) | (exfalso; contradiction; done))
              · skip
                have g43 := i_ne h39
                try have w60 := (ra_102 hV (k := l4.toNatClampNeg) (by omega)).2
                have hV44 : zV (ma_u m 94 0 (4 : Int32)) := uf_94_0 hV
                exact K ((0 : Int32)) _ (zF_u hF rfl) hV44 r_W r_GW r_GU r_OW r_GG r_WTS (show qRB (m 99) (m 100) (m 98) (m 101) (m 102) (m 103) (m 107) (m 108) (m 109) (m 111) (m 112) (m 113) (m 114) (m 94 55) (m 94 46) (m 94 11) (m 94 12) (m 94 62) (m 94 17) (m 94 9) (kLi aa ob ix oo) from by first | (rw [kTh_n r_TH (by omega)]; exact r_RB; done) | (rw [← r_L2e, kLi_h r_RB r_REl (by omega) (by omega)]; exact r_RB; done) | (rw [← r_L2e, kLi_i r_RB r_REl (by omega) (by omega) (by omega) (by assumption) (fun z => by first | exact absurd (Int32.lt_iff_toInt_lt.mp z.1) (by omega) | exact absurd z.2 (by assumption))]; exact r_RB; done) | (exfalso; omega; done) | (exfalso; contradiction; done)) (show qI (kLi aa ob ix oo) from by first | (rw [kTh_n r_TH (by omega)]; exact r_QI; done) | (rw [← r_L2e, kLi_h r_RB r_REl (by omega) (by omega)]; exact r_QI; done) | (rw [← r_L2e, kLi_i r_RB r_REl (by omega) (by omega) (by omega) (by assumption) (fun z => by first | exact absurd (Int32.lt_iff_toInt_lt.mp z.1) (by omega) | exact absurd z.2 (by assumption))]; exact r_QI; done) | (exfalso; omega; done) | (exfalso; contradiction; done)) (show (kLi aa ob ix oo) 87 8 = (m 94 58) from by first | (rw [kTh_n r_TH (by omega)]; exact r_MK; done) | (rw [← r_L2e, kLi_h r_RB r_REl (by omega) (by omega)]; exact r_MK; done) | (rw [← r_L2e, kLi_i r_RB r_REl (by omega) (by omega) (by omega) (by assumption) (fun z => by first | exact absurd (Int32.lt_iff_toInt_lt.mp z.1) (by omega) | exact absurd z.2 (by assumption))]; exact r_MK; done) | (exfalso; omega; done) | (exfalso; contradiction; done)) (show cV (kLi aa ob ix oo) [] B from by first | (rw [kTh_n r_TH (by omega)]; exact r_VV; done) | (rw [← r_L2e, kLi_h r_RB r_REl (by omega) (by omega)]; exact r_VV; done) | (rw [← r_L2e, kLi_i r_RB r_REl (by omega) (by omega) (by omega) (by assumption) (fun z => by first | exact absurd (Int32.lt_iff_toInt_lt.mp z.1) (by omega) | exact absurd z.2 (by assumption))]; exact r_VV; done) | (exfalso; omega; done) | (exfalso; contradiction; done)) (show qCt (m 105) (m 99) (m 100) (kLi aa ob ix oo) [] (-1) (-1) from by first | (rw [kTh_n r_TH (by omega)]; exact r_CT; done) | (rw [← r_L2e, kLi_h r_RB r_REl (by omega) (by omega)]; exact r_CT; done) | (rw [← r_L2e, kLi_i r_RB r_REl (by omega) (by omega) (by omega) (by assumption) (fun z => by first | exact absurd (Int32.lt_iff_toInt_lt.mp z.1) (by omega) | exact absurd z.2 (by assumption))]; exact r_CT; done) | (exfalso; omega; done) | (exfalso; contradiction; done))
        · skip
          have g45 := i_nlt h19
          try have w60 := (ra_102 hV (k := l4.toNatClampNeg) (by omega)).2
          have hV46 : zV (ma_u m 94 0 (3 : Int32)) := uf_94_0 hV
          exact K ((0 : Int32)) _ (zF_u hF rfl) hV46 r_W r_GW r_GU r_OW r_GG r_WTS (show qRB (m 99) (m 100) (m 98) (m 101) (m 102) (m 103) (m 107) (m 108) (m 109) (m 111) (m 112) (m 113) (m 114) (m 94 55) (m 94 46) (m 94 11) (m 94 12) (m 94 62) (m 94 17) (m 94 9) (kLi aa ob ix oo) from by first | (rw [kTh_n r_TH (by omega)]; exact r_RB; done) | (rw [← r_L2e, kLi_h r_RB r_REl (by omega) (by omega)]; exact r_RB; done) | (rw [← r_L2e, kLi_i r_RB r_REl (by omega) (by omega) (by omega) (by assumption) (fun z => by first | exact absurd (Int32.lt_iff_toInt_lt.mp z.1) (by omega) | exact absurd z.2 (by assumption))]; exact r_RB; done) | (exfalso; omega; done) | (exfalso; contradiction; done)) (show qI (kLi aa ob ix oo) from by first | (rw [kTh_n r_TH (by omega)]; exact r_QI; done) | (rw [← r_L2e, kLi_h r_RB r_REl (by omega) (by omega)]; exact r_QI; done) | (rw [← r_L2e, kLi_i r_RB r_REl (by omega) (by omega) (by omega) (by assumption) (fun z => by first | exact absurd (Int32.lt_iff_toInt_lt.mp z.1) (by omega) | exact absurd z.2 (by assumption))]; exact r_QI; done) | (exfalso; omega; done) | (exfalso; contradiction; done)) (show (kLi aa ob ix oo) 87 8 = (m 94 58) from by first | (rw [kTh_n r_TH (by omega)]; exact r_MK; done) | (rw [← r_L2e, kLi_h r_RB r_REl (by omega) (by omega)]; exact r_MK; done) | (rw [← r_L2e, kLi_i r_RB r_REl (by omega) (by omega) (by omega) (by assumption) (fun z => by first | exact absurd (Int32.lt_iff_toInt_lt.mp z.1) (by omega) | exact absurd z.2 (by assumption))]; exact r_MK; done) | (exfalso; omega; done) | (exfalso; contradiction; done)) (show cV (kLi aa ob ix oo) [] B from by first | (rw [kTh_n r_TH (by omega)]; exact r_VV; done) | (rw [← r_L2e, kLi_h r_RB r_REl (by omega) (by omega)]; exact r_VV; done) | (rw [← r_L2e, kLi_i r_RB r_REl (by omega) (by omega) (by omega) (by assumption) (fun z => by first | exact absurd (Int32.lt_iff_toInt_lt.mp z.1) (by omega) | exact absurd z.2 (by assumption))]; exact r_VV; done) | (exfalso; omega; done) | (exfalso; contradiction; done)) (show qCt (m 105) (m 99) (m 100) (kLi aa ob ix oo) [] (-1) (-1) from by first | (rw [kTh_n r_TH (by omega)]; exact r_CT; done) | (rw [← r_L2e, kLi_h r_RB r_REl (by omega) (by omega)]; exact r_CT; done) | (rw [← r_L2e, kLi_i r_RB r_REl (by omega) (by omega) (by omega) (by assumption) (fun z => by first | exact absurd (Int32.lt_iff_toInt_lt.mp z.1) (by omega) | exact absurd z.2 (by assumption))]; exact r_CT; done) | (exfalso; omega; done) | (exfalso; contradiction; done))
set_option maxHeartbeats 8000000 in
theorem sp_247r4 {X : Nat × (Nat → Int32)} {P : Option ma_V → (Nat → Nat → Int32) → Prop} {T : Nat} {aa : Nat→Nat→Int32} {B : Int} {m : Nat → Nat → Int32} (ob : Int32) (ix : Int32) (oo : Int32) (hV : zV m) (hpre0 : T ≤ 512) (hpre1 : B ≤ 1000000) (r_W : zW (m 94 7) (m 98) (m 101) (m 102) (m 108)) (r_GW : zGW T (m 94 55) (m 109)) (r_GU : zGU T (m 94 46) (m 99)) (r_OW : zOw (m 99) (m 103) (m 111)) (r_GG : zGG (m 94 58) (m 94 56) (m 94 57) (m 106)) (hpre7 : (m 94 10).toInt = 4 ∧ (m 94 58).toInt = 0) (hpre8 : (m 94 8).toInt = 1) (r_RB : qRB (m 99) (m 100) (m 98) (m 101) (m 102) (m 103) (m 107) (m 108) (m 109) (m 111) (m 112) (m 113) (m 114) (m 94 55) (m 94 46) (m 94 11) (m 94 12) (m 94 62) (m 94 17) (m 94 9) aa) (r_QI : qI aa) (r_MK : aa 87 8 = (m 94 58)) (r_WTS : (m 94 45).toInt = sm (zbU (m 99)) (m 102) 3100) (r_VV : cV aa [] B) (r_CT : qCt (m 105) (m 99) (m 100) aa [] (-1) (-1)) (KZ : ∀ v m₉, zV (zov wr_247 m m₉) → (zW (m 94 7) (m 98) (m 101) (m 102) (m₉ 108)) → (zGW T (m₉ 94 55) (m₉ 109)) → (zGU T (m 94 46) (m₉ 99)) → (zOw (m₉ 99) (m 103) (m₉ 111)) → (zGG (m 94 58) (m₉ 94 56) (m 94 57) (m₉ 106)) → ((m₉ 94 45).toInt = sm (zbU (m₉ 99)) (m 102) 3100) → (qRB (m₉ 99) (m 100) (m 98) (m 101) (m 102) (m 103) (m 107) (m₉ 108) (m₉ 109) (m₉ 111) (m 112) (m₉ 113) (m₉ 114) (m₉ 94 55) (m 94 46) (m 94 11) (m 94 12) (m 94 62) (m 94 17) (m 94 9) (kLi aa ob ix oo)) → (qI (kLi aa ob ix oo)) → ((kLi aa ob ix oo) 87 8 = (m 94 58)) → (cV (kLi aa ob ix oo) [] B) → (qCt (m₉ 105) (m₉ 99) (m 100) (kLi aa ob ix oo) [] (-1) (-1)) → P (some (.inl v)) (zov wr_247 m m₉)) : zm X 5 109 247 0 [(0, .inr (.inr (some 94))), (1, .inl ob), (2, .inl ix), (3, .inl oo)] m P := by
  have K : ∀ v m₉, zF wr_247 m m₉ → zV m₉ → (zW (m₉ 94 7) (m₉ 98) (m₉ 101) (m₉ 102) (m₉ 108)) → (zGW T (m₉ 94 55) (m₉ 109)) → (zGU T (m₉ 94 46) (m₉ 99)) → (zOw (m₉ 99) (m₉ 103) (m₉ 111)) → (zGG (m₉ 94 58) (m₉ 94 56) (m₉ 94 57) (m₉ 106)) → ((m₉ 94 45).toInt = sm (zbU (m₉ 99)) (m₉ 102) 3100) → (qRB (m₉ 99) (m₉ 100) (m₉ 98) (m₉ 101) (m₉ 102) (m₉ 103) (m₉ 107) (m₉ 108) (m₉ 109) (m₉ 111) (m₉ 112) (m₉ 113) (m₉ 114) (m₉ 94 55) (m₉ 94 46) (m₉ 94 11) (m₉ 94 12) (m₉ 94 62) (m₉ 94 17) (m₉ 94 9) (kLi aa ob ix oo)) → (qI (kLi aa ob ix oo)) → ((kLi aa ob ix oo) 87 8 = (m₉ 94 58)) → (cV (kLi aa ob ix oo) [] B) → (qCt (m₉ 105) (m₉ 99) (m₉ 100) (kLi aa ob ix oo) [] (-1) (-1)) → P (some (.inl v)) m₉ := by
    intro v m₉ hf z q0 q1 q2 q3 q4 q5 q6 q7 q8 q9 q10
    have e := zov_eq hf
    rw [e] at z ⊢
    try rw [e] at q0
    try rw [e] at q1
    try rw [e] at q2
    try rw [e] at q3
    try rw [e] at q4
    try rw [e] at q5
    try rw [e] at q6
    try rw [e] at q7
    try rw [e] at q8
    try rw [e] at q9
    try rw [e] at q10
    exact KZ v m₉ z q0 q1 q2 q3 q4 q5 q6 q7 q8 q9 q10
  refine g_247_0 ob ix oo ?_
  have f1 : 0 ≤ (m 94 10).toInt ∧ (m 94 10).toInt ≤ 6 := rs_94_10 (m := m) hV
  have f2 : 0 ≤ (m 94 58).toInt ∧ (m 94 58).toInt ≤ 1 := rs_94_58 (m := m) hV
  have f3 : 0 ≤ (m 94 8).toInt ∧ (m 94 8).toInt ≤ 1 := rs_94_8 (m := m) hV
  have li4 : (0 : Int32).toInt = 0 := rfl
  refine zd (fun (h5 : (m 94 8) = (0 : Int32)) => ?_) (fun (h5 : ¬ (m 94 8) = (0 : Int32)) => ?_)
  · skip
    have g6 := i_eq h5
    exfalso; omega
  · skip
    have g7 := i_ne h5
    have b8 := i_bd ob
    have hV9 : zV (ma_u m 94 0 (0 : Int32)) := uf_94_0 hV
    refine sp_245r (aa := aa) (ob) hV9 r_W r_RB r_QI (fun v2 m1 hV_m1 p0_m1 p1_m1 p2_m1 => zmi_n ?_)
    have p0_m1 : -1 ≤ v2.toInt ∧ v2.toInt ≤ 3099 := p0_m1
    have p1_m1 : v2.toInt < 0 ∨ (m 99) v2.toNatClampNeg ≠ 0 := p1_m1
    have p2_m1 : qRe (m 99) (m 100) aa ob v2 := p2_m1
    have b10 := i_bd v2
    refine zd (fun (h11 : v2 < (0 : Int32)) => ?_) (fun (h11 : ¬ v2 < (0 : Int32)) => ?_)
    · skip
      have g12 := i_lt h11
      try have w60 := (ra_102 hV (k := l4.toNatClampNeg) (by omega)).2
      have b13 := i_bd ix
      have b14 := i_bd oo
      exact lp_247r4_53 (ob := ob) (ix := ix) (oo := oo) hV K _ _ (ix) (oo) (v2) ((0 : Int32)) rfl (zF_zov (zF_u zF_rfl rfl) ws_245_247) hV_m1 (by omega) (by omega) (by omega) (by omega) (by omega) (by omega) (by omega) r_W r_GW r_GU r_OW r_GG (show (m 94 10).toInt = 4 ∧ (m 94 58).toInt = 0 from by omega) (show (m 94 8).toInt = 1 from by omega) r_RB r_QI r_MK r_WTS r_VV r_CT (show ix = ix from by first | (exact rfl) | (exfalso; omega; done) | (exfalso; contradiction; done)) (show oo = oo from by first | (exact rfl) | (exfalso; omega; done) | (exfalso; contradiction; done)) (show qRe (m 99) (m 100) aa ob v2 from by first | (exact p2_m1) | (exfalso; omega; done) | (exfalso; contradiction; done)) (show qTh aa ob oo (0 : Int32) from by first | (exact Or.inr ⟨by decide, fun w => Re_n p2_m1 (by omega) w.1⟩) | (exact Or.inl ⟨by decide, (Re_y p2_m1 (by omega)).2.2.2, Or.inl (by assumption)⟩) | (exfalso; omega; done) | (exfalso; contradiction; done))
    · skip
      have g15 := i_nlt h11
      have b16 := i_bd oo
      have li17 : (-1 : Int32).toInt = -1 := rfl
      refine zd (fun (h18 : oo = (-1 : Int32)) => ?_) (fun (h18 : ¬ oo = (-1 : Int32)) => ?_)
      · skip
        have g19 := i_eq h18
        try have w60 := (ra_102 hV (k := l4.toNatClampNeg) (by omega)).2
        have b20 := i_bd ix
        have li21 : (1 : Int32).toInt = 1 := rfl
        exact lp_247r4_53 (ob := ob) (ix := ix) (oo := oo) hV K _ _ (ix) (oo) (v2) ((1 : Int32)) rfl (zF_zov (zF_u zF_rfl rfl) ws_245_247) hV_m1 (by omega) (by omega) (by omega) (by omega) (by omega) (by omega) (by omega) r_W r_GW r_GU r_OW r_GG (show (m 94 10).toInt = 4 ∧ (m 94 58).toInt = 0 from by omega) (show (m 94 8).toInt = 1 from by omega) r_RB r_QI r_MK r_WTS r_VV r_CT (show ix = ix from by first | (exact rfl) | (exfalso; omega; done) | (exfalso; contradiction; done)) (show oo = oo from by first | (exact rfl) | (exfalso; omega; done) | (exfalso; contradiction; done)) (show qRe (m 99) (m 100) aa ob v2 from by first | (exact p2_m1) | (exfalso; omega; done) | (exfalso; contradiction; done)) (show qTh aa ob oo (1 : Int32) from by first | (exact Or.inr ⟨by decide, fun w => Re_n p2_m1 (by omega) w.1⟩) | (exact Or.inl ⟨by decide, (Re_y p2_m1 (by omega)).2.2.2, Or.inl (by assumption)⟩) | (exfalso; omega; done) | (exfalso; contradiction; done))
      · skip
        have g22 := i_ne h18
        refine sp_245r (aa := aa) (oo) hV_m1 r_W r_RB r_QI (fun v4 m3 hV_m3 p0_m3 p1_m3 p2_m3 => zmi_n ?_)
        have p0_m3 : -1 ≤ v4.toInt ∧ v4.toInt ≤ 3099 := p0_m3
        have p1_m3 : v4.toInt < 0 ∨ (m 99) v4.toNatClampNeg ≠ 0 := p1_m3
        have p2_m3 : qRe (m 99) (m 100) aa oo v4 := p2_m3
        have b23 := i_bd v4
        refine zd (fun (h24 : v4 < (0 : Int32)) => ?_) (fun (h24 : ¬ v4 < (0 : Int32)) => ?_)
        · skip
          have g25 := i_lt h24
          try have w60 := (ra_102 hV (k := l4.toNatClampNeg) (by omega)).2
          have b26 := i_bd ix
          exact lp_247r4_53 (ob := ob) (ix := ix) (oo := oo) hV K _ _ (ix) (oo) (v2) ((0 : Int32)) rfl (zF_zov (zF_zov (zF_u zF_rfl rfl) ws_245_247) ws_245_247) hV_m3 (by omega) (by omega) (by omega) (by omega) (by omega) (by omega) (by omega) r_W r_GW r_GU r_OW r_GG (show (m 94 10).toInt = 4 ∧ (m 94 58).toInt = 0 from by omega) (show (m 94 8).toInt = 1 from by omega) r_RB r_QI r_MK r_WTS r_VV r_CT (show ix = ix from by first | (exact rfl) | (exfalso; omega; done) | (exfalso; contradiction; done)) (show oo = oo from by first | (exact rfl) | (exfalso; omega; done) | (exfalso; contradiction; done)) (show qRe (m 99) (m 100) aa ob v2 from by first | (exact p2_m1) | (exfalso; omega; done) | (exfalso; contradiction; done)) (show qTh aa ob oo (0 : Int32) from by first | (exact Or.inl ⟨by decide, (Re_y p2_m1 (by omega)).2.2.2, Or.inr (Re_y p2_m3 (by omega)).2.2.2⟩) | (exact Or.inr ⟨by decide, fun w => w.2.elim (fun z => absurd (congrArg Int32.toInt z) (by omega)) (Re_n p2_m3 (by omega))⟩) | (exfalso; omega; done) | (exfalso; contradiction; done))
        · skip
          have g27 := i_nlt h24
          try have w60 := (ra_102 hV (k := l4.toNatClampNeg) (by omega)).2
          have b28 := i_bd ix
          have li29 : (1 : Int32).toInt = 1 := rfl
          exact lp_247r4_53 (ob := ob) (ix := ix) (oo := oo) hV K _ _ (ix) (oo) (v2) ((1 : Int32)) rfl (zF_zov (zF_zov (zF_u zF_rfl rfl) ws_245_247) ws_245_247) hV_m3 (by omega) (by omega) (by omega) (by omega) (by omega) (by omega) (by omega) r_W r_GW r_GU r_OW r_GG (show (m 94 10).toInt = 4 ∧ (m 94 58).toInt = 0 from by omega) (show (m 94 8).toInt = 1 from by omega) r_RB r_QI r_MK r_WTS r_VV r_CT (show ix = ix from by first | (exact rfl) | (exfalso; omega; done) | (exfalso; contradiction; done)) (show oo = oo from by first | (exact rfl) | (exfalso; omega; done) | (exfalso; contradiction; done)) (show qRe (m 99) (m 100) aa ob v2 from by first | (exact p2_m1) | (exfalso; omega; done) | (exfalso; contradiction; done)) (show qTh aa ob oo (1 : Int32) from by first | (exact Or.inl ⟨by decide, (Re_y p2_m1 (by omega)).2.2.2, Or.inr (Re_y p2_m3 (by omega)).2.2.2⟩) | (exact Or.inr ⟨by decide, fun w => w.2.elim (fun z => absurd (congrArg Int32.toInt z) (by omega)) (Re_n p2_m3 (by omega))⟩) | (exfalso; omega; done) | (exfalso; contradiction; done))

/-! from 95.o12 -/
/-! the reference under COUNTS (written by wip/tools/gen20s.py) -/
/-! COUNTS, the reference: what is not kept goes -/
def qGL4 (us nr kr kd ws at₉ ho wd wi ow rt wk wl : Nat → Int32) (wm nu ro fo le ra pi : Int32) (kp : Nat → Int32) (x : Int32) (ct : Nat → Int32) (T : Nat → Nat → Int32) : Prop := ∃ (b : Nat → Nat → Int32) (l : Int32), qRB us nr kr kd ws at₉ ho wd wi ow rt wk wl wm nu ro fo le ra pi b ∧ qKB kp us nr b ∧ qE0 b ∧ qI b ∧ qCl b ∧ (-1 ≤ l.toInt ∧ l.toInt + 1 ≤ (b 69 6).toInt) ∧ qMin (qCw us kp wi nr l) nr x 3100 ∧ aGw b (l + 1) = T ∧ qCt ct us nr b [] (-1) (-1)
/-- b without those of the slots below l that are not kept -/
def qDd (b d : Nat → Nat → Int32) (us nr kp : Nat → Int32) (l : Nat) : Prop := cQI d ∧ (∀ n, xAl d n ↔ xAl b n ∧ ¬ ∃ s, s < l ∧ us s ≠ 0 ∧ kp s = 0 ∧ nr s = Int32.ofNat n) ∧ (∀ n, xAl d n → d 128 n = b 128 n ∧ d 133 n = b 133 n ∧ ∀ i : Int32, qWp b n i → aRef d n i = aRef b n i) ∧ d 72 = b 72 ∧ d 74 = b 74 ∧ d 69 5 = b 69 5
def qCD (b : Nat → Nat → Int32) (ct us nr kp : Nat → Int32) (l : Nat) : Prop := ∃ d, qDd b d us nr kp l ∧ ∀ t, t < 3100 → us t ≠ 0 → kp t ≠ 0 → ct t = Int32.ofInt (cRf d (nr t).toNatClampNeg)
def qCI (b : Nat → Nat → Int32) (ct us nr kp : Nat → Int32) (l j : Nat) : Prop := ∃ d, qDd b d us nr kp l ∧ ∀ t, t < 3100 → us t ≠ 0 → kp t ≠ 0 → ct t = Int32.ofInt (cRf d (nr t).toNatClampNeg - (cSu (fun i => cIs (aRef d (nr l).toNatClampNeg (Int32.ofNat i)) (nr t).toNatClampNeg) j : Int))
section D4
variable {a b d e : Nat → Nat → Int32} {us us₉ nr kr kd ws at₉ ho wd wi ow rt wk wl kp ct ct₉ : Nat → Int32} {wm nu ro fo le ra pi x y z r : Int32} {n k l j : Nat} {st : List (List Int32)} {B : Int}
theorem Ct_o8 (o : zO8 a b) (h : qCt ct us nr a st x z) : qCt ct us nr b st x z := fun s hs hu => by
  rw [h s hs hu, Rf_o8 o]
theorem V_sw4 (hI : qI a) (hV : cV a [] B) : cV (aSw a) [] B := by
  have i := I_swn hI hV.2.1
  exact V_0 (C_sw (K₉ := fun n => Int32.ofInt (cRf (aSw a) n)) hI (C_ofV hV) ⟨cQ_I i, i.2.2.2.1.2.1, fun _ _ => rfl⟩)
theorem rm_eq (h : zrm us us₉ kp l) (hs : l < 3100) : us₉ l = us l := (h l hs).2 (Nat.le_refl _)
theorem CD_0 (hI : qI b) (h1 : qR1 us nr ws at₉ ho b) (h : qCt ct us nr b [] (-1) (-1)) (hl : l = 0) : qCD b ct us nr kp l := by
  rw [hl]
  refine ⟨b, ⟨cQ_I hI, fun n => ⟨fun w => ⟨w, fun ⟨s, hs, _⟩ => by omega⟩, fun w => w.1⟩, fun n _ => ⟨rfl, rfl, fun _ _ => rfl⟩, rfl, rfl, rfl⟩, fun t ht hv _ => ?_⟩
  have o : cOc ([] : List (List Int32)) (nr t).toNatClampNeg = 0 := rfl
  rw [h t ht hv, is_m1 (nr_lt h1 ht hv), o]
  exact congrArg Int32.ofInt (by omega)
theorem Dd_s (h : qDd b d us nr kp l) (hl : us l = 0 ∨ kp l ≠ 0) : qDd b d us nr kp (l + 1) := by
  obtain ⟨h1, h2, h3, h4⟩ := h
  refine ⟨h1, fun n => (h2 n).trans ⟨fun w => ⟨w.1, fun ⟨s, hs, g1, g2, g3⟩ => ?_⟩, fun w => ⟨w.1, fun ⟨s, hs, g⟩ => w.2 ⟨s, by omega, g⟩⟩⟩, h3, h4⟩
  by_cases z : s = l
  · rw [z] at g1 g2
    exact hl.elim (fun q => g1 q) (fun q => q g2)
  · exact w.2 ⟨s, by omega, g1, g2, g3⟩
theorem CD_s {l₉ : Nat} (h : qCD b ct us nr kp l) (hl : us l = 0 ∨ kp l ≠ 0) (el : l₉ = l + 1) : qCD b ct us nr kp l₉ := by
  rw [el]
  obtain ⟨d, h1, h2⟩ := h
  exact ⟨d, Dd_s h1 hl, h2⟩
theorem CI_0 (h : qCD b ct us nr kp l) (hj : j = 0) : qCI b ct us nr kp l j := by
  rw [hj]
  obtain ⟨d, h1, h2⟩ := h
  refine ⟨d, h1, fun t ht hv hk => ?_⟩
  rw [h2 t ht hv hk]
  exact congrArg Int32.ofInt (by show cRf d (nr t).toNatClampNeg = cRf d (nr t).toNatClampNeg - ((0 : Nat) : Int); omega)
theorem Dd_al (h : qDd b d us nr kp l) (h1 : qR1 us nr ws at₉ ho b) (hl : l < 3100) (hu : us l ≠ 0) : xAl d (nr l).toNatClampNeg := by
  refine (h.2.1 _).mpr ⟨R1_al h1 hl hu, fun ⟨s, hs, g1, g2, g3⟩ => ?_⟩
  rw [R1_of_nr h1 hl hu] at g3
  have := h1.2.1 s l (by omega) hl g1 hu g3
  omega
theorem CI_r (hR : qRB us nr kr kd ws at₉ ho wd wi ow rt wk wl wm nu ro fo le ra pi b) (h : qDd b d us nr kp l) (hl : l < 3100) (hu : us l ≠ 0) (hj : (j : Int) < (ws l).toInt) : aRef d (nr l).toNatClampNeg (Int32.ofNat j) = qNo nr (zrf kr kd wd l j) := ((h.2.2.1 _ (Dd_al h hR.1 hl hu)).2.2 _ (wp_sl hR hl hu hj)).trans (hR.2.1 l hl hu j hj).2.1
theorem CI_n (h : qCI b ct us nr kp l j) (hR : qRB us nr kr kd ws at₉ ho wd wi ow rt wk wl wm nu ro fo le ra pi b) (hl : l < 3100) (hu : us l ≠ 0) (hj : (j : Int) < (ws l).toInt) (hr : r = zrf kr kd wd l j) (hk : r.toInt < 0 ∨ kp r.toNatClampNeg = 0) {j₉ : Nat} (ej : j₉ = j + 1) : qCI b ct us nr kp l j₉ := by
  rw [ej]
  obtain ⟨d, h1, h2⟩ := h
  refine ⟨d, h1, fun t ht hv hkt => ?_⟩
  have e := CI_r hR h1 hl hu hj
  have u := (hR.2.1 l hl hu j hj).1
  rw [← hr] at e u
  have z : cIs (qNo nr r) (nr t).toNatClampNeg = 0 := by
    by_cases w : r.toInt < 0
    · rw [No_n w]
      exact is_m1 (nr_lt hR.1 ht hv)
    · have v := U_y u (by omega)
      rw [No_y (by omega), nr_eq hR.1 (tn_lt (by omega) v.1) v.2 ht hv]
      refine if_neg (fun e2 => hkt ?_)
      rw [e2]
      exact hk.elim (fun q => absurd q w) id
  rw [h2 t ht hv hkt]
  show Int32.ofInt _ = Int32.ofInt (_ - ((cSu (fun i => cIs (aRef d (nr l).toNatClampNeg (Int32.ofNat i)) (nr t).toNatClampNeg) j + cIs (aRef d (nr l).toNatClampNeg (Int32.ofNat j)) (nr t).toNatClampNeg : Nat) : Int))
  rw [e, z, Nat.add_zero]
theorem CI_y (h : qCI b ct us nr kp l j) (hR : qRB us nr kr kd ws at₉ ho wd wi ow rt wk wl wm nu ro fo le ra pi b) (hl : l < 3100) (hu : us l ≠ 0) (hj : (j : Int) < (ws l).toInt) (hr : r = zrf kr kd wd l j) (h0 : 0 ≤ r.toInt) (e1 : ct₉ = zUp ct r.toNatClampNeg (ct r.toNatClampNeg - 1)) {j₉ : Nat} (ej : j₉ = j + 1) : qCI b ct₉ us nr kp l j₉ := by
  rw [ej]
  obtain ⟨d, h1, h2⟩ := h
  refine ⟨d, h1, fun t ht hv hkt => ?_⟩
  have e := CI_r hR h1 hl hu hj
  have u := (hR.2.1 l hl hu j hj).1
  rw [← hr] at e u
  have v := U_y u h0
  have w := nr_eq hR.1 (tn_lt h0 v.1) v.2 ht hv
  have q := h2 t ht hv hkt
  rw [e1]
  show (if t = r.toNatClampNeg then ct r.toNatClampNeg - 1 else ct t) = Int32.ofInt (_ - ((cSu (fun i => cIs (aRef d (nr l).toNatClampNeg (Int32.ofNat i)) (nr t).toNatClampNeg) j + cIs (aRef d (nr l).toNatClampNeg (Int32.ofNat j)) (nr t).toNatClampNeg : Nat) : Int))
  rw [e, No_y h0, w]
  by_cases z : t = r.toNatClampNeg
  · rw [if_pos z, if_pos z, ← z, q]
    have o1 : (1 : Int32) = Int32.ofInt 1 := rfl
    rw [o1, ← Int32.ofInt_sub]
    exact congrArg Int32.ofInt (by omega)
  · rw [if_neg z, if_neg z, q, Nat.add_zero]
theorem Dd_r (h : qDd b d us nr kp l) (h1 : qR1 us nr ws at₉ ho b) (hl : l < 3100) (hu : us l ≠ 0) (hk : kp l = 0) : qDd b (aRm d (nr l)) us nr kp (l + 1) := by
  have al := Dd_al h h1 hl hu
  have y0 := (h1.1 l hl hu).1.1
  obtain ⟨g1, g2, g3, g4, g5, g6⟩ := h
  have ne : ∀ n, xAl (aRm d (nr l)) n → xAl d n ∧ n ≠ (nr l).toNatClampNeg := fun n w => (rm_al y0).mp w
  refine ⟨cQ_rm y0 g1, fun n => ⟨fun w => ?_, fun w => ?_⟩, fun n hn => ?_, ?_, ?_, ?_⟩
  · have w2 := ne n w
    have w3 := (g2 n).mp w2.1
    refine ⟨w3.1, fun ⟨s, hs, q1, q2, q3⟩ => ?_⟩
    by_cases z : s = l
    · rw [z] at q3
      apply w2.2
      rw [q3, tn_of w3.1.1]
    · exact w3.2 ⟨s, by omega, q1, q2, q3⟩
  · refine (rm_al y0).mpr ⟨(g2 n).mpr ⟨w.1, fun ⟨s, hs, q⟩ => w.2 ⟨s, by omega, q⟩⟩, fun z => w.2 ⟨l, by omega, hu, hk, ?_⟩⟩
    rw [z]
    exact (R1_of_nr h1 hl hu).symm
  · have w := ne n hn
    have q := g3 n w.1
    refine ⟨(rm_rw (by decide) (by decide) w.2).trans q.1, (rm_rw (by decide) (by decide) w.2).trans q.2.1, fun i hi => ?_⟩
    have wd1 : qWp d n i := ⟨w.1, hi.2.1, by rw [q.1]; exact hi.2.2⟩
    exact (crf_rm g1 y0 al w.2 wd1).trans (q.2.2 i hi)
  · exact (funext (fun k => rm_co (by decide) (by decide) (by decide) (by decide))).trans g4
  · exact (funext (fun k => rm_co (by decide) (by decide) (by decide) (by decide))).trans g5
  · exact (aRm_o (by decide) ⟨by decide, by decide, by decide, by decide⟩).trans g6
theorem CI_e (h : qCI b ct us nr kp l j) (hR : qRB us nr kr kd ws at₉ ho wd wi ow rt wk wl wm nu ro fo le ra pi b) (hl : l < 3100) (hu : us l ≠ 0) (hk : kp l = 0) (hj : (j : Int) = (ws l).toInt) {l₉ : Nat} (el : l₉ = l + 1) : qCD b ct us nr kp l₉ := by
  rw [el]
  obtain ⟨d, h1, h2⟩ := h
  have al := Dd_al h1 hR.1 hl hu
  have t0 := hR.1.1 l hl hu
  refine ⟨aRm d (nr l), Dd_r h1 hR.1 hl hu hk, fun t ht hv hkt => ?_⟩
  have ne : (nr t).toNatClampNeg ≠ (nr l).toNatClampNeg := fun e => by
    have e2 := hR.1.2.1 t l ht hl hv hu (by rw [← R1_of_nr hR.1 ht hv, ← R1_of_nr hR.1 hl hu, e])
    rw [e2] at hkt
    exact hkt hk
  have f := Rf_rm h1.1 t0.1.1 al ne
  have o : cOb d (nr l).toNatClampNeg (nr t).toNatClampNeg = cSu (fun i => cIs (aRef d (nr l).toNatClampNeg (Int32.ofNat i)) (nr t).toNatClampNeg) j := by
    unfold cOb
    rw [(h1.2.2.1 _ al).1, t0.2.2.1, i_p1 (by have := t0.2.2.2.2.2.1; omega), show ((ws l).toInt + 1 - 1).toNat = j from by omega]
  rw [h2 t ht hv hkt, ← o]
  exact congrArg Int32.ofInt (by omega)
theorem CD_e (h : qCD b ct us nr kp 3100) (hR : qRB us nr kr kd ws at₉ ho wd wi ow rt wk wl wm nu ro fo le ra pi b) (hI : qI b) (hK : qKB kp us nr b) (hw : (b 75 5).toInt ≤ 0) (hm : zrm us us₉ kp 3100) : qCt ct us₉ nr (aMv b 0) [] (-1) (-1) := by
  have M := Md_mv hI hw
  have hIe := I_mv hI hw
  generalize aMv b 0 = e at *
  obtain ⟨d, ⟨g1, g2, g3, g4, g5, g6⟩, h2⟩ := h
  have al : ∀ n, xAl e n ↔ xAl d n := fun n => by
    rw [Md_al hI M, g2 n]
    refine ⟨fun w => ⟨w.1, fun ⟨s, hs, q1, q2, q3⟩ => ?_⟩, fun w => ⟨w.1, fun z => ?_⟩⟩
    · have k := (hK.2 s hs q1).mpr
      apply k
      · rw [q3, tn_of w.1.1]
        exact ⟨w.1.1, w.2⟩
      · exact q2
    · obtain ⟨s, hs, hu, en⟩ := hR.1.2.2 n w.1.1 w.1.2
      refine w.2 ⟨s, hs, hu, Classical.byContradiction (fun kz => ?_), en⟩
      have k := ((hK.2 s hs hu).mp kz).2
      rw [en, tn_of w.1.1] at k
      exact k z
  have fe : ∀ n, xAl e n → (∀ f, 126 ≤ f → f < 1000 → e f n = b f n) ∧ e (1000 + n) = b (1000 + n) := fun n hn => by
    have q := (Md_al hI M).mp hn
    exact Md_f M q.1.1 q.2
  have rf : ∀ n (i : Int32), xAl e n → qWp b n i → aRef e n i = aRef b n i := fun n i hn wb => by
    have q0 := (Md_al hI M).mp hn
    have f := fe n hn
    have we : qWp e n i := ⟨hn, wb.2.1, by rw [f.1 128 (by decide) (by decide)]; exact wb.2.2⟩
    have q := cwp_i (cQ_I hI) wb
    have cq := tn_cast q.2.1
    have wj := wb.2
    rw [wp_rf hIe we, wp_rf hI wb, f.2, f.1 130 (by decide) (by decide), Md_w hI M q0.1 q0.2 (p := (b 130 n + 1 + i).toNatClampNeg) (by omega) (by omega)]
  have rc : ∀ n, xAl e n → cRf e n = cRf d n := fun n hn => by
    refine Rf_cg (Ro_cg ?_) (Wi_cg ?_ ?_) ?_ (Th_cg (fun m hm => ?_))
    · rw [g4]
      exact M.2.1.1 72 (by decide) (by decide) (by decide) (by decide)
    · rw [g6]
      exact M.2.1.2.1
    · rw [g5]
      exact M.2.1.1 74 (by decide) (by decide) (by decide) (by decide)
    · rw [(g3 n ((al n).mp hn)).2.1]
      exact (fe n hn).1 133 (by decide) (by decide)
    · by_cases w : xAl e m
      · have wd := (al m).mp w
        have wb := ((Md_al hI M).mp w).1
        have f := fe m w
        have s := g3 m wd
        have nz : ¬ e 126 m = 0 := w.2
        have nz2 : ¬ d 126 m = 0 := wd.2
        unfold cTm
        rw [if_neg nz, if_neg nz2]
        refine Ob_cg ?_ (fun i hi => ?_)
        · rw [f.1 128 (by decide) (by decide), s.1]
        · rw [s.1] at hi
          have W := wp_N (cQ_I hI) wb hi
          rw [rf m _ w W, s.2.2 _ W]
      · have wd : ¬ xAl d m := fun q => w ((al m).mpr q)
        have z1 : e 126 m = 0 := Classical.byContradiction (fun q => w ⟨hm, q⟩)
        have z2 : d 126 m = 0 := Classical.byContradiction (fun q => wd ⟨hm, q⟩)
        unfold cTm
        rw [if_pos z1, if_pos z2]
  intro t ht hv
  have u := ((hm t ht).1 ht).mp hv
  have an := R1_al hR.1 ht u.1
  have ae : xAl e (nr t).toNatClampNeg := (Md_al hI M).mpr ⟨an, ((hK.2 t ht u.1).mp u.2).2⟩
  have o : cOc ([] : List (List Int32)) (nr t).toNatClampNeg = 0 := rfl
  rw [h2 t ht u.1 u.2, rc _ ae, is_m1 an.1, o]
  exact congrArg Int32.ofInt (by omega)
end D4
set_option maxHeartbeats 8000000 in
theorem lp_194r4_9 {X : Nat × (Nat → Int32)} {P : Option ma_V → (Nat → Nat → Int32) → Prop} {T : Nat} {aa : Nat→Nat→Int32} {m0 : Nat → Nat → Int32} (h0 : zV m0) (K : ∀ m₉, zF wr_194 m0 m₉ → zV m₉ → ((m₉ 94 73).toInt = 0) → (zGW T (m₉ 94 55) (m₉ 109)) → (zuw (m0 113) (m₉ 113)) → (qRB (m₉ 99) (m₉ 100) (m₉ 98) (m₉ 101) (m₉ 102) (m₉ 103) (m₉ 107) (m₉ 108) (m₉ 109) (m₉ 111) (m₉ 112) (m₉ 113) (m₉ 114) (m₉ 94 55) (m₉ 94 46) (m₉ 94 11) (m₉ 94 12) (m₉ 94 62) (m₉ 94 17) (m₉ 94 9) (aGw aa 0)) → (qI (aGw aa 0)) → (qKB (m₉ 110) (m₉ 99) (m₉ 100) (aGw aa 0)) → (qE0 (aGw aa 0)) → (qCl (aGw aa 0)) → (qCt (m₉ 105) (m₉ 99) (m₉ 100) (aGw aa 0) [] (-1) (-1)) → P none m₉) : ∀ (n : Nat) (m : Nat → Nat → Int32) (l2 : Int32), ((zmg (m 100) l2 : Int)).toNat = n → zF wr_194 m0 m → zV m → (T ≤ 512) → ((m 94 10).toInt = 4 ∧ (m 94 58).toInt = 0) → ((m 94 73).toInt = 0) → (zWS (m 100) (m 99) (m 110) (m 109) (-1 : Int32) l2) → (zW (m 94 7) (m 98) (m 101) (m 102) (m 108)) → (zGW T (m 94 55) (m 109)) → (zuw (m0 113) (m 113)) → (qGL4 (m 99) (m 100) (m 98) (m 101) (m 102) (m 103) (m 107) (m 108) (m 109) (m 111) (m 112) (m 113) (m 114) (m 94 55) (m 94 46) (m 94 11) (m 94 12) (m 94 62) (m 94 17) (m 94 9) (m 110) l2 (m 105) (aGw aa 0)) → zm X 3 66 194 9 [(0, .inr (.inr (some 94))), (2, .inl l2)] m P := by
  intro n
  induction n using Nat.strongRecOn with
  | _ n IH =>
    intro m l2 hmu hF hV hi0 hi1 hi2 r_WS r_W r_GW r_UW r_GL
    refine g_194_9 l2 ?_
    have f1 : 0 ≤ (m 94 10).toInt ∧ (m 94 10).toInt ≤ 6 := rs_94_10 (m := m) hV
    have f2 : 0 ≤ (m 94 58).toInt ∧ (m 94 58).toInt ≤ 1 := rs_94_58 (m := m) hV
    have f3 : 0 ≤ (m 94 73).toInt ∧ (m 94 73).toInt ≤ 3100 := rs_94_73 (m := m) hV
    obtain ⟨b, lst, gRB, gKB, gE0, gQI, gCL, gl, gMn, gT, gCT⟩ := r_GL
    have gb6 := gQI.2.2.2.1.1
    have b4 := i_bd l2
    have li5 : (0 : Int32).toInt = 0 := rfl
    refine zd (fun (h6 : l2 < (0 : Int32)) => ?_) (fun (h6 : ¬ l2 < (0 : Int32)) => ?_)
    · skip
      have g7 := i_lt h6
      try have gw := GW_room r_GW
      try have ws0 := WS_ge r_WS (by omega)
      exact K _ hF hV (show (m 94 73).toInt = 0 from by omega) r_GW r_UW (show qRB (m 99) (m 100) (m 98) (m 101) (m 102) (m 103) (m 107) (m 108) (m 109) (m 111) (m 112) (m 113) (m 114) (m 94 55) (m 94 46) (m 94 11) (m 94 12) (m 94 62) (m 94 17) (m 94 9) (aGw aa 0) from by first | (have e0 := GL_end gRB gQI gKB gl.1 gl.2 gMn (by omega) gT; rw [← e0]; exact gRB; done) | (exfalso; omega; done) | (exfalso; contradiction; done)) (show qI (aGw aa 0) from by first | (have e0 := GL_end gRB gQI gKB gl.1 gl.2 gMn (by omega) gT; rw [← e0]; exact gQI; done) | (exfalso; omega; done) | (exfalso; contradiction; done)) (show qKB (m 110) (m 99) (m 100) (aGw aa 0) from by first | (have e0 := GL_end gRB gQI gKB gl.1 gl.2 gMn (by omega) gT; rw [← e0]; exact gKB; done) | (exfalso; omega; done) | (exfalso; contradiction; done)) (show qE0 (aGw aa 0) from by first | (have e0 := GL_end gRB gQI gKB gl.1 gl.2 gMn (by omega) gT; rw [← e0]; exact gE0; done) | (exfalso; omega; done) | (exfalso; contradiction; done)) (show qCl (aGw aa 0) from by first | (have e0 := GL_end gRB gQI gKB gl.1 gl.2 gMn (by omega) gT; rw [← e0]; exact gCL; done) | (exfalso; omega; done) | (exfalso; contradiction; done)) (show qCt (m 105) (m 99) (m 100) (aGw aa 0) [] (-1) (-1) from by first | (have e0 := GL_end gRB gQI gKB gl.1 gl.2 gMn (by omega) gT; rw [← e0]; exact gCT; done) | (exfalso; omega; done) | (exfalso; contradiction; done))
    · skip
      have g8 := i_nlt h6
      try obtain ⟨ws1, ws2, ws3, ws4, ws5, ws6⟩ := WS_ge r_WS (by omega)
      have hg9 : (0 ≤ l2 ∧ l2.toNatClampNeg < 3100) := i_ix (by omega) (by omega)
      refine ⟨hg9, ?_⟩
      try have ws0 := WS_ge r_WS (by omega)
      refine sp_197r4 (aa := b) (l2) hV (by omega) (by omega) (by omega) (show (m 94 10).toInt = 4 ∧ (m 94 58).toInt = 0 from by omega) (show (m 109) l2.toNatClampNeg ≠ 0 from by first | (exact ws5) | (exact ws0.2.2.2.2.1) | (assumption; done) | (exfalso; omega; done) | (exfalso; contradiction; done)) (show (m 99) l2.toNatClampNeg ≠ 0 from by first | (exact ws3) | (exact ws0.2.2.1) | (assumption; done) | (exact ws3) | (exfalso; omega; done) | (exfalso; contradiction; done)) r_GW gRB gQI (fun m1 hV_m1 p0_m1 p1_m1 p2_m1 p3_m1 p4_m1 p5_m1 p6_m1 => zmv_n ?_)
      have p0_m1 : zGW T (m1 94 55) (m1 109) := p0_m1
      have p1_m1 : zuw (m 113) (m1 113) := p1_m1
      have p2_m1 : zwx (m 114) (m1 114) (m 94 55) l2 := p2_m1
      have p3_m1 : (m1 94 55).toInt = (m 94 55).toInt + 1 := p3_m1
      have p4_m1 : qRB (m 99) (m 100) (m 98) (m 101) (m 102) (m 103) (m 107) (m 108) (m1 109) (m 111) (m 112) (m1 113) (m1 114) (m1 94 55) (m 94 46) (m 94 11) (m 94 12) (m 94 62) (m 94 17) (m 94 9) (aGr b ((m 100) l2.toNatClampNeg)) := p4_m1
      have p5_m1 : qI (aGr b ((m 100) l2.toNatClampNeg)) := p5_m1
      have p6_m1 : (m1 105) = zUp (m 105) l2.toNatClampNeg ((m 105) l2.toNatClampNeg + 1) := p6_m1
      have f10 : 0 ≤ (m1 94 55).toInt ∧ (m1 94 55).toInt ≤ 3100 := rs_94_55 (m := (zov wr_197 m m1)) hV_m1
      have f11 : 0 ≤ (m 94 55).toInt ∧ (m 94 55).toInt ≤ 3100 := rs_94_55 (m := m) hV
      refine zd (fun (h12 : l2 < (0 : Int32)) => ?_) (fun (h12 : ¬ l2 < (0 : Int32)) => ?_)
      · skip
        have g13 := i_lt h12
        try have ws0 := WS_ge r_WS (by omega)
        refine sp_191r (aa := (aGr b (m 100 l2.toNatClampNeg))) (QQ := (qQ (aGr b (m 100 l2.toNatClampNeg)) (m 100 l2.toNatClampNeg))) (DD := (zNn (aGr b (m 100 l2.toNatClampNeg))))  hV_m1 (show zKS (m 110) (m 94 73) from by first | (exact KS_0 (by omega)) | (exfalso; omega; done) | (exfalso; contradiction; done)) r_W (show qRB (m 99) (m 100) (m 98) (m 101) (m 102) (m 103) (m 107) (m 108) (m1 109) (m 111) (m 112) (m1 113) (m1 114) (m1 94 55) (m 94 46) (m 94 11) (m 94 12) (m 94 62) (m 94 17) (m 94 9) (aGr b (m 100 l2.toNatClampNeg)) from by first | (exact p4_m1) | (exfalso; omega; done) | (exfalso; contradiction; done)) (show qQC (m 99) (m 100) (m 98) (m 101) (m 102) (m 108) (qQ (aGr b (m 100 l2.toNatClampNeg)) (m 100 l2.toNatClampNeg)) (zNn (aGr b (m 100 l2.toNatClampNeg))) from by first | (exact QC_M p4_m1) | (exfalso; omega; done) | (exfalso; contradiction; done)) (show qKA (m 110) (m 99) (m 100) (m 98) (m 101) (m 102) (m 108) (m 118) (m 94 73) (qQ (aGr b (m 100 l2.toNatClampNeg)) (m 100 l2.toNatClampNeg)) (zNn (aGr b (m 100 l2.toNatClampNeg))) 3100 0 from by first | (exact absurd ws0.2.2.2.1 (by assumption)) | (exact KA_push (KA_b (KB_gr gKB) (by omega)) (by omega) (by omega) ws0.2.2.1 (zM_in (Or.inr rfl)) (by assumption) (by omega) (by omega) (by decide)) | (exfalso; omega; done) | (exfalso; contradiction; done)) (fun m3 hV_m3 p0_m3 p1_m3 p2_m3 => zmv_n ?_)
        have p0_m3 : (m3 94 73).toInt = 0 := p0_m3
        have p1_m3 : zle (m 110) (m3 110) := p1_m3
        have p2_m3 : qKA (m3 110) (m 99) (m 100) (m 98) (m 101) (m 102) (m 108) (m3 118) (m3 94 73) (qQ (aGr b (m 100 l2.toNatClampNeg)) (m 100 l2.toNatClampNeg)) (zNn (aGr b (m 100 l2.toNatClampNeg))) 3100 0 := p2_m3
        have f14 : 0 ≤ (m3 94 73).toInt ∧ (m3 94 73).toInt ≤ 3100 := rs_94_73 (m := (zov wr_191 (zov wr_197 m m1) m3)) hV_m3
        first | have f15 : 0 ≤ (m 100 l2.toNatClampNeg).toInt ∧ (m 100 l2.toNatClampNeg).toInt ≤ 100000 := ra_100 (m := m) hV (k := l2.toNatClampNeg) (i_ix (n := 3100) (by omega) (by omega)).2 | have b16 := i_bd (m 100 l2.toNatClampNeg)
        try have ws0 := WS_ge r_WS (by omega)
        refine sp_195r ((m 100 l2.toNatClampNeg)) ((0 : Int32)) hV_m3 (by omega) (fun v6 m5 hV_m5 p0_m5 p1_m5 => zmi_n ?_)
        have p0_m5 : zWS (m 100) (m 99) (m3 110) (m1 109) (m 100 l2.toNatClampNeg) v6 := p0_m5
        have p1_m5 : qMin (qCw (m 99) (m3 110) (m1 109) (m 100) (m 100 l2.toNatClampNeg)) (m 100) v6 3100 := p1_m5
        try have gw := GW_room p0_m1
        try have ws0 := WS_ge r_WS (by omega)
        have b17 := i_bd v6
        exact IH ((zmg (m 100) v6 : Int)).toNat (by have zq := zmg_lt (s := l2) (by omega) p0_m5 rfl (by omega) (by omega); omega) _ (v6) rfl (zF_zov (zF_zov (zF_zov hF ws_197_194) ws_191_194) ws_195_194) hV_m5 (by omega) (show (m 94 10).toInt = 4 ∧ (m 94 58).toInt = 0 from by omega) (show (m3 94 73).toInt = 0 from by omega) (show zWS (m 100) (m 99) (m3 110) (m1 109) (-1 : Int32) v6 from by first | (exact WS_weak p0_m5 (by omega)) | (exact p0_m5) | (exact Or.inl (by decide)) | (exact Or.inr ⟨by omega, by omega, by assumption, by assumption, by assumption, by omega⟩) | (exfalso; omega; done) | (exfalso; contradiction; done)) r_W p0_m1 (show zuw (m0 113) (m1 113) from by first | (exact zuw_tr r_UW p1_m1) | (exact zuw_rfl) | (exfalso; omega; done) | (exfalso; contradiction; done)) (show qGL4 (m 99) (m 100) (m 98) (m 101) (m 102) (m 103) (m 107) (m 108) (m1 109) (m 111) (m 112) (m1 113) (m1 114) (m1 94 55) (m 94 46) (m 94 11) (m 94 12) (m 94 62) (m 94 17) (m 94 9) (m3 110) v6 (m1 105) (aGw aa 0) from by first | (exact absurd ws0.2.2.2.1 (by assumption)) | (have nx := GL_nx gRB gQI gE0 gKB gl.1 gl.2 gMn (by omega) gT; have b5 : (b 69 5).toInt < 512 := (by rw [gRB.2.2.2.2.1.1]; exact GW_512 r_GW ws0.2.2.2.2.1 (by omega) (by omega) (by omega)); exact ⟨(aSp 512 (aCm (aGr b (m 100 l2.toNatClampNeg)) (m 100 l2.toNatClampNeg))), (m 100 l2.toNatClampNeg), RB_of p4_m1 (Of_tr (gr_cm (y := (m 100 l2.toNatClampNeg)) (E0_gr (y := (m 100 l2.toNatClampNeg)) gE0).1).2.1 (E0_sp (gr_cm (y := (m 100 l2.toNatClampNeg)) (E0_gr (y := (m 100 l2.toNatClampNeg)) gE0).1).1).2), KB_nx p4_m1 (KB_gr gKB) (E0_gr gE0) (by omega) (by omega) ws0.2.2.1 p2_m3 (by omega) p1_m3 (by decide), (E0_sp (gr_cm (y := (m 100 l2.toNatClampNeg)) (E0_gr (y := (m 100 l2.toNatClampNeg)) gE0).1).1).1, qI_of p5_m1 (Of_tr (gr_cm (y := (m 100 l2.toNatClampNeg)) (E0_gr (y := (m 100 l2.toNatClampNeg)) gE0).1).2.1 (E0_sp (gr_cm (y := (m 100 l2.toNatClampNeg)) (E0_gr (y := (m 100 l2.toNatClampNeg)) gE0).1).1).2), Cl_nx gCL gE0 b5 gQI.2.2.2.1.2.1.1 (R1_al gRB.1 (by omega) ws0.2.2.1) (by omega), ⟨nx.2.2, by rw [sp_6]; exact nx.2.1⟩, p1_m5, nx.1, Ct_o8 (Of_8 (Of_tr (gr_cm (y := (m 100 l2.toNatClampNeg)) (E0_gr (y := (m 100 l2.toNatClampNeg)) gE0).1).2.1 (E0_sp (gr_cm (y := (m 100 l2.toNatClampNeg)) (E0_gr (y := (m 100 l2.toNatClampNeg)) gE0).1).1).2)) (Ct_gr gRB.1 gCT gQI.2.2.2.1.2.1.1 b5 (tn_lt (by omega) (by omega)) ws0.2.2.1 p6_m1)⟩; done) | (exfalso; omega; done) | (exfalso; contradiction; done))
      · skip
        have g18 := i_nlt h12
        have hg19 : (0 ≤ l2 ∧ l2.toNatClampNeg < 3100) := i_ix (by omega) (by omega)
        refine ⟨hg19, ?_⟩
        first | have f20 : 0 ≤ (m 110 l2.toNatClampNeg).toInt ∧ (m 110 l2.toNatClampNeg).toInt ≤ 1 := ra_110 (m := m) hV (k := l2.toNatClampNeg) (i_ix (n := 3100) (by omega) (by omega)).2 | have b21 := i_bd (m 110 l2.toNatClampNeg)
        refine zd (fun (h22 : (m 110 l2.toNatClampNeg) = (0 : Int32)) => ?_) (fun (h22 : ¬ (m 110 l2.toNatClampNeg) = (0 : Int32)) => ?_)
        · skip
          have g23 := i_eq h22
          have hg24 : (0 ≤ l2 ∧ l2.toNatClampNeg < 3100) := i_ix (by omega) (by omega)
          refine ⟨hg24, ?_⟩
          have hg25 : (0 ≤ (m 94 73) ∧ (m 94 73).toNatClampNeg < 3100) := i_ix (by omega) (by omega)
          refine ⟨hg25, ?_⟩
          have li27 : (1 : Int32).toInt = 1 := rfl
          have hV26 : zV (ma_u (zov wr_197 m m1) 110 l2.toNatClampNeg (1 : Int32)) := ua_110 hV_m1 (by omega) (by omega)
          have hV28 : zV (ma_u (ma_u (zov wr_197 m m1) 110 l2.toNatClampNeg (1 : Int32)) 118 (m 94 73).toNatClampNeg l2) := ua_118 hV26 (by omega) (by omega)
          first | have e30 : ((m 94 73) + (1 : Int32)).toInt = (m 94 73).toInt + (1) := i_addk rfl (by omega) (by omega) | have b31 := i_bd ((m 94 73) + (1 : Int32))
          have hV29 : zV (ma_u (ma_u (ma_u (zov wr_197 m m1) 110 l2.toNatClampNeg (1 : Int32)) 118 (m 94 73).toNatClampNeg l2) 94 73 ((m 94 73) + (1 : Int32))) := us_94_73 hV28 (by omega) (by omega)
          try have ws0 := WS_ge r_WS (by omega)
          refine sp_191r (aa := (aGr b (m 100 l2.toNatClampNeg))) (QQ := (qQ (aGr b (m 100 l2.toNatClampNeg)) (m 100 l2.toNatClampNeg))) (DD := (zNn (aGr b (m 100 l2.toNatClampNeg))))  hV29 (show zKS ((ma_u m 110 l2.toNatClampNeg (1 : Int32)) 110) ((m 94 73) + (1 : Int32)) from by first | (exact KS_push (KS_0 (r := m 110) (y := m 94 73) (by omega)) (by assumption) (by omega) (by decide) (by assumption)) | (exfalso; omega; done) | (exfalso; contradiction; done)) r_W (show qRB (m 99) (m 100) (m 98) (m 101) (m 102) (m 103) (m 107) (m 108) (m1 109) (m 111) (m 112) (m1 113) (m1 114) (m1 94 55) (m 94 46) (m 94 11) (m 94 12) (m 94 62) (m 94 17) (m 94 9) (aGr b (m 100 l2.toNatClampNeg)) from by first | (exact p4_m1) | (exfalso; omega; done) | (exfalso; contradiction; done)) (show qQC (m 99) (m 100) (m 98) (m 101) (m 102) (m 108) (qQ (aGr b (m 100 l2.toNatClampNeg)) (m 100 l2.toNatClampNeg)) (zNn (aGr b (m 100 l2.toNatClampNeg))) from by first | (exact QC_M p4_m1) | (exfalso; omega; done) | (exfalso; contradiction; done)) (show qKA ((ma_u m 110 l2.toNatClampNeg (1 : Int32)) 110) (m 99) (m 100) (m 98) (m 101) (m 102) (m 108) ((ma_u m 118 (m 94 73).toNatClampNeg l2) 118) ((m 94 73) + (1 : Int32)) (qQ (aGr b (m 100 l2.toNatClampNeg)) (m 100 l2.toNatClampNeg)) (zNn (aGr b (m 100 l2.toNatClampNeg))) 3100 0 from by first | (exact absurd ws0.2.2.2.1 (by assumption)) | (exact KA_push (KA_b (KB_gr gKB) (by omega)) (by omega) (by omega) ws0.2.2.1 (zM_in (Or.inr rfl)) (by assumption) (by omega) (by omega) (by decide)) | (exfalso; omega; done) | (exfalso; contradiction; done)) (fun m7 hV_m7 p0_m7 p1_m7 p2_m7 => zmv_n ?_)
          have p0_m7 : (m7 94 73).toInt = 0 := p0_m7
          have p1_m7 : zle ((ma_u m 110 l2.toNatClampNeg (1 : Int32)) 110) (m7 110) := p1_m7
          have p2_m7 : qKA (m7 110) (m 99) (m 100) (m 98) (m 101) (m 102) (m 108) (m7 118) (m7 94 73) (qQ (aGr b (m 100 l2.toNatClampNeg)) (m 100 l2.toNatClampNeg)) (zNn (aGr b (m 100 l2.toNatClampNeg))) 3100 0 := p2_m7
          have f32 : 0 ≤ (m7 94 73).toInt ∧ (m7 94 73).toInt ≤ 3100 := rs_94_73 (m := (zov wr_191 (ma_u (ma_u (ma_u (zov wr_197 m m1) 110 l2.toNatClampNeg (1 : Int32)) 118 (m 94 73).toNatClampNeg l2) 94 73 ((m 94 73) + (1 : Int32))) m7)) hV_m7
          first | have f33 : 0 ≤ (m 100 l2.toNatClampNeg).toInt ∧ (m 100 l2.toNatClampNeg).toInt ≤ 100000 := ra_100 (m := m) hV (k := l2.toNatClampNeg) (i_ix (n := 3100) (by omega) (by omega)).2 | have b34 := i_bd (m 100 l2.toNatClampNeg)
          try have ws0 := WS_ge r_WS (by omega)
          refine sp_195r ((m 100 l2.toNatClampNeg)) ((0 : Int32)) hV_m7 (by omega) (fun v10 m9 hV_m9 p0_m9 p1_m9 => zmi_n ?_)
          have p0_m9 : zWS (m 100) (m 99) (m7 110) (m1 109) (m 100 l2.toNatClampNeg) v10 := p0_m9
          have p1_m9 : qMin (qCw (m 99) (m7 110) (m1 109) (m 100) (m 100 l2.toNatClampNeg)) (m 100) v10 3100 := p1_m9
          try have gw := GW_room p0_m1
          try have ws0 := WS_ge r_WS (by omega)
          have b35 := i_bd v10
          exact IH ((zmg (m 100) v10 : Int)).toNat (by have zq := zmg_lt (s := l2) (by omega) p0_m9 rfl (by omega) (by omega); omega) _ (v10) rfl (zF_zov (zF_zov (zF_u (zF_u (zF_u (zF_zov hF ws_197_194) rfl) rfl) rfl) ws_191_194) ws_195_194) hV_m9 (by omega) (show (m 94 10).toInt = 4 ∧ (m 94 58).toInt = 0 from by omega) (show (m7 94 73).toInt = 0 from by omega) (show zWS (m 100) (m 99) (m7 110) (m1 109) (-1 : Int32) v10 from by first | (exact WS_weak p0_m9 (by omega)) | (exact p0_m9) | (exact Or.inl (by decide)) | (exact Or.inr ⟨by omega, by omega, by assumption, by assumption, by assumption, by omega⟩) | (exfalso; omega; done) | (exfalso; contradiction; done)) r_W p0_m1 (show zuw (m0 113) (m1 113) from by first | (exact zuw_tr r_UW p1_m1) | (exact zuw_rfl) | (exfalso; omega; done) | (exfalso; contradiction; done)) (show qGL4 (m 99) (m 100) (m 98) (m 101) (m 102) (m 103) (m 107) (m 108) (m1 109) (m 111) (m 112) (m1 113) (m1 114) (m1 94 55) (m 94 46) (m 94 11) (m 94 12) (m 94 62) (m 94 17) (m 94 9) (m7 110) v10 (m1 105) (aGw aa 0) from by first | (exact absurd ws0.2.2.2.1 (by assumption)) | (have nx := GL_nx gRB gQI gE0 gKB gl.1 gl.2 gMn (by omega) gT; have b5 : (b 69 5).toInt < 512 := (by rw [gRB.2.2.2.2.1.1]; exact GW_512 r_GW ws0.2.2.2.2.1 (by omega) (by omega) (by omega)); exact ⟨(aSp 512 (aCm (aGr b (m 100 l2.toNatClampNeg)) (m 100 l2.toNatClampNeg))), (m 100 l2.toNatClampNeg), RB_of p4_m1 (Of_tr (gr_cm (y := (m 100 l2.toNatClampNeg)) (E0_gr (y := (m 100 l2.toNatClampNeg)) gE0).1).2.1 (E0_sp (gr_cm (y := (m 100 l2.toNatClampNeg)) (E0_gr (y := (m 100 l2.toNatClampNeg)) gE0).1).1).2), KB_nx p4_m1 (KB_gr gKB) (E0_gr gE0) (by omega) (by omega) ws0.2.2.1 p2_m7 (by omega) p1_m7 (by decide), (E0_sp (gr_cm (y := (m 100 l2.toNatClampNeg)) (E0_gr (y := (m 100 l2.toNatClampNeg)) gE0).1).1).1, qI_of p5_m1 (Of_tr (gr_cm (y := (m 100 l2.toNatClampNeg)) (E0_gr (y := (m 100 l2.toNatClampNeg)) gE0).1).2.1 (E0_sp (gr_cm (y := (m 100 l2.toNatClampNeg)) (E0_gr (y := (m 100 l2.toNatClampNeg)) gE0).1).1).2), Cl_nx gCL gE0 b5 gQI.2.2.2.1.2.1.1 (R1_al gRB.1 (by omega) ws0.2.2.1) (by omega), ⟨nx.2.2, by rw [sp_6]; exact nx.2.1⟩, p1_m9, nx.1, Ct_o8 (Of_8 (Of_tr (gr_cm (y := (m 100 l2.toNatClampNeg)) (E0_gr (y := (m 100 l2.toNatClampNeg)) gE0).1).2.1 (E0_sp (gr_cm (y := (m 100 l2.toNatClampNeg)) (E0_gr (y := (m 100 l2.toNatClampNeg)) gE0).1).1).2)) (Ct_gr gRB.1 gCT gQI.2.2.2.1.2.1.1 b5 (tn_lt (by omega) (by omega)) ws0.2.2.1 p6_m1)⟩; done) | (exfalso; omega; done) | (exfalso; contradiction; done))
        · skip
          have g36 := i_ne h22
          try have ws0 := WS_ge r_WS (by omega)
          refine sp_191r (aa := (aGr b (m 100 l2.toNatClampNeg))) (QQ := (qQ (aGr b (m 100 l2.toNatClampNeg)) (m 100 l2.toNatClampNeg))) (DD := (zNn (aGr b (m 100 l2.toNatClampNeg))))  hV_m1 (show zKS (m 110) (m 94 73) from by first | (exact KS_0 (by omega)) | (exfalso; omega; done) | (exfalso; contradiction; done)) r_W (show qRB (m 99) (m 100) (m 98) (m 101) (m 102) (m 103) (m 107) (m 108) (m1 109) (m 111) (m 112) (m1 113) (m1 114) (m1 94 55) (m 94 46) (m 94 11) (m 94 12) (m 94 62) (m 94 17) (m 94 9) (aGr b (m 100 l2.toNatClampNeg)) from by first | (exact p4_m1) | (exfalso; omega; done) | (exfalso; contradiction; done)) (show qQC (m 99) (m 100) (m 98) (m 101) (m 102) (m 108) (qQ (aGr b (m 100 l2.toNatClampNeg)) (m 100 l2.toNatClampNeg)) (zNn (aGr b (m 100 l2.toNatClampNeg))) from by first | (exact QC_M p4_m1) | (exfalso; omega; done) | (exfalso; contradiction; done)) (show qKA (m 110) (m 99) (m 100) (m 98) (m 101) (m 102) (m 108) (m 118) (m 94 73) (qQ (aGr b (m 100 l2.toNatClampNeg)) (m 100 l2.toNatClampNeg)) (zNn (aGr b (m 100 l2.toNatClampNeg))) 3100 0 from by first | (exact absurd ws0.2.2.2.1 (by assumption)) | (exact KA_push (KA_b (KB_gr gKB) (by omega)) (by omega) (by omega) ws0.2.2.1 (zM_in (Or.inr rfl)) (by assumption) (by omega) (by omega) (by decide)) | (exfalso; omega; done) | (exfalso; contradiction; done)) (fun m11 hV_m11 p0_m11 p1_m11 p2_m11 => zmv_n ?_)
          have p0_m11 : (m11 94 73).toInt = 0 := p0_m11
          have p1_m11 : zle (m 110) (m11 110) := p1_m11
          have p2_m11 : qKA (m11 110) (m 99) (m 100) (m 98) (m 101) (m 102) (m 108) (m11 118) (m11 94 73) (qQ (aGr b (m 100 l2.toNatClampNeg)) (m 100 l2.toNatClampNeg)) (zNn (aGr b (m 100 l2.toNatClampNeg))) 3100 0 := p2_m11
          have f37 : 0 ≤ (m11 94 73).toInt ∧ (m11 94 73).toInt ≤ 3100 := rs_94_73 (m := (zov wr_191 (zov wr_197 m m1) m11)) hV_m11
          first | have f38 : 0 ≤ (m 100 l2.toNatClampNeg).toInt ∧ (m 100 l2.toNatClampNeg).toInt ≤ 100000 := ra_100 (m := m) hV (k := l2.toNatClampNeg) (i_ix (n := 3100) (by omega) (by omega)).2 | have b39 := i_bd (m 100 l2.toNatClampNeg)
          try have ws0 := WS_ge r_WS (by omega)
          refine sp_195r ((m 100 l2.toNatClampNeg)) ((0 : Int32)) hV_m11 (by omega) (fun v14 m13 hV_m13 p0_m13 p1_m13 => zmi_n ?_)
          have p0_m13 : zWS (m 100) (m 99) (m11 110) (m1 109) (m 100 l2.toNatClampNeg) v14 := p0_m13
          have p1_m13 : qMin (qCw (m 99) (m11 110) (m1 109) (m 100) (m 100 l2.toNatClampNeg)) (m 100) v14 3100 := p1_m13
          try have gw := GW_room p0_m1
          try have ws0 := WS_ge r_WS (by omega)
          have b40 := i_bd v14
          exact IH ((zmg (m 100) v14 : Int)).toNat (by have zq := zmg_lt (s := l2) (by omega) p0_m13 rfl (by omega) (by omega); omega) _ (v14) rfl (zF_zov (zF_zov (zF_zov hF ws_197_194) ws_191_194) ws_195_194) hV_m13 (by omega) (show (m 94 10).toInt = 4 ∧ (m 94 58).toInt = 0 from by omega) (show (m11 94 73).toInt = 0 from by omega) (show zWS (m 100) (m 99) (m11 110) (m1 109) (-1 : Int32) v14 from by first | (exact WS_weak p0_m13 (by omega)) | (exact p0_m13) | (exact Or.inl (by decide)) | (exact Or.inr ⟨by omega, by omega, by assumption, by assumption, by assumption, by omega⟩) | (exfalso; omega; done) | (exfalso; contradiction; done)) r_W p0_m1 (show zuw (m0 113) (m1 113) from by first | (exact zuw_tr r_UW p1_m1) | (exact zuw_rfl) | (exfalso; omega; done) | (exfalso; contradiction; done)) (show qGL4 (m 99) (m 100) (m 98) (m 101) (m 102) (m 103) (m 107) (m 108) (m1 109) (m 111) (m 112) (m1 113) (m1 114) (m1 94 55) (m 94 46) (m 94 11) (m 94 12) (m 94 62) (m 94 17) (m 94 9) (m11 110) v14 (m1 105) (aGw aa 0) from by first | (exact absurd ws0.2.2.2.1 (by assumption)) | (have nx := GL_nx gRB gQI gE0 gKB gl.1 gl.2 gMn (by omega) gT; have b5 : (b 69 5).toInt < 512 := (by rw [gRB.2.2.2.2.1.1]; exact GW_512 r_GW ws0.2.2.2.2.1 (by omega) (by omega) (by omega)); exact ⟨(aSp 512 (aCm (aGr b (m 100 l2.toNatClampNeg)) (m 100 l2.toNatClampNeg))), (m 100 l2.toNatClampNeg), RB_of p4_m1 (Of_tr (gr_cm (y := (m 100 l2.toNatClampNeg)) (E0_gr (y := (m 100 l2.toNatClampNeg)) gE0).1).2.1 (E0_sp (gr_cm (y := (m 100 l2.toNatClampNeg)) (E0_gr (y := (m 100 l2.toNatClampNeg)) gE0).1).1).2), KB_nx p4_m1 (KB_gr gKB) (E0_gr gE0) (by omega) (by omega) ws0.2.2.1 p2_m11 (by omega) p1_m11 (by decide), (E0_sp (gr_cm (y := (m 100 l2.toNatClampNeg)) (E0_gr (y := (m 100 l2.toNatClampNeg)) gE0).1).1).1, qI_of p5_m1 (Of_tr (gr_cm (y := (m 100 l2.toNatClampNeg)) (E0_gr (y := (m 100 l2.toNatClampNeg)) gE0).1).2.1 (E0_sp (gr_cm (y := (m 100 l2.toNatClampNeg)) (E0_gr (y := (m 100 l2.toNatClampNeg)) gE0).1).1).2), Cl_nx gCL gE0 b5 gQI.2.2.2.1.2.1.1 (R1_al gRB.1 (by omega) ws0.2.2.1) (by omega), ⟨nx.2.2, by rw [sp_6]; exact nx.2.1⟩, p1_m13, nx.1, Ct_o8 (Of_8 (Of_tr (gr_cm (y := (m 100 l2.toNatClampNeg)) (E0_gr (y := (m 100 l2.toNatClampNeg)) gE0).1).2.1 (E0_sp (gr_cm (y := (m 100 l2.toNatClampNeg)) (E0_gr (y := (m 100 l2.toNatClampNeg)) gE0).1).1).2)) (Ct_gr gRB.1 gCT gQI.2.2.2.1.2.1.1 b5 (tn_lt (by omega) (by omega)) ws0.2.2.1 p6_m1)⟩; done) | (exfalso; omega; done) | (exfalso; contradiction; done))
set_option maxHeartbeats 8000000 in
theorem sp_194r4 {X : Nat × (Nat → Int32)} {P : Option ma_V → (Nat → Nat → Int32) → Prop} {T : Nat} {aa : Nat→Nat→Int32} {m : Nat → Nat → Int32}  (hV : zV m) (hpre0 : T ≤ 512) (hpre1 : (m 94 10).toInt = 4 ∧ (m 94 58).toInt = 0) (hpre2 : (m 94 73).toInt = 0) (r_W : zW (m 94 7) (m 98) (m 101) (m 102) (m 108)) (r_GW : zGW T (m 94 55) (m 109)) (r_RB : qRB (m 99) (m 100) (m 98) (m 101) (m 102) (m 103) (m 107) (m 108) (m 109) (m 111) (m 112) (m 113) (m 114) (m 94 55) (m 94 46) (m 94 11) (m 94 12) (m 94 62) (m 94 17) (m 94 9) aa) (r_QI : qI aa) (r_KB : qKB (m 110) (m 99) (m 100) aa) (r_E0 : qE0 aa) (r_CLr : qCl aa) (r_CT : qCt (m 105) (m 99) (m 100) aa [] (-1) (-1)) (KZ : ∀ m₉, zV (zov wr_194 m m₉) → ((m₉ 94 73).toInt = 0) → (zGW T (m₉ 94 55) (m₉ 109)) → (zuw (m 113) (m₉ 113)) → (qRB (m 99) (m 100) (m 98) (m 101) (m 102) (m 103) (m 107) (m 108) (m₉ 109) (m 111) (m 112) (m₉ 113) (m₉ 114) (m₉ 94 55) (m 94 46) (m 94 11) (m 94 12) (m 94 62) (m 94 17) (m 94 9) (aGw aa 0)) → (qI (aGw aa 0)) → (qKB (m₉ 110) (m 99) (m 100) (aGw aa 0)) → (qE0 (aGw aa 0)) → (qCl (aGw aa 0)) → (qCt (m₉ 105) (m 99) (m 100) (aGw aa 0) [] (-1) (-1)) → P none (zov wr_194 m m₉)) : zm X 3 66 194 0 [(0, .inr (.inr (some 94)))] m P := by
  have K : ∀ m₉, zF wr_194 m m₉ → zV m₉ → ((m₉ 94 73).toInt = 0) → (zGW T (m₉ 94 55) (m₉ 109)) → (zuw (m 113) (m₉ 113)) → (qRB (m₉ 99) (m₉ 100) (m₉ 98) (m₉ 101) (m₉ 102) (m₉ 103) (m₉ 107) (m₉ 108) (m₉ 109) (m₉ 111) (m₉ 112) (m₉ 113) (m₉ 114) (m₉ 94 55) (m₉ 94 46) (m₉ 94 11) (m₉ 94 12) (m₉ 94 62) (m₉ 94 17) (m₉ 94 9) (aGw aa 0)) → (qI (aGw aa 0)) → (qKB (m₉ 110) (m₉ 99) (m₉ 100) (aGw aa 0)) → (qE0 (aGw aa 0)) → (qCl (aGw aa 0)) → (qCt (m₉ 105) (m₉ 99) (m₉ 100) (aGw aa 0) [] (-1) (-1)) → P none m₉ := by
    intro m₉ hf z q0 q1 q2 q3 q4 q5 q6 q7 q8
    have e := zov_eq hf
    rw [e] at z ⊢
    try rw [e] at q0
    try rw [e] at q1
    try rw [e] at q2
    try rw [e] at q3
    try rw [e] at q4
    try rw [e] at q5
    try rw [e] at q6
    try rw [e] at q7
    try rw [e] at q8
    exact KZ m₉ z q0 q1 q2 q3 q4 q5 q6 q7 q8
  refine g_194_0  ?_
  have f1 : 0 ≤ (m 94 10).toInt ∧ (m 94 10).toInt ≤ 6 := rs_94_10 (m := m) hV
  have f2 : 0 ≤ (m 94 58).toInt ∧ (m 94 58).toInt ≤ 1 := rs_94_58 (m := m) hV
  have f3 : 0 ≤ (m 94 73).toInt ∧ (m 94 73).toInt ≤ 3100 := rs_94_73 (m := m) hV
  have li4 : (-1 : Int32).toInt = -1 := rfl
  have li5 : (0 : Int32).toInt = 0 := rfl
  try have ws0 := WS_ge r_WS (by omega)
  refine sp_195r ((-1 : Int32)) ((0 : Int32)) hV (by omega) (fun v2 m1 hV_m1 p0_m1 p1_m1 => zmi_n ?_)
  have p0_m1 : zWS (m 100) (m 99) (m 110) (m 109) (-1 : Int32) v2 := p0_m1
  have p1_m1 : qMin (qCw (m 99) (m 110) (m 109) (m 100) (-1 : Int32)) (m 100) v2 3100 := p1_m1
  try have gw := GW_room r_GW
  try have ws0 := WS_ge r_WS (by omega)
  have b6 := i_bd v2
  exact lp_194r4_9 hV K _ _ (v2) rfl (zF_zov zF_rfl ws_195_194) hV_m1 (by omega) (show (m 94 10).toInt = 4 ∧ (m 94 58).toInt = 0 from by omega) (show (m 94 73).toInt = 0 from by omega) p0_m1 r_W r_GW (show zuw (m 113) (m 113) from by first | (exact zuw_rfl) | (exact zuw_rfl) | (exfalso; omega; done) | (exfalso; contradiction; done)) (show qGL4 (m 99) (m 100) (m 98) (m 101) (m 102) (m 103) (m 107) (m 108) (m 109) (m 111) (m 112) (m 113) (m 114) (m 94 55) (m 94 46) (m 94 11) (m 94 12) (m 94 62) (m 94 17) (m 94 9) (m 110) v2 (m 105) (aGw aa 0) from by first | (exact ⟨aa, -1, r_RB, r_KB, r_E0, r_QI, r_CLr, ⟨by decide, by have := r_QI.2.2.2.1.1.1; have e1 : (-1 : Int32).toInt = -1 := rfl; omega⟩, p1_m1, rfl, r_CT⟩) | (exfalso; omega; done) | (exfalso; contradiction; done))

/-! from 95.o13 -/
/-! the reference under COUNTS (written by wip/tools/gen20s.py) -/
set_option maxHeartbeats 8000000 in
theorem lp_200r4_50 {X : Nat × (Nat → Int32)} {P : Option ma_V → (Nat → Nat → Int32) → Prop} {T : Nat} {aa : Nat→Nat→Int32} {w0 : Nat→Int32} {m0 : Nat → Nat → Int32} (h0 : zV m0) (K : ∀ v m₉, zF wr_200 m0 m₉ → zV m₉ → (zrm (m0 99) (m₉ 99) (m₉ 110) 3100) → (zowr (m0 111) (m₉ 111) (m0 99) (m₉ 110) (m₉ 103)) → (zGU T (m₉ 94 46) (m₉ 99)) → (zOw (m₉ 99) (m₉ 103) (m₉ 111)) → ((m₉ 94 45).toInt = sm (zbU (m₉ 99)) (m₉ 102) 3100) → (qCD aa (m₉ 105) (m0 99) (m₉ 100) (m₉ 110) 3100) → P (some (.inl v)) m₉) {n4 : Nat} (OUT4 : ∀ (m₉ : Nat → Nat → Int32) (l1 : Int32) (l2 : Int32), (3100 - l2.toInt).toNat < n4 → zF wr_200 m0 m₉ → zV m₉ → (0 ≤ l2.toInt) → (l2.toInt ≤ 3100) → ((m₉ 94 10).toInt = 4 ∧ (m₉ 94 58).toInt = 0) → (zW (m₉ 94 7) (m₉ 98) (m₉ 101) (m₉ 102) (m₉ 108)) → (zGU T (m₉ 94 46) (m₉ 99)) → (zOw (m₉ 99) (m₉ 103) (m₉ 111)) → (zrm (m0 99) (m₉ 99) (m₉ 110) l2.toNatClampNeg) → (zowr (m0 111) (m₉ 111) (m0 99) (m₉ 110) (m₉ 103)) → ((m₉ 94 45).toInt = sm (zbU (m₉ 99)) (m₉ 102) 3100) → (qRB (m0 99) (m₉ 100) (m₉ 98) (m₉ 101) (m₉ 102) (m₉ 103) (m₉ 107) (m₉ 108) (m₉ 109) (m0 111) (m₉ 112) w0 (m₉ 114) (m₉ 94 55) (m₉ 94 46) (m₉ 94 11) (m₉ 94 12) (m₉ 94 62) (m₉ 94 17) (m₉ 94 9) aa) → (qCD aa (m₉ 105) (m0 99) (m₉ 100) (m₉ 110) l2.toNatClampNeg) → zm X 2 44 200 4 [(0, .inr (.inr (some 94))), (1, .inl l1), (2, .inl l2)] m₉ P) : ∀ (n : Nat) (m : Nat → Nat → Int32) (l1 : Int32) (l2 : Int32) (l3 : Int32), (61 - l3.toInt).toNat = n → zF wr_200 m0 m → zV m → (0 ≤ l2.toInt) → (l2.toInt ≤ 3099) → (0 ≤ l3.toInt) → ((m 94 10).toInt = 4 ∧ (m 94 58).toInt = 0) → ((m 94 10).toInt = 4) → ((3100 - l2.toInt).toNat = n4) → (zW (m 94 7) (m 98) (m 101) (m 102) (m 108)) → (zGU T (m 94 46) (m 99)) → (zOw (m 99) (m 103) (m 111)) → (zrm (m0 99) (m 99) (m 110) l2.toNatClampNeg) → (zowr (m0 111) (m 111) (m0 99) (m 110) (m 103)) → ((m 99) l2.toNatClampNeg ≠ 0 ∧ (m 110) l2.toNatClampNeg = 0) → ((m 94 45).toInt = sm (zbU (m 99)) (m 102) 3100) → (qRB (m0 99) (m 100) (m 98) (m 101) (m 102) (m 103) (m 107) (m 108) (m 109) (m0 111) (m 112) w0 (m 114) (m 94 55) (m 94 46) (m 94 11) (m 94 12) (m 94 62) (m 94 17) (m 94 9) aa) → (qCI aa (m 105) (m0 99) (m 100) (m 110) l2.toNatClampNeg l3.toNatClampNeg) → (l3.toInt ≤ ((m 102) l2.toNatClampNeg).toInt) → zm X 2 44 200 50 [(0, .inr (.inr (some 94))), (1, .inl l1), (2, .inl l2), (3, .inl l3)] m P := by
  intro n
  induction n using Nat.strongRecOn with
  | _ n IH =>
    intro m l1 l2 l3 hmu hF hV hi0 hi1 hi2 hi3 hi4 hi5 r_W r_GU r_OW r_RM r_OWR r_UK r_WTS r_RBo r_CI r_LW
    refine g_200_50 l1 l2 l3 ?_
    have f1 : 0 ≤ (m 94 10).toInt ∧ (m 94 10).toInt ≤ 6 := rs_94_10 (m := m) hV
    have f2 : 0 ≤ (m 94 58).toInt ∧ (m 94 58).toInt ≤ 1 := rs_94_58 (m := m) hV
    have b3 := i_bd l2
    have hg4 : (0 ≤ l2 ∧ l2.toNatClampNeg < 3100) := i_ix (by omega) (by omega)
    refine ⟨hg4, ?_⟩
    first | have f5 : 0 ≤ (m 102 l2.toNatClampNeg).toInt ∧ (m 102 l2.toNatClampNeg).toInt ≤ 60 := ra_102 (m := m) hV (k := l2.toNatClampNeg) (i_ix (n := 3100) (by omega) (by omega)).2 | have b6 := i_bd (m 102 l2.toNatClampNeg)
    have b7 := i_bd l3
    refine zd (fun (h8 : (m 102 l2.toNatClampNeg) ≤ l3) => ?_) (fun (h8 : ¬ (m 102 l2.toNatClampNeg) ≤ l3) => ?_)
    · skip
      have g9 := i_le h8
      have hg10 : (0 ≤ l2 ∧ l2.toNatClampNeg < 3100) := i_ix (by omega) (by omega)
      refine ⟨hg10, ?_⟩
      have hg11 : (0 ≤ l2 ∧ l2.toNatClampNeg < 3100) := i_ix (by omega) (by omega)
      refine ⟨hg11, ?_⟩
      first | have f12 : 0 ≤ (m 103 l2.toNatClampNeg).toInt ∧ (m 103 l2.toNatClampNeg).toInt ≤ 4599 := ra_103 (m := m) hV (k := l2.toNatClampNeg) (i_ix (n := 3100) (by omega) (by omega)).2 | have b13 := i_bd (m 103 l2.toNatClampNeg)
      have hg14 : (0 ≤ (m 103 l2.toNatClampNeg) ∧ (m 103 l2.toNatClampNeg).toNatClampNeg < 4600) := i_ix (by omega) (by omega)
      refine ⟨hg14, ?_⟩
      have hg15 : (0 ≤ l2 ∧ l2.toNatClampNeg < 3100) := i_ix (by omega) (by omega)
      refine ⟨hg15, ?_⟩
      have hg16 : (0 ≤ l2 ∧ l2.toNatClampNeg < 3100) := i_ix (by omega) (by omega)
      refine ⟨hg16, ?_⟩
      have li18 : (0 : Int32).toInt = 0 := rfl
      have hV17 : zV (ma_u m 99 l2.toNatClampNeg (0 : Int32)) := ua_99 hV (by omega) (by omega)
      have li20 : (-1 : Int32).toInt = -1 := rfl
      have hV19 : zV (ma_u (ma_u m 99 l2.toNatClampNeg (0 : Int32)) 111 (m 103 l2.toNatClampNeg).toNatClampNeg (-1 : Int32)) := ua_111 hV17 (by omega) (by omega)
      have hV21 : zV (ma_u (ma_u (ma_u m 99 l2.toNatClampNeg (0 : Int32)) 111 (m 103 l2.toNatClampNeg).toNatClampNeg (-1 : Int32)) 94 44 ((m 94 44) - (1 : Int32))) := uf_94_44 hV19
      have hV22 : zV (ma_u (ma_u (ma_u (ma_u m 99 l2.toNatClampNeg (0 : Int32)) 111 (m 103 l2.toNatClampNeg).toNatClampNeg (-1 : Int32)) 94 44 ((m 94 44) - (1 : Int32))) 94 45 ((m 94 45) - ((m 102 l2.toNatClampNeg) + (1 : Int32)))) := uf_94_45 hV21
      have hV23 : zV (ma_u (ma_u (ma_u (ma_u (ma_u m 99 l2.toNatClampNeg (0 : Int32)) 111 (m 103 l2.toNatClampNeg).toNatClampNeg (-1 : Int32)) 94 44 ((m 94 44) - (1 : Int32))) 94 45 ((m 94 45) - ((m 102 l2.toNatClampNeg) + (1 : Int32)))) 94 49 ((m 94 49) + ((m 102 l2.toNatClampNeg) + (1 : Int32)))) := uf_94_49 hV22
      have b24 := i_bd l1
      first | have e25 : (l2 + (1 : Int32)).toInt = l2.toInt + (1) := i_addk rfl (by omega) (by omega) | have b26 := i_bd (l2 + (1 : Int32))
      exact OUT4 _ (l1) ((l2 + (1 : Int32))) (show (3100 - (l2 + (1 : Int32)).toInt).toNat < n4 from by omega) (zF_u (zF_u (zF_u (zF_u (zF_u hF rfl) rfl) rfl) rfl) rfl) hV23 (by omega) (by omega) (show (m 94 10).toInt = 4 ∧ (m 94 58).toInt = 0 from by omega) r_W (show zGU T (m 94 46) ((ma_u m 99 l2.toNatClampNeg (0 : Int32)) 99) from by first | (exact GU_0 r_GU) | (exfalso; omega; done) | (exfalso; contradiction; done)) (show zOw ((ma_u m 99 l2.toNatClampNeg (0 : Int32)) 99) (m 103) ((ma_u m 111 (m 103 l2.toNatClampNeg).toNatClampNeg (-1 : Int32)) 111) from by first | (exact Ow_rm r_OW (by decide) (tn_cast (by omega)).symm) | (exfalso; omega; done) | (exfalso; contradiction; done)) (show zrm (m0 99) ((ma_u m 99 l2.toNatClampNeg (0 : Int32)) 99) (m 110) (l2 + (1 : Int32)).toNatClampNeg from by first | (exact rm_put r_RM (by assumption) (tn_succ (by omega) (by omega))) | (exact rm_put r_RM r_UK.2 (tn_succ (by omega) (by omega))) | (exfalso; omega; done) | (exfalso; contradiction; done)) (show zowr (m0 111) ((ma_u m 111 (m 103 l2.toNatClampNeg).toNatClampNeg (-1 : Int32)) 111) (m0 99) (m 110) (m 103) from by first | (exact owr_put r_OWR (s := l2.toNatClampNeg) (by omega) (rm_us r_RM (by omega) (by assumption)) (by assumption) (by decide) (tn_cast (by omega)).symm) | (exact owr_put r_OWR (s := l2.toNatClampNeg) (by omega) (rm_us r_RM (by omega) r_UK.1) r_UK.2 (by decide) (tn_cast (by omega)).symm) | (exfalso; omega; done) | (exfalso; contradiction; done)) (show ((m 94 45) - ((m 102 l2.toNatClampNeg) + (1 : Int32))).toInt = sm (zbU ((ma_u m 99 l2.toNatClampNeg (0 : Int32)) 99)) (m 102) 3100 from by first | (exact WT_rm r_WTS (by omega) (by assumption) (fun t ht => ra_102 hV ht)) | (exact WT_rm r_WTS (tn_lt (by omega) (by omega)) r_UK.1 (fun t ht => ra_102 hV ht)) | (exfalso; omega; done) | (exfalso; contradiction; done)) r_RBo (show qCD aa (m 105) (m0 99) (m 100) (m 110) (l2 + (1 : Int32)).toNatClampNeg from by first | (exact CI_e r_CI r_RBo (tn_lt (by omega) (by omega)) (rm_us r_RM (by omega) r_UK.1) r_UK.2 (by have lw := r_LW; rw [tn_cast (by omega)]; omega) (tn_succ (by omega) (by omega))) | (exfalso; omega; done) | (exfalso; contradiction; done))
    · skip
      have g27 := i_nle h8
      refine sp_192 (l2) (l3) hV (by omega) (by omega) (by omega) (show l3.toInt < (m 102 l2.toNatClampNeg).toInt from by omega) (fun v2 m1 hV_m1 p0_m1 => zmi_n ?_)
      have p0_m1 : v2 = zrf (m 98) (m 101) (m 108) l2.toNatClampNeg l3.toNatClampNeg := p0_m1
      try have := W_ref r_W (by omega) (by omega) (by omega) (by omega) p0_m1
      have b28 := i_bd v2
      have li29 : (0 : Int32).toInt = 0 := rfl
      refine zd (fun (h30 : v2 < (0 : Int32)) => ?_) (fun (h30 : ¬ v2 < (0 : Int32)) => ?_)
      · skip
        have g31 := i_lt h30
        have b32 := i_bd l1
        first | have e33 : (l3 + (1 : Int32)).toInt = l3.toInt + (1) := i_addk rfl (by omega) (by omega) | have b34 := i_bd (l3 + (1 : Int32))
        exact IH (61 - (l3 + (1 : Int32)).toInt).toNat (by omega) _ (l1) (l2) ((l3 + (1 : Int32))) rfl (zF_zov hF ws_192_200) hV_m1 (by omega) (by omega) (by omega) (show (m 94 10).toInt = 4 ∧ (m 94 58).toInt = 0 from by omega) (show (m 94 10).toInt = 4 from by omega) (by omega) r_W r_GU r_OW r_RM r_OWR r_UK r_WTS r_RBo (show qCI aa (m 105) (m0 99) (m 100) (m 110) l2.toNatClampNeg (l3 + (1 : Int32)).toNatClampNeg from by first | (exact CI_n r_CI r_RBo (tn_lt (by omega) (by omega)) (rm_us r_RM (by omega) r_UK.1) (by rw [tn_cast (by omega)]; omega) p0_m1 (Or.inl (by omega)) (tn_succ (by omega) (by omega))) | (exact CI_n r_CI r_RBo (tn_lt (by omega) (by omega)) (rm_us r_RM (by omega) r_UK.1) (by rw [tn_cast (by omega)]; omega) p0_m1 (Or.inr (by assumption)) (tn_succ (by omega) (by omega))) | (exfalso; omega; done) | (exfalso; contradiction; done)) (show (l3 + (1 : Int32)).toInt ≤ ((m 102) l2.toNatClampNeg).toInt from by first | (have w60 := ra_102 hV (k := l2.toNatClampNeg) (by omega); have z0 : (0 : Int32).toInt = 0 := rfl; omega; done) | (omega; done) | (exfalso; omega; done) | (exfalso; contradiction; done))
      · skip
        have g35 := i_nlt h30
        have hg36 : (0 ≤ v2 ∧ v2.toNatClampNeg < 3100) := i_ix (by omega) (by omega)
        refine ⟨hg36, ?_⟩
        first | have f37 : 0 ≤ (m 110 v2.toNatClampNeg).toInt ∧ (m 110 v2.toNatClampNeg).toInt ≤ 1 := ra_110 (m := m) hV (k := v2.toNatClampNeg) (i_ix (n := 3100) (by omega) (by omega)).2 | have b38 := i_bd (m 110 v2.toNatClampNeg)
        refine zd (fun (h39 : (m 110 v2.toNatClampNeg) = (0 : Int32)) => ?_) (fun (h39 : ¬ (m 110 v2.toNatClampNeg) = (0 : Int32)) => ?_)
        · skip
          have g40 := i_eq h39
          have b41 := i_bd l1
          first | have e42 : (l3 + (1 : Int32)).toInt = l3.toInt + (1) := i_addk rfl (by omega) (by omega) | have b43 := i_bd (l3 + (1 : Int32))
          exact IH (61 - (l3 + (1 : Int32)).toInt).toNat (by omega) _ (l1) (l2) ((l3 + (1 : Int32))) rfl (zF_zov hF ws_192_200) hV_m1 (by omega) (by omega) (by omega) (show (m 94 10).toInt = 4 ∧ (m 94 58).toInt = 0 from by omega) (show (m 94 10).toInt = 4 from by omega) (by omega) r_W r_GU r_OW r_RM r_OWR r_UK r_WTS r_RBo (show qCI aa (m 105) (m0 99) (m 100) (m 110) l2.toNatClampNeg (l3 + (1 : Int32)).toNatClampNeg from by first | (exact CI_n r_CI r_RBo (tn_lt (by omega) (by omega)) (rm_us r_RM (by omega) r_UK.1) (by rw [tn_cast (by omega)]; omega) p0_m1 (Or.inl (by omega)) (tn_succ (by omega) (by omega))) | (exact CI_n r_CI r_RBo (tn_lt (by omega) (by omega)) (rm_us r_RM (by omega) r_UK.1) (by rw [tn_cast (by omega)]; omega) p0_m1 (Or.inr (by assumption)) (tn_succ (by omega) (by omega))) | (exfalso; omega; done) | (exfalso; contradiction; done)) (show (l3 + (1 : Int32)).toInt ≤ ((m 102) l2.toNatClampNeg).toInt from by first | (have w60 := ra_102 hV (k := l2.toNatClampNeg) (by omega); have z0 : (0 : Int32).toInt = 0 := rfl; omega; done) | (omega; done) | (exfalso; omega; done) | (exfalso; contradiction; done))
        · skip
          have g44 := i_ne h39
          have hg45 : (0 ≤ v2 ∧ v2.toNatClampNeg < 3100) := i_ix (by omega) (by omega)
          refine ⟨hg45, ?_⟩
          have hg46 : (0 ≤ v2 ∧ v2.toNatClampNeg < 3100) := i_ix (by omega) (by omega)
          refine ⟨hg46, ?_⟩
          have hV47 : zV (ma_u (zov wr_192 m m1) 105 v2.toNatClampNeg ((m 105 v2.toNatClampNeg) - (1 : Int32))) := ua_105 hV_m1
          have b48 := i_bd l1
          first | have e49 : (l3 + (1 : Int32)).toInt = l3.toInt + (1) := i_addk rfl (by omega) (by omega) | have b50 := i_bd (l3 + (1 : Int32))
          exact IH (61 - (l3 + (1 : Int32)).toInt).toNat (by omega) _ (l1) (l2) ((l3 + (1 : Int32))) rfl (zF_u (zF_zov hF ws_192_200) rfl) hV47 (by omega) (by omega) (by omega) (show (m 94 10).toInt = 4 ∧ (m 94 58).toInt = 0 from by omega) (show (m 94 10).toInt = 4 from by omega) (by omega) r_W r_GU r_OW r_RM r_OWR r_UK r_WTS r_RBo (show qCI aa ((ma_u m 105 v2.toNatClampNeg ((m 105 v2.toNatClampNeg) - (1 : Int32))) 105) (m0 99) (m 100) (m 110) l2.toNatClampNeg (l3 + (1 : Int32)).toNatClampNeg from by first | (exact CI_y r_CI r_RBo (tn_lt (by omega) (by omega)) (rm_us r_RM (by omega) r_UK.1) (by rw [tn_cast (by omega)]; omega) p0_m1 (by omega) mu_up (tn_succ (by omega) (by omega))) | (exfalso; omega; done) | (exfalso; contradiction; done)) (show (l3 + (1 : Int32)).toInt ≤ ((m 102) l2.toNatClampNeg).toInt from by first | (have w60 := ra_102 hV (k := l2.toNatClampNeg) (by omega); have z0 : (0 : Int32).toInt = 0 := rfl; omega; done) | (omega; done) | (exfalso; omega; done) | (exfalso; contradiction; done))
set_option maxHeartbeats 8000000 in
theorem lp_200r4_4 {X : Nat × (Nat → Int32)} {P : Option ma_V → (Nat → Nat → Int32) → Prop} {T : Nat} {aa : Nat→Nat→Int32} {w0 : Nat→Int32} {m0 : Nat → Nat → Int32} (h0 : zV m0) (K : ∀ v m₉, zF wr_200 m0 m₉ → zV m₉ → (zrm (m0 99) (m₉ 99) (m₉ 110) 3100) → (zowr (m0 111) (m₉ 111) (m0 99) (m₉ 110) (m₉ 103)) → (zGU T (m₉ 94 46) (m₉ 99)) → (zOw (m₉ 99) (m₉ 103) (m₉ 111)) → ((m₉ 94 45).toInt = sm (zbU (m₉ 99)) (m₉ 102) 3100) → (qCD aa (m₉ 105) (m0 99) (m₉ 100) (m₉ 110) 3100) → P (some (.inl v)) m₉) : ∀ (n : Nat) (m : Nat → Nat → Int32) (l1 : Int32) (l2 : Int32), (3100 - l2.toInt).toNat = n → zF wr_200 m0 m → zV m → (0 ≤ l2.toInt) → (l2.toInt ≤ 3100) → ((m 94 10).toInt = 4 ∧ (m 94 58).toInt = 0) → (zW (m 94 7) (m 98) (m 101) (m 102) (m 108)) → (zGU T (m 94 46) (m 99)) → (zOw (m 99) (m 103) (m 111)) → (zrm (m0 99) (m 99) (m 110) l2.toNatClampNeg) → (zowr (m0 111) (m 111) (m0 99) (m 110) (m 103)) → ((m 94 45).toInt = sm (zbU (m 99)) (m 102) 3100) → (qRB (m0 99) (m 100) (m 98) (m 101) (m 102) (m 103) (m 107) (m 108) (m 109) (m0 111) (m 112) w0 (m 114) (m 94 55) (m 94 46) (m 94 11) (m 94 12) (m 94 62) (m 94 17) (m 94 9) aa) → (qCD aa (m 105) (m0 99) (m 100) (m 110) l2.toNatClampNeg) → zm X 2 44 200 4 [(0, .inr (.inr (some 94))), (1, .inl l1), (2, .inl l2)] m P := by
  intro n
  induction n using Nat.strongRecOn with
  | _ n IH =>
    intro m l1 l2 hmu hF hV hi0 hi1 hi2 r_W r_GU r_OW r_RM r_OWR r_WTS r_RBo r_CD
    refine g_200_4 l1 l2 ?_
    have f1 : 0 ≤ (m 94 10).toInt ∧ (m 94 10).toInt ≤ 6 := rs_94_10 (m := m) hV
    have f2 : 0 ≤ (m 94 58).toInt ∧ (m 94 58).toInt ≤ 1 := rs_94_58 (m := m) hV
    have li3 : (3100 : Int32).toInt = 3100 := rfl
    have b4 := i_bd l2
    refine zd (fun (h5 : (3100 : Int32) ≤ l2) => ?_) (fun (h5 : ¬ (3100 : Int32) ≤ l2) => ?_)
    · skip
      have g6 := i_le h5
      have b7 := i_bd l1
      exact K (l1) _ hF hV (show zrm (m0 99) (m 99) (m 110) 3100 from by first | (exact rm_end r_RM (by rw [tn_eq]; omega)) | (exfalso; omega; done) | (exfalso; contradiction; done)) r_OWR r_GU r_OW r_WTS (show qCD aa (m 105) (m0 99) (m 100) (m 110) 3100 from by first | (exact (show l2.toNatClampNeg = 3100 from by rw [tn_eq]; omega) ▸ r_CD) | (exfalso; omega; done) | (exfalso; contradiction; done))
    · skip
      have g8 := i_nle h5
      have hg9 : (0 ≤ l2 ∧ l2.toNatClampNeg < 3100) := i_ix (by omega) (by omega)
      refine ⟨hg9, ?_⟩
      first | have f10 : 0 ≤ (m 99 l2.toNatClampNeg).toInt ∧ (m 99 l2.toNatClampNeg).toInt ≤ 1 := ra_99 (m := m) hV (k := l2.toNatClampNeg) (i_ix (n := 3100) (by omega) (by omega)).2 | have b11 := i_bd (m 99 l2.toNatClampNeg)
      have li12 : (0 : Int32).toInt = 0 := rfl
      refine zd (fun (h13 : (m 99 l2.toNatClampNeg) = (0 : Int32)) => ?_) (fun (h13 : ¬ (m 99 l2.toNatClampNeg) = (0 : Int32)) => ?_)
      · skip
        have g14 := i_eq h13
        have b15 := i_bd l1
        first | have e16 : (l2 + (1 : Int32)).toInt = l2.toInt + (1) := i_addk rfl (by omega) (by omega) | have b17 := i_bd (l2 + (1 : Int32))
        exact IH (3100 - (l2 + (1 : Int32)).toInt).toNat (by omega) _ (l1) ((l2 + (1 : Int32))) rfl hF hV (by omega) (by omega) (show (m 94 10).toInt = 4 ∧ (m 94 58).toInt = 0 from by omega) r_W r_GU r_OW (show zrm (m0 99) (m 99) (m 110) (l2 + (1 : Int32)).toNatClampNeg from by first | (exact rm_skip r_RM (Or.inl (by assumption)) (tn_succ (by omega) (by omega))) | (exact rm_skip r_RM (Or.inr (by assumption)) (tn_succ (by omega) (by omega))) | (exfalso; omega; done) | (exfalso; contradiction; done)) r_OWR r_WTS r_RBo (show qCD aa (m 105) (m0 99) (m 100) (m 110) (l2 + (1 : Int32)).toNatClampNeg from by first | (exact CD_s r_CD (Or.inl (by rw [← rm_eq r_RM (tn_lt (by omega) (by omega))]; assumption)) (tn_succ (by omega) (by omega))) | (exact CD_s r_CD (Or.inr (by assumption)) (tn_succ (by omega) (by omega))) | (exfalso; omega; done) | (exfalso; contradiction; done))
      · skip
        have g18 := i_ne h13
        have hg19 : (0 ≤ l2 ∧ l2.toNatClampNeg < 3100) := i_ix (by omega) (by omega)
        refine ⟨hg19, ?_⟩
        first | have f20 : 0 ≤ (m 110 l2.toNatClampNeg).toInt ∧ (m 110 l2.toNatClampNeg).toInt ≤ 1 := ra_110 (m := m) hV (k := l2.toNatClampNeg) (i_ix (n := 3100) (by omega) (by omega)).2 | have b21 := i_bd (m 110 l2.toNatClampNeg)
        refine zd (fun (h22 : (m 110 l2.toNatClampNeg) = (0 : Int32)) => ?_) (fun (h22 : ¬ (m 110 l2.toNatClampNeg) = (0 : Int32)) => ?_)
        · skip
          have g23 := i_eq h22
          have hg24 : (0 ≤ l2 ∧ l2.toNatClampNeg < 3100) := i_ix (by omega) (by omega)
          refine ⟨hg24, ?_⟩
          have li25 : (4 : Int32).toInt = 4 := rfl
          refine zd (fun (h26 : (m 94 10) = (4 : Int32)) => ?_) (fun (h26 : ¬ (m 94 10) = (4 : Int32)) => ?_)
          · skip
            have g27 := i_eq h26
            have b28 := i_bd l1
            first | have f29 : 0 ≤ (m 102 l2.toNatClampNeg).toInt ∧ (m 102 l2.toNatClampNeg).toInt ≤ 60 := ra_102 (m := m) hV (k := l2.toNatClampNeg) (i_ix (n := 3100) (by omega) (by omega)).2 | have b30 := i_bd (m 102 l2.toNatClampNeg)
            first | have e31 : ((m 102 l2.toNatClampNeg) + (1 : Int32)).toInt = (m 102 l2.toNatClampNeg).toInt + (1) := i_addk rfl (by omega) (by omega) | have b32 := i_bd ((m 102 l2.toNatClampNeg) + (1 : Int32))
            first | have e33 : (l1 + ((m 102 l2.toNatClampNeg) + (1 : Int32))).toInt = l1.toInt + ((m 102 l2.toNatClampNeg) + (1 : Int32)).toInt := i_add (by omega) (by omega) | have b34 := i_bd (l1 + ((m 102 l2.toNatClampNeg) + (1 : Int32)))
            exact lp_200r4_50 h0 K (fun _ _ _ z1 z2 z3 y0 y1 y2 y3 y4 y5 y6 y7 y8 y9 y10 => IH _ z1 _ _ _ rfl z2 z3 y0 y1 y2 y3 y4 y5 y6 y7 y8 y9 y10) _ _ ((l1 + ((m 102 l2.toNatClampNeg) + (1 : Int32)))) (l2) ((0 : Int32)) rfl hF hV (by omega) (by omega) (by omega) (show (m 94 10).toInt = 4 ∧ (m 94 58).toInt = 0 from by omega) (show (m 94 10).toInt = 4 from by omega) (by omega) r_W r_GU r_OW r_RM r_OWR (show (m 99) l2.toNatClampNeg ≠ 0 ∧ (m 110) l2.toNatClampNeg = 0 from by first | (exact ⟨by assumption, by assumption⟩) | (exfalso; omega; done) | (exfalso; contradiction; done)) r_WTS r_RBo (show qCI aa (m 105) (m0 99) (m 100) (m 110) l2.toNatClampNeg (0 : Int32).toNatClampNeg from by first | (exact CI_0 r_CD (by decide)) | (exfalso; omega; done) | (exfalso; contradiction; done)) (show (0 : Int32).toInt ≤ ((m 102) l2.toNatClampNeg).toInt from by first | (have w60 := ra_102 hV (k := l2.toNatClampNeg) (by omega); have z0 : (0 : Int32).toInt = 0 := rfl; omega; done) | (omega; done) | (exfalso; omega; done) | (exfalso; contradiction; done))
          · skip
            have g35 := i_ne h26
            exfalso; omega
        · skip
          have g36 := i_ne h22
          have b37 := i_bd l1
          first | have e38 : (l2 + (1 : Int32)).toInt = l2.toInt + (1) := i_addk rfl (by omega) (by omega) | have b39 := i_bd (l2 + (1 : Int32))
          exact IH (3100 - (l2 + (1 : Int32)).toInt).toNat (by omega) _ (l1) ((l2 + (1 : Int32))) rfl hF hV (by omega) (by omega) (show (m 94 10).toInt = 4 ∧ (m 94 58).toInt = 0 from by omega) r_W r_GU r_OW (show zrm (m0 99) (m 99) (m 110) (l2 + (1 : Int32)).toNatClampNeg from by first | (exact rm_skip r_RM (Or.inl (by assumption)) (tn_succ (by omega) (by omega))) | (exact rm_skip r_RM (Or.inr (by assumption)) (tn_succ (by omega) (by omega))) | (exfalso; omega; done) | (exfalso; contradiction; done)) r_OWR r_WTS r_RBo (show qCD aa (m 105) (m0 99) (m 100) (m 110) (l2 + (1 : Int32)).toNatClampNeg from by first | (exact CD_s r_CD (Or.inl (by rw [← rm_eq r_RM (tn_lt (by omega) (by omega))]; assumption)) (tn_succ (by omega) (by omega))) | (exact CD_s r_CD (Or.inr (by assumption)) (tn_succ (by omega) (by omega))) | (exfalso; omega; done) | (exfalso; contradiction; done))
set_option maxHeartbeats 8000000 in
theorem sp_200r4 {X : Nat × (Nat → Int32)} {P : Option ma_V → (Nat → Nat → Int32) → Prop} {T : Nat} {aa : Nat→Nat→Int32} {w0 : Nat→Int32} {m : Nat → Nat → Int32}  (hV : zV m) (hpre0 : (m 94 10).toInt = 4 ∧ (m 94 58).toInt = 0) (r_W : zW (m 94 7) (m 98) (m 101) (m 102) (m 108)) (r_GU : zGU T (m 94 46) (m 99)) (r_OW : zOw (m 99) (m 103) (m 111)) (r_WTS : (m 94 45).toInt = sm (zbU (m 99)) (m 102) 3100) (r_RBx : qRB (m 99) (m 100) (m 98) (m 101) (m 102) (m 103) (m 107) (m 108) (m 109) (m 111) (m 112) w0 (m 114) (m 94 55) (m 94 46) (m 94 11) (m 94 12) (m 94 62) (m 94 17) (m 94 9) aa) (r_QI : qI aa) (r_CT : qCt (m 105) (m 99) (m 100) aa [] (-1) (-1)) (KZ : ∀ v m₉, zV (zov wr_200 m m₉) → (zrm (m 99) (m₉ 99) (m 110) 3100) → (zowr (m 111) (m₉ 111) (m 99) (m 110) (m 103)) → (zGU T (m 94 46) (m₉ 99)) → (zOw (m₉ 99) (m 103) (m₉ 111)) → ((m₉ 94 45).toInt = sm (zbU (m₉ 99)) (m 102) 3100) → (qCD aa (m₉ 105) (m 99) (m 100) (m 110) 3100) → P (some (.inl v)) (zov wr_200 m m₉)) : zm X 2 44 200 0 [(0, .inr (.inr (some 94)))] m P := by
  have K : ∀ v m₉, zF wr_200 m m₉ → zV m₉ → (zrm (m 99) (m₉ 99) (m₉ 110) 3100) → (zowr (m 111) (m₉ 111) (m 99) (m₉ 110) (m₉ 103)) → (zGU T (m₉ 94 46) (m₉ 99)) → (zOw (m₉ 99) (m₉ 103) (m₉ 111)) → ((m₉ 94 45).toInt = sm (zbU (m₉ 99)) (m₉ 102) 3100) → (qCD aa (m₉ 105) (m 99) (m₉ 100) (m₉ 110) 3100) → P (some (.inl v)) m₉ := by
    intro v m₉ hf z q0 q1 q2 q3 q4 q5
    have e := zov_eq hf
    rw [e] at z ⊢
    try rw [e] at q0
    try rw [e] at q1
    try rw [e] at q2
    try rw [e] at q3
    try rw [e] at q4
    try rw [e] at q5
    exact KZ v m₉ z q0 q1 q2 q3 q4 q5
  refine g_200_0  ?_
  have f1 : 0 ≤ (m 94 10).toInt ∧ (m 94 10).toInt ≤ 6 := rs_94_10 (m := m) hV
  have f2 : 0 ≤ (m 94 58).toInt ∧ (m 94 58).toInt ≤ 1 := rs_94_58 (m := m) hV
  have li3 : (0 : Int32).toInt = 0 := rfl
  exact lp_200r4_4 hV K _ _ ((0 : Int32)) ((0 : Int32)) rfl zF_rfl hV (by omega) (by omega) (show (m 94 10).toInt = 4 ∧ (m 94 58).toInt = 0 from by omega) r_W r_GU r_OW (show zrm (m 99) (m 99) (m 110) (0 : Int32).toNatClampNeg from by first | (exact rm_0) | (exfalso; omega; done) | (exfalso; contradiction; done)) (show zowr (m 111) (m 111) (m 99) (m 110) (m 103) from by first | (exact owr_rfl) | (exfalso; omega; done) | (exfalso; contradiction; done)) r_WTS (show qRB (m 99) (m 100) (m 98) (m 101) (m 102) (m 103) (m 107) (m 108) (m 109) (m 111) (m 112) w0 (m 114) (m 94 55) (m 94 46) (m 94 11) (m 94 12) (m 94 62) (m 94 17) (m 94 9) aa from by first | (exact r_RBx) | (exfalso; omega; done) | (exfalso; contradiction; done)) (show qCD aa (m 105) (m 99) (m 100) (m 110) (0 : Int32).toNatClampNeg from by first | (exact CD_0 r_QI r_RBx.1 r_CT (by decide)) | (exfalso; omega; done) | (exfalso; contradiction; done))
set_option maxHeartbeats 8000000 in
theorem sp_187r4 {X : Nat × (Nat → Int32)} {P : Option ma_V → (Nat → Nat → Int32) → Prop} {T : Nat} {aa : Nat→Nat→Int32} {B : Int} {m : Nat → Nat → Int32}  (hV : zV m) (hpre0 : T ≤ 512) (r_W : zW (m 94 7) (m 98) (m 101) (m 102) (m 108)) (r_GW : zGW T (m 94 55) (m 109)) (r_GU : zGU T (m 94 46) (m 99)) (r_OW : zOw (m 99) (m 103) (m 111)) (hpre5 : (m 94 10).toInt = 4 ∧ (m 94 58).toInt = 0) (r_RB : qRB (m 99) (m 100) (m 98) (m 101) (m 102) (m 103) (m 107) (m 108) (m 109) (m 111) (m 112) (m 113) (m 114) (m 94 55) (m 94 46) (m 94 11) (m 94 12) (m 94 62) (m 94 17) (m 94 9) aa) (r_QI : qI aa) (r_WTS : (m 94 45).toInt = sm (zbU (m 99)) (m 102) 3100) (r_VV : cV aa [] B) (r_CT : qCt (m 105) (m 99) (m 100) aa [] (-1) (-1)) (KZ : ∀ v m₉, zV (zov wr_187 m m₉) → (zGW T (m₉ 94 55) (m₉ 109)) → (zGU T (m 94 46) (m₉ 99)) → (zOw (m₉ 99) (m 103) (m₉ 111)) → (qRB (m₉ 99) (m 100) (m 98) (m 101) (m 102) (m 103) (m 107) (m 108) (m₉ 109) (m₉ 111) (m 112) (m₉ 113) (m₉ 114) (m₉ 94 55) (m 94 46) (m 94 11) (m 94 12) (m 94 62) (m 94 17) (m 94 9) (aSw aa)) → (qI (aSw aa)) → ((m₉ 94 45).toInt = sm (zbU (m₉ 99)) (m 102) 3100) → (cV (aSw aa) [] B) → (qCt (m₉ 105) (m₉ 99) (m 100) (aSw aa) [] (-1) (-1)) → P (some (.inl v)) (zov wr_187 m m₉)) : zm X 4 88 187 0 [(0, .inr (.inr (some 94)))] m P := by
  have K : ∀ v m₉, zF wr_187 m m₉ → zV m₉ → (zGW T (m₉ 94 55) (m₉ 109)) → (zGU T (m₉ 94 46) (m₉ 99)) → (zOw (m₉ 99) (m₉ 103) (m₉ 111)) → (qRB (m₉ 99) (m₉ 100) (m₉ 98) (m₉ 101) (m₉ 102) (m₉ 103) (m₉ 107) (m₉ 108) (m₉ 109) (m₉ 111) (m₉ 112) (m₉ 113) (m₉ 114) (m₉ 94 55) (m₉ 94 46) (m₉ 94 11) (m₉ 94 12) (m₉ 94 62) (m₉ 94 17) (m₉ 94 9) (aSw aa)) → (qI (aSw aa)) → ((m₉ 94 45).toInt = sm (zbU (m₉ 99)) (m₉ 102) 3100) → (cV (aSw aa) [] B) → (qCt (m₉ 105) (m₉ 99) (m₉ 100) (aSw aa) [] (-1) (-1)) → P (some (.inl v)) m₉ := by
    intro v m₉ hf z q0 q1 q2 q3 q4 q5 q6 q7
    have e := zov_eq hf
    rw [e] at z ⊢
    try rw [e] at q0
    try rw [e] at q1
    try rw [e] at q2
    try rw [e] at q3
    try rw [e] at q4
    try rw [e] at q5
    try rw [e] at q6
    try rw [e] at q7
    exact KZ v m₉ z q0 q1 q2 q3 q4 q5 q6 q7
  refine g_187_0  ?_
  have f1 : 0 ≤ (m 94 10).toInt ∧ (m 94 10).toInt ≤ 6 := rs_94_10 (m := m) hV
  have f2 : 0 ≤ (m 94 58).toInt ∧ (m 94 58).toInt ≤ 1 := rs_94_58 (m := m) hV
  have hV3 : zV (ma_u m 94 47 ((m 94 47) + (1 : Int32))) := uf_94_47 hV
  refine sp_188rn (aa := aa)  hV3 r_W r_RB r_QI (fun m1 hV_m1 p0_m1 p1_m1 p2_m1 => zmv_n ?_)
  have p0_m1 : (m1 94 73).toInt = 0 := p0_m1
  have p1_m1 : ∀ s, s < 3100 → (m 99) s ≠ 0 → ((m1 110) s ≠ 0 ↔ zRch aa ((m 100) s).toNatClampNeg) := p1_m1
  have p2_m1 : ∀ s, s < 3100 → (m1 110) s ≠ 0 → (m 99) s ≠ 0 := p2_m1
  have f4 : 0 ≤ (m1 94 73).toInt ∧ (m1 94 73).toInt ≤ 3100 := rs_94_73 (m := (zov wr_188 (ma_u m 94 47 ((m 94 47) + (1 : Int32))) m1)) hV_m1
  refine sp_194r4 (aa := (aRA aa))  hV_m1 (by omega) (show (m 94 10).toInt = 4 ∧ (m 94 58).toInt = 0 from by omega) (show (m1 94 73).toInt = 0 from by omega) r_W r_GW (show qRB (m 99) (m 100) (m 98) (m 101) (m 102) (m 103) (m 107) (m 108) (m 109) (m 111) (m 112) (m 113) (m 114) (m 94 55) (m 94 46) (m 94 11) (m 94 12) (m 94 62) (m 94 17) (m 94 9) (aRA aa) from by first | (exact RB_of r_RB RA_zo) | (exfalso; omega; done) | (exfalso; contradiction; done)) (show qI (aRA aa) from by first | (exact qI_of r_QI RA_zo) | (exfalso; omega; done) | (exfalso; contradiction; done)) (show qKB (m1 110) (m 99) (m 100) (aRA aa) from by first | (exact KB_ra r_QI p2_m1 p1_m1) | (exfalso; omega; done) | (exfalso; contradiction; done)) (show qE0 (aRA aa) from by first | (exact E0_ra r_QI) | (exfalso; omega; done) | (exfalso; contradiction; done)) (show qCl (aRA aa) from by first | (exact Cl_ra r_QI) | (exfalso; omega; done) | (exfalso; contradiction; done)) (show qCt (m 105) (m 99) (m 100) (aRA aa) [] (-1) (-1) from by first | (exact Ct_o8 (Of_8 RA_zo) r_CT) | (exfalso; omega; done) | (exfalso; contradiction; done)) (fun m3 hV_m3 p0_m3 p1_m3 p2_m3 p3_m3 p4_m3 p5_m3 p6_m3 p7_m3 p8_m3 => zmv_n ?_)
  have p0_m3 : (m3 94 73).toInt = 0 := p0_m3
  have p1_m3 : zGW T (m3 94 55) (m3 109) := p1_m3
  have p2_m3 : zuw (m 113) (m3 113) := p2_m3
  have p3_m3 : qRB (m 99) (m 100) (m 98) (m 101) (m 102) (m 103) (m 107) (m 108) (m3 109) (m 111) (m 112) (m3 113) (m3 114) (m3 94 55) (m 94 46) (m 94 11) (m 94 12) (m 94 62) (m 94 17) (m 94 9) (aGw (aRA aa) 0) := p3_m3
  have p4_m3 : qI (aGw (aRA aa) 0) := p4_m3
  have p5_m3 : qKB (m3 110) (m 99) (m 100) (aGw (aRA aa) 0) := p5_m3
  have p6_m3 : qE0 (aGw (aRA aa) 0) := p6_m3
  have p7_m3 : qCl (aGw (aRA aa) 0) := p7_m3
  have p8_m3 : qCt (m3 105) (m 99) (m 100) (aGw (aRA aa) 0) [] (-1) (-1) := p8_m3
  have f5 : 0 ≤ (m3 94 73).toInt ∧ (m3 94 73).toInt ≤ 3100 := rs_94_73 (m := (zov wr_194 (zov wr_188 (ma_u m 94 47 ((m 94 47) + (1 : Int32))) m1) m3)) hV_m3
  refine sp_199r  hV_m3  (fun m5 hV_m5 p0_m5 p1_m5 => zmv_n ?_)
  have p0_m5 : zuw (m3 113) (m5 113) := p0_m5
  have p1_m5 : qUr (m3 113) (m5 113) (m3 110) 16 := p1_m5
  refine sp_200r4 (aa := (aGw (aRA aa) 0)) (w0 := (m3 113))  hV_m5 (show (m 94 10).toInt = 4 ∧ (m 94 58).toInt = 0 from by omega) r_W r_GU r_OW r_WTS (show qRB (m 99) (m 100) (m 98) (m 101) (m 102) (m 103) (m 107) (m 108) (m3 109) (m 111) (m 112) (m3 113) (m3 114) (m3 94 55) (m 94 46) (m 94 11) (m 94 12) (m 94 62) (m 94 17) (m 94 9) (aGw (aRA aa) 0) from by first | (exact p3_m3) | (exfalso; omega; done) | (exfalso; contradiction; done)) p4_m3 p8_m3 (fun v8 m7 hV_m7 p0_m7 p1_m7 p2_m7 p3_m7 p4_m7 p5_m7 => zmi_n ?_)
  have p0_m7 : zrm (m 99) (m7 99) (m3 110) 3100 := p0_m7
  have p1_m7 : zowr (m 111) (m7 111) (m 99) (m3 110) (m 103) := p1_m7
  have p2_m7 : zGU T (m 94 46) (m7 99) := p2_m7
  have p3_m7 : zOw (m7 99) (m 103) (m7 111) := p3_m7
  have p4_m7 : (m7 94 45).toInt = sm (zbU (m7 99)) (m 102) 3100 := p4_m7
  have p5_m7 : qCD (aGw (aRA aa) 0) (m7 105) (m 99) (m 100) (m3 110) 3100 := p5_m7
  have b6 := i_bd v8
  exact K (v8) _ (zF_zov (zF_zov (zF_zov (zF_zov (zF_u zF_rfl rfl) ws_188_187) ws_194_187) ws_199_187) ws_200_187) hV_m7 p1_m3 p2_m7 p3_m7 (show qRB (m7 99) (m 100) (m 98) (m 101) (m 102) (m 103) (m 107) (m 108) (m3 109) (m7 111) (m 112) (m5 113) (m3 114) (m3 94 55) (m 94 46) (m 94 11) (m 94 12) (m 94 62) (m 94 17) (m 94 9) (aSw aa) from by first | (exact RB_mv p3_m3 p4_m3 p5_m3 (CK_of p7_m3 p3_m3 p5_m3) p6_m3.1.2.2.2.2.2.1 p1_m5 p0_m7 p1_m7) | (exfalso; omega; done) | (exfalso; contradiction; done)) (show qI (aSw aa) from by first | (exact I_mv p4_m3 p6_m3.1.2.2.2.2.2.1) | (exfalso; omega; done) | (exfalso; contradiction; done)) p4_m7 (show cV (aSw aa) [] B from by first | (exact V_sw4 r_QI r_VV) | (exfalso; omega; done) | (exfalso; contradiction; done)) (show qCt (m7 105) (m7 99) (m 100) (aSw aa) [] (-1) (-1) from by first | (exact CD_e p5_m7 p3_m3 p4_m3 p5_m3 p6_m3.1.2.2.2.2.2.1 p0_m7) | (exfalso; omega; done) | (exfalso; contradiction; done))
set_option maxHeartbeats 8000000 in
theorem sp_237r4 {X : Nat × (Nat → Int32)} {P : Option ma_V → (Nat → Nat → Int32) → Prop} {T : Nat} {aa : Nat→Nat→Int32} {B : Int} {m : Nat → Nat → Int32} (nz : Int32) (hV : zV m) (hpre0 : T ≤ 512) (r_W : zW (m 94 7) (m 98) (m 101) (m 102) (m 108)) (r_GW : zGW T (m 94 55) (m 109)) (r_GU : zGU T (m 94 46) (m 99)) (r_OW : zOw (m 99) (m 103) (m 111)) (r_GG : zGG (m 94 58) (m 94 56) (m 94 57) (m 106)) (hpre6 : (m 94 10).toInt = 4 ∧ (m 94 58).toInt = 0) (r_RB : qRB (m 99) (m 100) (m 98) (m 101) (m 102) (m 103) (m 107) (m 108) (m 109) (m 111) (m 112) (m 113) (m 114) (m 94 55) (m 94 46) (m 94 11) (m 94 12) (m 94 62) (m 94 17) (m 94 9) aa) (r_QI : qI aa) (r_MK : aa 87 8 = (m 94 58)) (r_WTS : (m 94 45).toInt = sm (zbU (m 99)) (m 102) 3100) (r_VV : cV aa [] B) (r_CT : qCt (m 105) (m 99) (m 100) aa [] (-1) (-1)) (KZ : ∀ v m₉, zV (zov wr_237 m m₉) → (zGW T (m₉ 94 55) (m₉ 109)) → (zGU T (m 94 46) (m₉ 99)) → (zOw (m₉ 99) (m 103) (m₉ 111)) → (zGG (m 94 58) (m 94 56) (m 94 57) (m 106)) → (-1 ≤ v.toInt ∧ v.toInt ≤ 1500) → (qRB (m₉ 99) (m 100) (m 98) (m 101) (m 102) (m 103) (m 107) (m 108) (m₉ 109) (m₉ 111) (m 112) (m₉ 113) (m₉ 114) (m₉ 94 55) (m 94 46) (m 94 11) (m 94 12) (m 94 62) (m 94 17) (m 94 9) (zRs aa nz.toInt)) → (qI (zRs aa nz.toInt)) → ((zRs aa nz.toInt) 87 8 = (m 94 58)) → ((m₉ 94 45).toInt = sm (zbU (m₉ 99)) (m 102) 3100) → (cV (zRs aa nz.toInt) [] B) → (qCt (m₉ 105) (m₉ 99) (m 100) (zRs aa nz.toInt) [] (-1) (-1)) → (qEq v.toInt (zRp aa nz.toInt)) → P (some (.inl v)) (zov wr_237 m m₉)) : zm X 5 108 237 0 [(0, .inr (.inr (some 94))), (1, .inl nz)] m P := by
  have K : ∀ v m₉, zF wr_237 m m₉ → zV m₉ → (zGW T (m₉ 94 55) (m₉ 109)) → (zGU T (m₉ 94 46) (m₉ 99)) → (zOw (m₉ 99) (m₉ 103) (m₉ 111)) → (zGG (m₉ 94 58) (m₉ 94 56) (m₉ 94 57) (m₉ 106)) → (-1 ≤ v.toInt ∧ v.toInt ≤ 1500) → (qRB (m₉ 99) (m₉ 100) (m₉ 98) (m₉ 101) (m₉ 102) (m₉ 103) (m₉ 107) (m₉ 108) (m₉ 109) (m₉ 111) (m₉ 112) (m₉ 113) (m₉ 114) (m₉ 94 55) (m₉ 94 46) (m₉ 94 11) (m₉ 94 12) (m₉ 94 62) (m₉ 94 17) (m₉ 94 9) (zRs aa nz.toInt)) → (qI (zRs aa nz.toInt)) → ((zRs aa nz.toInt) 87 8 = (m₉ 94 58)) → ((m₉ 94 45).toInt = sm (zbU (m₉ 99)) (m₉ 102) 3100) → (cV (zRs aa nz.toInt) [] B) → (qCt (m₉ 105) (m₉ 99) (m₉ 100) (zRs aa nz.toInt) [] (-1) (-1)) → (qEq v.toInt (zRp aa nz.toInt)) → P (some (.inl v)) m₉ := by
    intro v m₉ hf z q0 q1 q2 q3 q4 q5 q6 q7 q8 q9 q10 q11
    have e := zov_eq hf
    rw [e] at z ⊢
    try rw [e] at q0
    try rw [e] at q1
    try rw [e] at q2
    try rw [e] at q3
    try rw [e] at q4
    try rw [e] at q5
    try rw [e] at q6
    try rw [e] at q7
    try rw [e] at q8
    try rw [e] at q9
    try rw [e] at q10
    try rw [e] at q11
    exact KZ v m₉ z q0 q1 q2 q3 q4 q5 q6 q7 q8 q9 q10 q11
  refine g_237_0 nz ?_
  have f1 : 0 ≤ (m 94 10).toInt ∧ (m 94 10).toInt ≤ 6 := rs_94_10 (m := m) hV
  have f2 : 0 ≤ (m 94 58).toInt ∧ (m 94 58).toInt ≤ 1 := rs_94_58 (m := m) hV
  have b3 := i_bd nz
  refine sp_224r (aa := aa) (nz) hV r_RB r_QI r_OW (fun v2 m1 hV_m1 p0_m1 p1_m1 => zmi_n ?_)
  have p0_m1 : -1 ≤ v2.toInt ∧ v2.toInt ≤ 1500 := p0_m1
  have p1_m1 : qEq v2.toInt (aFt aa nz.toInt) := p1_m1
  have b4 := i_bd v2
  have li5 : (0 : Int32).toInt = 0 := rfl
  refine zd (fun (h6 : v2 < (0 : Int32)) => ?_) (fun (h6 : ¬ v2 < (0 : Int32)) => ?_)
  · skip
    have g7 := i_lt h6
    refine sp_187r4 (aa := aa)  hV_m1 (by omega) r_W r_GW r_GU r_OW (show (m 94 10).toInt = 4 ∧ (m 94 58).toInt = 0 from by omega) r_RB r_QI r_WTS r_VV r_CT (fun v4 m3 hV_m3 p0_m3 p1_m3 p2_m3 p3_m3 p4_m3 p5_m3 p6_m3 p7_m3 => zmi_n ?_)
    have p0_m3 : zGW T (m3 94 55) (m3 109) := p0_m3
    have p1_m3 : zGU T (m 94 46) (m3 99) := p1_m3
    have p2_m3 : zOw (m3 99) (m 103) (m3 111) := p2_m3
    have p3_m3 : qRB (m3 99) (m 100) (m 98) (m 101) (m 102) (m 103) (m 107) (m 108) (m3 109) (m3 111) (m 112) (m3 113) (m3 114) (m3 94 55) (m 94 46) (m 94 11) (m 94 12) (m 94 62) (m 94 17) (m 94 9) (aSw aa) := p3_m3
    have p4_m3 : qI (aSw aa) := p4_m3
    have p5_m3 : (m3 94 45).toInt = sm (zbU (m3 99)) (m 102) 3100 := p5_m3
    have p6_m3 : cV (aSw aa) [] B := p6_m3
    have p7_m3 : qCt (m3 105) (m3 99) (m 100) (aSw aa) [] (-1) (-1) := p7_m3
    refine sp_224r (aa := (aSw aa)) (nz) hV_m3 p3_m3 p4_m3 p2_m3 (fun v6 m5 hV_m5 p0_m5 p1_m5 => zmi_n ?_)
    have p0_m5 : -1 ≤ v6.toInt ∧ v6.toInt ≤ 1500 := p0_m5
    have p1_m5 : qEq v6.toInt (aFt (aSw aa) nz.toInt) := p1_m5
    have b8 := i_bd v6
    exact K (v6) _ (zF_zov (zF_zov (zF_zov zF_rfl ws_224_237) ws_187_237) ws_224_237) hV_m5 p0_m3 p1_m3 p2_m3 r_GG (show -1 ≤ v6.toInt ∧ v6.toInt ≤ 1500 from by omega) (show qRB (m3 99) (m 100) (m 98) (m 101) (m 102) (m 103) (m 107) (m 108) (m3 109) (m3 111) (m 112) (m3 113) (m3 114) (m3 94 55) (m 94 46) (m 94 11) (m 94 12) (m 94 62) (m 94 17) (m 94 9) (zRs aa nz.toInt) from by first | (rw [(zRs_2 (show aFt aa nz.toInt = -1 from by rw [← qE p1_m1]; omega))]; exact p3_m3; done) | (exfalso; omega; done) | (exfalso; contradiction; done)) (show qI (zRs aa nz.toInt) from by first | (rw [(zRs_2 (show aFt aa nz.toInt = -1 from by rw [← qE p1_m1]; omega))]; exact p4_m3; done) | (exfalso; omega; done) | (exfalso; contradiction; done)) (show (zRs aa nz.toInt) 87 8 = (m 94 58) from by first | (rw [zRs_87]; exact r_MK; done) | (exfalso; omega; done) | (exfalso; contradiction; done)) p5_m3 (show cV (zRs aa nz.toInt) [] B from by first | (rw [(zRs_2 (show aFt aa nz.toInt = -1 from by rw [← qE p1_m1]; omega))]; exact p6_m3; done) | (exfalso; omega; done) | (exfalso; contradiction; done)) (show qCt (m3 105) (m3 99) (m 100) (zRs aa nz.toInt) [] (-1) (-1) from by first | (rw [(zRs_2 (show aFt aa nz.toInt = -1 from by rw [← qE p1_m1]; omega))]; exact p7_m3; done) | (exfalso; omega; done) | (exfalso; contradiction; done)) (show qEq v6.toInt (zRp aa nz.toInt) from by first | (rw [zRp, (zRs_2 (show aFt aa nz.toInt = -1 from by rw [← qE p1_m1]; omega))]; exact p1_m5; done) | (exfalso; omega; done) | (exfalso; contradiction; done))
  · skip
    have g9 := i_nlt h6
    exact K (v2) _ (zF_zov zF_rfl ws_224_237) hV_m1 r_GW r_GU r_OW r_GG (show -1 ≤ v2.toInt ∧ v2.toInt ≤ 1500 from by omega) (show qRB (m 99) (m 100) (m 98) (m 101) (m 102) (m 103) (m 107) (m 108) (m 109) (m 111) (m 112) (m 113) (m 114) (m 94 55) (m 94 46) (m 94 11) (m 94 12) (m 94 62) (m 94 17) (m 94 9) (zRs aa nz.toInt) from by first | (rw [(zRs_1 (show aFt aa nz.toInt ≠ -1 from by rw [← qE p1_m1]; omega))]; exact r_RB; done) | (exfalso; omega; done) | (exfalso; contradiction; done)) (show qI (zRs aa nz.toInt) from by first | (rw [(zRs_1 (show aFt aa nz.toInt ≠ -1 from by rw [← qE p1_m1]; omega))]; exact r_QI; done) | (exfalso; omega; done) | (exfalso; contradiction; done)) (show (zRs aa nz.toInt) 87 8 = (m 94 58) from by first | (rw [zRs_87]; exact r_MK; done) | (exfalso; omega; done) | (exfalso; contradiction; done)) r_WTS (show cV (zRs aa nz.toInt) [] B from by first | (rw [(zRs_1 (show aFt aa nz.toInt ≠ -1 from by rw [← qE p1_m1]; omega))]; exact r_VV; done) | (exfalso; omega; done) | (exfalso; contradiction; done)) (show qCt (m 105) (m 99) (m 100) (zRs aa nz.toInt) [] (-1) (-1) from by first | (rw [(zRs_1 (show aFt aa nz.toInt ≠ -1 from by rw [← qE p1_m1]; omega))]; exact r_CT; done) | (exfalso; omega; done) | (exfalso; contradiction; done)) (show qEq v2.toInt (zRp aa nz.toInt) from by first | (rw [zRp, (zRs_1 (show aFt aa nz.toInt ≠ -1 from by rw [← qE p1_m1]; omega))]; exact p1_m1; done) | (exfalso; omega; done) | (exfalso; contradiction; done))

/-! from 95.o14 -/
/-! the reference under COUNTS (written by wip/tools/gen20s.py) -/
set_option maxHeartbeats 8000000 in
theorem sp_184r4 {X : Nat × (Nat → Int32)} {P : Option ma_V → (Nat → Nat → Int32) → Prop} {T : Nat} {aa : Nat→Nat→Int32} {B : Int} {m : Nat → Nat → Int32} (nz : Int32) (hV : zV m) (hpre0 : T ≤ 512) (r_W : zW (m 94 7) (m 98) (m 101) (m 102) (m 108)) (r_GW : zGW T (m 94 55) (m 109)) (r_GU : zGU T (m 94 46) (m 99)) (r_OW : zOw (m 99) (m 103) (m 111)) (r_GG : zGG (m 94 58) (m 94 56) (m 94 57) (m 106)) (hpre6 : (m 94 10).toInt = 4 ∧ (m 94 58).toInt = 0) (r_RB : qRB (m 99) (m 100) (m 98) (m 101) (m 102) (m 103) (m 107) (m 108) (m 109) (m 111) (m 112) (m 113) (m 114) (m 94 55) (m 94 46) (m 94 11) (m 94 12) (m 94 62) (m 94 17) (m 94 9) aa) (r_QI : qI aa) (r_MK : aa 87 8 = (m 94 58)) (r_WTS : (m 94 45).toInt = sm (zbU (m 99)) (m 102) 3100) (r_VV : cV aa [] B) (r_CT : qCt (m 105) (m 99) (m 100) aa [] (-1) (-1)) (KZ : ∀ v m₉, zV (zov wr_184 m m₉) → (zGW T (m₉ 94 55) (m₉ 109)) → (zGU T (m 94 46) (m₉ 99)) → (zOw (m₉ 99) (m₉ 103) (m₉ 111)) → (zGG (m₉ 94 58) (m₉ 94 56) (m₉ 94 57) (m₉ 106)) → (-1 ≤ v.toInt ∧ v.toInt ≤ 1500) → (qRB (m₉ 99) (m 100) (m 98) (m 101) (m 102) (m₉ 103) (m 107) (m 108) (m₉ 109) (m₉ 111) (m 112) (m₉ 113) (m₉ 114) (m₉ 94 55) (m 94 46) (m 94 11) (m 94 12) (m 94 62) (m 94 17) (m 94 9) (zRs aa nz.toInt)) → (qI (zRs aa nz.toInt)) → ((zRs aa nz.toInt) 87 8 = (m₉ 94 58)) → ((m₉ 94 45).toInt = sm (zbU (m₉ 99)) (m 102) 3100) → (cV (zRs aa nz.toInt) [] B) → (qCt (m₉ 105) (m₉ 99) (m 100) (zRs aa nz.toInt) [] (-1) (-1)) → (qEq v.toInt (zRp aa nz.toInt)) → ((m₉ 94 58).toInt = 0) → P (some (.inl v)) (zov wr_184 m m₉)) : zm X 8 175 184 0 [(0, .inr (.inr (some 94))), (1, .inl nz)] m P := by
  have K : ∀ v m₉, zF wr_184 m m₉ → zV m₉ → (zGW T (m₉ 94 55) (m₉ 109)) → (zGU T (m₉ 94 46) (m₉ 99)) → (zOw (m₉ 99) (m₉ 103) (m₉ 111)) → (zGG (m₉ 94 58) (m₉ 94 56) (m₉ 94 57) (m₉ 106)) → (-1 ≤ v.toInt ∧ v.toInt ≤ 1500) → (qRB (m₉ 99) (m₉ 100) (m₉ 98) (m₉ 101) (m₉ 102) (m₉ 103) (m₉ 107) (m₉ 108) (m₉ 109) (m₉ 111) (m₉ 112) (m₉ 113) (m₉ 114) (m₉ 94 55) (m₉ 94 46) (m₉ 94 11) (m₉ 94 12) (m₉ 94 62) (m₉ 94 17) (m₉ 94 9) (zRs aa nz.toInt)) → (qI (zRs aa nz.toInt)) → ((zRs aa nz.toInt) 87 8 = (m₉ 94 58)) → ((m₉ 94 45).toInt = sm (zbU (m₉ 99)) (m₉ 102) 3100) → (cV (zRs aa nz.toInt) [] B) → (qCt (m₉ 105) (m₉ 99) (m₉ 100) (zRs aa nz.toInt) [] (-1) (-1)) → (qEq v.toInt (zRp aa nz.toInt)) → ((m₉ 94 58).toInt = 0) → P (some (.inl v)) m₉ := by
    intro v m₉ hf z q0 q1 q2 q3 q4 q5 q6 q7 q8 q9 q10 q11 q12
    have e := zov_eq hf
    rw [e] at z ⊢
    try rw [e] at q0
    try rw [e] at q1
    try rw [e] at q2
    try rw [e] at q3
    try rw [e] at q4
    try rw [e] at q5
    try rw [e] at q6
    try rw [e] at q7
    try rw [e] at q8
    try rw [e] at q9
    try rw [e] at q10
    try rw [e] at q11
    try rw [e] at q12
    exact KZ v m₉ z q0 q1 q2 q3 q4 q5 q6 q7 q8 q9 q10 q11 q12
  refine g_184_0 nz ?_
  have f1 : 0 ≤ (m 94 10).toInt ∧ (m 94 10).toInt ≤ 6 := rs_94_10 (m := m) hV
  have f2 : 0 ≤ (m 94 58).toInt ∧ (m 94 58).toInt ≤ 1 := rs_94_58 (m := m) hV
  have li3 : (1 : Int32).toInt = 1 := rfl
  refine zd (fun (h4 : (m 94 10) = (1 : Int32)) => ?_) (fun (h4 : ¬ (m 94 10) = (1 : Int32)) => ?_)
  · skip
    have g5 := i_eq h4
    exfalso; omega
  · skip
    have g6 := i_ne h4
    have li7 : (2 : Int32).toInt = 2 := rfl
    refine zd (fun (h8 : (m 94 10) = (2 : Int32)) => ?_) (fun (h8 : ¬ (m 94 10) = (2 : Int32)) => ?_)
    · skip
      have g9 := i_eq h8
      exfalso; omega
    · skip
      have g10 := i_ne h8
      have li11 : (3 : Int32).toInt = 3 := rfl
      refine zd (fun (h12 : (m 94 10) = (3 : Int32)) => ?_) (fun (h12 : ¬ (m 94 10) = (3 : Int32)) => ?_)
      · skip
        have g13 := i_eq h12
        exfalso; omega
      · skip
        have g14 := i_ne h12
        have li15 : (4 : Int32).toInt = 4 := rfl
        refine zd (fun (h16 : (m 94 10) = (4 : Int32)) => ?_) (fun (h16 : ¬ (m 94 10) = (4 : Int32)) => ?_)
        · skip
          have g17 := i_eq h16
          have b18 := i_bd nz
          refine sp_237r4 (aa := aa) (nz) hV (by omega) r_W r_GW r_GU r_OW r_GG (show (m 94 10).toInt = 4 ∧ (m 94 58).toInt = 0 from by omega) r_RB r_QI r_MK r_WTS r_VV r_CT (fun v12 m11 hV_m11 p0_m11 p1_m11 p2_m11 p3_m11 p4_m11 p5_m11 p6_m11 p7_m11 p8_m11 p9_m11 p10_m11 p11_m11 => zmi_n ?_)
          have p0_m11 : zGW T (m11 94 55) (m11 109) := p0_m11
          have p1_m11 : zGU T (m 94 46) (m11 99) := p1_m11
          have p2_m11 : zOw (m11 99) (m 103) (m11 111) := p2_m11
          have p3_m11 : zGG (m 94 58) (m 94 56) (m 94 57) (m 106) := p3_m11
          have p4_m11 : -1 ≤ v12.toInt ∧ v12.toInt ≤ 1500 := p4_m11
          have p5_m11 : qRB (m11 99) (m 100) (m 98) (m 101) (m 102) (m 103) (m 107) (m 108) (m11 109) (m11 111) (m 112) (m11 113) (m11 114) (m11 94 55) (m 94 46) (m 94 11) (m 94 12) (m 94 62) (m 94 17) (m 94 9) (zRs aa nz.toInt) := p5_m11
          have p6_m11 : qI (zRs aa nz.toInt) := p6_m11
          have p7_m11 : (zRs aa nz.toInt) 87 8 = (m 94 58) := p7_m11
          have p8_m11 : (m11 94 45).toInt = sm (zbU (m11 99)) (m 102) 3100 := p8_m11
          have p9_m11 : cV (zRs aa nz.toInt) [] B := p9_m11
          have p10_m11 : qCt (m11 105) (m11 99) (m 100) (zRs aa nz.toInt) [] (-1) (-1) := p10_m11
          have p11_m11 : qEq v12.toInt (zRp aa nz.toInt) := p11_m11
          have b19 := i_bd v12
          exact K (v12) _ (zF_zov zF_rfl ws_237_184) hV_m11 p0_m11 p1_m11 p2_m11 p3_m11 (show -1 ≤ v12.toInt ∧ v12.toInt ≤ 1500 from by omega) p5_m11 p6_m11 p7_m11 p8_m11 p9_m11 p10_m11 p11_m11 (show (m 94 58).toInt = 0 from by omega)
        · skip
          have g20 := i_ne h16
          exfalso; omega
set_option maxHeartbeats 8000000 in
theorem sp_256r4 {X : Nat × (Nat → Int32)} {P : Option ma_V → (Nat → Nat → Int32) → Prop} {T : Nat} {aa : Nat→Nat→Int32} {B : Int} {m : Nat → Nat → Int32}  (hV : zV m) (hpre0 : T ≤ 512) (hpre1 : B ≤ 1000000) (r_W : zW (m 94 7) (m 98) (m 101) (m 102) (m 108)) (r_GW : zGW T (m 94 55) (m 109)) (r_GU : zGU T (m 94 46) (m 99)) (r_OW : zOw (m 99) (m 103) (m 111)) (r_GG : zGG (m 94 58) (m 94 56) (m 94 57) (m 106)) (hpre7 : (m 94 10).toInt = 4 ∧ (m 94 58).toInt = 0) (hpre8 : (m 94 8).toInt = 1) (r_RB : qRB (m 99) (m 100) (m 98) (m 101) (m 102) (m 103) (m 107) (m 108) (m 109) (m 111) (m 112) (m 113) (m 114) (m 94 55) (m 94 46) (m 94 11) (m 94 12) (m 94 62) (m 94 17) (m 94 9) aa) (r_QI : qI aa) (r_MK : aa 87 8 = (m 94 58)) (r_WTS : (m 94 45).toInt = sm (zbU (m 99)) (m 102) 3100) (r_VV : cV aa [] B) (r_CT : qCt (m 105) (m 99) (m 100) aa [] (-1) (-1)) (KZ : ∀ v m₉, zV (zov wr_256 m m₉) → (zW (m 94 7) (m 98) (m 101) (m 102) (m 108)) → (zGW T (m₉ 94 55) (m₉ 109)) → (zGU T (m 94 46) (m₉ 99)) → (zOw (m₉ 99) (m₉ 103) (m₉ 111)) → (zGG (m₉ 94 58) (m₉ 94 56) (m₉ 94 57) (m₉ 106)) → ((m₉ 94 45).toInt = sm (zbU (m₉ 99)) (m 102) 3100) → (qRB (m₉ 99) (m 100) (m 98) (m 101) (m 102) (m₉ 103) (m 107) (m 108) (m₉ 109) (m₉ 111) (m 112) (m₉ 113) (m₉ 114) (m₉ 94 55) (m 94 46) (m 94 11) (m 94 12) (m 94 62) (m 94 17) (m 94 9) (aSw aa)) → (qI (aSw aa)) → ((aSw aa) 87 8 = (m₉ 94 58)) → (cV (aSw aa) [] B) → (qCt (m₉ 105) (m₉ 99) (m 100) (aSw aa) [] (-1) (-1)) → ((m₉ 94 58).toInt = 0) → P (some (.inl v)) (zov wr_256 m m₉)) : zm X 7 152 256 0 [(0, .inr (.inr (some 94)))] m P := by
  have K : ∀ v m₉, zF wr_256 m m₉ → zV m₉ → (zW (m₉ 94 7) (m₉ 98) (m₉ 101) (m₉ 102) (m₉ 108)) → (zGW T (m₉ 94 55) (m₉ 109)) → (zGU T (m₉ 94 46) (m₉ 99)) → (zOw (m₉ 99) (m₉ 103) (m₉ 111)) → (zGG (m₉ 94 58) (m₉ 94 56) (m₉ 94 57) (m₉ 106)) → ((m₉ 94 45).toInt = sm (zbU (m₉ 99)) (m₉ 102) 3100) → (qRB (m₉ 99) (m₉ 100) (m₉ 98) (m₉ 101) (m₉ 102) (m₉ 103) (m₉ 107) (m₉ 108) (m₉ 109) (m₉ 111) (m₉ 112) (m₉ 113) (m₉ 114) (m₉ 94 55) (m₉ 94 46) (m₉ 94 11) (m₉ 94 12) (m₉ 94 62) (m₉ 94 17) (m₉ 94 9) (aSw aa)) → (qI (aSw aa)) → ((aSw aa) 87 8 = (m₉ 94 58)) → (cV (aSw aa) [] B) → (qCt (m₉ 105) (m₉ 99) (m₉ 100) (aSw aa) [] (-1) (-1)) → ((m₉ 94 58).toInt = 0) → P (some (.inl v)) m₉ := by
    intro v m₉ hf z q0 q1 q2 q3 q4 q5 q6 q7 q8 q9 q10 q11
    have e := zov_eq hf
    rw [e] at z ⊢
    try rw [e] at q0
    try rw [e] at q1
    try rw [e] at q2
    try rw [e] at q3
    try rw [e] at q4
    try rw [e] at q5
    try rw [e] at q6
    try rw [e] at q7
    try rw [e] at q8
    try rw [e] at q9
    try rw [e] at q10
    try rw [e] at q11
    exact KZ v m₉ z q0 q1 q2 q3 q4 q5 q6 q7 q8 q9 q10 q11
  refine g_256_0  ?_
  have f1 : 0 ≤ (m 94 10).toInt ∧ (m 94 10).toInt ≤ 6 := rs_94_10 (m := m) hV
  have f2 : 0 ≤ (m 94 58).toInt ∧ (m 94 58).toInt ≤ 1 := rs_94_58 (m := m) hV
  have f3 : 0 ≤ (m 94 8).toInt ∧ (m 94 8).toInt ≤ 1 := rs_94_8 (m := m) hV
  have li4 : (0 : Int32).toInt = 0 := rfl
  refine zd (fun (h5 : (m 94 8) = (0 : Int32)) => ?_) (fun (h5 : ¬ (m 94 8) = (0 : Int32)) => ?_)
  · skip
    have g6 := i_eq h5
    exfalso; omega
  · skip
    have g7 := i_ne h5
    have li8 : (1 : Int32).toInt = 1 := rfl
    refine zd (fun (h9 : (m 94 10) = (1 : Int32)) => ?_) (fun (h9 : ¬ (m 94 10) = (1 : Int32)) => ?_)
    · skip
      have g10 := i_eq h9
      exfalso; omega
    · skip
      have g11 := i_ne h9
      have li12 : (2 : Int32).toInt = 2 := rfl
      refine zd (fun (h13 : (m 94 10) = (2 : Int32)) => ?_) (fun (h13 : ¬ (m 94 10) = (2 : Int32)) => ?_)
      · skip
        have g14 := i_eq h13
        exfalso; omega
      · skip
        have g15 := i_ne h13
        have li16 : (3 : Int32).toInt = 3 := rfl
        refine zd (fun (h17 : (m 94 10) = (3 : Int32)) => ?_) (fun (h17 : ¬ (m 94 10) = (3 : Int32)) => ?_)
        · skip
          have g18 := i_eq h17
          exfalso; omega
        · skip
          have g19 := i_ne h17
          have li20 : (4 : Int32).toInt = 4 := rfl
          refine zd (fun (h21 : (m 94 10) = (4 : Int32)) => ?_) (fun (h21 : ¬ (m 94 10) = (4 : Int32)) => ?_)
          · skip
            have g22 := i_eq h21
            have hV23 : zV (ma_u m 94 0 (0 : Int32)) := uf_94_0 hV
            refine sp_187r4 (aa := aa)  hV23 (by omega) r_W r_GW r_GU r_OW (show (m 94 10).toInt = 4 ∧ (m 94 58).toInt = 0 from by omega) r_RB r_QI r_WTS r_VV r_CT (fun v10 m9 hV_m9 p0_m9 p1_m9 p2_m9 p3_m9 p4_m9 p5_m9 p6_m9 p7_m9 => zmi_n ?_)
            have p0_m9 : zGW T (m9 94 55) (m9 109) := p0_m9
            have p1_m9 : zGU T (m 94 46) (m9 99) := p1_m9
            have p2_m9 : zOw (m9 99) (m 103) (m9 111) := p2_m9
            have p3_m9 : qRB (m9 99) (m 100) (m 98) (m 101) (m 102) (m 103) (m 107) (m 108) (m9 109) (m9 111) (m 112) (m9 113) (m9 114) (m9 94 55) (m 94 46) (m 94 11) (m 94 12) (m 94 62) (m 94 17) (m 94 9) (aSw aa) := p3_m9
            have p4_m9 : qI (aSw aa) := p4_m9
            have p5_m9 : (m9 94 45).toInt = sm (zbU (m9 99)) (m 102) 3100 := p5_m9
            have p6_m9 : cV (aSw aa) [] B := p6_m9
            have p7_m9 : qCt (m9 105) (m9 99) (m 100) (aSw aa) [] (-1) (-1) := p7_m9
            have b24 := i_bd v10
            exact K (v10) _ (zF_zov (zF_u zF_rfl rfl) ws_187_256) hV_m9 r_W p0_m9 p1_m9 p2_m9 r_GG p5_m9 p3_m9 p4_m9 (show (aSw aa) 87 8 = (m 94 58) from by first | (rw [sw_87]; exact r_MK; done) | (exfalso; omega; done) | (exfalso; contradiction; done)) p6_m9 p7_m9 (show (m 94 58).toInt = 0 from by omega)
          · skip
            have g25 := i_ne h21
            exfalso; omega

/-! from 95.o15 -/
/-! the reference under COUNTS (written by wip/tools/gen20s.py) -/
/-! COUNTS, the reference: a new one -/
section D5
variable {b d : Nat → Nat → Int32} {us us₉ nr nr₉ ws at₉ ho ct ct₉ : Nat → Int32} {x y z w pl kk : Int32} {s : Nat} {L : Int64} {st : List (List Int32)} {B : Int}
theorem Ct_z0 (h : qCt ct us nr b st x z) (e1 : ∀ t, t ≠ s → ct₉ t = ct t) (e2 : ∀ t, t ≠ s → nr₉ t = nr t) (e3 : ∀ t, t ≠ s → us₉ t = us t) : qCt ct₉ (zmk us₉ s) nr₉ b st x z := fun t ht hv => by
  have ts : t ≠ s := fun e => hv (if_pos e)
  have hu : us t ≠ 0 := fun q => hv ((if_neg ts).trans ((e3 t ts).trans q))
  rw [e1 t ts, e2 t ts]
  exact h t ht hu
theorem V_ad4 (hN : qNe b y w pl) (hA : qAd b d y kk w pl L) (hV : cV b [] B) (hB : 0 ≤ B) : cV d [] B := V_0 (C_ad (K₉ := zKu (fun n => Int32.ofInt (cRf b n)) y.toNatClampNeg 0) hN hA (C_ofV hV) hB (fun _ => rfl))
theorem Ct_ad (hN : qNe b y w pl) (hA : qAd b d y kk w pl L) (hV : cV b [] B) (h : qCt ct (zmk us s) nr b [] (-1) (-1)) (h1 : qR1 (zmk us s) nr ws at₉ ho b) (hz : ct s = 0) (hn : nr s = y) : qCt ct us nr d [] (-1) (-1) := fun t ht hv => by
  have q := Ne_b hN
  by_cases ts : t = s
  · have o : cOc ([] : List (List Int32)) y.toNatClampNeg = 0 := rfl
    rw [ts, hz, hn, Rf_a0 hN hA hV.2.1, is_m1 q.2.1, o]
    rfl
  · have hm : zmk us s t ≠ 0 := fun e => hv ((if_neg ts).symm.trans e)
    rw [h t ht hm, Rf_ad hN hA (R1_al h1 ht hm)]
end D5

