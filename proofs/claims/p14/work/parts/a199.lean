/-! from 95.o08 -/
/-! the reference under COUNTS (written by wip/tools/gen20s.py) -/
/-! COUNTS, the reference: a hold -/
section D6
variable {a : Nat → Nat → Int32} {us nr kr kd ws at₉ ho wd wi ow rt wk wl ct ct₉ : Nat → Int32} {wm nu ro fo le ra pi y v o im : Int32} {m : Nat → Nat → Int32} {B : Int}
theorem Ho_P0 (h : ¬ zRq a o) : kHo a o y = a := qIf_n (fun w => h w.1)
theorem Ho_E (hR : qRB us nr kr kd ws at₉ ho wd wi ow rt wk wl wm nu ro fo le ra pi a) (h : qRe us nr a o v) (hv : 0 ≤ v.toInt) (h0 : y = 0) (hh : ¬ ho v.toNatClampNeg = 0) : kHo a o y = cLe (ma_u a 133 (nr v.toNatClampNeg).toNatClampNeg (ho v.toNatClampNeg + -1)) (qNo nr v) := by
  rw [No_y hv]
  exact kHo_y hR h hv (Or.inr hh) (by rw [if_pos h0])
theorem Ho_P1 (hR : qRB us nr kr kd ws at₉ (m 107) wd wi ow rt wk wl wm nu ro fo le ra pi a) (hI : qI a) (h8 : a 87 8 = im) (hV : cV a [] B) (hB : B + 1 ≤ 1000000) (hC : qCt ct us nr a [] (-1) (-1)) (h : qRe us nr a o v) (hv : 0 ≤ v.toInt) (h0 : ¬ y = 0) (e : ct₉ = zUp ct v.toNatClampNeg (ct v.toNatClampNeg + 1)) : qRB us nr kr kd ws at₉ (ma_u m 107 v.toNatClampNeg (m 107 v.toNatClampNeg + 1) 107) wd wi ow rt wk wl wm nu ro fo le ra pi (kHo a o y) ∧ qI (kHo a o y) ∧ kHo a o y 87 8 = im ∧ cV (kHo a o y) [] (B + 1) ∧ qCt ct₉ us nr (kHo a o y) [] (-1) (-1) := by
  have q := Re_y h hv
  have hon := Ho_on hR hV hB hC hv (by omega) q.2.1 e
  rw [kHo_y hR h hv (Or.inl h0) (by rw [if_neg h0]), hon.1]
  refine ⟨RB_ho hR (tn_lt hv (by omega)) q.2.1, I_u hI (Or.inr (Or.inr (Or.inl rfl))), ?_, hon.2.1, hon.2.2⟩
  rw [un (by decide)]
  exact h8
end D6
set_option maxHeartbeats 8000000 in
theorem sp_253r4 {X : Nat × (Nat → Int32)} {P : Option ma_V → (Nat → Nat → Int32) → Prop} {T : Nat} {aa : Nat→Nat→Int32} {B : Int} {m : Nat → Nat → Int32} (ob : Int32) (on : Int32) (hV : zV m) (hpre0 : 0 ≤ on.toInt) (hpre1 : on.toInt ≤ 1) (hpre2 : B + 1 ≤ 1000000) (hpre3 : T ≤ 512) (hpre4 : B ≤ 1000000) (r_W : zW (m 94 7) (m 98) (m 101) (m 102) (m 108)) (r_GW : zGW T (m 94 55) (m 109)) (r_GU : zGU T (m 94 46) (m 99)) (r_OW : zOw (m 99) (m 103) (m 111)) (r_GG : zGG (m 94 58) (m 94 56) (m 94 57) (m 106)) (hpre10 : (m 94 10).toInt = 4 ∧ (m 94 58).toInt = 0) (hpre11 : (m 94 8).toInt = 1) (r_RB : qRB (m 99) (m 100) (m 98) (m 101) (m 102) (m 103) (m 107) (m 108) (m 109) (m 111) (m 112) (m 113) (m 114) (m 94 55) (m 94 46) (m 94 11) (m 94 12) (m 94 62) (m 94 17) (m 94 9) aa) (r_QI : qI aa) (r_MK : aa 87 8 = (m 94 58)) (r_WTS : (m 94 45).toInt = sm (zbU (m 99)) (m 102) 3100) (r_VV : cV aa [] B) (r_CT : qCt (m 105) (m 99) (m 100) aa [] (-1) (-1)) (KZ : ∀ v m₉, zV (zov wr_253 m m₉) → (zW (m 94 7) (m 98) (m 101) (m 102) (m 108)) → (zGW T (m₉ 94 55) (m₉ 109)) → (zGU T (m 94 46) (m₉ 99)) → (zOw (m₉ 99) (m 103) (m₉ 111)) → (zGG (m 94 58) (m 94 56) (m 94 57) (m 106)) → ((m₉ 94 45).toInt = sm (zbU (m₉ 99)) (m 102) 3100) → (qRB (m₉ 99) (m 100) (m 98) (m 101) (m 102) (m 103) (m₉ 107) (m 108) (m₉ 109) (m₉ 111) (m 112) (m₉ 113) (m₉ 114) (m₉ 94 55) (m 94 46) (m 94 11) (m 94 12) (m 94 62) (m 94 17) (m 94 9) (kHo aa ob on)) → (qI (kHo aa ob on)) → ((kHo aa ob on) 87 8 = (m 94 58)) → (cV (kHo aa ob on) [] (B + 1)) → (qCt (m₉ 105) (m₉ 99) (m 100) (kHo aa ob on) [] (-1) (-1)) → P (some (.inl v)) (zov wr_253 m m₉)) : zm X 5 109 253 0 [(0, .inr (.inr (some 94))), (1, .inl ob), (2, .inl on)] m P := by
  have K : ∀ v m₉, zF wr_253 m m₉ → zV m₉ → (zW (m₉ 94 7) (m₉ 98) (m₉ 101) (m₉ 102) (m₉ 108)) → (zGW T (m₉ 94 55) (m₉ 109)) → (zGU T (m₉ 94 46) (m₉ 99)) → (zOw (m₉ 99) (m₉ 103) (m₉ 111)) → (zGG (m₉ 94 58) (m₉ 94 56) (m₉ 94 57) (m₉ 106)) → ((m₉ 94 45).toInt = sm (zbU (m₉ 99)) (m₉ 102) 3100) → (qRB (m₉ 99) (m₉ 100) (m₉ 98) (m₉ 101) (m₉ 102) (m₉ 103) (m₉ 107) (m₉ 108) (m₉ 109) (m₉ 111) (m₉ 112) (m₉ 113) (m₉ 114) (m₉ 94 55) (m₉ 94 46) (m₉ 94 11) (m₉ 94 12) (m₉ 94 62) (m₉ 94 17) (m₉ 94 9) (kHo aa ob on)) → (qI (kHo aa ob on)) → ((kHo aa ob on) 87 8 = (m₉ 94 58)) → (cV (kHo aa ob on) [] (B + 1)) → (qCt (m₉ 105) (m₉ 99) (m₉ 100) (kHo aa ob on) [] (-1) (-1)) → P (some (.inl v)) m₉ := by
    intro v m₉ hf z q0 q1 q2 q3 q4 q5 q6 q7 q8 q9 q10
    have e := zov_eq hf
    rw [e] at z ⊢
    try rw [e] at q0
    try rw [e] at q1
    try rw [e] at q2
    try rw [e] at q3
    try rw [e] at q4
    try rw [e] at q5
    try rw [e] at q6
    try rw [e] at q7
    try rw [e] at q8
    try rw [e] at q9
    try rw [e] at q10
    exact KZ v m₉ z q0 q1 q2 q3 q4 q5 q6 q7 q8 q9 q10
  refine g_253_0 ob on ?_
  have f1 : 0 ≤ (m 94 10).toInt ∧ (m 94 10).toInt ≤ 6 := rs_94_10 (m := m) hV
  have f2 : 0 ≤ (m 94 58).toInt ∧ (m 94 58).toInt ≤ 1 := rs_94_58 (m := m) hV
  have f3 : 0 ≤ (m 94 8).toInt ∧ (m 94 8).toInt ≤ 1 := rs_94_8 (m := m) hV
  have li4 : (0 : Int32).toInt = 0 := rfl
  refine zd (fun (h5 : (m 94 8) = (0 : Int32)) => ?_) (fun (h5 : ¬ (m 94 8) = (0 : Int32)) => ?_)
  · skip
    have g6 := i_eq h5
    exfalso; omega
  · skip
    have g7 := i_ne h5
    have b8 := i_bd ob
    have hV9 : zV (ma_u m 94 0 (0 : Int32)) := uf_94_0 hV
    refine sp_245r (aa := aa) (ob) hV9 r_W r_RB r_QI (fun v2 m1 hV_m1 p0_m1 p1_m1 p2_m1 => zmi_n ?_)
    have p0_m1 : -1 ≤ v2.toInt ∧ v2.toInt ≤ 3099 := p0_m1
    have p1_m1 : v2.toInt < 0 ∨ (m 99) v2.toNatClampNeg ≠ 0 := p1_m1
    have p2_m1 : qRe (m 99) (m 100) aa ob v2 := p2_m1
    have b10 := i_bd v2
    refine zd (fun (h11 : (0 : Int32) ≤ v2) => ?_) (fun (h11 : ¬ (0 : Int32) ≤ v2) => ?_)
    · skip
      have g12 := i_le h11
      have li13 : (2 : Int32).toInt = 2 := rfl
      refine zd (fun (h14 : (m 94 10) = (2 : Int32)) => ?_) (fun (h14 : ¬ (m 94 10) = (2 : Int32)) => ?_)
      · skip
        have g15 := i_eq h14
        exfalso; omega
      · skip
        have g16 := i_ne h14
        have li17 : (3 : Int32).toInt = 3 := rfl
        refine zd (fun (h18 : (m 94 10) = (3 : Int32)) => ?_) (fun (h18 : ¬ (m 94 10) = (3 : Int32)) => ?_)
        · skip
          have g19 := i_eq h18
          exfalso; omega
        · skip
          have g20 := i_ne h18
          have b21 := i_bd on
          refine zd (fun (h22 : on = (0 : Int32)) => ?_) (fun (h22 : ¬ on = (0 : Int32)) => ?_)
          · skip
            have g23 := i_eq h22
            have hg24 : (0 ≤ v2 ∧ v2.toNatClampNeg < 3100) := i_ix (by omega) (by omega)
            refine ⟨hg24, ?_⟩
            have b25 := i_bd (m 107 v2.toNatClampNeg)
            refine zd (fun (h26 : (m 107 v2.toNatClampNeg) = (0 : Int32)) => ?_) (fun (h26 : ¬ (m 107 v2.toNatClampNeg) = (0 : Int32)) => ?_)
            · skip
              have g27 := i_eq h26
              have hV28 : zV (ma_u (zov wr_245 (ma_u m 94 0 (0 : Int32)) m1) 94 0 (3 : Int32)) := uf_94_0 hV_m1
              exact K ((0 : Int32)) _ (zF_u (zF_zov (zF_u zF_rfl rfl) ws_245_253) rfl) hV28 r_W r_GW r_GU r_OW r_GG r_WTS (show qRB (m 99) (m 100) (m 98) (m 101) (m 102) (m 103) (m 107) (m 108) (m 109) (m 111) (m 112) (m 113) (m 114) (m 94 55) (m 94 46) (m 94 11) (m 94 12) (m 94 62) (m 94 17) (m 94 9) (kHo aa ob on) from by first | (rw [Ho_P0 (Re_n p2_m1 (by omega))]; exact r_RB; done) | (rw [kHo_x r_RB p2_m1 (by omega) (i_zer (by omega)) (i_zer (by omega))]; exact r_RB; done) | (exfalso; omega; done) | (exfalso; contradiction; done)) (show qI (kHo aa ob on) from by first | (rw [Ho_P0 (Re_n p2_m1 (by omega))]; exact r_QI; done) | (rw [kHo_x r_RB p2_m1 (by omega) (i_zer (by omega)) (i_zer (by omega))]; exact r_QI; done) | (exfalso; omega; done) | (exfalso; contradiction; done)) (show (kHo aa ob on) 87 8 = (m 94 58) from by first | (rw [Ho_P0 (Re_n p2_m1 (by omega))]; exact r_MK; done) | (rw [kHo_x r_RB p2_m1 (by omega) (i_zer (by omega)) (i_zer (by omega))]; exact r_MK; done) | (exfalso; omega; done) | (exfalso; contradiction; done)) (show cV (kHo aa ob on) [] (B + 1) from by first | (rw [Ho_P0 (Re_n p2_m1 (by omega))]; exact V_up r_VV; done) | (rw [kHo_x r_RB p2_m1 (by omega) (i_zer (by omega)) (i_zer (by omega))]; exact V_up r_VV; done) | (exfalso; omega; done) | (exfalso; contradiction; done)) (show qCt (m 105) (m 99) (m 100) (kHo aa ob on) [] (-1) (-1) from by first | (rw [Ho_P0 (Re_n p2_m1 (by omega))]; exact r_CT; done) | (rw [kHo_x r_RB p2_m1 (by omega) (i_zer (by omega)) (i_zer (by omega))]; exact r_CT; done) | (exfalso; omega; done) | (exfalso; contradiction; done))
            · skip
              have g29 := i_ne h26
              have hg30 : (0 ≤ v2 ∧ v2.toNatClampNeg < 3100) := i_ix (by omega) (by omega)
              refine ⟨hg30, ?_⟩
              refine zd (fun (h31 : on = (0 : Int32)) => ?_) (fun (h31 : ¬ on = (0 : Int32)) => ?_)
              · skip
                have g32 := i_eq h31
                have hg33 : (0 ≤ v2 ∧ v2.toNatClampNeg < 3100) := i_ix (by omega) (by omega)
                refine ⟨hg33, ?_⟩
                refine zd (fun (h34 : on = (0 : Int32)) => ?_) (fun (h34 : ¬ on = (0 : Int32)) => ?_)
                · skip
                  have g35 := i_eq h34
                  have hV36 : zV (ma_u (zov wr_245 (ma_u m 94 0 (0 : Int32)) m1) 94 0 (0 : Int32)) := uf_94_0 hV_m1
                  have hV37 : zV (ma_u (ma_u (zov wr_245 (ma_u m 94 0 (0 : Int32)) m1) 94 0 (0 : Int32)) 107 v2.toNatClampNeg ((m 107 v2.toNatClampNeg) + (-1 : Int32))) := ua_107 hV36
                  refine sp_241r4 (aa := (ma_u aa 133 (m 100 v2.toNatClampNeg).toNatClampNeg ((m 107 v2.toNatClampNeg) + (-1 : Int32)))) (x := (-1 : Int32)) (B := (B + 1)) (v2) hV37 (by omega) (by omega) (by omega) (by omega) (show (m 94 10).toInt = 4 ∧ (m 94 58).toInt = 0 from by omega) r_W r_GW r_GU r_OW (show qRB (m 99) (m 100) (m 98) (m 101) (m 102) (m 103) ((ma_u m 107 v2.toNatClampNeg ((m 107 v2.toNatClampNeg) + (-1 : Int32))) 107) (m 108) (m 109) (m 111) (m 112) (m 113) (m 114) (m 94 55) (m 94 46) (m 94 11) (m 94 12) (m 94 62) (m 94 17) (m 94 9) (ma_u aa 133 (m 100 v2.toNatClampNeg).toNatClampNeg ((m 107 v2.toNatClampNeg) + (-1 : Int32))) from by first | (exact RB_ho r_RB (tn_lt (by omega) (by omega)) (Re_y p2_m1 (by omega)).2.1) | (exfalso; omega; done) | (exfalso; contradiction; done)) (show qI (ma_u aa 133 (m 100 v2.toNatClampNeg).toNatClampNeg ((m 107 v2.toNatClampNeg) + (-1 : Int32))) from by first | (exact I_u r_QI (Or.inr (Or.inr (Or.inl rfl)))) | (exfalso; omega; done) | (exfalso; contradiction; done)) (show (ma_u aa 133 (m 100 v2.toNatClampNeg).toNatClampNeg ((m 107 v2.toNatClampNeg) + (-1 : Int32))) 87 8 = (m 94 58) from by first | (rw [un (by decide)]; exact r_MK; done) | (exfalso; omega; done) | (exfalso; contradiction; done)) r_WTS (show cV (ma_u aa 133 (m 100 v2.toNatClampNeg).toNatClampNeg ((m 107 v2.toNatClampNeg) + (-1 : Int32))) [] (B + 1) from by first | (exact (Ho_of r_RB r_VV (by omega) r_CT (by omega) (by omega) (Re_y p2_m1 (by omega)).2.1 (i_nz2 (by omega))).1) | (exfalso; omega; done) | (exfalso; contradiction; done)) (show qCt (m 105) (m 99) (m 100) (ma_u aa 133 (m 100 v2.toNatClampNeg).toNatClampNeg ((m 107 v2.toNatClampNeg) + (-1 : Int32))) [] (-1 : Int32) (qNo (m 100) v2) from by first | (exact (Ho_of r_RB r_VV (by omega) r_CT (by omega) (by omega) (Re_y p2_m1 (by omega)).2.1 (i_nz2 (by omega))).2) | (exfalso; omega; done) | (exfalso; contradiction; done)) (show qU (m 99) v2 from by first | (exact Or.inr ⟨by omega, (Re_y p2_m1 (by omega)).2.1⟩) | (assumption; done) | (exact ow5.1) | (exact ow3.1) | (exfalso; omega; done) | (exfalso; contradiction; done)) (show qXr (ma_u aa 133 (m 100 v2.toNatClampNeg).toNatClampNeg ((m 107 v2.toNatClampNeg) + (-1 : Int32))) (-1 : Int32) from by first | (exact Xr_m1) | (exfalso; omega; done) | (exfalso; contradiction; done)) (fun m7 hV_m7 p0_m7 p1_m7 p2_m7 p3_m7 p4_m7 p5_m7 p6_m7 p7_m7 p8_m7 p9_m7 => zmv_n ?_)
                  have p0_m7 : zGW T (m7 94 55) (m7 109) := p0_m7
                  have p1_m7 : zGU T (m 94 46) (m7 99) := p1_m7
                  have p2_m7 : zOw (m7 99) (m 103) (m7 111) := p2_m7
                  have p3_m7 : (m7 94 45).toInt = sm (zbU (m7 99)) (m 102) 3100 := p3_m7
                  have p4_m7 : qRB (m7 99) (m 100) (m 98) (m 101) (m 102) (m 103) ((ma_u m 107 v2.toNatClampNeg ((m 107 v2.toNatClampNeg) + (-1 : Int32))) 107) (m 108) (m7 109) (m7 111) (m 112) (m7 113) (m7 114) (m7 94 55) (m 94 46) (m 94 11) (m 94 12) (m 94 62) (m 94 17) (m 94 9) (cLe (ma_u aa 133 (m 100 v2.toNatClampNeg).toNatClampNeg ((m 107 v2.toNatClampNeg) + (-1 : Int32))) (qNo (m 100) v2)) := p4_m7
                  have p5_m7 : qI (cLe (ma_u aa 133 (m 100 v2.toNatClampNeg).toNatClampNeg ((m 107 v2.toNatClampNeg) + (-1 : Int32))) (qNo (m 100) v2)) := p5_m7
                  have p6_m7 : (cLe (ma_u aa 133 (m 100 v2.toNatClampNeg).toNatClampNeg ((m 107 v2.toNatClampNeg) + (-1 : Int32))) (qNo (m 100) v2)) 87 8 = (m 94 58) := p6_m7
                  have p7_m7 : cV (cLe (ma_u aa 133 (m 100 v2.toNatClampNeg).toNatClampNeg ((m 107 v2.toNatClampNeg) + (-1 : Int32))) (qNo (m 100) v2)) [] (B + 1) := p7_m7
                  have p8_m7 : qCt (m7 105) (m7 99) (m 100) (cLe (ma_u aa 133 (m 100 v2.toNatClampNeg).toNatClampNeg ((m 107 v2.toNatClampNeg) + (-1 : Int32))) (qNo (m 100) v2)) [] (-1 : Int32) (-1) := p8_m7
                  have p9_m7 : qXr (cLe (ma_u aa 133 (m 100 v2.toNatClampNeg).toNatClampNeg ((m 107 v2.toNatClampNeg) + (-1 : Int32))) (qNo (m 100) v2)) (-1 : Int32) := p9_m7
                  first | have e38 : ((m 107 v2.toNatClampNeg) + (-1 : Int32)).toInt = (m 107 v2.toNatClampNeg).toInt + (-1) := i_addk rfl (by omega) (by omega) | have b39 := i_bd ((m 107 v2.toNatClampNeg) + (-1 : Int32))
                  exact K (((m 107 v2.toNatClampNeg) + (-1 : Int32))) _ (zF_zov (zF_u (zF_u (zF_zov (zF_u zF_rfl rfl) ws_245_253) rfl) rfl) ws_241_253) hV_m7 r_W p0_m7 p1_m7 p2_m7 r_GG p3_m7 (show qRB (m7 99) (m 100) (m 98) (m 101) (m 102) (m 103) ((ma_u m 107 v2.toNatClampNeg ((m 107 v2.toNatClampNeg) + (-1 : Int32))) 107) (m 108) (m7 109) (m7 111) (m 112) (m7 113) (m7 114) (m7 94 55) (m 94 46) (m 94 11) (m 94 12) (m 94 62) (m 94 17) (m 94 9) (kHo aa ob on) from by first | (rw [Ho_E r_RB p2_m1 (by omega) (i_zer (by omega)) (i_nz2 (by omega))]; exact p4_m7; done) | (exfalso; omega; done) | (exfalso; contradiction; done)) (show qI (kHo aa ob on) from by first | (rw [Ho_E r_RB p2_m1 (by omega) (i_zer (by omega)) (i_nz2 (by omega))]; exact p5_m7; done) | (exfalso; omega; done) | (exfalso; contradiction; done)) (show (kHo aa ob on) 87 8 = (m 94 58) from by first | (rw [Ho_E r_RB p2_m1 (by omega) (i_zer (by omega)) (i_nz2 (by omega))]; exact p6_m7; done) | (exfalso; omega; done) | (exfalso; contradiction; done)) (show cV (kHo aa ob on) [] (B + 1) from by first | (rw [Ho_E r_RB p2_m1 (by omega) (i_zer (by omega)) (i_nz2 (by omega))]; exact p7_m7; done) | (exfalso; omega; done) | (exfalso; contradiction; done)) (show qCt (m7 105) (m7 99) (m 100) (kHo aa ob on) [] (-1) (-1) from by first | (rw [Ho_E r_RB p2_m1 (by omega) (i_zer (by omega)) (i_nz2 (by omega))]; exact p8_m7; done) | (exfalso; omega; done) | (exfalso; contradiction; done))
                · skip
                  exact absurd h31 h34
              · skip
                exact absurd h22 h31
          · skip
            have g42 := i_ne h22
            have hg43 : (0 ≤ v2 ∧ v2.toNatClampNeg < 3100) := i_ix (by omega) (by omega)
            refine ⟨hg43, ?_⟩
            refine zd (fun (h44 : on = (0 : Int32)) => ?_) (fun (h44 : ¬ on = (0 : Int32)) => ?_)
            · skip
              exact absurd h44 h22
            · skip
              have g46 := i_ne h44
              have hg47 : (0 ≤ v2 ∧ v2.toNatClampNeg < 3100) := i_ix (by omega) (by omega)
              refine ⟨hg47, ?_⟩
              refine zd (fun (h48 : on = (0 : Int32)) => ?_) (fun (h48 : ¬ on = (0 : Int32)) => ?_)
              · skip
                exact absurd h48 h44
              · skip
                have g50 := i_ne h48
                refine zd (fun (h51 : v2 < (0 : Int32)) => ?_) (fun (h51 : ¬ v2 < (0 : Int32)) => ?_)
                · skip
                  have g52 := i_lt h51
                  exfalso; omega
                · skip
                  have g53 := i_nlt h51
                  have li54 : (4 : Int32).toInt = 4 := rfl
                  refine zd (fun (h55 : (m 94 10) = (4 : Int32)) => ?_) (fun (h55 : ¬ (m 94 10) = (4 : Int32)) => ?_)
                  · skip
                    have g56 := i_eq h55
                    have hg57 : (0 ≤ v2 ∧ v2.toNatClampNeg < 3100) := i_ix (by omega) (by omega)
                    refine ⟨hg57, ?_⟩
                    have hg58 : (0 ≤ v2 ∧ v2.toNatClampNeg < 3100) := i_ix (by omega) (by omega)
                    refine ⟨hg58, ?_⟩
                    have hV59 : zV (ma_u (zov wr_245 (ma_u m 94 0 (0 : Int32)) m1) 94 0 (0 : Int32)) := uf_94_0 hV_m1
                    have hV60 : zV (ma_u (ma_u (zov wr_245 (ma_u m 94 0 (0 : Int32)) m1) 94 0 (0 : Int32)) 107 v2.toNatClampNeg ((m 107 v2.toNatClampNeg) + (1 : Int32))) := ua_107 hV59
                    have hV61 : zV (ma_u (ma_u (ma_u (zov wr_245 (ma_u m 94 0 (0 : Int32)) m1) 94 0 (0 : Int32)) 107 v2.toNatClampNeg ((m 107 v2.toNatClampNeg) + (1 : Int32))) 105 v2.toNatClampNeg ((m 105 v2.toNatClampNeg) + (1 : Int32))) := ua_105 hV60
                    have b62 := i_bd (m 107 v2.toNatClampNeg)
                    first | have e63 : ((m 107 v2.toNatClampNeg) + (1 : Int32)).toInt = (m 107 v2.toNatClampNeg).toInt + (1) := i_addk rfl (by omega) (by omega) | have b64 := i_bd ((m 107 v2.toNatClampNeg) + (1 : Int32))
                    exact K (((m 107 v2.toNatClampNeg) + (1 : Int32))) _ (zF_u (zF_u (zF_u (zF_zov (zF_u zF_rfl rfl) ws_245_253) rfl) rfl) rfl) hV61 r_W r_GW r_GU r_OW r_GG r_WTS (show qRB (m 99) (m 100) (m 98) (m 101) (m 102) (m 103) ((ma_u m 107 v2.toNatClampNeg ((m 107 v2.toNatClampNeg) + (1 : Int32))) 107) (m 108) (m 109) (m 111) (m 112) (m 113) (m 114) (m 94 55) (m 94 46) (m 94 11) (m 94 12) (m 94 62) (m 94 17) (m 94 9) (kHo aa ob on) from by first | (exact (Ho_P1 (m := m) r_RB r_QI r_MK r_VV (by omega) r_CT p2_m1 (by omega) (i_nz2 (by omega)) (mu_up (m := m) (c := 105))).1) | (exfalso; omega; done) | (exfalso; contradiction; done)) (show qI (kHo aa ob on) from by first | (exact (Ho_P1 (m := m) r_RB r_QI r_MK r_VV (by omega) r_CT p2_m1 (by omega) (i_nz2 (by omega)) (mu_up (m := m) (c := 105))).2.1) | (exfalso; omega; done) | (exfalso; contradiction; done)) (show (kHo aa ob on) 87 8 = (m 94 58) from by first | (exact (Ho_P1 (m := m) r_RB r_QI r_MK r_VV (by omega) r_CT p2_m1 (by omega) (i_nz2 (by omega)) (mu_up (m := m) (c := 105))).2.2.1) | (exfalso; omega; done) | (exfalso; contradiction; done)) (show cV (kHo aa ob on) [] (B + 1) from by first | (exact (Ho_P1 (m := m) r_RB r_QI r_MK r_VV (by omega) r_CT p2_m1 (by omega) (i_nz2 (by omega)) (mu_up (m := m) (c := 105))).2.2.2.1) | (exfalso; omega; done) | (exfalso; contradiction; done)) (show qCt ((ma_u m 105 v2.toNatClampNeg ((m 105 v2.toNatClampNeg) + (1 : Int32))) 105) (m 99) (m 100) (kHo aa ob on) [] (-1) (-1) from by first | (exact (Ho_P1 (m := m) r_RB r_QI r_MK r_VV (by omega) r_CT p2_m1 (by omega) (i_nz2 (by omega)) (mu_up (m := m) (c := 105))).2.2.2.2) | (exfalso; omega; done) | (exfalso; contradiction; done))
                  · skip
                    have g65 := i_ne h55
                    exfalso; omega
    · skip
      have g66 := i_nle h11
      have hV67 : zV (ma_u (zov wr_245 (ma_u m 94 0 (0 : Int32)) m1) 94 0 (2 : Int32)) := uf_94_0 hV_m1
      exact K ((0 : Int32)) _ (zF_u (zF_zov (zF_u zF_rfl rfl) ws_245_253) rfl) hV67 r_W r_GW r_GU r_OW r_GG r_WTS (show qRB (m 99) (m 100) (m 98) (m 101) (m 102) (m 103) (m 107) (m 108) (m 109) (m 111) (m 112) (m 113) (m 114) (m 94 55) (m 94 46) (m 94 11) (m 94 12) (m 94 62) (m 94 17) (m 94 9) (kHo aa ob on) from by first | (rw [Ho_P0 (Re_n p2_m1 (by omega))]; exact r_RB; done) | (rw [kHo_x r_RB p2_m1 (by omega) (i_zer (by omega)) (i_zer (by omega))]; exact r_RB; done) | (exfalso; omega; done) | (exfalso; contradiction; done)) (show qI (kHo aa ob on) from by first | (rw [Ho_P0 (Re_n p2_m1 (by omega))]; exact r_QI; done) | (rw [kHo_x r_RB p2_m1 (by omega) (i_zer (by omega)) (i_zer (by omega))]; exact r_QI; done) | (exfalso; omega; done) | (exfalso; contradiction; done)) (show (kHo aa ob on) 87 8 = (m 94 58) from by first | (rw [Ho_P0 (Re_n p2_m1 (by omega))]; exact r_MK; done) | (rw [kHo_x r_RB p2_m1 (by omega) (i_zer (by omega)) (i_zer (by omega))]; exact r_MK; done) | (exfalso; omega; done) | (exfalso; contradiction; done)) (show cV (kHo aa ob on) [] (B + 1) from by first | (rw [Ho_P0 (Re_n p2_m1 (by omega))]; exact V_up r_VV; done) | (rw [kHo_x r_RB p2_m1 (by omega) (i_zer (by omega)) (i_zer (by omega))]; exact V_up r_VV; done) | (exfalso; omega; done) | (exfalso; contradiction; done)) (show qCt (m 105) (m 99) (m 100) (kHo aa ob on) [] (-1) (-1) from by first | (rw [Ho_P0 (Re_n p2_m1 (by omega))]; exact r_CT; done) | (rw [kHo_x r_RB p2_m1 (by omega) (i_zer (by omega)) (i_zer (by omega))]; exact r_CT; done) | (exfalso; omega; done) | (exfalso; contradiction; done))
set_option maxHeartbeats 8000000 in
theorem sp_252r4 {X : Nat × (Nat → Int32)} {P : Option ma_V → (Nat → Nat → Int32) → Prop} {T : Nat} {aa : Nat→Nat→Int32} {B : Int} {m : Nat → Nat → Int32} (ix : Int32) (r1 : Int32) (hV : zV m) (hpre0 : T ≤ 512) (hpre1 : B ≤ 1000000) (r_W : zW (m 94 7) (m 98) (m 101) (m 102) (m 108)) (r_GW : zGW T (m 94 55) (m 109)) (r_GU : zGU T (m 94 46) (m 99)) (r_OW : zOw (m 99) (m 103) (m 111)) (r_GG : zGG (m 94 58) (m 94 56) (m 94 57) (m 106)) (hpre7 : (m 94 10).toInt = 4 ∧ (m 94 58).toInt = 0) (hpre8 : (m 94 8).toInt = 1) (r_RB : qRB (m 99) (m 100) (m 98) (m 101) (m 102) (m 103) (m 107) (m 108) (m 109) (m 111) (m 112) (m 113) (m 114) (m 94 55) (m 94 46) (m 94 11) (m 94 12) (m 94 62) (m 94 17) (m 94 9) aa) (r_QI : qI aa) (r_MK : aa 87 8 = (m 94 58)) (r_WTS : (m 94 45).toInt = sm (zbU (m 99)) (m 102) 3100) (r_VV : cV aa [] B) (r_CT : qCt (m 105) (m 99) (m 100) aa [] (-1) (-1)) (KZ : ∀ v m₉, zV (zov wr_252 m m₉) → (zW (m 94 7) (m 98) (m 101) (m 102) (m 108)) → (zGW T (m₉ 94 55) (m₉ 109)) → (zGU T (m 94 46) (m₉ 99)) → (zOw (m₉ 99) (m 103) (m₉ 111)) → (zGG (m 94 58) (m₉ 94 56) (m 94 57) (m₉ 106)) → ((m₉ 94 45).toInt = sm (zbU (m₉ 99)) (m 102) 3100) → (qRB (m₉ 99) (m 100) (m 98) (m 101) (m 102) (m 103) (m 107) (m 108) (m₉ 109) (m₉ 111) (m₉ 112) (m₉ 113) (m₉ 114) (m₉ 94 55) (m 94 46) (m 94 11) (m 94 12) (m 94 62) (m 94 17) (m 94 9) (kSg aa ix r1)) → (qI (kSg aa ix r1)) → ((kSg aa ix r1) 87 8 = (m 94 58)) → (cV (kSg aa ix r1) [] B) → (qCt (m₉ 105) (m₉ 99) (m 100) (kSg aa ix r1) [] (-1) (-1)) → P (some (.inl v)) (zov wr_252 m m₉)) : zm X 5 111 252 0 [(0, .inr (.inr (some 94))), (1, .inl ix), (2, .inl r1)] m P := by
  have K : ∀ v m₉, zF wr_252 m m₉ → zV m₉ → (zW (m₉ 94 7) (m₉ 98) (m₉ 101) (m₉ 102) (m₉ 108)) → (zGW T (m₉ 94 55) (m₉ 109)) → (zGU T (m₉ 94 46) (m₉ 99)) → (zOw (m₉ 99) (m₉ 103) (m₉ 111)) → (zGG (m₉ 94 58) (m₉ 94 56) (m₉ 94 57) (m₉ 106)) → ((m₉ 94 45).toInt = sm (zbU (m₉ 99)) (m₉ 102) 3100) → (qRB (m₉ 99) (m₉ 100) (m₉ 98) (m₉ 101) (m₉ 102) (m₉ 103) (m₉ 107) (m₉ 108) (m₉ 109) (m₉ 111) (m₉ 112) (m₉ 113) (m₉ 114) (m₉ 94 55) (m₉ 94 46) (m₉ 94 11) (m₉ 94 12) (m₉ 94 62) (m₉ 94 17) (m₉ 94 9) (kSg aa ix r1)) → (qI (kSg aa ix r1)) → ((kSg aa ix r1) 87 8 = (m₉ 94 58)) → (cV (kSg aa ix r1) [] B) → (qCt (m₉ 105) (m₉ 99) (m₉ 100) (kSg aa ix r1) [] (-1) (-1)) → P (some (.inl v)) m₉ := by
    intro v m₉ hf z q0 q1 q2 q3 q4 q5 q6 q7 q8 q9 q10
    have e := zov_eq hf
    rw [e] at z ⊢
    try rw [e] at q0
    try rw [e] at q1
    try rw [e] at q2
    try rw [e] at q3
    try rw [e] at q4
    try rw [e] at q5
    try rw [e] at q6
    try rw [e] at q7
    try rw [e] at q8
    try rw [e] at q9
    try rw [e] at q10
    exact KZ v m₉ z q0 q1 q2 q3 q4 q5 q6 q7 q8 q9 q10
  refine g_252_0 ix r1 ?_
  have f1 : 0 ≤ (m 94 10).toInt ∧ (m 94 10).toInt ≤ 6 := rs_94_10 (m := m) hV
  have f2 : 0 ≤ (m 94 58).toInt ∧ (m 94 58).toInt ≤ 1 := rs_94_58 (m := m) hV
  have f3 : 0 ≤ (m 94 8).toInt ∧ (m 94 8).toInt ≤ 1 := rs_94_8 (m := m) hV
  have b4 := i_bd ix
  have li5 : (0 : Int32).toInt = 0 := rfl
  refine zd (fun (h6 : ix < (0 : Int32)) => ?_) (fun (h6 : ¬ ix < (0 : Int32)) => ?_)
  · skip
    have g7 := i_lt h6
    have hV8 : zV (ma_u m 94 0 (1 : Int32)) := uf_94_0 hV
    exact K ((0 : Int32)) _ (zF_u zF_rfl rfl) hV8 r_W r_GW r_GU r_OW r_GG r_WTS (show qRB (m 99) (m 100) (m 98) (m 101) (m 102) (m 103) (m 107) (m 108) (m 109) (m 111) (m 112) (m 113) (m 114) (m 94 55) (m 94 46) (m 94 11) (m 94 12) (m 94 62) (m 94 17) (m 94 9) (kSg aa ix r1) from by first | (rw [kSg_n r_RB (by omega) (by omega) (by omega)]; exact r_RB; done) | (rw [kSg_x (by omega)]; exact r_RB; done) | (exfalso; omega; done) | (exfalso; contradiction; done)) (show qI (kSg aa ix r1) from by first | (rw [kSg_n r_RB (by omega) (by omega) (by omega)]; exact r_QI; done) | (rw [kSg_x (by omega)]; exact r_QI; done) | (exfalso; omega; done) | (exfalso; contradiction; done)) (show (kSg aa ix r1) 87 8 = (m 94 58) from by first | (rw [kSg_n r_RB (by omega) (by omega) (by omega)]; exact r_MK; done) | (rw [kSg_x (by omega)]; exact r_MK; done) | (exfalso; omega; done) | (exfalso; contradiction; done)) (show cV (kSg aa ix r1) [] B from by first | (rw [kSg_n r_RB (by omega) (by omega) (by omega)]; exact r_VV; done) | (rw [kSg_x (by omega)]; exact r_VV; done) | (exfalso; omega; done) | (exfalso; contradiction; done)) (show qCt (m 105) (m 99) (m 100) (kSg aa ix r1) [] (-1) (-1) from by first | (rw [kSg_n r_RB (by omega) (by omega) (by omega)]; exact r_CT; done) | (rw [kSg_x (by omega)]; exact r_CT; done) | (exfalso; omega; done) | (exfalso; contradiction; done))
  · skip
    have g9 := i_nlt h6
    have li10 : (16 : Int32).toInt = 16 := rfl
    refine zd (fun (h11 : (16 : Int32) ≤ ix) => ?_) (fun (h11 : ¬ (16 : Int32) ≤ ix) => ?_)
    · skip
      have g12 := i_le h11
      have hV13 : zV (ma_u m 94 0 (1 : Int32)) := uf_94_0 hV
      exact K ((0 : Int32)) _ (zF_u zF_rfl rfl) hV13 r_W r_GW r_GU r_OW r_GG r_WTS (show qRB (m 99) (m 100) (m 98) (m 101) (m 102) (m 103) (m 107) (m 108) (m 109) (m 111) (m 112) (m 113) (m 114) (m 94 55) (m 94 46) (m 94 11) (m 94 12) (m 94 62) (m 94 17) (m 94 9) (kSg aa ix r1) from by first | (rw [kSg_n r_RB (by omega) (by omega) (by omega)]; exact r_RB; done) | (rw [kSg_x (by omega)]; exact r_RB; done) | (exfalso; omega; done) | (exfalso; contradiction; done)) (show qI (kSg aa ix r1) from by first | (rw [kSg_n r_RB (by omega) (by omega) (by omega)]; exact r_QI; done) | (rw [kSg_x (by omega)]; exact r_QI; done) | (exfalso; omega; done) | (exfalso; contradiction; done)) (show (kSg aa ix r1) 87 8 = (m 94 58) from by first | (rw [kSg_n r_RB (by omega) (by omega) (by omega)]; exact r_MK; done) | (rw [kSg_x (by omega)]; exact r_MK; done) | (exfalso; omega; done) | (exfalso; contradiction; done)) (show cV (kSg aa ix r1) [] B from by first | (rw [kSg_n r_RB (by omega) (by omega) (by omega)]; exact r_VV; done) | (rw [kSg_x (by omega)]; exact r_VV; done) | (exfalso; omega; done) | (exfalso; contradiction; done)) (show qCt (m 105) (m 99) (m 100) (kSg aa ix r1) [] (-1) (-1) from by first | (rw [kSg_n r_RB (by omega) (by omega) (by omega)]; exact r_CT; done) | (rw [kSg_x (by omega)]; exact r_CT; done) | (exfalso; omega; done) | (exfalso; contradiction; done))
    · skip
      have g14 := i_nle h11
      have b15 := i_bd r1
      refine zd (fun (h16 : r1 < (0 : Int32)) => ?_) (fun (h16 : ¬ r1 < (0 : Int32)) => ?_)
      · skip
        have g17 := i_lt h16
        have hV18 : zV (ma_u m 94 0 (1 : Int32)) := uf_94_0 hV
        exact K ((0 : Int32)) _ (zF_u zF_rfl rfl) hV18 r_W r_GW r_GU r_OW r_GG r_WTS (show qRB (m 99) (m 100) (m 98) (m 101) (m 102) (m 103) (m 107) (m 108) (m 109) (m 111) (m 112) (m 113) (m 114) (m 94 55) (m 94 46) (m 94 11) (m 94 12) (m 94 62) (m 94 17) (m 94 9) (kSg aa ix r1) from by first | (rw [kSg_n r_RB (by omega) (by omega) (by omega)]; exact r_RB; done) | (rw [kSg_x (by omega)]; exact r_RB; done) | (exfalso; omega; done) | (exfalso; contradiction; done)) (show qI (kSg aa ix r1) from by first | (rw [kSg_n r_RB (by omega) (by omega) (by omega)]; exact r_QI; done) | (rw [kSg_x (by omega)]; exact r_QI; done) | (exfalso; omega; done) | (exfalso; contradiction; done)) (show (kSg aa ix r1) 87 8 = (m 94 58) from by first | (rw [kSg_n r_RB (by omega) (by omega) (by omega)]; exact r_MK; done) | (rw [kSg_x (by omega)]; exact r_MK; done) | (exfalso; omega; done) | (exfalso; contradiction; done)) (show cV (kSg aa ix r1) [] B from by first | (rw [kSg_n r_RB (by omega) (by omega) (by omega)]; exact r_VV; done) | (rw [kSg_x (by omega)]; exact r_VV; done) | (exfalso; omega; done) | (exfalso; contradiction; done)) (show qCt (m 105) (m 99) (m 100) (kSg aa ix r1) [] (-1) (-1) from by first | (rw [kSg_n r_RB (by omega) (by omega) (by omega)]; exact r_CT; done) | (rw [kSg_x (by omega)]; exact r_CT; done) | (exfalso; omega; done) | (exfalso; contradiction; done))
      · skip
        have g19 := i_nlt h16
        refine zd (fun (h20 : (16 : Int32) ≤ r1) => ?_) (fun (h20 : ¬ (16 : Int32) ≤ r1) => ?_)
        · skip
          have g21 := i_le h20
          have hV22 : zV (ma_u m 94 0 (1 : Int32)) := uf_94_0 hV
          exact K ((0 : Int32)) _ (zF_u zF_rfl rfl) hV22 r_W r_GW r_GU r_OW r_GG r_WTS (show qRB (m 99) (m 100) (m 98) (m 101) (m 102) (m 103) (m 107) (m 108) (m 109) (m 111) (m 112) (m 113) (m 114) (m 94 55) (m 94 46) (m 94 11) (m 94 12) (m 94 62) (m 94 17) (m 94 9) (kSg aa ix r1) from by first | (rw [kSg_n r_RB (by omega) (by omega) (by omega)]; exact r_RB; done) | (rw [kSg_x (by omega)]; exact r_RB; done) | (exfalso; omega; done) | (exfalso; contradiction; done)) (show qI (kSg aa ix r1) from by first | (rw [kSg_n r_RB (by omega) (by omega) (by omega)]; exact r_QI; done) | (rw [kSg_x (by omega)]; exact r_QI; done) | (exfalso; omega; done) | (exfalso; contradiction; done)) (show (kSg aa ix r1) 87 8 = (m 94 58) from by first | (rw [kSg_n r_RB (by omega) (by omega) (by omega)]; exact r_MK; done) | (rw [kSg_x (by omega)]; exact r_MK; done) | (exfalso; omega; done) | (exfalso; contradiction; done)) (show cV (kSg aa ix r1) [] B from by first | (rw [kSg_n r_RB (by omega) (by omega) (by omega)]; exact r_VV; done) | (rw [kSg_x (by omega)]; exact r_VV; done) | (exfalso; omega; done) | (exfalso; contradiction; done)) (show qCt (m 105) (m 99) (m 100) (kSg aa ix r1) [] (-1) (-1) from by first | (rw [kSg_n r_RB (by omega) (by omega) (by omega)]; exact r_CT; done) | (rw [kSg_x (by omega)]; exact r_CT; done) | (exfalso; omega; done) | (exfalso; contradiction; done))
        · skip
          have g23 := i_nle h20
          refine zd (fun (h24 : (m 94 8) = (0 : Int32)) => ?_) (fun (h24 : ¬ (m 94 8) = (0 : Int32)) => ?_)
          · skip
            have g25 := i_eq h24
            exfalso; omega
          · skip
            have g26 := i_ne h24
            have hg27 : (0 ≤ ix ∧ ix.toNatClampNeg < 16) := i_ix (by omega) (by omega)
            refine ⟨hg27, ?_⟩
            first | have f28 : -1 ≤ (m 113 ix.toNatClampNeg).toInt ∧ (m 113 ix.toNatClampNeg).toInt ≤ 3099 := ra_113 (m := m) hV (k := ix.toNatClampNeg) (i_ix (n := 16) (by omega) (by omega)).2 | have b29 := i_bd (m 113 ix.toNatClampNeg)
            refine zd (fun (h30 : (0 : Int32) ≤ (m 113 ix.toNatClampNeg)) => ?_) (fun (h30 : ¬ (0 : Int32) ≤ (m 113 ix.toNatClampNeg)) => ?_)
            · skip
              have g31 := i_le h30
              refine zd (fun (h32 : (m 94 58) = (0 : Int32)) => ?_) (fun (h32 : ¬ (m 94 58) = (0 : Int32)) => ?_)
              · skip
                have g33 := i_eq h32
                have hV34 : zV (ma_u m 94 0 (0 : Int32)) := uf_94_0 hV
                refine sp_238r4 (x := (-1 : Int32)) (r1) ((m 113 ix.toNatClampNeg)) hV34 (by omega) (by omega) (by omega) (by omega) (by omega) (by omega) (show (m 94 10).toInt = 4 ∧ (m 94 58).toInt = 0 from by omega) r_W r_GW r_GU r_OW r_RB r_QI r_MK r_WTS r_VV (show qCt (m 105) (m 99) (m 100) aa [] (-1 : Int32) (-1) from by first | (exact r_CT) | (exfalso; omega; done) | (exfalso; contradiction; done)) (show qU (m 99) (m 113 ix.toNatClampNeg) from by first | (exact (r_RB.2.2.2.1 ix.toNatClampNeg (by omega)).1) | (assumption; done) | (exact ow5.1) | (exact ow3.1) | (exfalso; omega; done) | (exfalso; contradiction; done)) (show (-1 : Int32).toInt < 0 ∨ (-1 : Int32) = qNo (m 100) (m 113 ix.toNatClampNeg) from by first | (exact Or.inl (by decide)) | (exfalso; omega; done) | (exfalso; contradiction; done)) (fun m1 hV_m1 p0_m1 p1_m1 p2_m1 p3_m1 p4_m1 p5_m1 p6_m1 p7_m1 p8_m1 p9_m1 p10_m1 => zmv_n ?_)
                have p0_m1 : zGW T (m1 94 55) (m1 109) := p0_m1
                have p1_m1 : zGU T (m 94 46) (m1 99) := p1_m1
                have p2_m1 : zOw (m1 99) (m 103) (m1 111) := p2_m1
                have p3_m1 : (m1 94 45).toInt = sm (zbU (m1 99)) (m 102) 3100 := p3_m1
                have p4_m1 : qRB (m1 99) (m 100) (m 98) (m 101) (m 102) (m 103) (m 107) (m 108) (m1 109) (m1 111) (m1 112) (m1 113) (m1 114) (m1 94 55) (m 94 46) (m 94 11) (m 94 12) (m 94 62) (m 94 17) (m 94 9) (kRt aa r1 (qNo (m 100) (m 113 ix.toNatClampNeg))) := p4_m1
                have p5_m1 : qI (kRt aa r1 (qNo (m 100) (m 113 ix.toNatClampNeg))) := p5_m1
                have p6_m1 : (kRt aa r1 (qNo (m 100) (m 113 ix.toNatClampNeg))) 87 8 = (m 94 58) := p6_m1
                have p7_m1 : cV (kRt aa r1 (qNo (m 100) (m 113 ix.toNatClampNeg))) [] B := p7_m1
                have p8_m1 : qCt (m1 105) (m1 99) (m 100) (kRt aa r1 (qNo (m 100) (m 113 ix.toNatClampNeg))) [] (-1 : Int32) (-1) := p8_m1
                have p9_m1 : qXr (kRt aa r1 (qNo (m 100) (m 113 ix.toNatClampNeg))) (-1 : Int32) := p9_m1
                have p10_m1 : (m1 112) r1.toNatClampNeg = (m 113 ix.toNatClampNeg) := p10_m1
                have hg35 : (0 ≤ (m 113 ix.toNatClampNeg) ∧ (m 113 ix.toNatClampNeg).toNatClampNeg < 3100) := i_ix (by omega) (by omega)
                refine ⟨hg35, ?_⟩
                first | have f36 : 0 ≤ (m 100 (m 113 ix.toNatClampNeg).toNatClampNeg).toInt ∧ (m 100 (m 113 ix.toNatClampNeg).toNatClampNeg).toInt ≤ 100000 := ra_100 (m := m) hV (k := (m 113 ix.toNatClampNeg).toNatClampNeg) (i_ix (n := 3100) (by omega) (by omega)).2 | have b37 := i_bd (m 100 (m 113 ix.toNatClampNeg).toNatClampNeg)
                exact K ((m 100 (m 113 ix.toNatClampNeg).toNatClampNeg)) _ (zF_zov (zF_u zF_rfl rfl) ws_238_252) hV_m1 r_W p0_m1 p1_m1 p2_m1 (show zGG (m 94 58) (m1 94 56) (m 94 57) (m1 106) from by first | (exact r_GG) | (exact fun z => absurd z (by omega)) | (exact fun z => absurd z (by decide)) | (exact fun z => absurd z (by omega)) | (exfalso; omega; done) | (exfalso; contradiction; done)) p3_m1 (show qRB (m1 99) (m 100) (m 98) (m 101) (m 102) (m 103) (m 107) (m 108) (m1 109) (m1 111) (m1 112) (m1 113) (m1 114) (m1 94 55) (m 94 46) (m 94 11) (m 94 12) (m 94 62) (m 94 17) (m 94 9) (kSg aa ix r1) from by first | (rw [kSg_y r_RB (by omega) (by omega) (by omega) (by omega) (by omega)]; exact p4_m1; done) | (exfalso; omega; done) | (exfalso; contradiction; done)) (show qI (kSg aa ix r1) from by first | (rw [kSg_y r_RB (by omega) (by omega) (by omega) (by omega) (by omega)]; exact p5_m1; done) | (exfalso; omega; done) | (exfalso; contradiction; done)) (show (kSg aa ix r1) 87 8 = (m 94 58) from by first | (rw [kSg_y r_RB (by omega) (by omega) (by omega) (by omega) (by omega)]; exact p6_m1; done) | (exfalso; omega; done) | (exfalso; contradiction; done)) (show cV (kSg aa ix r1) [] B from by first | (rw [kSg_y r_RB (by omega) (by omega) (by omega) (by omega) (by omega)]; exact p7_m1; done) | (exfalso; omega; done) | (exfalso; contradiction; done)) (show qCt (m1 105) (m1 99) (m 100) (kSg aa ix r1) [] (-1) (-1) from by first | (rw [kSg_y r_RB (by omega) (by omega) (by omega) (by omega) (by omega)]; exact p8_m1; done) | (exfalso; omega; done) | (exfalso; contradiction; done))
              · skip
                have g38 := i_ne h32
                exfalso; omega
            · skip
              have g39 := i_nle h30
              have hV40 : zV (ma_u m 94 0 (0 : Int32)) := uf_94_0 hV
              have li41 : (-1 : Int32).toInt = -1 := rfl
              exact K ((-1 : Int32)) _ (zF_u zF_rfl rfl) hV40 r_W r_GW r_GU r_OW r_GG r_WTS (show qRB (m 99) (m 100) (m 98) (m 101) (m 102) (m 103) (m 107) (m 108) (m 109) (m 111) (m 112) (m 113) (m 114) (m 94 55) (m 94 46) (m 94 11) (m 94 12) (m 94 62) (m 94 17) (m 94 9) (kSg aa ix r1) from by first | (rw [kSg_n r_RB (by omega) (by omega) (by omega)]; exact r_RB; done) | (rw [kSg_x (by omega)]; exact r_RB; done) | (exfalso; omega; done) | (exfalso; contradiction; done)) (show qI (kSg aa ix r1) from by first | (rw [kSg_n r_RB (by omega) (by omega) (by omega)]; exact r_QI; done) | (rw [kSg_x (by omega)]; exact r_QI; done) | (exfalso; omega; done) | (exfalso; contradiction; done)) (show (kSg aa ix r1) 87 8 = (m 94 58) from by first | (rw [kSg_n r_RB (by omega) (by omega) (by omega)]; exact r_MK; done) | (rw [kSg_x (by omega)]; exact r_MK; done) | (exfalso; omega; done) | (exfalso; contradiction; done)) (show cV (kSg aa ix r1) [] B from by first | (rw [kSg_n r_RB (by omega) (by omega) (by omega)]; exact r_VV; done) | (rw [kSg_x (by omega)]; exact r_VV; done) | (exfalso; omega; done) | (exfalso; contradiction; done)) (show qCt (m 105) (m 99) (m 100) (kSg aa ix r1) [] (-1) (-1) from by first | (rw [kSg_n r_RB (by omega) (by omega) (by omega)]; exact r_CT; done) | (rw [kSg_x (by omega)]; exact r_CT; done) | (exfalso; omega; done) | (exfalso; contradiction; done))

