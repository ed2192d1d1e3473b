/-! the reference under COUNTS (written by wip/tools/gen20s.py) -/
/-! COUNTS, the reference: a hold -/
section D6
variable {a : Nat → Nat → Int32} {us nr kr kd ws at' ho wd wi ow rt wk wl ct ct' : Nat → Int32} {wm nu ro fo le ra pi y v o im : Int32} {m : Nat → Nat → Int32} {B : Int}
theorem Ho_P0 (h : ¬ zRq a o) : kHo a o y = a := qIf_n (fun w => h w.1)
theorem Ho_E (hR : qRB us nr kr kd ws at' ho wd wi ow rt wk wl wm nu ro fo le ra pi a) (h : qRe us nr a o v) (hv : 0 ≤ v.toInt) (h0 : y = 0) (hh : ¬ ho v.toNatClampNeg = 0) : kHo a o y = cLe (ma_u a 133 (nr v.toNatClampNeg).toNatClampNeg (ho v.toNatClampNeg + -1)) (qNo nr v) := by
  rw [No_y hv]
  exact kHo_y hR h hv (Or.inr hh) (by rw [if_pos h0])
theorem Ho_P1 (hR : qRB us nr kr kd ws at' (m 107) wd wi ow rt wk wl wm nu ro fo le ra pi a) (hI : qI a) (h8 : a 87 8 = im) (hV : cV a [] B) (hB : B + 1 ≤ 1000000) (hC : qCt ct us nr a [] (-1) (-1)) (h : qRe us nr a o v) (hv : 0 ≤ v.toInt) (h0 : ¬ y = 0) (e : ct' = zUp ct v.toNatClampNeg (ct v.toNatClampNeg + 1)) : qRB us nr kr kd ws at' (ma_u m 107 v.toNatClampNeg (m 107 v.toNatClampNeg + 1) 107) wd wi ow rt wk wl wm nu ro fo le ra pi (kHo a o y) ∧ qI (kHo a o y) ∧ kHo a o y 87 8 = im ∧ cV (kHo a o y) [] (B + 1) ∧ qCt ct' us nr (kHo a o y) [] (-1) (-1) := by
  have q := Re_y h hv
  have hon := Ho_on hR hV hB hC hv (by omega) q.2.1 e
  rw [kHo_y hR h hv (Or.inl h0) (by rw [if_neg h0]), hon.1]
  refine ⟨RB_ho hR (tn_lt hv (by omega)) q.2.1, I_u hI (Or.inr (Or.inr (Or.inl rfl))), ?_, hon.2.1, hon.2.2⟩
  rw [un (by decide)]
  exact h8
end D6

/-! the reference under COUNTS (written by wip/tools/gen20s.py) -/
set_option maxHeartbeats 8000000 in
theorem sp_253r4x {X : Nat × (Nat → Int32)} {P : Option ma_V → (Nat → Nat → Int32) → Prop} {T : Nat} {aa : Nat→Nat→Int32} {B : Int} {m : Nat → Nat → Int32} (ob : Int32) (on : Int32) (hV : zV m) (hpre0 : 0 ≤ on.toInt) (hpre1 : on.toInt ≤ 1) (hpre2 : B + 1 ≤ 1000000) (hpre3 : T ≤ 512) (hpre4 : B ≤ 1000000) (r_W : zW (m 94 7) (m 98) (m 101) (m 102) (m 108)) (r_GW : zGW T (m 94 55) (m 109)) (r_GU : zGU T (m 94 46) (m 99)) (r_OW : zOw (m 99) (m 103) (m 111)) (r_GG : zGG (m 94 58) (m 94 56) (m 94 57) (m 106)) (hpre10 : (m 94 10).toInt = 4 ∧ (m 94 58).toInt = 0) (hpre11 : (m 94 8).toInt = 1) (r_RB : qRB (m 99) (m 100) (m 98) (m 101) (m 102) (m 103) (m 107) (m 108) (m 109) (m 111) (m 112) (m 113) (m 114) (m 94 55) (m 94 46) (m 94 11) (m 94 12) (m 94 62) (m 94 17) (m 94 9) aa) (r_QI : qI aa) (r_MK : aa 87 8 = (m 94 58)) (r_WTS : (m 94 45).toInt = sm (zbU (m 99)) (m 102) 3100) (r_VV : cV aa [] B) (r_CT : qCt (m 105) (m 99) (m 100) aa [] (-1) (-1)) (KZ : ∀ v m', zV (zov wr_253 m m') → (zW (m 94 7) (m 98) (m 101) (m 102) (m 108)) → (zGW T (m' 94 55) (m' 109)) → (zGU T (m 94 46) (m' 99)) → (zOw (m' 99) (m 103) (m' 111)) → (zGG (m 94 58) (m 94 56) (m 94 57) (m 106)) → ((m' 94 45).toInt = sm (zbU (m' 99)) (m 102) 3100) → (qRB (m' 99) (m 100) (m 98) (m 101) (m 102) (m 103) (m' 107) (m 108) (m' 109) (m' 111) (m 112) (m' 113) (m' 114) (m' 94 55) (m 94 46) (m 94 11) (m 94 12) (m 94 62) (m 94 17) (m 94 9) (kHo aa ob on)) → (qI (kHo aa ob on)) → ((kHo aa ob on) 87 8 = (m 94 58)) → (cV (kHo aa ob on) [] (B + 1)) → (qCt (m' 105) (m' 99) (m 100) (kHo aa ob on) [] (-1) (-1)) → P (some (.inl v)) (zov wr_253 m m')) : zm X 5 109 253 0 [(0, .inr (.inr (some 94))), (1, .inl ob), (2, .inl on)] m P := by
  have K : ∀ v m', zF wr_253 m m' → zV m' → (zW (m' 94 7) (m' 98) (m' 101) (m' 102) (m' 108)) → (zGW T (m' 94 55) (m' 109)) → (zGU T (m' 94 46) (m' 99)) → (zOw (m' 99) (m' 103) (m' 111)) → (zGG (m' 94 58) (m' 94 56) (m' 94 57) (m' 106)) → ((m' 94 45).toInt = sm (zbU (m' 99)) (m' 102) 3100) → (qRB (m' 99) (m' 100) (m' 98) (m' 101) (m' 102) (m' 103) (m' 107) (m' 108) (m' 109) (m' 111) (m' 112) (m' 113) (m' 114) (m' 94 55) (m' 94 46) (m' 94 11) (m' 94 12) (m' 94 62) (m' 94 17) (m' 94 9) (kHo aa ob on)) → (qI (kHo aa ob on)) → ((kHo aa ob on) 87 8 = (m' 94 58)) → (cV (kHo aa ob on) [] (B + 1)) → (qCt (m' 105) (m' 99) (m' 100) (kHo aa ob on) [] (-1) (-1)) → P (some (.inl v)) m' := by
    intro v m' hf z q0 q1 q2 q3 q4 q5 q6 q7 q8 q9 q10
    have e := zov_eq hf
    rw [e] at z ⊢
    try rw [e] at q0
    try rw [e] at q1
    try rw [e] at q2
    try rw [e] at q3
    try rw [e] at q4
    try rw [e] at q5
    try rw [e] at q6
    try rw [e] at q7
    try rw [e] at q8
    try rw [e] at q9
    try rw [e] at q10
    exact KZ v m' z q0 q1 q2 q3 q4 q5 q6 q7 q8 q9 q10
  refine g_253_0 ob on ?_
  have f1 : 0 ≤ (m 94 10).toInt ∧ (m 94 10).toInt ≤ 6 := rs_94_10 (m := m) hV
  have f2 : 0 ≤ (m 94 58).toInt ∧ (m 94 58).toInt ≤ 1 := rs_94_58 (m := m) hV
  have f3 : 0 ≤ (m 94 8).toInt ∧ (m 94 8).toInt ≤ 1 := rs_94_8 (m := m) hV
  have li4 : (0 : Int32).toInt = 0 := rfl
  refine zd (fun (h5 : (m 94 8) = (0 : Int32)) => ?_) (fun (h5 : ¬ (m 94 8) = (0 : Int32)) => ?_)
  · skip
    have g6 := i_eq h5
    exfalso; omega
  · skip
    have g7 := i_ne h5
    have b8 := i_bd ob
    have hV9 : zV (ma_u m 94 0 (0 : Int32)) := uf_94_0 hV
    refine sp_245r (aa := aa) (ob) hV9 r_W r_RB r_QI (fun v2 m1 hV_m1 p0_m1 p1_m1 p2_m1 => zmi_n ?_)
    have p0_m1 : -1 ≤ v2.toInt ∧ v2.toInt ≤ 3099 := p0_m1
    have p1_m1 : v2.toInt < 0 ∨ (m 99) v2.toNatClampNeg ≠ 0 := p1_m1
    have p2_m1 : qRe (m 99) (m 100) aa ob v2 := p2_m1
    have b10 := i_bd v2
    refine zd (fun (h11 : (0 : Int32) ≤ v2) => ?_) (fun (h11 : ¬ (0 : Int32) ≤ v2) => ?_)
    · skip
      have g12 := i_le h11
      have li13 : (2 : Int32).toInt = 2 := rfl
      refine zd (fun (h14 : (m 94 10) = (2 : Int32)) => ?_) (fun (h14 : ¬ (m 94 10) = (2 : Int32)) => ?_)
      · skip
        have g15 := i_eq h14
        exfalso; omega
      · skip
        have g16 := i_ne h14
        have li17 : (3 : Int32).toInt = 3 := rfl
        refine zd (fun (h18 : (m 94 10) = (3 : Int32)) => ?_) (fun (h18 : ¬ (m 94 10) = (3 : Int32)) => ?_)
        · skip
          have g19 := i_eq h18
          exfalso; omega
        · skip
          have g20 := i_ne h18
          have b21 := i_bd on
          refine zd (fun (h22 : on = (0 : Int32)) => ?_) (fun (h22 : ¬ on = (0 : Int32)) => ?_)
          · skip
            have g23 := i_eq h22
            have hg24 : (0 ≤ v2 ∧ v2.toNatClampNeg < 3100) := i_ix (by omega) (by omega)
            refine ⟨hg24, ?_⟩
            have b25 := i_bd (m 107 v2.toNatClampNeg)
            refine zd (fun (h26 : (m 107 v2.toNatClampNeg) = (0 : Int32)) => ?_) (fun (h26 : ¬ (m 107 v2.toNatClampNeg) = (0 : Int32)) => ?_)
            · skip
              have g27 := i_eq h26
              have hV28 : zV (ma_u (zov wr_245 (ma_u m 94 0 (0 : Int32)) m1) 94 0 (3 : Int32)) := uf_94_0 hV_m1
              exact K ((0 : Int32)) _ (zF_u (zF_zov (zF_u zF_rfl rfl) ws_245_253) rfl) hV28 r_W r_GW r_GU r_OW r_GG r_WTS (show qRB (m 99) (m 100) (m 98) (m 101) (m 102) (m 103) (m 107) (m 108) (m 109) (m 111) (m 112) (m 113) (m 114) (m 94 55) (m 94 46) (m 94 11) (m 94 12) (m 94 62) (m 94 17) (m 94 9) (kHo aa ob on) from by first | (rw [Ho_P0 (Re_n p2_m1 (by omega))]; exact r_RB; done) | (rw [kHo_x r_RB p2_m1 (by omega) (i_zer (by omega)) (i_zer (by omega))]; exact r_RB; done) | (exfalso; omega; done) | (exfalso; contradiction; done)) (show qI (kHo aa ob on) from by first | (rw [Ho_P0 (Re_n p2_m1 (by omega))]; exact r_QI; done) | (rw [kHo_x r_RB p2_m1 (by omega) (i_zer (by omega)) (i_zer (by omega))]; exact r_QI; done) | (exfalso; omega; done) | (exfalso; contradiction; done)) (show (kHo aa ob on) 87 8 = (m 94 58) from by first | (rw [Ho_P0 (Re_n p2_m1 (by omega))]; exact r_MK; done) | (rw [kHo_x r_RB p2_m1 (by omega) (i_zer (by omega)) (i_zer (by omega))]; exact r_MK; done) | (exfalso; omega; done) | (exfalso; contradiction; done)) (show cV (kHo aa ob on) [] (B + 1) from by first | (rw [Ho_P0 (Re_n p2_m1 (by omega))]; exact V_up r_VV; done) | (rw [kHo_x r_RB p2_m1 (by omega) (i_zer (by omega)) (i_zer (by omega))]; exact V_up r_VV; done) | (exfalso; omega; done) | (exfalso; contradiction; done)) (show qCt (m 105) (m 99) (m 100) (kHo aa ob on) [] (-1) (-1) from by first | (rw [Ho_P0 (Re_n p2_m1 (by omega))]; exact r_CT; done) | (rw [kHo_x r_RB p2_m1 (by omega) (i_zer (by omega)) (i_zer (by omega))]; exact r_CT; done) | (exfalso; omega; done) | (exfalso; contradiction; done))
            · skip
              have g29 := i_ne h26
              have hg30 : (0 ≤ v2 ∧ v2.toNatClampNeg < 3100) := i_ix (by omega) (by omega)
              refine ⟨hg30, ?_⟩
              refine zd (fun (h31 : on = (0 : Int32)) => ?_) (fun (h31 : ¬ on = (0 : Int32)) => ?_)
              · skip
                have g32 := i_eq h31
                have hg33 : (0 ≤ v2 ∧ v2.toNatClampNeg < 3100) := i_ix (by omega) (by omega)
                refine ⟨hg33, ?_⟩
                refine zd (fun (h34 : on = (0 : Int32)) => ?_) (fun (h34 : ¬ on = (0 : Int32)) => ?_)
                · skip
                  have g35 := i_eq h34
                  have hV36 : zV (ma_u (zov wr_245 (ma_u m 94 0 (0 : Int32)) m1) 94 0 (0 : Int32)) := uf_94_0 hV_m1
                  have hV37 : zV (ma_u (ma_u (zov wr_245 (ma_u m 94 0 (0 : Int32)) m1) 94 0 (0 : Int32)) 107 v2.toNatClampNeg ((m 107 v2.toNatClampNeg) + (-1 : Int32))) := ua_107 hV36
                  refine sp_241r4 (aa := (ma_u aa 133 (m 100 v2.toNatClampNeg).toNatClampNeg ((m 107 v2.toNatClampNeg) + (-1 : Int32)))) (x := (-1 : Int32)) (B := (B + 1)) (v2) hV37 (by omega) (by omega) (by omega) (by omega) (show (m 94 10).toInt = 4 ∧ (m 94 58).toInt = 0 from by omega) r_W r_GW r_GU r_OW (show qRB (m 99) (m 100) (m 98) (m 101) (m 102) (m 103) ((ma_u m 107 v2.toNatClampNeg ((m 107 v2.toNatClampNeg) + (-1 : Int32))) 107) (m 108) (m 109) (m 111) (m 112) (m 113) (m 114) (m 94 55) (m 94 46) (m 94 11) (m 94 12) (m 94 62) (m 94 17) (m 94 9) (ma_u aa 133 (m 100 v2.toNatClampNeg).toNatClampNeg ((m 107 v2.toNatClampNeg) + (-1 : Int32))) from by first | (exact RB_ho r_RB (tn_lt (by omega) (by omega)) (Re_y p2_m1 (by omega)).2.1) | (exfalso; omega; done) | (exfalso; contradiction; done)) (show qI (ma_u aa 133 (m 100 v2.toNatClampNeg).toNatClampNeg ((m 107 v2.toNatClampNeg) + (-1 : Int32))) from by first | (exact I_u r_QI (Or.inr (Or.inr (Or.inl rfl)))) | (exfalso; omega; done) | (exfalso; contradiction; done)) (show (ma_u aa 133 (m 100 v2.toNatClampNeg).toNatClampNeg ((m 107 v2.toNatClampNeg) + (-1 : Int32))) 87 8 = (m 94 58) from by first | (rw [un (by decide)]; exact r_MK; done) | (exfalso; omega; done) | (exfalso; contradiction; done)) r_WTS (show cV (ma_u aa 133 (m 100 v2.toNatClampNeg).toNatClampNeg ((m 107 v2.toNatClampNeg) + (-1 : Int32))) [] (B + 1) from by first | (exact (Ho_of r_RB r_VV (by omega) r_CT (by omega) (by omega) (Re_y p2_m1 (by omega)).2.1 (i_nz2 (by omega))).1) | (exfalso; omega; done) | (exfalso; contradiction; done)) (show qCt (m 105) (m 99) (m 100) (ma_u aa 133 (m 100 v2.toNatClampNeg).toNatClampNeg ((m 107 v2.toNatClampNeg) + (-1 : Int32))) [] (-1 : Int32) (qNo (m 100) v2) from by first | (exact (Ho_of r_RB r_VV (by omega) r_CT (by omega) (by omega) (Re_y p2_m1 (by omega)).2.1 (i_nz2 (by omega))).2) | (exfalso; omega; done) | (exfalso; contradiction; done)) (show qU (m 99) v2 from by first | (exact Or.inr ⟨by omega, (Re_y p2_m1 (by omega)).2.1⟩) | (assumption; done) | (exact ow5.1) | (exact ow3.1) | (exfalso; omega; done) | (exfalso; contradiction; done)) (show qXr (ma_u aa 133 (m 100 v2.toNatClampNeg).toNatClampNeg ((m 107 v2.toNatClampNeg) + (-1 : Int32))) (-1 : Int32) from by first | (exact Xr_m1) | (exfalso; omega; done) | (exfalso; contradiction; done)) (fun m7 hV_m7 p0_m7 p1_m7 p2_m7 p3_m7 p4_m7 p5_m7 p6_m7 p7_m7 p8_m7 p9_m7 => zmv_n ?_)
                  have p0_m7 : zGW T (m7 94 55) (m7 109) := p0_m7
                  have p1_m7 : zGU T (m 94 46) (m7 99) := p1_m7
                  have p2_m7 : zOw (m7 99) (m 103) (m7 111) := p2_m7
                  have p3_m7 : (m7 94 45).toInt = sm (zbU (m7 99)) (m 102) 3100 := p3_m7
                  have p4_m7 : qRB (m7 99) (m 100) (m 98) (m 101) (m 102) (m 103) ((ma_u m 107 v2.toNatClampNeg ((m 107 v2.toNatClampNeg) + (-1 : Int32))) 107) (m 108) (m7 109) (m7 111) (m 112) (m7 113) (m7 114) (m7 94 55) (m 94 46) (m 94 11) (m 94 12) (m 94 62) (m 94 17) (m 94 9) (cLe (ma_u aa 133 (m 100 v2.toNatClampNeg).toNatClampNeg ((m 107 v2.toNatClampNeg) + (-1 : Int32))) (qNo (m 100) v2)) := p4_m7
                  have p5_m7 : qI (cLe (ma_u aa 133 (m 100 v2.toNatClampNeg).toNatClampNeg ((m 107 v2.toNatClampNeg) + (-1 : Int32))) (qNo (m 100) v2)) := p5_m7
                  have p6_m7 : (cLe (ma_u aa 133 (m 100 v2.toNatClampNeg).toNatClampNeg ((m 107 v2.toNatClampNeg) + (-1 : Int32))) (qNo (m 100) v2)) 87 8 = (m 94 58) := p6_m7
                  have p7_m7 : cV (cLe (ma_u aa 133 (m 100 v2.toNatClampNeg).toNatClampNeg ((m 107 v2.toNatClampNeg) + (-1 : Int32))) (qNo (m 100) v2)) [] (B + 1) := p7_m7
                  have p8_m7 : qCt (m7 105) (m7 99) (m 100) (cLe (ma_u aa 133 (m 100 v2.toNatClampNeg).toNatClampNeg ((m 107 v2.toNatClampNeg) + (-1 : Int32))) (qNo (m 100) v2)) [] (-1 : Int32) (-1) := p8_m7
                  have p9_m7 : qXr (cLe (ma_u aa 133 (m 100 v2.toNatClampNeg).toNatClampNeg ((m 107 v2.toNatClampNeg) + (-1 : Int32))) (qNo (m 100) v2)) (-1 : Int32) := p9_m7
                  first | have e38 : ((m 107 v2.toNatClampNeg) + (-1 : Int32)).toInt = (m 107 v2.toNatClampNeg).toInt + (-1) := i_addk rfl (by omega) (by omega) | have b39 := i_bd ((m 107 v2.toNatClampNeg) + (-1 : Int32))
                  exact K (((m 107 v2.toNatClampNeg) + (-1 : Int32))) _ (zF_zov (zF_u (zF_u (zF_zov (zF_u zF_rfl rfl) ws_245_253) rfl) rfl) ws_241_253) hV_m7 r_W p0_m7 p1_m7 p2_m7 r_GG p3_m7 (show qRB (m7 99) (m 100) (m 98) (m 101) (m 102) (m 103) ((ma_u m 107 v2.toNatClampNeg ((m 107 v2.toNatClampNeg) + (-1 : Int32))) 107) (m 108) (m7 109) (m7 111) (m 112) (m7 113) (m7 114) (m7 94 55) (m 94 46) (m 94 11) (m 94 12) (m 94 62) (m 94 17) (m 94 9) (kHo aa ob on) from by first | (rw [Ho_E r_RB p2_m1 (by omega) (i_zer (by omega)) (i_nz2 (by omega))]; exact p4_m7; done) | (exfalso; omega; done) | (exfalso; contradiction; done)) (show qI (kHo aa ob on) from by first | (rw [Ho_E r_RB p2_m1 (by omega) (i_zer (by omega)) (i_nz2 (by omega))]; exact p5_m7; done) | (exfalso; omega; done) | (exfalso; contradiction; done)) (show (kHo aa ob on) 87 8 = (m 94 58) from by first | (rw [Ho_E r_RB p2_m1 (by omega) (i_zer (by omega)) (i_nz2 (by omega))]; exact p6_m7; done) | (exfalso; omega; done) | (exfalso; contradiction; done)) (show cV (kHo aa ob on) [] (B + 1) from by first | (rw [Ho_E r_RB p2_m1 (by omega) (i_zer (by omega)) (i_nz2 (by omega))]; exact p7_m7; done) | (exfalso; omega; done) | (exfalso; contradiction; done)) (show qCt (m7 105) (m7 99) (m 100) (kHo aa ob on) [] (-1) (-1) from by first | (rw [Ho_E r_RB p2_m1 (by omega) (i_zer (by omega)) (i_nz2 (by omega))]; exact p8_m7; done) | (exfalso; omega; done) | (exfalso; contradiction; done))
                · skip
                  have g40 := i_ne h34
                  refine zd (fun (h41 : v2 < (0 : Int32)) => ?_) (fun (h41 : ¬ v2 < (0 : Int32)) => ?_)
                  · skip
                    have g42 := i_lt h41
                    have hV43 : zV (ma_u (zov wr_245 (ma_u m 94 0 (0 : Int32)) m1) 94 0 (0 : Int32)) := uf_94_0 hV_m1
                    have hV44 : zV (ma_u (ma_u (zov wr_245 (ma_u m 94 0 (0 : Int32)) m1) 94 0 (0 : Int32)) 107 v2.toNatClampNeg ((m 107 v2.toNatClampNeg) + (-1 : Int32))) := ua_107 hV43
                    first | have e45 : ((m 107 v2.toNatClampNeg) + (-1 : Int32)).toInt = (m 107 v2.toNatClampNeg).toInt + (-1) := i_addk rfl (by omega) (by omega) | have b46 := i_bd ((m 107 v2.toNatClampNeg) + (-1 : Int32))
                    exact K (((m 107 v2.toNatClampNeg) + (-1 : Int32))) _ (zF_u (zF_u (zF_zov (zF_u zF_rfl rfl) ws_245_253) rfl) rfl) hV44 r_W r_GW r_GU r_OW r_GG r_WTS (show qRB (m 99) (m 100) (m 98) (m 101) (m 102) (m 103) ((ma_u m 107 v2.toNatClampNeg ((m 107 v2.toNatClampNeg) + (-1 : Int32))) 107) (m 108) (m 109) (m 111) (m 112) (m 113) (m 114) (m 94 55) (m 94 46) (m 94 11) (m 94 12) (m 94 62) (m 94 17) (m 94 9) (kHo aa ob on) from by first | (exfalso; omega; done) | (exfalso; omega; done) | (exfalso; contradiction; done)) (show qI (kHo aa ob on) from by first | (exfalso; omega; done) | (exfalso; omega; done) | (exfalso; contradiction; done)) (show (kHo aa ob on) 87 8 = (m 94 58) from by first | (exfalso; omega; done) | (exfalso; omega; done) | (exfalso; contradiction; done)) (show cV (kHo aa ob on) [] (B + 1) from by first | (exfalso; omega; done) | (exfalso; omega; done) | (exfalso; contradiction; done)) (show qCt (m 105) (m 99) (m 100) (kHo aa ob on) [] (-1) (-1) from by first | (exfalso; omega; done) | (exfalso; omega; done) | (exfalso; contradiction; done))
                  · skip
                    have g47 := i_nlt h41
                    have li48 : (4 : Int32).toInt = 4 := rfl
                    refine zd (fun (h49 : (m 94 10) = (4 : Int32)) => ?_) (fun (h49 : ¬ (m 94 10) = (4 : Int32)) => ?_)
                    · skip
                      have g50 := i_eq h49
                      have hg51 : (0 ≤ v2 ∧ v2.toNatClampNeg < 3100) := i_ix (by omega) (by omega)
                      refine ⟨hg51, ?_⟩
                      have hg52 : (0 ≤ v2 ∧ v2.toNatClampNeg < 3100) := i_ix (by omega) (by omega)
                      refine ⟨hg52, ?_⟩
                      have hV53 : zV (ma_u (zov wr_245 (ma_u m 94 0 (0 : Int32)) m1) 94 0 (0 : Int32)) := uf_94_0 hV_m1
                      have hV54 : zV (ma_u (ma_u (zov wr_245 (ma_u m 94 0 (0 : Int32)) m1) 94 0 (0 : Int32)) 107 v2.toNatClampNeg ((m 107 v2.toNatClampNeg) + (-1 : Int32))) := ua_107 hV53
                      have hV55 : zV (ma_u (ma_u (ma_u (zov wr_245 (ma_u m 94 0 (0 : Int32)) m1) 94 0 (0 : Int32)) 107 v2.toNatClampNeg ((m 107 v2.toNatClampNeg) + (-1 : Int32))) 105 v2.toNatClampNeg ((m 105 v2.toNatClampNeg) + (1 : Int32))) := ua_105 hV54
                      first | have e56 : ((m 107 v2.toNatClampNeg) + (-1 : Int32)).toInt = (m 107 v2.toNatClampNeg).toInt + (-1) := i_addk rfl (by omega) (by omega) | have b57 := i_bd ((m 107 v2.toNatClampNeg) + (-1 : Int32))
                      exact K (((m 107 v2.toNatClampNeg) + (-1 : Int32))) _ (zF_u (zF_u (zF_u (zF_zov (zF_u zF_rfl rfl) ws_245_253) rfl) rfl) rfl) hV55 r_W r_GW r_GU r_OW r_GG r_WTS (show qRB (m 99) (m 100) (m 98) (m 101) (m 102) (m 103) ((ma_u m 107 v2.toNatClampNeg ((m 107 v2.toNatClampNeg) + (-1 : Int32))) 107) (m 108) (m 109) (m 111) (m 112) (m 113) (m 114) (m 94 55) (m 94 46) (m 94 11) (m 94 12) (m 94 62) (m 94 17) (m 94 9) (kHo aa ob on) from by first | (exfalso; omega; done) | (exfalso; omega; done) | (exfalso; contradiction; done)) (show qI (kHo aa ob on) from by first | (exfalso; omega; done) | (exfalso; omega; done) | (exfalso; contradiction; done)) (show (kHo aa ob on) 87 8 = (m 94 58) from by first | (exfalso; omega; done) | (exfalso; omega; done) | (exfalso; contradiction; done)) (show cV (kHo aa ob on) [] (B + 1) from by first | (exfalso; omega; done) | (exfalso; omega; done) | (exfalso; contradiction; done)) (show qCt ((ma_u m 105 v2.toNatClampNeg ((m 105 v2.toNatClampNeg) + (1 : Int32))) 105) (m 99) (m 100) (kHo aa ob on) [] (-1) (-1) from by first | (exfalso; omega; done) | (exfalso; omega; done) | (exfalso; contradiction; done))
                    · skip
                      have g58 := i_ne h49
                      exfalso; omega
              · skip
                have g59 := i_ne h31
                have hg60 : (0 ≤ v2 ∧ v2.toNatClampNeg < 3100) := i_ix (by omega) (by omega)
                refine ⟨hg60, ?_⟩
                refine zd (fun (h61 : on = (0 : Int32)) => ?_) (fun (h61 : ¬ on = (0 : Int32)) => ?_)
                · skip
                  have g62 := i_eq h61
                  have hV63 : zV (ma_u (zov wr_245 (ma_u m 94 0 (0 : Int32)) m1) 94 0 (0 : Int32)) := uf_94_0 hV_m1
                  have hV64 : zV (ma_u (ma_u (zov wr_245 (ma_u m 94 0 (0 : Int32)) m1) 94 0 (0 : Int32)) 107 v2.toNatClampNeg ((m 107 v2.toNatClampNeg) + (1 : Int32))) := ua_107 hV63
                  refine sp_241r4 (aa := (ma_u aa 133 (m 100 v2.toNatClampNeg).toNatClampNeg ((m 107 v2.toNatClampNeg) + (1 : Int32)))) (x := (-1 : Int32)) (B := (B + 1)) (v2) hV64 (by omega) (by omega) (by omega) (by omega) (show (m 94 10).toInt = 4 ∧ (m 94 58).toInt = 0 from by omega) r_W r_GW r_GU r_OW (show qRB (m 99) (m 100) (m 98) (m 101) (m 102) (m 103) ((ma_u m 107 v2.toNatClampNeg ((m 107 v2.toNatClampNeg) + (1 : Int32))) 107) (m 108) (m 109) (m 111) (m 112) (m 113) (m 114) (m 94 55) (m 94 46) (m 94 11) (m 94 12) (m 94 62) (m 94 17) (m 94 9) (ma_u aa 133 (m 100 v2.toNatClampNeg).toNatClampNeg ((m 107 v2.toNatClampNeg) + (1 : Int32))) from by first | (exfalso; omega; done) | (exfalso; omega; done) | (exfalso; contradiction; done)) (show qI (ma_u aa 133 (m 100 v2.toNatClampNeg).toNatClampNeg ((m 107 v2.toNatClampNeg) + (1 : Int32))) from by first | (exfalso; omega; done) | (exfalso; omega; done) | (exfalso; contradiction; done)) (show (ma_u aa 133 (m 100 v2.toNatClampNeg).toNatClampNeg ((m 107 v2.toNatClampNeg) + (1 : Int32))) 87 8 = (m 94 58) from by first | (exfalso; omega; done) | (exfalso; omega; done) | (exfalso; contradiction; done)) r_WTS (show cV (ma_u aa 133 (m 100 v2.toNatClampNeg).toNatClampNeg ((m 107 v2.toNatClampNeg) + (1 : Int32))) [] (B + 1) from by first | (exfalso; omega; done) | (exfalso; omega; done) | (exfalso; contradiction; done)) (show qCt (m 105) (m 99) (m 100) (ma_u aa 133 (m 100 v2.toNatClampNeg).toNatClampNeg ((m 107 v2.toNatClampNeg) + (1 : Int32))) [] (-1 : Int32) (qNo (m 100) v2) from by first | (exfalso; omega; done) | (exfalso; omega; done) | (exfalso; contradiction; done)) (show qU (m 99) v2 from by first | (exfalso; omega; done) | (assumption; done) | (exact ow5.1) | (exact ow3.1) | (exfalso; omega; done) | (exfalso; contradiction; done)) (show qXr (ma_u aa 133 (m 100 v2.toNatClampNeg).toNatClampNeg ((m 107 v2.toNatClampNeg) + (1 : Int32))) (-1 : Int32) from by first | (exfalso; omega; done) | (exfalso; omega; done) | (exfalso; contradiction; done)) (fun m9 hV_m9 p0_m9 p1_m9 p2_m9 p3_m9 p4_m9 p5_m9 p6_m9 p7_m9 p8_m9 p9_m9 => zmv_n ?_)
                  have p0_m9 : zGW T (m9 94 55) (m9 109) := p0_m9
                  have p1_m9 : zGU T (m 94 46) (m9 99) := p1_m9
                  have p2_m9 : zOw (m9 99) (m 103) (m9 111) := p2_m9
                  have p3_m9 : (m9 94 45).toInt = sm (zbU (m9 99)) (m 102) 3100 := p3_m9
                  have p4_m9 : qRB (m9 99) (m 100) (m 98) (m 101) (m 102) (m 103) ((ma_u m 107 v2.toNatClampNeg ((m 107 v2.toNatClampNeg) + (1 : Int32))) 107) (m 108) (m9 109) (m9 111) (m 112) (m9 113) (m9 114) (m9 94 55) (m 94 46) (m 94 11) (m 94 12) (m 94 62) (m 94 17) (m 94 9) (cLe (ma_u aa 133 (m 100 v2.toNatClampNeg).toNatClampNeg ((m 107 v2.toNatClampNeg) + (1 : Int32))) (qNo (m 100) v2)) := p4_m9
                  have p5_m9 : qI (cLe (ma_u aa 133 (m 100 v2.toNatClampNeg).toNatClampNeg ((m 107 v2.toNatClampNeg) + (1 : Int32))) (qNo (m 100) v2)) := p5_m9
                  have p6_m9 : (cLe (ma_u aa 133 (m 100 v2.toNatClampNeg).toNatClampNeg ((m 107 v2.toNatClampNeg) + (1 : Int32))) (qNo (m 100) v2)) 87 8 = (m 94 58) := p6_m9
                  have p7_m9 : cV (cLe (ma_u aa 133 (m 100 v2.toNatClampNeg).toNatClampNeg ((m 107 v2.toNatClampNeg) + (1 : Int32))) (qNo (m 100) v2)) [] (B + 1) := p7_m9
                  have p8_m9 : qCt (m9 105) (m9 99) (m 100) (cLe (ma_u aa 133 (m 100 v2.toNatClampNeg).toNatClampNeg ((m 107 v2.toNatClampNeg) + (1 : Int32))) (qNo (m 100) v2)) [] (-1 : Int32) (-1) := p8_m9
                  have p9_m9 : qXr (cLe (ma_u aa 133 (m 100 v2.toNatClampNeg).toNatClampNeg ((m 107 v2.toNatClampNeg) + (1 : Int32))) (qNo (m 100) v2)) (-1 : Int32) := p9_m9
                  first | have e65 : ((m 107 v2.toNatClampNeg) + (1 : Int32)).toInt = (m 107 v2.toNatClampNeg).toInt + (1) := i_addk rfl (by omega) (by omega) | have b66 := i_bd ((m 107 v2.toNatClampNeg) + (1 : Int32))
                  exact K (((m 107 v2.toNatClampNeg) + (1 : Int32))) _ (zF_zov (zF_u (zF_u (zF_zov (zF_u zF_rfl rfl) ws_245_253) rfl) rfl) ws_241_253) hV_m9 r_W p0_m9 p1_m9 p2_m9 r_GG p3_m9 (show qRB (m9 99) (m 100) (m 98) (m 101) (m 102) (m 103) ((ma_u m 107 v2.toNatClampNeg ((m 107 v2.toNatClampNeg) + (1 : Int32))) 107) (m 108) (m9 109) (m9 111) (m 112) (m9 113) (m9 114) (m9 94 55) (m 94 46) (m 94 11) (m 94 12) (m 94 62) (m 94 17) (m 94 9) (kHo aa ob on) from by first | (exfalso; omega; done) | (exfalso; omega; done) | (exfalso; contradiction; done)) (show qI (kHo aa ob on) from by first | (exfalso; omega; done) | (exfalso; omega; done) | (exfalso; contradiction; done)) (show (kHo aa ob on) 87 8 = (m 94 58) from by first | (exfalso; omega; done) | (exfalso; omega; done) | (exfalso; contradiction; done)) (show cV (kHo aa ob on) [] (B + 1) from by first | (exfalso; omega; done) | (exfalso; omega; done) | (exfalso; contradiction; done)) (show qCt (m9 105) (m9 99) (m 100) (kHo aa ob on) [] (-1) (-1) from by first | (exfalso; omega; done) | (exfalso; omega; done) | (exfalso; contradiction; done))
                · skip
                  have g67 := i_ne h61
                  refine zd (fun (h68 : v2 < (0 : Int32)) => ?_) (fun (h68 : ¬ v2 < (0 : Int32)) => ?_)
                  · skip
                    have g69 := i_lt h68
                    have hV70 : zV (ma_u (zov wr_245 (ma_u m 94 0 (0 : Int32)) m1) 94 0 (0 : Int32)) := uf_94_0 hV_m1
                    have hV71 : zV (ma_u (ma_u (zov wr_245 (ma_u m 94 0 (0 : Int32)) m1) 94 0 (0 : Int32)) 107 v2.toNatClampNeg ((m 107 v2.toNatClampNeg) + (1 : Int32))) := ua_107 hV70
                    first | have e72 : ((m 107 v2.toNatClampNeg) + (1 : Int32)).toInt = (m 107 v2.toNatClampNeg).toInt + (1) := i_addk rfl (by omega) (by omega) | have b73 := i_bd ((m 107 v2.toNatClampNeg) + (1 : Int32))
                    exact K (((m 107 v2.toNatClampNeg) + (1 : Int32))) _ (zF_u (zF_u (zF_zov (zF_u zF_rfl rfl) ws_245_253) rfl) rfl) hV71 r_W r_GW r_GU r_OW r_GG r_WTS (show qRB (m 99) (m 100) (m 98) (m 101) (m 102) (m 103) ((ma_u m 107 v2.toNatClampNeg ((m 107 v2.toNatClampNeg) + (1 : Int32))) 107) (m 108) (m 109) (m 111) (m 112) (m 113) (m 114) (m 94 55) (m 94 46) (m 94 11) (m 94 12) (m 94 62) (m 94 17) (m 94 9) (kHo aa ob on) from by first | (exfalso; omega; done) | (exfalso; omega; done) | (exfalso; contradiction; done)) (show qI (kHo aa ob on) from by first | (exfalso; omega; done) | (exfalso; omega; done) | (exfalso; contradiction; done)) (show (kHo aa ob on) 87 8 = (m 94 58) from by first | (exfalso; omega; done) | (exfalso; omega; done) | (exfalso; contradiction; done)) (show cV (kHo aa ob on) [] (B + 1) from by first | (exfalso; omega; done) | (exfalso; omega; done) | (exfalso; contradiction; done)) (show qCt (m 105) (m 99) (m 100) (kHo aa ob on) [] (-1) (-1) from by first | (exfalso; omega; done) | (exfalso; omega; done) | (exfalso; contradiction; done))
                  · skip
                    have g74 := i_nlt h68
                    have li75 : (4 : Int32).toInt = 4 := rfl
                    refine zd (fun (h76 : (m 94 10) = (4 : Int32)) => ?_) (fun (h76 : ¬ (m 94 10) = (4 : Int32)) => ?_)
                    · skip
                      have g77 := i_eq h76
                      have hg78 : (0 ≤ v2 ∧ v2.toNatClampNeg < 3100) := i_ix (by omega) (by omega)
                      refine ⟨hg78, ?_⟩
                      have hg79 : (0 ≤ v2 ∧ v2.toNatClampNeg < 3100) := i_ix (by omega) (by omega)
                      refine ⟨hg79, ?_⟩
                      have hV80 : zV (ma_u (zov wr_245 (ma_u m 94 0 (0 : Int32)) m1) 94 0 (0 : Int32)) := uf_94_0 hV_m1
                      have hV81 : zV (ma_u (ma_u (zov wr_245 (ma_u m 94 0 (0 : Int32)) m1) 94 0 (0 : Int32)) 107 v2.toNatClampNeg ((m 107 v2.toNatClampNeg) + (1 : Int32))) := ua_107 hV80
                      have hV82 : zV (ma_u (ma_u (ma_u (zov wr_245 (ma_u m 94 0 (0 : Int32)) m1) 94 0 (0 : Int32)) 107 v2.toNatClampNeg ((m 107 v2.toNatClampNeg) + (1 : Int32))) 105 v2.toNatClampNeg ((m 105 v2.toNatClampNeg) + (1 : Int32))) := ua_105 hV81
                      first | have e83 : ((m 107 v2.toNatClampNeg) + (1 : Int32)).toInt = (m 107 v2.toNatClampNeg).toInt + (1) := i_addk rfl (by omega) (by omega) | have b84 := i_bd ((m 107 v2.toNatClampNeg) + (1 : Int32))
                      exact K (((m 107 v2.toNatClampNeg) + (1 : Int32))) _ (zF_u (zF_u (zF_u (zF_zov (zF_u zF_rfl rfl) ws_245_253) rfl) rfl) rfl) hV82 r_W r_GW r_GU r_OW r_GG r_WTS (show qRB (m 99) (m 100) (m 98) (m 101) (m 102) (m 103) ((ma_u m 107 v2.toNatClampNeg ((m 107 v2.toNatClampNeg) + (1 : Int32))) 107) (m 108) (m 109) (m 111) (m 112) (m 113) (m 114) (m 94 55) (m 94 46) (m 94 11) (m 94 12) (m 94 62) (m 94 17) (m 94 9) (kHo aa ob on) from by first | (exact (Ho_P1 (m := m) r_RB r_QI r_MK r_VV (by omega) r_CT p2_m1 (by omega) (i_nz2 (by omega)) (mu_up (m := m) (c := 105))).1) | (exfalso; omega; done) | (exfalso; contradiction; done)) (show qI (kHo aa ob on) from by first | (exact (Ho_P1 (m := m) r_RB r_QI r_MK r_VV (by omega) r_CT p2_m1 (by omega) (i_nz2 (by omega)) (mu_up (m := m) (c := 105))).2.1) | (exfalso; omega; done) | (exfalso; contradiction; done)) (show (kHo aa ob on) 87 8 = (m 94 58) from by first | (exact (Ho_P1 (m := m) r_RB r_QI r_MK r_VV (by omega) r_CT p2_m1 (by omega) (i_nz2 (by omega)) (mu_up (m := m) (c := 105))).2.2.1) | (exfalso; omega; done) | (exfalso; contradiction; done)) (show cV (kHo aa ob on) [] (B + 1) from by first | (exact (Ho_P1 (m := m) r_RB r_QI r_MK r_VV (by omega) r_CT p2_m1 (by omega) (i_nz2 (by omega)) (mu_up (m := m) (c := 105))).2.2.2.1) | (exfalso; omega; done) | (exfalso; contradiction; done)) (show qCt ((ma_u m 105 v2.toNatClampNeg ((m 105 v2.toNatClampNeg) + (1 : Int32))) 105) (m 99) (m 100) (kHo aa ob on) [] (-1) (-1) from by first | (exact (Ho_P1 (m := m) r_RB r_QI r_MK r_VV (by omega) r_CT p2_m1 (by omega) (i_nz2 (by omega)) (mu_up (m := m) (c := 105))).2.2.2.2) | (exfalso; omega; done) | (exfalso; contradiction; done))
                    · skip
                      have g85 := i_ne h76
                      exfalso; omega
          · skip
            have g86 := i_ne h22
            have hg87 : (0 ≤ v2 ∧ v2.toNatClampNeg < 3100) := i_ix (by omega) (by omega)
            refine ⟨hg87, ?_⟩
            refine zd (fun (h88 : on = (0 : Int32)) => ?_) (fun (h88 : ¬ on = (0 : Int32)) => ?_)
            · skip
              have g89 := i_eq h88
              have hg90 : (0 ≤ v2 ∧ v2.toNatClampNeg < 3100) := i_ix (by omega) (by omega)
              refine ⟨hg90, ?_⟩
              refine zd (fun (h91 : on = (0 : Int32)) => ?_) (fun (h91 : ¬ on = (0 : Int32)) => ?_)
              · skip
                have g92 := i_eq h91
                have hV93 : zV (ma_u (zov wr_245 (ma_u m 94 0 (0 : Int32)) m1) 94 0 (0 : Int32)) := uf_94_0 hV_m1
                have hV94 : zV (ma_u (ma_u (zov wr_245 (ma_u m 94 0 (0 : Int32)) m1) 94 0 (0 : Int32)) 107 v2.toNatClampNeg ((m 107 v2.toNatClampNeg) + (-1 : Int32))) := ua_107 hV93
                refine sp_241r4 (aa := (ma_u aa 133 (m 100 v2.toNatClampNeg).toNatClampNeg ((m 107 v2.toNatClampNeg) + (-1 : Int32)))) (x := (-1 : Int32)) (B := (B + 1)) (v2) hV94 (by omega) (by omega) (by omega) (by omega) (show (m 94 10).toInt = 4 ∧ (m 94 58).toInt = 0 from by omega) r_W r_GW r_GU r_OW (show qRB (m 99) (m 100) (m 98) (m 101) (m 102) (m 103) ((ma_u m 107 v2.toNatClampNeg ((m 107 v2.toNatClampNeg) + (-1 : Int32))) 107) (m 108) (m 109) (m 111) (m 112) (m 113) (m 114) (m 94 55) (m 94 46) (m 94 11) (m 94 12) (m 94 62) (m 94 17) (m 94 9) (ma_u aa 133 (m 100 v2.toNatClampNeg).toNatClampNeg ((m 107 v2.toNatClampNeg) + (-1 : Int32))) from by first | (exact RB_ho r_RB (tn_lt (by omega) (by omega)) (Re_y p2_m1 (by omega)).2.1) | (exfalso; omega; done) | (exfalso; contradiction; done)) (show qI (ma_u aa 133 (m 100 v2.toNatClampNeg).toNatClampNeg ((m 107 v2.toNatClampNeg) + (-1 : Int32))) from by first | (exact I_u r_QI (Or.inr (Or.inr (Or.inl rfl)))) | (exfalso; omega; done) | (exfalso; contradiction; done)) (show (ma_u aa 133 (m 100 v2.toNatClampNeg).toNatClampNeg ((m 107 v2.toNatClampNeg) + (-1 : Int32))) 87 8 = (m 94 58) from by first | (rw [un (by decide)]; exact r_MK; done) | (exfalso; omega; done) | (exfalso; contradiction; done)) r_WTS (show cV (ma_u aa 133 (m 100 v2.toNatClampNeg).toNatClampNeg ((m 107 v2.toNatClampNeg) + (-1 : Int32))) [] (B + 1) from by first | (exact (Ho_of r_RB r_VV (by omega) r_CT (by omega) (by omega) (Re_y p2_m1 (by omega)).2.1 (i_nz2 (by omega))).1) | (exfalso; omega; done) | (exfalso; contradiction; done)) (show qCt (m 105) (m 99) (m 100) (ma_u aa 133 (m 100 v2.toNatClampNeg).toNatClampNeg ((m 107 v2.toNatClampNeg) + (-1 : Int32))) [] (-1 : Int32) (qNo (m 100) v2) from by first | (exact (Ho_of r_RB r_VV (by omega) r_CT (by omega) (by omega) (Re_y p2_m1 (by omega)).2.1 (i_nz2 (by omega))).2) | (exfalso; omega; done) | (exfalso; contradiction; done)) (show qU (m 99) v2 from by first | (exact Or.inr ⟨by omega, (Re_y p2_m1 (by omega)).2.1⟩) | (assumption; done) | (exact ow5.1) | (exact ow3.1) | (exfalso; omega; done) | (exfalso; contradiction; done)) (show qXr (ma_u aa 133 (m 100 v2.toNatClampNeg).toNatClampNeg ((m 107 v2.toNatClampNeg) + (-1 : Int32))) (-1 : Int32) from by first | (exact Xr_m1) | (exfalso; omega; done) | (exfalso; contradiction; done)) (fun m3 hV_m3 p0_m3 p1_m3 p2_m3 p3_m3 p4_m3 p5_m3 p6_m3 p7_m3 p8_m3 p9_m3 => zmv_n ?_)
                have p0_m3 : zGW T (m3 94 55) (m3 109) := p0_m3
                have p1_m3 : zGU T (m 94 46) (m3 99) := p1_m3
                have p2_m3 : zOw (m3 99) (m 103) (m3 111) := p2_m3
                have p3_m3 : (m3 94 45).toInt = sm (zbU (m3 99)) (m 102) 3100 := p3_m3
                have p4_m3 : qRB (m3 99) (m 100) (m 98) (m 101) (m 102) (m 103) ((ma_u m 107 v2.toNatClampNeg ((m 107 v2.toNatClampNeg) + (-1 : Int32))) 107) (m 108) (m3 109) (m3 111) (m 112) (m3 113) (m3 114) (m3 94 55) (m 94 46) (m 94 11) (m 94 12) (m 94 62) (m 94 17) (m 94 9) (cLe (ma_u aa 133 (m 100 v2.toNatClampNeg).toNatClampNeg ((m 107 v2.toNatClampNeg) + (-1 : Int32))) (qNo (m 100) v2)) := p4_m3
                have p5_m3 : qI (cLe (ma_u aa 133 (m 100 v2.toNatClampNeg).toNatClampNeg ((m 107 v2.toNatClampNeg) + (-1 : Int32))) (qNo (m 100) v2)) := p5_m3
                have p6_m3 : (cLe (ma_u aa 133 (m 100 v2.toNatClampNeg).toNatClampNeg ((m 107 v2.toNatClampNeg) + (-1 : Int32))) (qNo (m 100) v2)) 87 8 = (m 94 58) := p6_m3
                have p7_m3 : cV (cLe (ma_u aa 133 (m 100 v2.toNatClampNeg).toNatClampNeg ((m 107 v2.toNatClampNeg) + (-1 : Int32))) (qNo (m 100) v2)) [] (B + 1) := p7_m3
                have p8_m3 : qCt (m3 105) (m3 99) (m 100) (cLe (ma_u aa 133 (m 100 v2.toNatClampNeg).toNatClampNeg ((m 107 v2.toNatClampNeg) + (-1 : Int32))) (qNo (m 100) v2)) [] (-1 : Int32) (-1) := p8_m3
                have p9_m3 : qXr (cLe (ma_u aa 133 (m 100 v2.toNatClampNeg).toNatClampNeg ((m 107 v2.toNatClampNeg) + (-1 : Int32))) (qNo (m 100) v2)) (-1 : Int32) := p9_m3
                have b95 := i_bd (m 107 v2.toNatClampNeg)
                first | have e96 : ((m 107 v2.toNatClampNeg) + (-1 : Int32)).toInt = (m 107 v2.toNatClampNeg).toInt + (-1) := i_addk rfl (by omega) (by omega) | have b97 := i_bd ((m 107 v2.toNatClampNeg) + (-1 : Int32))
                exact K (((m 107 v2.toNatClampNeg) + (-1 : Int32))) _ (zF_zov (zF_u (zF_u (zF_zov (zF_u zF_rfl rfl) ws_245_253) rfl) rfl) ws_241_253) hV_m3 r_W p0_m3 p1_m3 p2_m3 r_GG p3_m3 (show qRB (m3 99) (m 100) (m 98) (m 101) (m 102) (m 103) ((ma_u m 107 v2.toNatClampNeg ((m 107 v2.toNatClampNeg) + (-1 : Int32))) 107) (m 108) (m3 109) (m3 111) (m 112) (m3 113) (m3 114) (m3 94 55) (m 94 46) (m 94 11) (m 94 12) (m 94 62) (m 94 17) (m 94 9) (kHo aa ob on) from by first | (rw [Ho_E r_RB p2_m1 (by omega) (i_zer (by omega)) (i_nz2 (by omega))]; exact p4_m3; done) | (exfalso; omega; done) | (exfalso; contradiction; done)) (show qI (kHo aa ob on) from by first | (rw [Ho_E r_RB p2_m1 (by omega) (i_zer (by omega)) (i_nz2 (by omega))]; exact p5_m3; done) | (exfalso; omega; done) | (exfalso; contradiction; done)) (show (kHo aa ob on) 87 8 = (m 94 58) from by first | (rw [Ho_E r_RB p2_m1 (by omega) (i_zer (by omega)) (i_nz2 (by omega))]; exact p6_m3; done) | (exfalso; omega; done) | (exfalso; contradiction; done)) (show cV (kHo aa ob on) [] (B + 1) from by first | (rw [Ho_E r_RB p2_m1 (by omega) (i_zer (by omega)) (i_nz2 (by omega))]; exact p7_m3; done) | (exfalso; omega; done) | (exfalso; contradiction; done)) (show qCt (m3 105) (m3 99) (m 100) (kHo aa ob on) [] (-1) (-1) from by first | (rw [Ho_E r_RB p2_m1 (by omega) (i_zer (by omega)) (i_nz2 (by omega))]; exact p8_m3; done) | (exfalso; omega; done) | (exfalso; contradiction; done))
              · skip
                have g98 := i_ne h91
                refine zd (fun (h99 : v2 < (0 : Int32)) => ?_) (fun (h99 : ¬ v2 < (0 : Int32)) => ?_)
                · skip
                  have g100 := i_lt h99
                  have hV101 : zV (ma_u (zov wr_245 (ma_u m 94 0 (0 : Int32)) m1) 94 0 (0 : Int32)) := uf_94_0 hV_m1
                  have hV102 : zV (ma_u (ma_u (zov wr_245 (ma_u m 94 0 (0 : Int32)) m1) 94 0 (0 : Int32)) 107 v2.toNatClampNeg ((m 107 v2.toNatClampNeg) + (-1 : Int32))) := ua_107 hV101
                  have b103 := i_bd (m 107 v2.toNatClampNeg)
                  first | have e104 : ((m 107 v2.toNatClampNeg) + (-1 : Int32)).toInt = (m 107 v2.toNatClampNeg).toInt + (-1) := i_addk rfl (by omega) (by omega) | have b105 := i_bd ((m 107 v2.toNatClampNeg) + (-1 : Int32))
                  exact K (((m 107 v2.toNatClampNeg) + (-1 : Int32))) _ (zF_u (zF_u (zF_zov (zF_u zF_rfl rfl) ws_245_253) rfl) rfl) hV102 r_W r_GW r_GU r_OW r_GG r_WTS (show qRB (m 99) (m 100) (m 98) (m 101) (m 102) (m 103) ((ma_u m 107 v2.toNatClampNeg ((m 107 v2.toNatClampNeg) + (-1 : Int32))) 107) (m 108) (m 109) (m 111) (m 112) (m 113) (m 114) (m 94 55) (m 94 46) (m 94 11) (m 94 12) (m 94 62) (m 94 17) (m 94 9) (kHo aa ob on) from by first | (exfalso; omega; done) | (exfalso; omega; done) | (exfalso; contradiction; done)) (show qI (kHo aa ob on) from by first | (exfalso; omega; done) | (exfalso; omega; done) | (exfalso; contradiction; done)) (show (kHo aa ob on) 87 8 = (m 94 58) from by first | (exfalso; omega; done) | (exfalso; omega; done) | (exfalso; contradiction; done)) (show cV (kHo aa ob on) [] (B + 1) from by first | (exfalso; omega; done) | (exfalso; omega; done) | (exfalso; contradiction; done)) (show qCt (m 105) (m 99) (m 100) (kHo aa ob on) [] (-1) (-1) from by first | (exfalso; omega; done) | (exfalso; omega; done) | (exfalso; contradiction; done))
                · skip
                  have g106 := i_nlt h99
                  have li107 : (4 : Int32).toInt = 4 := rfl
                  refine zd (fun (h108 : (m 94 10) = (4 : Int32)) => ?_) (fun (h108 : ¬ (m 94 10) = (4 : Int32)) => ?_)
                  · skip
                    have g109 := i_eq h108
                    have hg110 : (0 ≤ v2 ∧ v2.toNatClampNeg < 3100) := i_ix (by omega) (by omega)
                    refine ⟨hg110, ?_⟩
                    have hg111 : (0 ≤ v2 ∧ v2.toNatClampNeg < 3100) := i_ix (by omega) (by omega)
                    refine ⟨hg111, ?_⟩
                    have hV112 : zV (ma_u (zov wr_245 (ma_u m 94 0 (0 : Int32)) m1) 94 0 (0 : Int32)) := uf_94_0 hV_m1
                    have hV113 : zV (ma_u (ma_u (zov wr_245 (ma_u m 94 0 (0 : Int32)) m1) 94 0 (0 : Int32)) 107 v2.toNatClampNeg ((m 107 v2.toNatClampNeg) + (-1 : Int32))) := ua_107 hV112
                    have hV114 : zV (ma_u (ma_u (ma_u (zov wr_245 (ma_u m 94 0 (0 : Int32)) m1) 94 0 (0 : Int32)) 107 v2.toNatClampNeg ((m 107 v2.toNatClampNeg) + (-1 : Int32))) 105 v2.toNatClampNeg ((m 105 v2.toNatClampNeg) + (1 : Int32))) := ua_105 hV113
                    have b115 := i_bd (m 107 v2.toNatClampNeg)
                    first | have e116 : ((m 107 v2.toNatClampNeg) + (-1 : Int32)).toInt = (m 107 v2.toNatClampNeg).toInt + (-1) := i_addk rfl (by omega) (by omega) | have b117 := i_bd ((m 107 v2.toNatClampNeg) + (-1 : Int32))
                    exact K (((m 107 v2.toNatClampNeg) + (-1 : Int32))) _ (zF_u (zF_u (zF_u (zF_zov (zF_u zF_rfl rfl) ws_245_253) rfl) rfl) rfl) hV114 r_W r_GW r_GU r_OW r_GG r_WTS (show qRB (m 99) (m 100) (m 98) (m 101) (m 102) (m 103) ((ma_u m 107 v2.toNatClampNeg ((m 107 v2.toNatClampNeg) + (-1 : Int32))) 107) (m 108) (m 109) (m 111) (m 112) (m 113) (m 114) (m 94 55) (m 94 46) (m 94 11) (m 94 12) (m 94 62) (m 94 17) (m 94 9) (kHo aa ob on) from by first | (exfalso; omega; done) | (exfalso; omega; done) | (exfalso; contradiction; done)) (show qI (kHo aa ob on) from by first | (exfalso; omega; done) | (exfalso; omega; done) | (exfalso; contradiction; done)) (show (kHo aa ob on) 87 8 = (m 94 58) from by first | (exfalso; omega; done) | (exfalso; omega; done) | (exfalso; contradiction; done)) (show cV (kHo aa ob on) [] (B + 1) from by first | (exfalso; omega; done) | (exfalso; omega; done) | (exfalso; contradiction; done)) (show qCt ((ma_u m 105 v2.toNatClampNeg ((m 105 v2.toNatClampNeg) + (1 : Int32))) 105) (m 99) (m 100) (kHo aa ob on) [] (-1) (-1) from by first | (exfalso; omega; done) | (exfalso; omega; done) | (exfalso; contradiction; done))
                  · skip
                    have g118 := i_ne h108
                    exfalso; omega
            · skip
              have g119 := i_ne h88
              have hg120 : (0 ≤ v2 ∧ v2.toNatClampNeg < 3100) := i_ix (by omega) (by omega)
              refine ⟨hg120, ?_⟩
              refine zd (fun (h121 : on = (0 : Int32)) => ?_) (fun (h121 : ¬ on = (0 : Int32)) => ?_)
              · skip
                have g122 := i_eq h121
                have hV123 : zV (ma_u (zov wr_245 (ma_u m 94 0 (0 : Int32)) m1) 94 0 (0 : Int32)) := uf_94_0 hV_m1
                have hV124 : zV (ma_u (ma_u (zov wr_245 (ma_u m 94 0 (0 : Int32)) m1) 94 0 (0 : Int32)) 107 v2.toNatClampNeg ((m 107 v2.toNatClampNeg) + (1 : Int32))) := ua_107 hV123
                refine sp_241r4 (aa := (ma_u aa 133 (m 100 v2.toNatClampNeg).toNatClampNeg ((m 107 v2.toNatClampNeg) + (1 : Int32)))) (x := (-1 : Int32)) (B := (B + 1)) (v2) hV124 (by omega) (by omega) (by omega) (by omega) (show (m 94 10).toInt = 4 ∧ (m 94 58).toInt = 0 from by omega) r_W r_GW r_GU r_OW (show qRB (m 99) (m 100) (m 98) (m 101) (m 102) (m 103) ((ma_u m 107 v2.toNatClampNeg ((m 107 v2.toNatClampNeg) + (1 : Int32))) 107) (m 108) (m 109) (m 111) (m 112) (m 113) (m 114) (m 94 55) (m 94 46) (m 94 11) (m 94 12) (m 94 62) (m 94 17) (m 94 9) (ma_u aa 133 (m 100 v2.toNatClampNeg).toNatClampNeg ((m 107 v2.toNatClampNeg) + (1 : Int32))) from by first | (exfalso; omega; done) | (exfalso; omega; done) | (exfalso; contradiction; done)) (show qI (ma_u aa 133 (m 100 v2.toNatClampNeg).toNatClampNeg ((m 107 v2.toNatClampNeg) + (1 : Int32))) from by first | (exfalso; omega; done) | (exfalso; omega; done) | (exfalso; contradiction; done)) (show (ma_u aa 133 (m 100 v2.toNatClampNeg).toNatClampNeg ((m 107 v2.toNatClampNeg) + (1 : Int32))) 87 8 = (m 94 58) from by first | (exfalso; omega; done) | (exfalso; omega; done) | (exfalso; contradiction; done)) r_WTS (show cV (ma_u aa 133 (m 100 v2.toNatClampNeg).toNatClampNeg ((m 107 v2.toNatClampNeg) + (1 : Int32))) [] (B + 1) from by first | (exfalso; omega; done) | (exfalso; omega; done) | (exfalso; contradiction; done)) (show qCt (m 105) (m 99) (m 100) (ma_u aa 133 (m 100 v2.toNatClampNeg).toNatClampNeg ((m 107 v2.toNatClampNeg) + (1 : Int32))) [] (-1 : Int32) (qNo (m 100) v2) from by first | (exfalso; omega; done) | (exfalso; omega; done) | (exfalso; contradiction; done)) (show qU (m 99) v2 from by first | (exfalso; omega; done) | (assumption; done) | (exact ow5.1) | (exact ow3.1) | (exfalso; omega; done) | (exfalso; contradiction; done)) (show qXr (ma_u aa 133 (m 100 v2.toNatClampNeg).toNatClampNeg ((m 107 v2.toNatClampNeg) + (1 : Int32))) (-1 : Int32) from by first | (exfalso; omega; done) | (exfalso; omega; done) | (exfalso; contradiction; done)) (fun m5 hV_m5 p0_m5 p1_m5 p2_m5 p3_m5 p4_m5 p5_m5 p6_m5 p7_m5 p8_m5 p9_m5 => zmv_n ?_)
                have p0_m5 : zGW T (m5 94 55) (m5 109) := p0_m5
                have p1_m5 : zGU T (m 94 46) (m5 99) := p1_m5
                have p2_m5 : zOw (m5 99) (m 103) (m5 111) := p2_m5
                have p3_m5 : (m5 94 45).toInt = sm (zbU (m5 99)) (m 102) 3100 := p3_m5
                have p4_m5 : qRB (m5 99) (m 100) (m 98) (m 101) (m 102) (m 103) ((ma_u m 107 v2.toNatClampNeg ((m 107 v2.toNatClampNeg) + (1 : Int32))) 107) (m 108) (m5 109) (m5 111) (m 112) (m5 113) (m5 114) (m5 94 55) (m 94 46) (m 94 11) (m 94 12) (m 94 62) (m 94 17) (m 94 9) (cLe (ma_u aa 133 (m 100 v2.toNatClampNeg).toNatClampNeg ((m 107 v2.toNatClampNeg) + (1 : Int32))) (qNo (m 100) v2)) := p4_m5
                have p5_m5 : qI (cLe (ma_u aa 133 (m 100 v2.toNatClampNeg).toNatClampNeg ((m 107 v2.toNatClampNeg) + (1 : Int32))) (qNo (m 100) v2)) := p5_m5
                have p6_m5 : (cLe (ma_u aa 133 (m 100 v2.toNatClampNeg).toNatClampNeg ((m 107 v2.toNatClampNeg) + (1 : Int32))) (qNo (m 100) v2)) 87 8 = (m 94 58) := p6_m5
                have p7_m5 : cV (cLe (ma_u aa 133 (m 100 v2.toNatClampNeg).toNatClampNeg ((m 107 v2.toNatClampNeg) + (1 : Int32))) (qNo (m 100) v2)) [] (B + 1) := p7_m5
                have p8_m5 : qCt (m5 105) (m5 99) (m 100) (cLe (ma_u aa 133 (m 100 v2.toNatClampNeg).toNatClampNeg ((m 107 v2.toNatClampNeg) + (1 : Int32))) (qNo (m 100) v2)) [] (-1 : Int32) (-1) := p8_m5
                have p9_m5 : qXr (cLe (ma_u aa 133 (m 100 v2.toNatClampNeg).toNatClampNeg ((m 107 v2.toNatClampNeg) + (1 : Int32))) (qNo (m 100) v2)) (-1 : Int32) := p9_m5
                have b125 := i_bd (m 107 v2.toNatClampNeg)
                first | have e126 : ((m 107 v2.toNatClampNeg) + (1 : Int32)).toInt = (m 107 v2.toNatClampNeg).toInt + (1) := i_addk rfl (by omega) (by omega) | have b127 := i_bd ((m 107 v2.toNatClampNeg) + (1 : Int32))
                exact K (((m 107 v2.toNatClampNeg) + (1 : Int32))) _ (zF_zov (zF_u (zF_u (zF_zov (zF_u zF_rfl rfl) ws_245_253) rfl) rfl) ws_241_253) hV_m5 r_W p0_m5 p1_m5 p2_m5 r_GG p3_m5 (show qRB (m5 99) (m 100) (m 98) (m 101) (m 102) (m 103) ((ma_u m 107 v2.toNatClampNeg ((m 107 v2.toNatClampNeg) + (1 : Int32))) 107) (m 108) (m5 109) (m5 111) (m 112) (m5 113) (m5 114) (m5 94 55) (m 94 46) (m 94 11) (m 94 12) (m 94 62) (m 94 17) (m 94 9) (kHo aa ob on) from by first | (exfalso; omega; done) | (exfalso; omega; done) | (exfalso; contradiction; done)) (show qI (kHo aa ob on) from by first | (exfalso; omega; done) | (exfalso; omega; done) | (exfalso; contradiction; done)) (show (kHo aa ob on) 87 8 = (m 94 58) from by first | (exfalso; omega; done) | (exfalso; omega; done) | (exfalso; contradiction; done)) (show cV (kHo aa ob on) [] (B + 1) from by first | (exfalso; omega; done) | (exfalso; omega; done) | (exfalso; contradiction; done)) (show qCt (m5 105) (m5 99) (m 100) (kHo aa ob on) [] (-1) (-1) from by first | (exfalso; omega; done) | (exfalso; omega; done) | (exfalso; contradiction; done))
              · skip
                have g128 := i_ne h121
                refine zd (fun (h129 : v2 < (0 : Int32)) => ?_) (fun (h129 : ¬ v2 < (0 : Int32)) => ?_)
                · skip
                  have g130 := i_lt h129
                  have hV131 : zV (ma_u (zov wr_245 (ma_u m 94 0 (0 : Int32)) m1) 94 0 (0 : Int32)) := uf_94_0 hV_m1
                  have hV132 : zV (ma_u (ma_u (zov wr_245 (ma_u m 94 0 (0 : Int32)) m1) 94 0 (0 : Int32)) 107 v2.toNatClampNeg ((m 107 v2.toNatClampNeg) + (1 : Int32))) := ua_107 hV131
                  have b133 := i_bd (m 107 v2.toNatClampNeg)
                  first | have e134 : ((m 107 v2.toNatClampNeg) + (1 : Int32)).toInt = (m 107 v2.toNatClampNeg).toInt + (1) := i_addk rfl (by omega) (by omega) | have b135 := i_bd ((m 107 v2.toNatClampNeg) + (1 : Int32))
                  exact K (((m 107 v2.toNatClampNeg) + (1 : Int32))) _ (zF_u (zF_u (zF_zov (zF_u zF_rfl rfl) ws_245_253) rfl) rfl) hV132 r_W r_GW r_GU r_OW r_GG r_WTS (show qRB (m 99) (m 100) (m 98) (m 101) (m 102) (m 103) ((ma_u m 107 v2.toNatClampNeg ((m 107 v2.toNatClampNeg) + (1 : Int32))) 107) (m 108) (m 109) (m 111) (m 112) (m 113) (m 114) (m 94 55) (m 94 46) (m 94 11) (m 94 12) (m 94 62) (m 94 17) (m 94 9) (kHo aa ob on) from by first | (exfalso; omega; done) | (exfalso; omega; done) | (exfalso; contradiction; done)) (show qI (kHo aa ob on) from by first | (exfalso; omega; done) | (exfalso; omega; done) | (exfalso; contradiction; done)) (show (kHo aa ob on) 87 8 = (m 94 58) from by first | (exfalso; omega; done) | (exfalso; omega; done) | (exfalso; contradiction; done)) (show cV (kHo aa ob on) [] (B + 1) from by first | (exfalso; omega; done) | (exfalso; omega; done) | (exfalso; contradiction; done)) (show qCt (m 105) (m 99) (m 100) (kHo aa ob on) [] (-1) (-1) from by first | (exfalso; omega; done) | (exfalso; omega; done) | (exfalso; contradiction; done))
                · skip
                  have g136 := i_nlt h129
                  have li137 : (4 : Int32).toInt = 4 := rfl
                  refine zd (fun (h138 : (m 94 10) = (4 : Int32)) => ?_) (fun (h138 : ¬ (m 94 10) = (4 : Int32)) => ?_)
                  · skip
                    have g139 := i_eq h138
                    have hg140 : (0 ≤ v2 ∧ v2.toNatClampNeg < 3100) := i_ix (by omega) (by omega)
                    refine ⟨hg140, ?_⟩
                    have hg141 : (0 ≤ v2 ∧ v2.toNatClampNeg < 3100) := i_ix (by omega) (by omega)
                    refine ⟨hg141, ?_⟩
                    have hV142 : zV (ma_u (zov wr_245 (ma_u m 94 0 (0 : Int32)) m1) 94 0 (0 : Int32)) := uf_94_0 hV_m1
                    have hV143 : zV (ma_u (ma_u (zov wr_245 (ma_u m 94 0 (0 : Int32)) m1) 94 0 (0 : Int32)) 107 v2.toNatClampNeg ((m 107 v2.toNatClampNeg) + (1 : Int32))) := ua_107 hV142
                    have hV144 : zV (ma_u (ma_u (ma_u (zov wr_245 (ma_u m 94 0 (0 : Int32)) m1) 94 0 (0 : Int32)) 107 v2.toNatClampNeg ((m 107 v2.toNatClampNeg) + (1 : Int32))) 105 v2.toNatClampNeg ((m 105 v2.toNatClampNeg) + (1 : Int32))) := ua_105 hV143
                    have b145 := i_bd (m 107 v2.toNatClampNeg)
                    first | have e146 : ((m 107 v2.toNatClampNeg) + (1 : Int32)).toInt = (m 107 v2.toNatClampNeg).toInt + (1) := i_addk rfl (by omega) (by omega) | have b147 := i_bd ((m 107 v2.toNatClampNeg) + (1 : Int32))
                    exact K (((m 107 v2.toNatClampNeg) + (1 : Int32))) _ (zF_u (zF_u (zF_u (zF_zov (zF_u zF_rfl rfl) ws_245_253) rfl) rfl) rfl) hV144 r_W r_GW r_GU r_OW r_GG r_WTS (show qRB (m 99) (m 100) (m 98) (m 101) (m 102) (m 103) ((ma_u m 107 v2.toNatClampNeg ((m 107 v2.toNatClampNeg) + (1 : Int32))) 107) (m 108) (m 109) (m 111) (m 112) (m 113) (m 114) (m 94 55) (m 94 46) (m 94 11) (m 94 12) (m 94 62) (m 94 17) (m 94 9) (kHo aa ob on) from by first | (exact (Ho_P1 (m := m) r_RB r_QI r_MK r_VV (by omega) r_CT p2_m1 (by omega) (i_nz2 (by omega)) (mu_up (m := m) (c := 105))).1) | (exfalso; omega; done) | (exfalso; contradiction; done)) (show qI (kHo aa ob on) from by first | (exact (Ho_P1 (m := m) r_RB r_QI r_MK r_VV (by omega) r_CT p2_m1 (by omega) (i_nz2 (by omega)) (mu_up (m := m) (c := 105))).2.1) | (exfalso; omega; done) | (exfalso; contradiction; done)) (show (kHo aa ob on) 87 8 = (m 94 58) from by first | (exact (Ho_P1 (m := m) r_RB r_QI r_MK r_VV (by omega) r_CT p2_m1 (by omega) (i_nz2 (by omega)) (mu_up (m := m) (c := 105))).2.2.1) | (exfalso; omega; done) | (exfalso; contradiction; done)) (show cV (kHo aa ob on) [] (B + 1) from by first | (exact (Ho_P1 (m := m) r_RB r_QI r_MK r_VV (by omega) r_CT p2_m1 (by omega) (i_nz2 (by omega)) (mu_up (m := m) (c := 105))).2.2.2.1) | (exfalso; omega; done) | (exfalso; contradiction; done)) (show qCt ((ma_u m 105 v2.toNatClampNeg ((m 105 v2.toNatClampNeg) + (1 : Int32))) 105) (m 99) (m 100) (kHo aa ob on) [] (-1) (-1) from by first | (exact (Ho_P1 (m := m) r_RB r_QI r_MK r_VV (by omega) r_CT p2_m1 (by omega) (i_nz2 (by omega)) (mu_up (m := m) (c := 105))).2.2.2.2) | (exfalso; omega; done) | (exfalso; contradiction; done))
                  · skip
                    have g148 := i_ne h138
                    exfalso; omega
    · skip
      have g149 := i_nle h11
      have hV150 : zV (ma_u (zov wr_245 (ma_u m 94 0 (0 : Int32)) m1) 94 0 (2 : Int32)) := uf_94_0 hV_m1
      exact K ((0 : Int32)) _ (zF_u (zF_zov (zF_u zF_rfl rfl) ws_245_253) rfl) hV150 r_W r_GW r_GU r_OW r_GG r_WTS (show qRB (m 99) (m 100) (m 98) (m 101) (m 102) (m 103) (m 107) (m 108) (m 109) (m 111) (m 112) (m 113) (m 114) (m 94 55) (m 94 46) (m 94 11) (m 94 12) (m 94 62) (m 94 17) (m 94 9) (kHo aa ob on) from by first | (rw [Ho_P0 (Re_n p2_m1 (by omega))]; exact r_RB; done) | (rw [kHo_x r_RB p2_m1 (by omega) (i_zer (by omega)) (i_zer (by omega))]; exact r_RB; done) | (exfalso; omega; done) | (exfalso; contradiction; done)) (show qI (kHo aa ob on) from by first | (rw [Ho_P0 (Re_n p2_m1 (by omega))]; exact r_QI; done) | (rw [kHo_x r_RB p2_m1 (by omega) (i_zer (by omega)) (i_zer (by omega))]; exact r_QI; done) | (exfalso; omega; done) | (exfalso; contradiction; done)) (show (kHo aa ob on) 87 8 = (m 94 58) from by first | (rw [Ho_P0 (Re_n p2_m1 (by omega))]; exact r_MK; done) | (rw [kHo_x r_RB p2_m1 (by omega) (i_zer (by omega)) (i_zer (by omega))]; exact r_MK; done) | (exfalso; omega; done) | (exfalso; contradiction; done)) (show cV (kHo aa ob on) [] (B + 1) from by first | (rw [Ho_P0 (Re_n p2_m1 (by omega))]; exact V_up r_VV; done) | (rw [kHo_x r_RB p2_m1 (by omega) (i_zer (by omega)) (i_zer (by omega))]; exact V_up r_VV; done) | (exfalso; omega; done) | (exfalso; contradiction; done)) (show qCt (m 105) (m 99) (m 100) (kHo aa ob on) [] (-1) (-1) from by first | (rw [Ho_P0 (Re_n p2_m1 (by omega))]; exact r_CT; done) | (rw [kHo_x r_RB p2_m1 (by omega) (i_zer (by omega)) (i_zer (by omega))]; exact r_CT; done) | (exfalso; omega; done) | (exfalso; contradiction; done))
