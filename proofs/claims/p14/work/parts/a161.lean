/-! from 95.l06 -/
/-! the reference where it sweeps (written by wip/tools/gen20r.py) -/
theorem sp_251r0 {X : Nat × (Nat → Int32)} {P : Option ma_V → (Nat → Nat → Int32) → Prop} {T : Nat} {aa : Nat→Nat→Int32} {m : Nat → Nat → Int32} (ix : Int32) (ob : Int32) (hV : zV m) (hpre0 : T ≤ 512) (r_W : zW (m 94 7) (m 98) (m 101) (m 102) (m 108)) (r_GW : zGW T (m 94 55) (m 109)) (r_GU : zGU T (m 94 46) (m 99)) (r_OW : zOw (m 99) (m 103) (m 111)) (r_GG : zGG (m 94 58) (m 94 56) (m 94 57) (m 106)) (hpre6 : (m 94 10).toInt = 0 ∧ (m 94 58).toInt = 0) (hpre7 : (m 94 8).toInt = 1) (r_RB : qRB (m 99) (m 100) (m 98) (m 101) (m 102) (m 103) (m 107) (m 108) (m 109) (m 111) (m 112) (m 113) (m 114) (m 94 55) (m 94 46) (m 94 11) (m 94 12) (m 94 62) (m 94 17) (m 94 9) aa) (r_QI : qI aa) (r_MG : qMG (m 94 58) (m 106) (m 115) (m 94 57) (m 94 56) (m 99) (m 100) aa) (r_MK : aa 87 8 = (m 94 58)) (r_WTS : (m 94 45).toInt = sm (zbU (m 99)) (m 102) 3100) (KZ : ∀ v m₉, zV (zov wr_251 m m₉) → (zW (m 94 7) (m 98) (m 101) (m 102) (m 108)) → (zGW T (m 94 55) (m 109)) → (zGU T (m 94 46) (m 99)) → (zOw (m 99) (m 103) (m 111)) → (zGG (m 94 58) (m 94 56) (m 94 57) (m 106)) → (qRB (m 99) (m 100) (m 98) (m 101) (m 102) (m 103) (m 107) (m 108) (m 109) (m 111) (m 112) (m₉ 113) (m 114) (m 94 55) (m 94 46) (m 94 11) (m 94 12) (m 94 62) (m 94 17) (m 94 9) (xWe aa ix ob)) → (qI (xWe aa ix ob)) → (qMG (m 94 58) (m 106) (m 115) (m 94 57) (m 94 56) (m 99) (m 100) (xWe aa ix ob)) → ((xWe aa ix ob) 87 8 = (m 94 58)) → ((m 94 45).toInt = sm (zbU (m 99)) (m 102) 3100) → P (some (.inl v)) (zov wr_251 m m₉)) : zm X 5 109 251 0 [(0, .inr (.inr (some 94))), (1, .inl ix), (2, .inl ob)] m P := by
  have K : ∀ v m₉, zF wr_251 m m₉ → zV m₉ → (zW (m₉ 94 7) (m₉ 98) (m₉ 101) (m₉ 102) (m₉ 108)) → (zGW T (m₉ 94 55) (m₉ 109)) → (zGU T (m₉ 94 46) (m₉ 99)) → (zOw (m₉ 99) (m₉ 103) (m₉ 111)) → (zGG (m₉ 94 58) (m₉ 94 56) (m₉ 94 57) (m₉ 106)) → (qRB (m₉ 99) (m₉ 100) (m₉ 98) (m₉ 101) (m₉ 102) (m₉ 103) (m₉ 107) (m₉ 108) (m₉ 109) (m₉ 111) (m₉ 112) (m₉ 113) (m₉ 114) (m₉ 94 55) (m₉ 94 46) (m₉ 94 11) (m₉ 94 12) (m₉ 94 62) (m₉ 94 17) (m₉ 94 9) (xWe aa ix ob)) → (qI (xWe aa ix ob)) → (qMG (m₉ 94 58) (m₉ 106) (m₉ 115) (m₉ 94 57) (m₉ 94 56) (m₉ 99) (m₉ 100) (xWe aa ix ob)) → ((xWe aa ix ob) 87 8 = (m₉ 94 58)) → ((m₉ 94 45).toInt = sm (zbU (m₉ 99)) (m₉ 102) 3100) → P (some (.inl v)) m₉ := by
    intro v m₉ hf z q0 q1 q2 q3 q4 q5 q6 q7 q8 q9
    have e := zov_eq hf
    rw [e] at z ⊢
    try rw [e] at q0
    try rw [e] at q1
    try rw [e] at q2
    try rw [e] at q3
    try rw [e] at q4
    try rw [e] at q5
    try rw [e] at q6
    try rw [e] at q7
    try rw [e] at q8
    try rw [e] at q9
    exact KZ v m₉ z q0 q1 q2 q3 q4 q5 q6 q7 q8 q9
  refine g_251_0 ix ob ?_
  have f1 : 0 ≤ (m 94 10).toInt ∧ (m 94 10).toInt ≤ 6 := rs_94_10 (m := m) hV
  have f2 : 0 ≤ (m 94 58).toInt ∧ (m 94 58).toInt ≤ 1 := rs_94_58 (m := m) hV
  have f3 : 0 ≤ (m 94 8).toInt ∧ (m 94 8).toInt ≤ 1 := rs_94_8 (m := m) hV
  have b4 := i_bd ix
  have li5 : (0 : Int32).toInt = 0 := rfl
  refine zd (fun (h6 : ix < (0 : Int32)) => ?_) (fun (h6 : ¬ ix < (0 : Int32)) => ?_)
  · skip
    have g7 := i_lt h6
    have hV8 : zV (ma_u m 94 0 (1 : Int32)) := uf_94_0 hV
    exact K ((0 : Int32)) _ (zF_u zF_rfl rfl) hV8 r_W r_GW r_GU r_OW r_GG (show qRB (m 99) (m 100) (m 98) (m 101) (m 102) (m 103) (m 107) (m 108) (m 109) (m 111) (m 112) (m 113) (m 114) (m 94 55) (m 94 46) (m 94 11) (m 94 12) (m 94 62) (m 94 17) (m 94 9) (xWe aa ix ob) from by first | (unfold xWe; rw [qIf_n (Sl_n (Or.inl (by omega)))]; exact r_RB; done) | (unfold xWe; rw [qIf_n (Sl_n (Or.inr (by omega)))]; exact r_RB; done) | (exfalso; omega; done) | (exfalso; contradiction; done)) (show qI (xWe aa ix ob) from by first | (unfold xWe; rw [qIf_n (Sl_n (Or.inl (by omega)))]; exact r_QI; done) | (unfold xWe; rw [qIf_n (Sl_n (Or.inr (by omega)))]; exact r_QI; done) | (exfalso; omega; done) | (exfalso; contradiction; done)) (show qMG (m 94 58) (m 106) (m 115) (m 94 57) (m 94 56) (m 99) (m 100) (xWe aa ix ob) from by first | (unfold xWe; rw [qIf_n (Sl_n (Or.inl (by omega)))]; exact r_MG; done) | (unfold xWe; rw [qIf_n (Sl_n (Or.inr (by omega)))]; exact r_MG; done) | (exfalso; omega; done) | (exfalso; contradiction; done)) (show (xWe aa ix ob) 87 8 = (m 94 58) from by first | (unfold xWe; rw [qIf_n (Sl_n (Or.inl (by omega)))]; exact r_MK; done) | (unfold xWe; rw [qIf_n (Sl_n (Or.inr (by omega)))]; exact r_MK; done) | (exfalso; omega; done) | (exfalso; contradiction; done)) r_WTS
  · skip
    have g9 := i_nlt h6
    have li10 : (16 : Int32).toInt = 16 := rfl
    refine zd (fun (h11 : (16 : Int32) ≤ ix) => ?_) (fun (h11 : ¬ (16 : Int32) ≤ ix) => ?_)
    · skip
      have g12 := i_le h11
      have hV13 : zV (ma_u m 94 0 (1 : Int32)) := uf_94_0 hV
      exact K ((0 : Int32)) _ (zF_u zF_rfl rfl) hV13 r_W r_GW r_GU r_OW r_GG (show qRB (m 99) (m 100) (m 98) (m 101) (m 102) (m 103) (m 107) (m 108) (m 109) (m 111) (m 112) (m 113) (m 114) (m 94 55) (m 94 46) (m 94 11) (m 94 12) (m 94 62) (m 94 17) (m 94 9) (xWe aa ix ob) from by first | (unfold xWe; rw [qIf_n (Sl_n (Or.inl (by omega)))]; exact r_RB; done) | (unfold xWe; rw [qIf_n (Sl_n (Or.inr (by omega)))]; exact r_RB; done) | (exfalso; omega; done) | (exfalso; contradiction; done)) (show qI (xWe aa ix ob) from by first | (unfold xWe; rw [qIf_n (Sl_n (Or.inl (by omega)))]; exact r_QI; done) | (unfold xWe; rw [qIf_n (Sl_n (Or.inr (by omega)))]; exact r_QI; done) | (exfalso; omega; done) | (exfalso; contradiction; done)) (show qMG (m 94 58) (m 106) (m 115) (m 94 57) (m 94 56) (m 99) (m 100) (xWe aa ix ob) from by first | (unfold xWe; rw [qIf_n (Sl_n (Or.inl (by omega)))]; exact r_MG; done) | (unfold xWe; rw [qIf_n (Sl_n (Or.inr (by omega)))]; exact r_MG; done) | (exfalso; omega; done) | (exfalso; contradiction; done)) (show (xWe aa ix ob) 87 8 = (m 94 58) from by first | (unfold xWe; rw [qIf_n (Sl_n (Or.inl (by omega)))]; exact r_MK; done) | (unfold xWe; rw [qIf_n (Sl_n (Or.inr (by omega)))]; exact r_MK; done) | (exfalso; omega; done) | (exfalso; contradiction; done)) r_WTS
    · skip
      have g14 := i_nle h11
      refine zd (fun (h15 : (m 94 8) = (0 : Int32)) => ?_) (fun (h15 : ¬ (m 94 8) = (0 : Int32)) => ?_)
      · skip
        have g16 := i_eq h15
        exfalso; omega
      · skip
        have g17 := i_ne h15
        have b18 := i_bd ob
        have li19 : (-1 : Int32).toInt = -1 := rfl
        refine zd (fun (h20 : ob = (-1 : Int32)) => ?_) (fun (h20 : ¬ ob = (-1 : Int32)) => ?_)
        · skip
          have g21 := i_eq h20
          refine zd (fun (h22 : ob = (-1 : Int32)) => ?_) (fun (h22 : ¬ ob = (-1 : Int32)) => ?_)
          · skip
            have g23 := i_eq h22
            have hg24 : (0 ≤ ix ∧ ix.toNatClampNeg < 16) := i_ix (by omega) (by omega)
            refine ⟨hg24, ?_⟩
            first | have f25 : -1 ≤ (m 113 ix.toNatClampNeg).toInt ∧ (m 113 ix.toNatClampNeg).toInt ≤ 3099 := ra_113 (m := m) hV (k := ix.toNatClampNeg) (i_ix (n := 16) (by omega) (by omega)).2 | have b26 := i_bd (m 113 ix.toNatClampNeg)
            refine zd (fun (h27 : (0 : Int32) ≤ (m 113 ix.toNatClampNeg)) => ?_) (fun (h27 : ¬ (0 : Int32) ≤ (m 113 ix.toNatClampNeg)) => ?_)
            · skip
              have g28 := i_le h27
              have hg29 : (0 ≤ (m 113 ix.toNatClampNeg) ∧ (m 113 ix.toNatClampNeg).toNatClampNeg < 3100) := i_ix (by omega) (by omega)
              refine ⟨hg29, ?_⟩
              have hg30 : (0 ≤ ix ∧ ix.toNatClampNeg < 16) := i_ix (by omega) (by omega)
              refine ⟨hg30, ?_⟩
              have hV31 : zV (ma_u m 94 0 (0 : Int32)) := uf_94_0 hV
              have hV32 : zV (ma_u (ma_u m 94 0 (0 : Int32)) 94 0 (0 : Int32)) := uf_94_0 hV31
              have hV33 : zV (ma_u (ma_u (ma_u m 94 0 (0 : Int32)) 94 0 (0 : Int32)) 113 ix.toNatClampNeg (-1 : Int32)) := ua_113 hV32 (by omega) (by omega)
              first | have f34 : 0 ≤ (m 100 (m 113 ix.toNatClampNeg).toNatClampNeg).toInt ∧ (m 100 (m 113 ix.toNatClampNeg).toNatClampNeg).toInt ≤ 100000 := ra_100 (m := m) hV (k := (m 113 ix.toNatClampNeg).toNatClampNeg) (i_ix (n := 3100) (by omega) (by omega)).2 | have b35 := i_bd (m 100 (m 113 ix.toNatClampNeg).toNatClampNeg)
              exact K ((m 100 (m 113 ix.toNatClampNeg).toNatClampNeg)) _ (zF_u (zF_u (zF_u zF_rfl rfl) rfl) rfl) hV33 r_W r_GW r_GU r_OW r_GG (show qRB (m 99) (m 100) (m 98) (m 101) (m 102) (m 103) (m 107) (m 108) (m 109) (m 111) (m 112) ((ma_u m 113 ix.toNatClampNeg (-1 : Int32)) 113) (m 114) (m 94 55) (m 94 46) (m 94 11) (m 94 12) (m 94 62) (m 94 17) (m 94 9) (xWe aa ix ob) from by first | (rw [We_y r_RB.1 (by omega) (by omega) (As_n (us := (m 99)) (nr := (m 100)) (a := aa) (o := ob) (by assumption))]; exact RB_wk r_RB (As_u (As_n (us := (m 99)) (nr := (m 100)) (a := aa) (o := ob) (by assumption))); done) | (exfalso; omega; done) | (exfalso; contradiction; done)) (show qI (xWe aa ix ob) from by first | (rw [We_y r_RB.1 (by omega) (by omega) (As_n (us := (m 99)) (nr := (m 100)) (a := aa) (o := ob) (by assumption))]; exact I_u r_QI (Or.inr (Or.inl rfl)); done) | (exfalso; omega; done) | (exfalso; contradiction; done)) (show qMG (m 94 58) (m 106) (m 115) (m 94 57) (m 94 56) (m 99) (m 100) (xWe aa ix ob) from by first | (rw [We_y r_RB.1 (by omega) (by omega) (As_n (us := (m 99)) (nr := (m 100)) (a := aa) (o := ob) (by assumption))]; exact MG_u r_MG (Or.inl rfl); done) | (exfalso; omega; done) | (exfalso; contradiction; done)) (show (xWe aa ix ob) 87 8 = (m 94 58) from by first | (rw [We_y r_RB.1 (by omega) (by omega) (As_n (us := (m 99)) (nr := (m 100)) (a := aa) (o := ob) (by assumption))]; rw [un (by decide)]; exact r_MK; done) | (exfalso; omega; done) | (exfalso; contradiction; done)) r_WTS
            · skip
              have g36 := i_nle h27
              have hg37 : (0 ≤ ix ∧ ix.toNatClampNeg < 16) := i_ix (by omega) (by omega)
              refine ⟨hg37, ?_⟩
              have hV38 : zV (ma_u m 94 0 (0 : Int32)) := uf_94_0 hV
              have hV39 : zV (ma_u (ma_u m 94 0 (0 : Int32)) 94 0 (0 : Int32)) := uf_94_0 hV38
              have hV40 : zV (ma_u (ma_u (ma_u m 94 0 (0 : Int32)) 94 0 (0 : Int32)) 113 ix.toNatClampNeg (-1 : Int32)) := ua_113 hV39 (by omega) (by omega)
              exact K ((-1 : Int32)) _ (zF_u (zF_u (zF_u zF_rfl rfl) rfl) rfl) hV40 r_W r_GW r_GU r_OW r_GG (show qRB (m 99) (m 100) (m 98) (m 101) (m 102) (m 103) (m 107) (m 108) (m 109) (m 111) (m 112) ((ma_u m 113 ix.toNatClampNeg (-1 : Int32)) 113) (m 114) (m 94 55) (m 94 46) (m 94 11) (m 94 12) (m 94 62) (m 94 17) (m 94 9) (xWe aa ix ob) from by first | (rw [We_y r_RB.1 (by omega) (by omega) (As_n (us := (m 99)) (nr := (m 100)) (a := aa) (o := ob) (by assumption))]; exact RB_wk r_RB (As_u (As_n (us := (m 99)) (nr := (m 100)) (a := aa) (o := ob) (by assumption))); done) | (exfalso; omega; done) | (exfalso; contradiction; done)) (show qI (xWe aa ix ob) from by first | (rw [We_y r_RB.1 (by omega) (by omega) (As_n (us := (m 99)) (nr := (m 100)) (a := aa) (o := ob) (by assumption))]; exact I_u r_QI (Or.inr (Or.inl rfl)); done) | (exfalso; omega; done) | (exfalso; contradiction; done)) (show qMG (m 94 58) (m 106) (m 115) (m 94 57) (m 94 56) (m 99) (m 100) (xWe aa ix ob) from by first | (rw [We_y r_RB.1 (by omega) (by omega) (As_n (us := (m 99)) (nr := (m 100)) (a := aa) (o := ob) (by assumption))]; exact MG_u r_MG (Or.inl rfl); done) | (exfalso; omega; done) | (exfalso; contradiction; done)) (show (xWe aa ix ob) 87 8 = (m 94 58) from by first | (rw [We_y r_RB.1 (by omega) (by omega) (As_n (us := (m 99)) (nr := (m 100)) (a := aa) (o := ob) (by assumption))]; rw [un (by decide)]; exact r_MK; done) | (exfalso; omega; done) | (exfalso; contradiction; done)) r_WTS
          · skip
            have g41 := i_ne h22
            have hV42 : zV (ma_u m 94 0 (0 : Int32)) := uf_94_0 hV
            have hV43 : zV (ma_u (ma_u m 94 0 (0 : Int32)) 94 0 (3 : Int32)) := uf_94_0 hV42
            exact K ((0 : Int32)) _ (zF_u (zF_u zF_rfl rfl) rfl) hV43 r_W r_GW r_GU r_OW r_GG (show qRB (m 99) (m 100) (m 98) (m 101) (m 102) (m 103) (m 107) (m 108) (m 109) (m 111) (m 112) (m 113) (m 114) (m 94 55) (m 94 46) (m 94 11) (m 94 12) (m 94 62) (m 94 17) (m 94 9) (xWe aa ix ob) from by first | (unfold xWe; rw [qIf_n (Sl_n (Or.inl (by omega)))]; exact r_RB; done) | (unfold xWe; rw [qIf_n (Sl_n (Or.inr (by omega)))]; exact r_RB; done) | (exfalso; omega; done) | (exfalso; contradiction; done)) (show qI (xWe aa ix ob) from by first | (unfold xWe; rw [qIf_n (Sl_n (Or.inl (by omega)))]; exact r_QI; done) | (unfold xWe; rw [qIf_n (Sl_n (Or.inr (by omega)))]; exact r_QI; done) | (exfalso; omega; done) | (exfalso; contradiction; done)) (show qMG (m 94 58) (m 106) (m 115) (m 94 57) (m 94 56) (m 99) (m 100) (xWe aa ix ob) from by first | (unfold xWe; rw [qIf_n (Sl_n (Or.inl (by omega)))]; exact r_MG; done) | (unfold xWe; rw [qIf_n (Sl_n (Or.inr (by omega)))]; exact r_MG; done) | (exfalso; omega; done) | (exfalso; contradiction; done)) (show (xWe aa ix ob) 87 8 = (m 94 58) from by first | (unfold xWe; rw [qIf_n (Sl_n (Or.inl (by omega)))]; exact r_MK; done) | (unfold xWe; rw [qIf_n (Sl_n (Or.inr (by omega)))]; exact r_MK; done) | (exfalso; omega; done) | (exfalso; contradiction; done)) r_WTS
        · skip
          have g44 := i_ne h20
          have hV45 : zV (ma_u m 94 0 (0 : Int32)) := uf_94_0 hV
          refine sp_245r (aa := aa) (ob) hV45 r_W r_RB r_QI (fun v2 m1 hV_m1 p0_m1 p1_m1 p2_m1 => zmi_n ?_)
          have p0_m1 : -1 ≤ v2.toInt ∧ v2.toInt ≤ 3099 := p0_m1
          have p1_m1 : v2.toInt < 0 ∨ (m 99) v2.toNatClampNeg ≠ 0 := p1_m1
          have p2_m1 : qRe (m 99) (m 100) aa ob v2 := p2_m1
          refine zd (fun (h46 : ob = (-1 : Int32)) => ?_) (fun (h46 : ¬ ob = (-1 : Int32)) => ?_)
          · skip
            have g47 := i_eq h46
            have hg48 : (0 ≤ ix ∧ ix.toNatClampNeg < 16) := i_ix (by omega) (by omega)
            refine ⟨hg48, ?_⟩
            first | have f49 : -1 ≤ (m 113 ix.toNatClampNeg).toInt ∧ (m 113 ix.toNatClampNeg).toInt ≤ 3099 := ra_113 (m := m) hV (k := ix.toNatClampNeg) (i_ix (n := 16) (by omega) (by omega)).2 | have b50 := i_bd (m 113 ix.toNatClampNeg)
            refine zd (fun (h51 : (0 : Int32) ≤ (m 113 ix.toNatClampNeg)) => ?_) (fun (h51 : ¬ (0 : Int32) ≤ (m 113 ix.toNatClampNeg)) => ?_)
            · skip
              have g52 := i_le h51
              have hg53 : (0 ≤ (m 113 ix.toNatClampNeg) ∧ (m 113 ix.toNatClampNeg).toNatClampNeg < 3100) := i_ix (by omega) (by omega)
              refine ⟨hg53, ?_⟩
              have hg54 : (0 ≤ ix ∧ ix.toNatClampNeg < 16) := i_ix (by omega) (by omega)
              refine ⟨hg54, ?_⟩
              have hV55 : zV (ma_u (zov wr_245 (ma_u m 94 0 (0 : Int32)) m1) 94 0 (0 : Int32)) := uf_94_0 hV_m1
              have b57 := i_bd v2
              have hV56 : zV (ma_u (ma_u (zov wr_245 (ma_u m 94 0 (0 : Int32)) m1) 94 0 (0 : Int32)) 113 ix.toNatClampNeg v2) := ua_113 hV55 (by omega) (by omega)
              first | have f58 : 0 ≤ (m 100 (m 113 ix.toNatClampNeg).toNatClampNeg).toInt ∧ (m 100 (m 113 ix.toNatClampNeg).toNatClampNeg).toInt ≤ 100000 := ra_100 (m := m) hV (k := (m 113 ix.toNatClampNeg).toNatClampNeg) (i_ix (n := 3100) (by omega) (by omega)).2 | have b59 := i_bd (m 100 (m 113 ix.toNatClampNeg).toNatClampNeg)
              exact K ((m 100 (m 113 ix.toNatClampNeg).toNatClampNeg)) _ (zF_u (zF_u (zF_zov (zF_u zF_rfl rfl) ws_245_251) rfl) rfl) hV56 r_W r_GW r_GU r_OW r_GG (show qRB (m 99) (m 100) (m 98) (m 101) (m 102) (m 103) (m 107) (m 108) (m 109) (m 111) (m 112) ((ma_u m 113 ix.toNatClampNeg v2) 113) (m 114) (m 94 55) (m 94 46) (m 94 11) (m 94 12) (m 94 62) (m 94 17) (m 94 9) (xWe aa ix ob) from by first | (rw [We_y r_RB.1 (by omega) (by omega) (As_y p2_m1 (by omega))]; exact RB_wk r_RB (As_u (As_y p2_m1 (by omega))); done) | (exfalso; omega; done) | (exfalso; contradiction; done)) (show qI (xWe aa ix ob) from by first | (rw [We_y r_RB.1 (by omega) (by omega) (As_y p2_m1 (by omega))]; exact I_u r_QI (Or.inr (Or.inl rfl)); done) | (exfalso; omega; done) | (exfalso; contradiction; done)) (show qMG (m 94 58) (m 106) (m 115) (m 94 57) (m 94 56) (m 99) (m 100) (xWe aa ix ob) from by first | (rw [We_y r_RB.1 (by omega) (by omega) (As_y p2_m1 (by omega))]; exact MG_u r_MG (Or.inl rfl); done) | (exfalso; omega; done) | (exfalso; contradiction; done)) (show (xWe aa ix ob) 87 8 = (m 94 58) from by first | (rw [We_y r_RB.1 (by omega) (by omega) (As_y p2_m1 (by omega))]; rw [un (by decide)]; exact r_MK; done) | (exfalso; omega; done) | (exfalso; contradiction; done)) r_WTS
            · skip
              have g60 := i_nle h51
              have hg61 : (0 ≤ ix ∧ ix.toNatClampNeg < 16) := i_ix (by omega) (by omega)
              refine ⟨hg61, ?_⟩
              have hV62 : zV (ma_u (zov wr_245 (ma_u m 94 0 (0 : Int32)) m1) 94 0 (0 : Int32)) := uf_94_0 hV_m1
              have b64 := i_bd v2
              have hV63 : zV (ma_u (ma_u (zov wr_245 (ma_u m 94 0 (0 : Int32)) m1) 94 0 (0 : Int32)) 113 ix.toNatClampNeg v2) := ua_113 hV62 (by omega) (by omega)
              exact K ((-1 : Int32)) _ (zF_u (zF_u (zF_zov (zF_u zF_rfl rfl) ws_245_251) rfl) rfl) hV63 r_W r_GW r_GU r_OW r_GG (show qRB (m 99) (m 100) (m 98) (m 101) (m 102) (m 103) (m 107) (m 108) (m 109) (m 111) (m 112) ((ma_u m 113 ix.toNatClampNeg v2) 113) (m 114) (m 94 55) (m 94 46) (m 94 11) (m 94 12) (m 94 62) (m 94 17) (m 94 9) (xWe aa ix ob) from by first | (rw [We_y r_RB.1 (by omega) (by omega) (As_y p2_m1 (by omega))]; exact RB_wk r_RB (As_u (As_y p2_m1 (by omega))); done) | (exfalso; omega; done) | (exfalso; contradiction; done)) (show qI (xWe aa ix ob) from by first | (rw [We_y r_RB.1 (by omega) (by omega) (As_y p2_m1 (by omega))]; exact I_u r_QI (Or.inr (Or.inl rfl)); done) | (exfalso; omega; done) | (exfalso; contradiction; done)) (show qMG (m 94 58) (m 106) (m 115) (m 94 57) (m 94 56) (m 99) (m 100) (xWe aa ix ob) from by first | (rw [We_y r_RB.1 (by omega) (by omega) (As_y p2_m1 (by omega))]; exact MG_u r_MG (Or.inl rfl); done) | (exfalso; omega; done) | (exfalso; contradiction; done)) (show (xWe aa ix ob) 87 8 = (m 94 58) from by first | (rw [We_y r_RB.1 (by omega) (by omega) (As_y p2_m1 (by omega))]; rw [un (by decide)]; exact r_MK; done) | (exfalso; omega; done) | (exfalso; contradiction; done)) r_WTS
          · skip
            have g65 := i_ne h46
            have b66 := i_bd v2
            refine zd (fun (h67 : (0 : Int32) ≤ v2) => ?_) (fun (h67 : ¬ (0 : Int32) ≤ v2) => ?_)
            · skip
              have g68 := i_le h67
              have hg69 : (0 ≤ ix ∧ ix.toNatClampNeg < 16) := i_ix (by omega) (by omega)
              refine ⟨hg69, ?_⟩
              first | have f70 : -1 ≤ (m 113 ix.toNatClampNeg).toInt ∧ (m 113 ix.toNatClampNeg).toInt ≤ 3099 := ra_113 (m := m) hV (k := ix.toNatClampNeg) (i_ix (n := 16) (by omega) (by omega)).2 | have b71 := i_bd (m 113 ix.toNatClampNeg)
              refine zd (fun (h72 : (0 : Int32) ≤ (m 113 ix.toNatClampNeg)) => ?_) (fun (h72 : ¬ (0 : Int32) ≤ (m 113 ix.toNatClampNeg)) => ?_)
              · skip
                have g73 := i_le h72
                have hg74 : (0 ≤ (m 113 ix.toNatClampNeg) ∧ (m 113 ix.toNatClampNeg).toNatClampNeg < 3100) := i_ix (by omega) (by omega)
                refine ⟨hg74, ?_⟩
                have hg75 : (0 ≤ ix ∧ ix.toNatClampNeg < 16) := i_ix (by omega) (by omega)
                refine ⟨hg75, ?_⟩
                have hV76 : zV (ma_u (zov wr_245 (ma_u m 94 0 (0 : Int32)) m1) 94 0 (0 : Int32)) := uf_94_0 hV_m1
                have hV77 : zV (ma_u (ma_u (zov wr_245 (ma_u m 94 0 (0 : Int32)) m1) 94 0 (0 : Int32)) 113 ix.toNatClampNeg v2) := ua_113 hV76 (by omega) (by omega)
                first | have f78 : 0 ≤ (m 100 (m 113 ix.toNatClampNeg).toNatClampNeg).toInt ∧ (m 100 (m 113 ix.toNatClampNeg).toNatClampNeg).toInt ≤ 100000 := ra_100 (m := m) hV (k := (m 113 ix.toNatClampNeg).toNatClampNeg) (i_ix (n := 3100) (by omega) (by omega)).2 | have b79 := i_bd (m 100 (m 113 ix.toNatClampNeg).toNatClampNeg)
                exact K ((m 100 (m 113 ix.toNatClampNeg).toNatClampNeg)) _ (zF_u (zF_u (zF_zov (zF_u zF_rfl rfl) ws_245_251) rfl) rfl) hV77 r_W r_GW r_GU r_OW r_GG (show qRB (m 99) (m 100) (m 98) (m 101) (m 102) (m 103) (m 107) (m 108) (m 109) (m 111) (m 112) ((ma_u m 113 ix.toNatClampNeg v2) 113) (m 114) (m 94 55) (m 94 46) (m 94 11) (m 94 12) (m 94 62) (m 94 17) (m 94 9) (xWe aa ix ob) from by first | (rw [We_y r_RB.1 (by omega) (by omega) (As_y p2_m1 (by omega))]; exact RB_wk r_RB (As_u (As_y p2_m1 (by omega))); done) | (exfalso; omega; done) | (exfalso; contradiction; done)) (show qI (xWe aa ix ob) from by first | (rw [We_y r_RB.1 (by omega) (by omega) (As_y p2_m1 (by omega))]; exact I_u r_QI (Or.inr (Or.inl rfl)); done) | (exfalso; omega; done) | (exfalso; contradiction; done)) (show qMG (m 94 58) (m 106) (m 115) (m 94 57) (m 94 56) (m 99) (m 100) (xWe aa ix ob) from by first | (rw [We_y r_RB.1 (by omega) (by omega) (As_y p2_m1 (by omega))]; exact MG_u r_MG (Or.inl rfl); done) | (exfalso; omega; done) | (exfalso; contradiction; done)) (show (xWe aa ix ob) 87 8 = (m 94 58) from by first | (rw [We_y r_RB.1 (by omega) (by omega) (As_y p2_m1 (by omega))]; rw [un (by decide)]; exact r_MK; done) | (exfalso; omega; done) | (exfalso; contradiction; done)) r_WTS
              · skip
                have g80 := i_nle h72
                have hg81 : (0 ≤ ix ∧ ix.toNatClampNeg < 16) := i_ix (by omega) (by omega)
                refine ⟨hg81, ?_⟩
                have hV82 : zV (ma_u (zov wr_245 (ma_u m 94 0 (0 : Int32)) m1) 94 0 (0 : Int32)) := uf_94_0 hV_m1
                have hV83 : zV (ma_u (ma_u (zov wr_245 (ma_u m 94 0 (0 : Int32)) m1) 94 0 (0 : Int32)) 113 ix.toNatClampNeg v2) := ua_113 hV82 (by omega) (by omega)
                exact K ((-1 : Int32)) _ (zF_u (zF_u (zF_zov (zF_u zF_rfl rfl) ws_245_251) rfl) rfl) hV83 r_W r_GW r_GU r_OW r_GG (show qRB (m 99) (m 100) (m 98) (m 101) (m 102) (m 103) (m 107) (m 108) (m 109) (m 111) (m 112) ((ma_u m 113 ix.toNatClampNeg v2) 113) (m 114) (m 94 55) (m 94 46) (m 94 11) (m 94 12) (m 94 62) (m 94 17) (m 94 9) (xWe aa ix ob) from by first | (rw [We_y r_RB.1 (by omega) (by omega) (As_y p2_m1 (by omega))]; exact RB_wk r_RB (As_u (As_y p2_m1 (by omega))); done) | (exfalso; omega; done) | (exfalso; contradiction; done)) (show qI (xWe aa ix ob) from by first | (rw [We_y r_RB.1 (by omega) (by omega) (As_y p2_m1 (by omega))]; exact I_u r_QI (Or.inr (Or.inl rfl)); done) | (exfalso; omega; done) | (exfalso; contradiction; done)) (show qMG (m 94 58) (m 106) (m 115) (m 94 57) (m 94 56) (m 99) (m 100) (xWe aa ix ob) from by first | (rw [We_y r_RB.1 (by omega) (by omega) (As_y p2_m1 (by omega))]; exact MG_u r_MG (Or.inl rfl); done) | (exfalso; omega; done) | (exfalso; contradiction; done)) (show (xWe aa ix ob) 87 8 = (m 94 58) from by first | (rw [We_y r_RB.1 (by omega) (by omega) (As_y p2_m1 (by omega))]; rw [un (by decide)]; exact r_MK; done) | (exfalso; omega; done) | (exfalso; contradiction; done)) r_WTS
            · skip
              have g84 := i_nle h67
              have hV85 : zV (ma_u (zov wr_245 (ma_u m 94 0 (0 : Int32)) m1) 94 0 (3 : Int32)) := uf_94_0 hV_m1
              exact K ((0 : Int32)) _ (zF_u (zF_zov (zF_u zF_rfl rfl) ws_245_251) rfl) hV85 r_W r_GW r_GU r_OW r_GG (show qRB (m 99) (m 100) (m 98) (m 101) (m 102) (m 103) (m 107) (m 108) (m 109) (m 111) (m 112) (m 113) (m 114) (m 94 55) (m 94 46) (m 94 11) (m 94 12) (m 94 62) (m 94 17) (m 94 9) (xWe aa ix ob) from by first | (unfold xWe; rw [qIf_n (Sl_n (Or.inl (by omega)))]; exact r_RB; done) | (unfold xWe; rw [qIf_n (Sl_n (Or.inr (by omega)))]; exact r_RB; done) | (unfold xWe; rw [qIf_n (Sl_r (by assumption) (Re_n p2_m1 (by omega)))]; exact r_RB; done) | (exfalso; omega; done) | (exfalso; contradiction; done)) (show qI (xWe aa ix ob) from by first | (unfold xWe; rw [qIf_n (Sl_n (Or.inl (by omega)))]; exact r_QI; done) | (unfold xWe; rw [qIf_n (Sl_n (Or.inr (by omega)))]; exact r_QI; done) | (unfold xWe; rw [qIf_n (Sl_r (by assumption) (Re_n p2_m1 (by omega)))]; exact r_QI; done) | (exfalso; omega; done) | (exfalso; contradiction; done)) (show qMG (m 94 58) (m 106) (m 115) (m 94 57) (m 94 56) (m 99) (m 100) (xWe aa ix ob) from by first | (unfold xWe; rw [qIf_n (Sl_n (Or.inl (by omega)))]; exact r_MG; done) | (unfold xWe; rw [qIf_n (Sl_n (Or.inr (by omega)))]; exact r_MG; done) | (unfold xWe; rw [qIf_n (Sl_r (by assumption) (Re_n p2_m1 (by omega)))]; exact r_MG; done) | (exfalso; omega; done) | (exfalso; contradiction; done)) (show (xWe aa ix ob) 87 8 = (m 94 58) from by first | (unfold xWe; rw [qIf_n (Sl_n (Or.inl (by omega)))]; exact r_MK; done) | (unfold xWe; rw [qIf_n (Sl_n (Or.inr (by omega)))]; exact r_MK; done) | (unfold xWe; rw [qIf_n (Sl_r (by assumption) (Re_n p2_m1 (by omega)))]; exact r_MK; done) | (exfalso; omega; done) | (exfalso; contradiction; done)) r_WTS
theorem sp_254r0 {X : Nat × (Nat → Int32)} {P : Option ma_V → (Nat → Nat → Int32) → Prop} {T : Nat} {aa : Nat→Nat→Int32} {m : Nat → Nat → Int32} (ob : Int32) (hV : zV m) (hpre0 : T + 1 ≤ 3000) (hpre1 : T ≤ 512) (r_W : zW (m 94 7) (m 98) (m 101) (m 102) (m 108)) (r_GW : zGW T (m 94 55) (m 109)) (r_GU : zGU T (m 94 46) (m 99)) (r_OW : zOw (m 99) (m 103) (m 111)) (r_GG : zGG (m 94 58) (m 94 56) (m 94 57) (m 106)) (hpre7 : (m 94 10).toInt = 0 ∧ (m 94 58).toInt = 0) (hpre8 : (m 94 8).toInt = 1) (r_RB : qRB (m 99) (m 100) (m 98) (m 101) (m 102) (m 103) (m 107) (m 108) (m 109) (m 111) (m 112) (m 113) (m 114) (m 94 55) (m 94 46) (m 94 11) (m 94 12) (m 94 62) (m 94 17) (m 94 9) aa) (r_QI : qI aa) (r_MG : qMG (m 94 58) (m 106) (m 115) (m 94 57) (m 94 56) (m 99) (m 100) aa) (r_MK : aa 87 8 = (m 94 58)) (r_WTS : (m 94 45).toInt = sm (zbU (m 99)) (m 102) 3100) (KZ : ∀ v m₉, zV (zov wr_254 m m₉) → (zW (m 94 7) (m 98) (m 101) (m 102) (m 108)) → (zGW (T + 1) (m 94 55) (m₉ 109)) → (zGU T (m 94 46) (m 99)) → (zOw (m 99) (m 103) (m 111)) → (zGG (m 94 58) (m 94 56) (m 94 57) (m 106)) → (qRB (m 99) (m 100) (m 98) (m 101) (m 102) (m 103) (m 107) (m 108) (m₉ 109) (m 111) (m 112) (m 113) (m 114) (m 94 55) (m 94 46) (m 94 11) (m 94 12) (m 94 62) (m 94 17) (m 94 9) (xWi aa ob)) → (qI (xWi aa ob)) → (qMG (m 94 58) (m 106) (m 115) (m 94 57) (m 94 56) (m 99) (m 100) (xWi aa ob)) → ((xWi aa ob) 87 8 = (m 94 58)) → ((m 94 45).toInt = sm (zbU (m 99)) (m 102) 3100) → P (some (.inl v)) (zov wr_254 m m₉)) : zm X 5 109 254 0 [(0, .inr (.inr (some 94))), (1, .inl ob)] m P := by
  have K : ∀ v m₉, zF wr_254 m m₉ → zV m₉ → (zW (m₉ 94 7) (m₉ 98) (m₉ 101) (m₉ 102) (m₉ 108)) → (zGW (T + 1) (m₉ 94 55) (m₉ 109)) → (zGU T (m₉ 94 46) (m₉ 99)) → (zOw (m₉ 99) (m₉ 103) (m₉ 111)) → (zGG (m₉ 94 58) (m₉ 94 56) (m₉ 94 57) (m₉ 106)) → (qRB (m₉ 99) (m₉ 100) (m₉ 98) (m₉ 101) (m₉ 102) (m₉ 103) (m₉ 107) (m₉ 108) (m₉ 109) (m₉ 111) (m₉ 112) (m₉ 113) (m₉ 114) (m₉ 94 55) (m₉ 94 46) (m₉ 94 11) (m₉ 94 12) (m₉ 94 62) (m₉ 94 17) (m₉ 94 9) (xWi aa ob)) → (qI (xWi aa ob)) → (qMG (m₉ 94 58) (m₉ 106) (m₉ 115) (m₉ 94 57) (m₉ 94 56) (m₉ 99) (m₉ 100) (xWi aa ob)) → ((xWi aa ob) 87 8 = (m₉ 94 58)) → ((m₉ 94 45).toInt = sm (zbU (m₉ 99)) (m₉ 102) 3100) → P (some (.inl v)) m₉ := by
    intro v m₉ hf z q0 q1 q2 q3 q4 q5 q6 q7 q8 q9
    have e := zov_eq hf
    rw [e] at z ⊢
    try rw [e] at q0
    try rw [e] at q1
    try rw [e] at q2
    try rw [e] at q3
    try rw [e] at q4
    try rw [e] at q5
    try rw [e] at q6
    try rw [e] at q7
    try rw [e] at q8
    try rw [e] at q9
    exact KZ v m₉ z q0 q1 q2 q3 q4 q5 q6 q7 q8 q9
  refine g_254_0 ob ?_
  have f1 : 0 ≤ (m 94 10).toInt ∧ (m 94 10).toInt ≤ 6 := rs_94_10 (m := m) hV
  have f2 : 0 ≤ (m 94 58).toInt ∧ (m 94 58).toInt ≤ 1 := rs_94_58 (m := m) hV
  have f3 : 0 ≤ (m 94 8).toInt ∧ (m 94 8).toInt ≤ 1 := rs_94_8 (m := m) hV
  have li4 : (0 : Int32).toInt = 0 := rfl
  refine zd (fun (h5 : (m 94 8) = (0 : Int32)) => ?_) (fun (h5 : ¬ (m 94 8) = (0 : Int32)) => ?_)
  · skip
    have g6 := i_eq h5
    exfalso; omega
  · skip
    have g7 := i_ne h5
    have b8 := i_bd ob
    have hV9 : zV (ma_u m 94 0 (0 : Int32)) := uf_94_0 hV
    refine sp_245r (aa := aa) (ob) hV9 r_W r_RB r_QI (fun v2 m1 hV_m1 p0_m1 p1_m1 p2_m1 => zmi_n ?_)
    have p0_m1 : -1 ≤ v2.toInt ∧ v2.toInt ≤ 3099 := p0_m1
    have p1_m1 : v2.toInt < 0 ∨ (m 99) v2.toNatClampNeg ≠ 0 := p1_m1
    have p2_m1 : qRe (m 99) (m 100) aa ob v2 := p2_m1
    have b10 := i_bd v2
    refine zd (fun (h11 : (0 : Int32) ≤ v2) => ?_) (fun (h11 : ¬ (0 : Int32) ≤ v2) => ?_)
    · skip
      have g12 := i_le h11
      have hg13 : (0 ≤ v2 ∧ v2.toNatClampNeg < 3100) := i_ix (by omega) (by omega)
      refine ⟨hg13, ?_⟩
      first | have f14 : 0 ≤ (m 109 v2.toNatClampNeg).toInt ∧ (m 109 v2.toNatClampNeg).toInt ≤ 1 := ra_109 (m := m) hV (k := v2.toNatClampNeg) (i_ix (n := 3100) (by omega) (by omega)).2 | have b15 := i_bd (m 109 v2.toNatClampNeg)
      refine zd (fun (h16 : (m 109 v2.toNatClampNeg) = (0 : Int32)) => ?_) (fun (h16 : ¬ (m 109 v2.toNatClampNeg) = (0 : Int32)) => ?_)
      · skip
        have g17 := i_eq h16
        have hg18 : (0 ≤ v2 ∧ v2.toNatClampNeg < 3100) := i_ix (by omega) (by omega)
        refine ⟨hg18, ?_⟩
        have hV19 : zV (ma_u (zov wr_245 (ma_u m 94 0 (0 : Int32)) m1) 94 0 (0 : Int32)) := uf_94_0 hV_m1
        have li21 : (1 : Int32).toInt = 1 := rfl
        have hV20 : zV (ma_u (ma_u (zov wr_245 (ma_u m 94 0 (0 : Int32)) m1) 94 0 (0 : Int32)) 109 v2.toNatClampNeg (1 : Int32)) := ua_109 hV19 (by omega) (by omega)
        exact K ((1 : Int32)) _ (zF_u (zF_u (zF_zov (zF_u zF_rfl rfl) ws_245_254) rfl) rfl) hV20 r_W (show zGW (T + 1) (m 94 55) ((ma_u m 109 v2.toNatClampNeg (1 : Int32)) 109) from by first | (exact GW_more r_GW (by omega)) | (exfalso; omega; done) | (exfalso; contradiction; done)) r_GU r_OW r_GG (show qRB (m 99) (m 100) (m 98) (m 101) (m 102) (m 103) (m 107) (m 108) ((ma_u m 109 v2.toNatClampNeg (1 : Int32)) 109) (m 111) (m 112) (m 113) (m 114) (m 94 55) (m 94 46) (m 94 11) (m 94 12) (m 94 62) (m 94 17) (m 94 9) (xWi aa ob) from by first | (rw [Wi_y p2_m1 (by omega)]; exact RB_wi r_RB (by omega) (Re_y p2_m1 (by omega)).2.1; done) | (exfalso; omega; done) | (exfalso; contradiction; done)) (show qI (xWi aa ob) from by first | (rw [Wi_y p2_m1 (by omega)]; exact I_u r_QI (Or.inr (Or.inr (Or.inr rfl))); done) | (exfalso; omega; done) | (exfalso; contradiction; done)) (show qMG (m 94 58) (m 106) (m 115) (m 94 57) (m 94 56) (m 99) (m 100) (xWi aa ob) from by first | (rw [Wi_y p2_m1 (by omega)]; exact MG_u r_MG (Or.inr rfl); done) | (exfalso; omega; done) | (exfalso; contradiction; done)) (show (xWi aa ob) 87 8 = (m 94 58) from by first | (rw [Wi_y p2_m1 (by omega)]; rw [un (by decide)]; exact r_MK; done) | (exfalso; omega; done) | (exfalso; contradiction; done)) r_WTS
      · skip
        have g22 := i_ne h16
        have hg23 : (0 ≤ v2 ∧ v2.toNatClampNeg < 3100) := i_ix (by omega) (by omega)
        refine ⟨hg23, ?_⟩
        have hV24 : zV (ma_u (zov wr_245 (ma_u m 94 0 (0 : Int32)) m1) 94 0 (0 : Int32)) := uf_94_0 hV_m1
        have li26 : (1 : Int32).toInt = 1 := rfl
        have hV25 : zV (ma_u (ma_u (zov wr_245 (ma_u m 94 0 (0 : Int32)) m1) 94 0 (0 : Int32)) 109 v2.toNatClampNeg (1 : Int32)) := ua_109 hV24 (by omega) (by omega)
        exact K ((0 : Int32)) _ (zF_u (zF_u (zF_zov (zF_u zF_rfl rfl) ws_245_254) rfl) rfl) hV25 r_W (show zGW (T + 1) (m 94 55) ((ma_u m 109 v2.toNatClampNeg (1 : Int32)) 109) from by first | (exact GW_more r_GW (by omega)) | (exfalso; omega; done) | (exfalso; contradiction; done)) r_GU r_OW r_GG (show qRB (m 99) (m 100) (m 98) (m 101) (m 102) (m 103) (m 107) (m 108) ((ma_u m 109 v2.toNatClampNeg (1 : Int32)) 109) (m 111) (m 112) (m 113) (m 114) (m 94 55) (m 94 46) (m 94 11) (m 94 12) (m 94 62) (m 94 17) (m 94 9) (xWi aa ob) from by first | (rw [Wi_y p2_m1 (by omega)]; exact RB_wi r_RB (by omega) (Re_y p2_m1 (by omega)).2.1; done) | (exfalso; omega; done) | (exfalso; contradiction; done)) (show qI (xWi aa ob) from by first | (rw [Wi_y p2_m1 (by omega)]; exact I_u r_QI (Or.inr (Or.inr (Or.inr rfl))); done) | (exfalso; omega; done) | (exfalso; contradiction; done)) (show qMG (m 94 58) (m 106) (m 115) (m 94 57) (m 94 56) (m 99) (m 100) (xWi aa ob) from by first | (rw [Wi_y p2_m1 (by omega)]; exact MG_u r_MG (Or.inr rfl); done) | (exfalso; omega; done) | (exfalso; contradiction; done)) (show (xWi aa ob) 87 8 = (m 94 58) from by first | (rw [Wi_y p2_m1 (by omega)]; rw [un (by decide)]; exact r_MK; done) | (exfalso; omega; done) | (exfalso; contradiction; done)) r_WTS
    · skip
      have g27 := i_nle h11
      have hV28 : zV (ma_u (zov wr_245 (ma_u m 94 0 (0 : Int32)) m1) 94 0 (2 : Int32)) := uf_94_0 hV_m1
      exact K ((0 : Int32)) _ (zF_u (zF_zov (zF_u zF_rfl rfl) ws_245_254) rfl) hV28 r_W (show zGW (T + 1) (m 94 55) (m 109) from by first | (exact GW_up r_GW (by omega)) | (exfalso; omega; done) | (exfalso; contradiction; done)) r_GU r_OW r_GG (show qRB (m 99) (m 100) (m 98) (m 101) (m 102) (m 103) (m 107) (m 108) (m 109) (m 111) (m 112) (m 113) (m 114) (m 94 55) (m 94 46) (m 94 11) (m 94 12) (m 94 62) (m 94 17) (m 94 9) (xWi aa ob) from by first | (unfold xWi; rw [qIf_n (Re_n p2_m1 (by omega))]; exact r_RB; done) | (exfalso; omega; done) | (exfalso; contradiction; done)) (show qI (xWi aa ob) from by first | (unfold xWi; rw [qIf_n (Re_n p2_m1 (by omega))]; exact r_QI; done) | (exfalso; omega; done) | (exfalso; contradiction; done)) (show qMG (m 94 58) (m 106) (m 115) (m 94 57) (m 94 56) (m 99) (m 100) (xWi aa ob) from by first | (unfold xWi; rw [qIf_n (Re_n p2_m1 (by omega))]; exact r_MG; done) | (exfalso; omega; done) | (exfalso; contradiction; done)) (show (xWi aa ob) 87 8 = (m 94 58) from by first | (unfold xWi; rw [qIf_n (Re_n p2_m1 (by omega))]; exact r_MK; done) | (exfalso; omega; done) | (exfalso; contradiction; done)) r_WTS

