/-! from 95.h26 -/
/-! the reference by numbers (written by wip/tools/gen18r.py) -/
theorem sp_251r {X : Nat × (Nat → Int32)} {P : Option ma_V → (Nat → Nat → Int32) → Prop} {T : Nat} {aa : Nat→Nat→Int32} {m : Nat → Nat → Int32} (ix : Int32) (ob : Int32) (hV : zV m) (hpre0 : T ≤ 512) (r_W : zW (m 94 7) (m 98) (m 101) (m 102) (m 108)) (r_GW : zGW T (m 94 55) (m 109)) (r_GU : zGU T (m 94 46) (m 99)) (r_OW : zOw (m 99) (m 103) (m 111)) (r_GG : zGG (m 94 58) (m 94 56) (m 94 57) (m 106)) (hpre6 : (m 94 10).toInt = 5) (hpre7 : (m 94 8).toInt = 1) (r_RB : qRB (m 99) (m 100) (m 98) (m 101) (m 102) (m 103) (m 107) (m 108) (m 109) (m 111) (m 112) (m 113) (m 114) (m 94 55) (m 94 46) (m 94 11) (m 94 12) (m 94 62) (m 94 17) (m 94 9) aa) (r_QI : qI aa) (r_MG : qMG (m 94 58) (m 106) (m 115) (m 94 57) (m 94 56) (m 99) (m 100) aa) (r_MK : aa 87 8 = (m 94 58)) (r_WTS : (m 94 45).toInt = sm (zbU (m 99)) (m 102) 3100) (KZ : ∀ v m₉, zV (zov wr_251 m m₉) → (zW (m 94 7) (m 98) (m 101) (m 102) (m 108)) → (zGW T (m 94 55) (m 109)) → (zGU T (m 94 46) (m 99)) → (zOw (m 99) (m 103) (m 111)) → (zGG (m 94 58) (m 94 56) (m 94 57) (m 106)) → (qRB (m 99) (m 100) (m 98) (m 101) (m 102) (m 103) (m 107) (m 108) (m 109) (m 111) (m 112) (m₉ 113) (m 114) (m 94 55) (m 94 46) (m 94 11) (m 94 12) (m 94 62) (m 94 17) (m 94 9) (xWe aa ix ob)) → (qI (xWe aa ix ob)) → (qMG (m 94 58) (m 106) (m 115) (m 94 57) (m 94 56) (m 99) (m 100) (xWe aa ix ob)) → ((xWe aa ix ob) 87 8 = (m 94 58)) → ((m 94 45).toInt = sm (zbU (m 99)) (m 102) 3100) → P (some (.inl v)) (zov wr_251 m m₉)) : zm X 5 109 251 0 [(0, .inr (.inr (some 94))), (1, .inl ix), (2, .inl ob)] m P := by
  have K : ∀ v m₉, zF wr_251 m m₉ → zV m₉ → (zW (m₉ 94 7) (m₉ 98) (m₉ 101) (m₉ 102) (m₉ 108)) → (zGW T (m₉ 94 55) (m₉ 109)) → (zGU T (m₉ 94 46) (m₉ 99)) → (zOw (m₉ 99) (m₉ 103) (m₉ 111)) → (zGG (m₉ 94 58) (m₉ 94 56) (m₉ 94 57) (m₉ 106)) → (qRB (m₉ 99) (m₉ 100) (m₉ 98) (m₉ 101) (m₉ 102) (m₉ 103) (m₉ 107) (m₉ 108) (m₉ 109) (m₉ 111) (m₉ 112) (m₉ 113) (m₉ 114) (m₉ 94 55) (m₉ 94 46) (m₉ 94 11) (m₉ 94 12) (m₉ 94 62) (m₉ 94 17) (m₉ 94 9) (xWe aa ix ob)) → (qI (xWe aa ix ob)) → (qMG (m₉ 94 58) (m₉ 106) (m₉ 115) (m₉ 94 57) (m₉ 94 56) (m₉ 99) (m₉ 100) (xWe aa ix ob)) → ((xWe aa ix ob) 87 8 = (m₉ 94 58)) → ((m₉ 94 45).toInt = sm (zbU (m₉ 99)) (m₉ 102) 3100) → P (some (.inl v)) m₉ := by
    intro v m₉ hf z q0 q1 q2 q3 q4 q5 q6 q7 q8 q9
    have e := zov_eq hf
    rw [e] at z ⊢
    try rw [e] at q0
    try rw [e] at q1
    try rw [e] at q2
    try rw [e] at q3
    try rw [e] at q4
    try rw [e] at q5
    try rw [e] at q6
    try rw [e] at q7
    try rw [e] at q8
    try rw [e] at q9
    exact KZ v m₉ z q0 q1 q2 q3 q4 q5 q6 q7 q8 q9
  refine g_251_0 ix ob ?_
  have f1 : 0 ≤ (m 94 10).toInt ∧ (m 94 10).toInt ≤ 6 := rs_94_10 (m := m) hV
  have f2 : 0 ≤ (m 94 8).toInt ∧ (m 94 8).toInt ≤ 1 := rs_94_8 (m := m) hV
  have b3 := i_bd ix
  have li4 : (0 : Int32).toInt = 0 := rfl
  refine zd (fun (h5 : ix < (0 : Int32)) => ?_) (fun (h5 : ¬ ix < (0 : Int32)) => ?_)
  · skip
    have g6 := i_lt h5
    have hV7 : zV (ma_u m 94 0 (1 : Int32)) := uf_94_0 hV
    exact K ((0 : Int32)) _ (zF_u zF_rfl rfl) hV7 r_W r_GW r_GU r_OW r_GG (show qRB (m 99) (m 100) (m 98) (m 101) (m 102) (m 103) (m 107) (m 108) (m 109) (m 111) (m 112) (m 113) (m 114) (m 94 55) (m 94 46) (m 94 11) (m 94 12) (m 94 62) (m 94 17) (m 94 9) (xWe aa ix ob) from by first | (unfold xWe; rw [qIf_n (Sl_n (Or.inl (by omega)))]; exact r_RB; done) | (unfold xWe; rw [qIf_n (Sl_n (Or.inr (by omega)))]; exact r_RB; done) | (exfalso; omega; done) | (exfalso; contradiction; done)) (show qI (xWe aa ix ob) from by first | (unfold xWe; rw [qIf_n (Sl_n (Or.inl (by omega)))]; exact r_QI; done) | (unfold xWe; rw [qIf_n (Sl_n (Or.inr (by omega)))]; exact r_QI; done) | (exfalso; omega; done) | (exfalso; contradiction; done)) (show qMG (m 94 58) (m 106) (m 115) (m 94 57) (m 94 56) (m 99) (m 100) (xWe aa ix ob) from by first | (unfold xWe; rw [qIf_n (Sl_n (Or.inl (by omega)))]; exact r_MG; done) | (unfold xWe; rw [qIf_n (Sl_n (Or.inr (by omega)))]; exact r_MG; done) | (exfalso; omega; done) | (exfalso; contradiction; done)) (show (xWe aa ix ob) 87 8 = (m 94 58) from by first | (unfold xWe; rw [qIf_n (Sl_n (Or.inl (by omega)))]; exact r_MK; done) | (unfold xWe; rw [qIf_n (Sl_n (Or.inr (by omega)))]; exact r_MK; done) | (exfalso; omega; done) | (exfalso; contradiction; done)) r_WTS
  · skip
    have g8 := i_nlt h5
    have li9 : (16 : Int32).toInt = 16 := rfl
    refine zd (fun (h10 : (16 : Int32) ≤ ix) => ?_) (fun (h10 : ¬ (16 : Int32) ≤ ix) => ?_)
    · skip
      have g11 := i_le h10
      have hV12 : zV (ma_u m 94 0 (1 : Int32)) := uf_94_0 hV
      exact K ((0 : Int32)) _ (zF_u zF_rfl rfl) hV12 r_W r_GW r_GU r_OW r_GG (show qRB (m 99) (m 100) (m 98) (m 101) (m 102) (m 103) (m 107) (m 108) (m 109) (m 111) (m 112) (m 113) (m 114) (m 94 55) (m 94 46) (m 94 11) (m 94 12) (m 94 62) (m 94 17) (m 94 9) (xWe aa ix ob) from by first | (unfold xWe; rw [qIf_n (Sl_n (Or.inl (by omega)))]; exact r_RB; done) | (unfold xWe; rw [qIf_n (Sl_n (Or.inr (by omega)))]; exact r_RB; done) | (exfalso; omega; done) | (exfalso; contradiction; done)) (show qI (xWe aa ix ob) from by first | (unfold xWe; rw [qIf_n (Sl_n (Or.inl (by omega)))]; exact r_QI; done) | (unfold xWe; rw [qIf_n (Sl_n (Or.inr (by omega)))]; exact r_QI; done) | (exfalso; omega; done) | (exfalso; contradiction; done)) (show qMG (m 94 58) (m 106) (m 115) (m 94 57) (m 94 56) (m 99) (m 100) (xWe aa ix ob) from by first | (unfold xWe; rw [qIf_n (Sl_n (Or.inl (by omega)))]; exact r_MG; done) | (unfold xWe; rw [qIf_n (Sl_n (Or.inr (by omega)))]; exact r_MG; done) | (exfalso; omega; done) | (exfalso; contradiction; done)) (show (xWe aa ix ob) 87 8 = (m 94 58) from by first | (unfold xWe; rw [qIf_n (Sl_n (Or.inl (by omega)))]; exact r_MK; done) | (unfold xWe; rw [qIf_n (Sl_n (Or.inr (by omega)))]; exact r_MK; done) | (exfalso; omega; done) | (exfalso; contradiction; done)) r_WTS
    · skip
      have g13 := i_nle h10
      refine zd (fun (h14 : (m 94 8) = (0 : Int32)) => ?_) (fun (h14 : ¬ (m 94 8) = (0 : Int32)) => ?_)
      · skip
        have g15 := i_eq h14
        exfalso; omega
      · skip
        have g16 := i_ne h14
        have b17 := i_bd ob
        have li18 : (-1 : Int32).toInt = -1 := rfl
        refine zd (fun (h19 : ob = (-1 : Int32)) => ?_) (fun (h19 : ¬ ob = (-1 : Int32)) => ?_)
        · skip
          have g20 := i_eq h19
          refine zd (fun (h21 : ob = (-1 : Int32)) => ?_) (fun (h21 : ¬ ob = (-1 : Int32)) => ?_)
          · skip
            have g22 := i_eq h21
            have hg23 : (0 ≤ ix ∧ ix.toNatClampNeg < 16) := i_ix (by omega) (by omega)
            refine ⟨hg23, ?_⟩
            first | have f24 : -1 ≤ (m 113 ix.toNatClampNeg).toInt ∧ (m 113 ix.toNatClampNeg).toInt ≤ 3099 := ra_113 (m := m) hV (k := ix.toNatClampNeg) (i_ix (n := 16) (by omega) (by omega)).2 | have b25 := i_bd (m 113 ix.toNatClampNeg)
            refine zd (fun (h26 : (0 : Int32) ≤ (m 113 ix.toNatClampNeg)) => ?_) (fun (h26 : ¬ (0 : Int32) ≤ (m 113 ix.toNatClampNeg)) => ?_)
            · skip
              have g27 := i_le h26
              have hg28 : (0 ≤ (m 113 ix.toNatClampNeg) ∧ (m 113 ix.toNatClampNeg).toNatClampNeg < 3100) := i_ix (by omega) (by omega)
              refine ⟨hg28, ?_⟩
              have hg29 : (0 ≤ ix ∧ ix.toNatClampNeg < 16) := i_ix (by omega) (by omega)
              refine ⟨hg29, ?_⟩
              have hV30 : zV (ma_u m 94 0 (0 : Int32)) := uf_94_0 hV
              have hV31 : zV (ma_u (ma_u m 94 0 (0 : Int32)) 94 0 (0 : Int32)) := uf_94_0 hV30
              have hV32 : zV (ma_u (ma_u (ma_u m 94 0 (0 : Int32)) 94 0 (0 : Int32)) 113 ix.toNatClampNeg (-1 : Int32)) := ua_113 hV31 (by omega) (by omega)
              first | have f33 : 0 ≤ (m 100 (m 113 ix.toNatClampNeg).toNatClampNeg).toInt ∧ (m 100 (m 113 ix.toNatClampNeg).toNatClampNeg).toInt ≤ 100000 := ra_100 (m := m) hV (k := (m 113 ix.toNatClampNeg).toNatClampNeg) (i_ix (n := 3100) (by omega) (by omega)).2 | have b34 := i_bd (m 100 (m 113 ix.toNatClampNeg).toNatClampNeg)
              exact K ((m 100 (m 113 ix.toNatClampNeg).toNatClampNeg)) _ (zF_u (zF_u (zF_u zF_rfl rfl) rfl) rfl) hV32 r_W r_GW r_GU r_OW r_GG (show qRB (m 99) (m 100) (m 98) (m 101) (m 102) (m 103) (m 107) (m 108) (m 109) (m 111) (m 112) ((ma_u m 113 ix.toNatClampNeg (-1 : Int32)) 113) (m 114) (m 94 55) (m 94 46) (m 94 11) (m 94 12) (m 94 62) (m 94 17) (m 94 9) (xWe aa ix ob) from by first | (rw [We_y r_RB.1 (by omega) (by omega) (As_n (us := (m 99)) (nr := (m 100)) (a := aa) (o := ob) (by assumption))]; exact RB_wk r_RB (As_u (As_n (us := (m 99)) (nr := (m 100)) (a := aa) (o := ob) (by assumption))); done) | (exfalso; omega; done) | (exfalso; contradiction; done)) (show qI (xWe aa ix ob) from by first | (rw [We_y r_RB.1 (by omega) (by omega) (As_n (us := (m 99)) (nr := (m 100)) (a := aa) (o := ob) (by assumption))]; exact I_u r_QI (Or.inr (Or.inl rfl)); done) | (exfalso; omega; done) | (exfalso; contradiction; done)) (show qMG (m 94 58) (m 106) (m 115) (m 94 57) (m 94 56) (m 99) (m 100) (xWe aa ix ob) from by first | (rw [We_y r_RB.1 (by omega) (by omega) (As_n (us := (m 99)) (nr := (m 100)) (a := aa) (o := ob) (by assumption))]; exact MG_u r_MG (Or.inl rfl); done) | (exfalso; omega; done) | (exfalso; contradiction; done)) (show (xWe aa ix ob) 87 8 = (m 94 58) from by first | (rw [We_y r_RB.1 (by omega) (by omega) (As_n (us := (m 99)) (nr := (m 100)) (a := aa) (o := ob) (by assumption))]; rw [un (by decide)]; exact r_MK; done) | (exfalso; omega; done) | (exfalso; contradiction; done)) r_WTS
            · skip
              have g35 := i_nle h26
              have hg36 : (0 ≤ ix ∧ ix.toNatClampNeg < 16) := i_ix (by omega) (by omega)
              refine ⟨hg36, ?_⟩
              have hV37 : zV (ma_u m 94 0 (0 : Int32)) := uf_94_0 hV
              have hV38 : zV (ma_u (ma_u m 94 0 (0 : Int32)) 94 0 (0 : Int32)) := uf_94_0 hV37
              have hV39 : zV (ma_u (ma_u (ma_u m 94 0 (0 : Int32)) 94 0 (0 : Int32)) 113 ix.toNatClampNeg (-1 : Int32)) := ua_113 hV38 (by omega) (by omega)
              exact K ((-1 : Int32)) _ (zF_u (zF_u (zF_u zF_rfl rfl) rfl) rfl) hV39 r_W r_GW r_GU r_OW r_GG (show qRB (m 99) (m 100) (m 98) (m 101) (m 102) (m 103) (m 107) (m 108) (m 109) (m 111) (m 112) ((ma_u m 113 ix.toNatClampNeg (-1 : Int32)) 113) (m 114) (m 94 55) (m 94 46) (m 94 11) (m 94 12) (m 94 62) (m 94 17) (m 94 9) (xWe aa ix ob) from by first | (rw [We_y r_RB.1 (by omega) (by omega) (As_n (us := (m 99)) (nr := (m 100)) (a := aa) (o := ob) (by assumption))]; exact RB_wk r_RB (As_u (As_n (us := (m 99)) (nr := (m 100)) (a := aa) (o := ob) (by assumption))); done) | (exfalso; omega; done) | (exfalso; contradiction; done)) (show qI (xWe aa ix ob) from by first | (rw [We_y r_RB.1 (by omega) (by omega) (As_n (us := (m 99)) (nr := (m 100)) (a := aa) (o := ob) (by assumption))]; exact I_u r_QI (Or.inr (Or.inl rfl)); done) | (exfalso; omega; done) | (exfalso; contradiction; done)) (show qMG (m 94 58) (m 106) (m 115) (m 94 57) (m 94 56) (m 99) (m 100) (xWe aa ix ob) from by first | (rw [We_y r_RB.1 (by omega) (by omega) (As_n (us := (m 99)) (nr := (m 100)) (a := aa) (o := ob) (by assumption))]; exact MG_u r_MG (Or.inl rfl); done) | (exfalso; omega; done) | (exfalso; contradiction; done)) (show (xWe aa ix ob) 87 8 = (m 94 58) from by first | (rw [We_y r_RB.1 (by omega) (by omega) (As_n (us := (m 99)) (nr := (m 100)) (a := aa) (o := ob) (by assumption))]; rw [un (by decide)]; exact r_MK; done) | (exfalso; omega; done) | (exfalso; contradiction; done)) r_WTS
          · skip
            have g40 := i_ne h21
            have hV41 : zV (ma_u m 94 0 (0 : Int32)) := uf_94_0 hV
            have hV42 : zV (ma_u (ma_u m 94 0 (0 : Int32)) 94 0 (3 : Int32)) := uf_94_0 hV41
            exact K ((0 : Int32)) _ (zF_u (zF_u zF_rfl rfl) rfl) hV42 r_W r_GW r_GU r_OW r_GG (show qRB (m 99) (m 100) (m 98) (m 101) (m 102) (m 103) (m 107) (m 108) (m 109) (m 111) (m 112) (m 113) (m 114) (m 94 55) (m 94 46) (m 94 11) (m 94 12) (m 94 62) (m 94 17) (m 94 9) (xWe aa ix ob) from by first | (unfold xWe; rw [qIf_n (Sl_n (Or.inl (by omega)))]; exact r_RB; done) | (unfold xWe; rw [qIf_n (Sl_n (Or.inr (by omega)))]; exact r_RB; done) | (exfalso; omega; done) | (exfalso; contradiction; done)) (show qI (xWe aa ix ob) from by first | (unfold xWe; rw [qIf_n (Sl_n (Or.inl (by omega)))]; exact r_QI; done) | (unfold xWe; rw [qIf_n (Sl_n (Or.inr (by omega)))]; exact r_QI; done) | (exfalso; omega; done) | (exfalso; contradiction; done)) (show qMG (m 94 58) (m 106) (m 115) (m 94 57) (m 94 56) (m 99) (m 100) (xWe aa ix ob) from by first | (unfold xWe; rw [qIf_n (Sl_n (Or.inl (by omega)))]; exact r_MG; done) | (unfold xWe; rw [qIf_n (Sl_n (Or.inr (by omega)))]; exact r_MG; done) | (exfalso; omega; done) | (exfalso; contradiction; done)) (show (xWe aa ix ob) 87 8 = (m 94 58) from by first | (unfold xWe; rw [qIf_n (Sl_n (Or.inl (by omega)))]; exact r_MK; done) | (unfold xWe; rw [qIf_n (Sl_n (Or.inr (by omega)))]; exact r_MK; done) | (exfalso; omega; done) | (exfalso; contradiction; done)) r_WTS
        · skip
          have g43 := i_ne h19
          have hV44 : zV (ma_u m 94 0 (0 : Int32)) := uf_94_0 hV
          refine sp_245r (aa := aa) (ob) hV44 r_W r_RB r_QI (fun v2 m1 hV_m1 p0_m1 p1_m1 p2_m1 => zmi_n ?_)
          have p0_m1 : -1 ≤ v2.toInt ∧ v2.toInt ≤ 3099 := p0_m1
          have p1_m1 : v2.toInt < 0 ∨ (m 99) v2.toNatClampNeg ≠ 0 := p1_m1
          have p2_m1 : qRe (m 99) (m 100) aa ob v2 := p2_m1
          refine zd (fun (h45 : ob = (-1 : Int32)) => ?_) (fun (h45 : ¬ ob = (-1 : Int32)) => ?_)
          · skip
            have g46 := i_eq h45
            have hg47 : (0 ≤ ix ∧ ix.toNatClampNeg < 16) := i_ix (by omega) (by omega)
            refine ⟨hg47, ?_⟩
            first | have f48 : -1 ≤ (m 113 ix.toNatClampNeg).toInt ∧ (m 113 ix.toNatClampNeg).toInt ≤ 3099 := ra_113 (m := m) hV (k := ix.toNatClampNeg) (i_ix (n := 16) (by omega) (by omega)).2 | have b49 := i_bd (m 113 ix.toNatClampNeg)
            refine zd (fun (h50 : (0 : Int32) ≤ (m 113 ix.toNatClampNeg)) => ?_) (fun (h50 : ¬ (0 : Int32) ≤ (m 113 ix.toNatClampNeg)) => ?_)
            · skip
              have g51 := i_le h50
              have hg52 : (0 ≤ (m 113 ix.toNatClampNeg) ∧ (m 113 ix.toNatClampNeg).toNatClampNeg < 3100) := i_ix (by omega) (by omega)
              refine ⟨hg52, ?_⟩
              have hg53 : (0 ≤ ix ∧ ix.toNatClampNeg < 16) := i_ix (by omega) (by omega)
              refine ⟨hg53, ?_⟩
              have hV54 : zV (ma_u (zov wr_245 (ma_u m 94 0 (0 : Int32)) m1) 94 0 (0 : Int32)) := uf_94_0 hV_m1
              have b56 := i_bd v2
              have hV55 : zV (ma_u (ma_u (zov wr_245 (ma_u m 94 0 (0 : Int32)) m1) 94 0 (0 : Int32)) 113 ix.toNatClampNeg v2) := ua_113 hV54 (by omega) (by omega)
              first | have f57 : 0 ≤ (m 100 (m 113 ix.toNatClampNeg).toNatClampNeg).toInt ∧ (m 100 (m 113 ix.toNatClampNeg).toNatClampNeg).toInt ≤ 100000 := ra_100 (m := m) hV (k := (m 113 ix.toNatClampNeg).toNatClampNeg) (i_ix (n := 3100) (by omega) (by omega)).2 | have b58 := i_bd (m 100 (m 113 ix.toNatClampNeg).toNatClampNeg)
              exact K ((m 100 (m 113 ix.toNatClampNeg).toNatClampNeg)) _ (zF_u (zF_u (zF_zov (zF_u zF_rfl rfl) ws_245_251) rfl) rfl) hV55 r_W r_GW r_GU r_OW r_GG (show qRB (m 99) (m 100) (m 98) (m 101) (m 102) (m 103) (m 107) (m 108) (m 109) (m 111) (m 112) ((ma_u m 113 ix.toNatClampNeg v2) 113) (m 114) (m 94 55) (m 94 46) (m 94 11) (m 94 12) (m 94 62) (m 94 17) (m 94 9) (xWe aa ix ob) from by first | (rw [We_y r_RB.1 (by omega) (by omega) (As_y p2_m1 (by omega))]; exact RB_wk r_RB (As_u (As_y p2_m1 (by omega))); done) | (exfalso; omega; done) | (exfalso; contradiction; done)) (show qI (xWe aa ix ob) from by first | (rw [We_y r_RB.1 (by omega) (by omega) (As_y p2_m1 (by omega))]; exact I_u r_QI (Or.inr (Or.inl rfl)); done) | (exfalso; omega; done) | (exfalso; contradiction; done)) (show qMG (m 94 58) (m 106) (m 115) (m 94 57) (m 94 56) (m 99) (m 100) (xWe aa ix ob) from by first | (rw [We_y r_RB.1 (by omega) (by omega) (As_y p2_m1 (by omega))]; exact MG_u r_MG (Or.inl rfl); done) | (exfalso; omega; done) | (exfalso; contradiction; done)) (show (xWe aa ix ob) 87 8 = (m 94 58) from by first | (rw [We_y r_RB.1 (by omega) (by omega) (As_y p2_m1 (by omega))]; rw [un (by decide)]; exact r_MK; done) | (exfalso; omega; done) | (exfalso; contradiction; done)) r_WTS
            · skip
              have g59 := i_nle h50
              have hg60 : (0 ≤ ix ∧ ix.toNatClampNeg < 16) := i_ix (by omega) (by omega)
              refine ⟨hg60, ?_⟩
              have hV61 : zV (ma_u (zov wr_245 (ma_u m 94 0 (0 : Int32)) m1) 94 0 (0 : Int32)) := uf_94_0 hV_m1
              have b63 := i_bd v2
              have hV62 : zV (ma_u (ma_u (zov wr_245 (ma_u m 94 0 (0 : Int32)) m1) 94 0 (0 : Int32)) 113 ix.toNatClampNeg v2) := ua_113 hV61 (by omega) (by omega)
              exact K ((-1 : Int32)) _ (zF_u (zF_u (zF_zov (zF_u zF_rfl rfl) ws_245_251) rfl) rfl) hV62 r_W r_GW r_GU r_OW r_GG (show qRB (m 99) (m 100) (m 98) (m 101) (m 102) (m 103) (m 107) (m 108) (m 109) (m 111) (m 112) ((ma_u m 113 ix.toNatClampNeg v2) 113) (m 114) (m 94 55) (m 94 46) (m 94 11) (m 94 12) (m 94 62) (m 94 17) (m 94 9) (xWe aa ix ob) from by first | (rw [We_y r_RB.1 (by omega) (by omega) (As_y p2_m1 (by omega))]; exact RB_wk r_RB (As_u (As_y p2_m1 (by omega))); done) | (exfalso; omega; done) | (exfalso; contradiction; done)) (show qI (xWe aa ix ob) from by first | (rw [We_y r_RB.1 (by omega) (by omega) (As_y p2_m1 (by omega))]; exact I_u r_QI (Or.inr (Or.inl rfl)); done) | (exfalso; omega; done) | (exfalso; contradiction; done)) (show qMG (m 94 58) (m 106) (m 115) (m 94 57) (m 94 56) (m 99) (m 100) (xWe aa ix ob) from by first | (rw [We_y r_RB.1 (by omega) (by omega) (As_y p2_m1 (by omega))]; exact MG_u r_MG (Or.inl rfl); done) | (exfalso; omega; done) | (exfalso; contradiction; done)) (show (xWe aa ix ob) 87 8 = (m 94 58) from by first | (rw [We_y r_RB.1 (by omega) (by omega) (As_y p2_m1 (by omega))]; rw [un (by decide)]; exact r_MK; done) | (exfalso; omega; done) | (exfalso; contradiction; done)) r_WTS
          · skip
            have g64 := i_ne h45
            have b65 := i_bd v2
            refine zd (fun (h66 : (0 : Int32) ≤ v2) => ?_) (fun (h66 : ¬ (0 : Int32) ≤ v2) => ?_)
            · skip
              have g67 := i_le h66
              have hg68 : (0 ≤ ix ∧ ix.toNatClampNeg < 16) := i_ix (by omega) (by omega)
              refine ⟨hg68, ?_⟩
              first | have f69 : -1 ≤ (m 113 ix.toNatClampNeg).toInt ∧ (m 113 ix.toNatClampNeg).toInt ≤ 3099 := ra_113 (m := m) hV (k := ix.toNatClampNeg) (i_ix (n := 16) (by omega) (by omega)).2 | have b70 := i_bd (m 113 ix.toNatClampNeg)
              refine zd (fun (h71 : (0 : Int32) ≤ (m 113 ix.toNatClampNeg)) => ?_) (fun (h71 : ¬ (0 : Int32) ≤ (m 113 ix.toNatClampNeg)) => ?_)
              · skip
                have g72 := i_le h71
                have hg73 : (0 ≤ (m 113 ix.toNatClampNeg) ∧ (m 113 ix.toNatClampNeg).toNatClampNeg < 3100) := i_ix (by omega) (by omega)
                refine ⟨hg73, ?_⟩
                have hg74 : (0 ≤ ix ∧ ix.toNatClampNeg < 16) := i_ix (by omega) (by omega)
                refine ⟨hg74, ?_⟩
                have hV75 : zV (ma_u (zov wr_245 (ma_u m 94 0 (0 : Int32)) m1) 94 0 (0 : Int32)) := uf_94_0 hV_m1
                have hV76 : zV (ma_u (ma_u (zov wr_245 (ma_u m 94 0 (0 : Int32)) m1) 94 0 (0 : Int32)) 113 ix.toNatClampNeg v2) := ua_113 hV75 (by omega) (by omega)
                first | have f77 : 0 ≤ (m 100 (m 113 ix.toNatClampNeg).toNatClampNeg).toInt ∧ (m 100 (m 113 ix.toNatClampNeg).toNatClampNeg).toInt ≤ 100000 := ra_100 (m := m) hV (k := (m 113 ix.toNatClampNeg).toNatClampNeg) (i_ix (n := 3100) (by omega) (by omega)).2 | have b78 := i_bd (m 100 (m 113 ix.toNatClampNeg).toNatClampNeg)
                exact K ((m 100 (m 113 ix.toNatClampNeg).toNatClampNeg)) _ (zF_u (zF_u (zF_zov (zF_u zF_rfl rfl) ws_245_251) rfl) rfl) hV76 r_W r_GW r_GU r_OW r_GG (show qRB (m 99) (m 100) (m 98) (m 101) (m 102) (m 103) (m 107) (m 108) (m 109) (m 111) (m 112) ((ma_u m 113 ix.toNatClampNeg v2) 113) (m 114) (m 94 55) (m 94 46) (m 94 11) (m 94 12) (m 94 62) (m 94 17) (m 94 9) (xWe aa ix ob) from by first | (rw [We_y r_RB.1 (by omega) (by omega) (As_y p2_m1 (by omega))]; exact RB_wk r_RB (As_u (As_y p2_m1 (by omega))); done) | (exfalso; omega; done) | (exfalso; contradiction; done)) (show qI (xWe aa ix ob) from by first | (rw [We_y r_RB.1 (by omega) (by omega) (As_y p2_m1 (by omega))]; exact I_u r_QI (Or.inr (Or.inl rfl)); done) | (exfalso; omega; done) | (exfalso; contradiction; done)) (show qMG (m 94 58) (m 106) (m 115) (m 94 57) (m 94 56) (m 99) (m 100) (xWe aa ix ob) from by first | (rw [We_y r_RB.1 (by omega) (by omega) (As_y p2_m1 (by omega))]; exact MG_u r_MG (Or.inl rfl); done) | (exfalso; omega; done) | (exfalso; contradiction; done)) (show (xWe aa ix ob) 87 8 = (m 94 58) from by first | (rw [We_y r_RB.1 (by omega) (by omega) (As_y p2_m1 (by omega))]; rw [un (by decide)]; exact r_MK; done) | (exfalso; omega; done) | (exfalso; contradiction; done)) r_WTS
              · skip
                have g79 := i_nle h71
                have hg80 : (0 ≤ ix ∧ ix.toNatClampNeg < 16) := i_ix (by omega) (by omega)
                refine ⟨hg80, ?_⟩
                have hV81 : zV (ma_u (zov wr_245 (ma_u m 94 0 (0 : Int32)) m1) 94 0 (0 : Int32)) := uf_94_0 hV_m1
                have hV82 : zV (ma_u (ma_u (zov wr_245 (ma_u m 94 0 (0 : Int32)) m1) 94 0 (0 : Int32)) 113 ix.toNatClampNeg v2) := ua_113 hV81 (by omega) (by omega)
                exact K ((-1 : Int32)) _ (zF_u (zF_u (zF_zov (zF_u zF_rfl rfl) ws_245_251) rfl) rfl) hV82 r_W r_GW r_GU r_OW r_GG (show qRB (m 99) (m 100) (m 98) (m 101) (m 102) (m 103) (m 107) (m 108) (m 109) (m 111) (m 112) ((ma_u m 113 ix.toNatClampNeg v2) 113) (m 114) (m 94 55) (m 94 46) (m 94 11) (m 94 12) (m 94 62) (m 94 17) (m 94 9) (xWe aa ix ob) from by first | (rw [We_y r_RB.1 (by omega) (by omega) (As_y p2_m1 (by omega))]; exact RB_wk r_RB (As_u (As_y p2_m1 (by omega))); done) | (exfalso; omega; done) | (exfalso; contradiction; done)) (show qI (xWe aa ix ob) from by first | (rw [We_y r_RB.1 (by omega) (by omega) (As_y p2_m1 (by omega))]; exact I_u r_QI (Or.inr (Or.inl rfl)); done) | (exfalso; omega; done) | (exfalso; contradiction; done)) (show qMG (m 94 58) (m 106) (m 115) (m 94 57) (m 94 56) (m 99) (m 100) (xWe aa ix ob) from by first | (rw [We_y r_RB.1 (by omega) (by omega) (As_y p2_m1 (by omega))]; exact MG_u r_MG (Or.inl rfl); done) | (exfalso; omega; done) | (exfalso; contradiction; done)) (show (xWe aa ix ob) 87 8 = (m 94 58) from by first | (rw [We_y r_RB.1 (by omega) (by omega) (As_y p2_m1 (by omega))]; rw [un (by decide)]; exact r_MK; done) | (exfalso; omega; done) | (exfalso; contradiction; done)) r_WTS
            · skip
              have g83 := i_nle h66
              have hV84 : zV (ma_u (zov wr_245 (ma_u m 94 0 (0 : Int32)) m1) 94 0 (3 : Int32)) := uf_94_0 hV_m1
              exact K ((0 : Int32)) _ (zF_u (zF_zov (zF_u zF_rfl rfl) ws_245_251) rfl) hV84 r_W r_GW r_GU r_OW r_GG (show qRB (m 99) (m 100) (m 98) (m 101) (m 102) (m 103) (m 107) (m 108) (m 109) (m 111) (m 112) (m 113) (m 114) (m 94 55) (m 94 46) (m 94 11) (m 94 12) (m 94 62) (m 94 17) (m 94 9) (xWe aa ix ob) from by first | (unfold xWe; rw [qIf_n (Sl_n (Or.inl (by omega)))]; exact r_RB; done) | (unfold xWe; rw [qIf_n (Sl_n (Or.inr (by omega)))]; exact r_RB; done) | (unfold xWe; rw [qIf_n (Sl_r (by assumption) (Re_n p2_m1 (by omega)))]; exact r_RB; done) | (exfalso; omega; done) | (exfalso; contradiction; done)) (show qI (xWe aa ix ob) from by first | (unfold xWe; rw [qIf_n (Sl_n (Or.inl (by omega)))]; exact r_QI; done) | (unfold xWe; rw [qIf_n (Sl_n (Or.inr (by omega)))]; exact r_QI; done) | (unfold xWe; rw [qIf_n (Sl_r (by assumption) (Re_n p2_m1 (by omega)))]; exact r_QI; done) | (exfalso; omega; done) | (exfalso; contradiction; done)) (show qMG (m 94 58) (m 106) (m 115) (m 94 57) (m 94 56) (m 99) (m 100) (xWe aa ix ob) from by first | (unfold xWe; rw [qIf_n (Sl_n (Or.inl (by omega)))]; exact r_MG; done) | (unfold xWe; rw [qIf_n (Sl_n (Or.inr (by omega)))]; exact r_MG; done) | (unfold xWe; rw [qIf_n (Sl_r (by assumption) (Re_n p2_m1 (by omega)))]; exact r_MG; done) | (exfalso; omega; done) | (exfalso; contradiction; done)) (show (xWe aa ix ob) 87 8 = (m 94 58) from by first | (unfold xWe; rw [qIf_n (Sl_n (Or.inl (by omega)))]; exact r_MK; done) | (unfold xWe; rw [qIf_n (Sl_n (Or.inr (by omega)))]; exact r_MK; done) | (unfold xWe; rw [qIf_n (Sl_r (by assumption) (Re_n p2_m1 (by omega)))]; exact r_MK; done) | (exfalso; omega; done) | (exfalso; contradiction; done)) r_WTS
theorem sp_254r {X : Nat × (Nat → Int32)} {P : Option ma_V → (Nat → Nat → Int32) → Prop} {T : Nat} {aa : Nat→Nat→Int32} {m : Nat → Nat → Int32} (ob : Int32) (hV : zV m) (hpre0 : T + 1 ≤ 3000) (hpre1 : T ≤ 512) (r_W : zW (m 94 7) (m 98) (m 101) (m 102) (m 108)) (r_GW : zGW T (m 94 55) (m 109)) (r_GU : zGU T (m 94 46) (m 99)) (r_OW : zOw (m 99) (m 103) (m 111)) (r_GG : zGG (m 94 58) (m 94 56) (m 94 57) (m 106)) (hpre7 : (m 94 10).toInt = 5) (hpre8 : (m 94 8).toInt = 1) (r_RB : qRB (m 99) (m 100) (m 98) (m 101) (m 102) (m 103) (m 107) (m 108) (m 109) (m 111) (m 112) (m 113) (m 114) (m 94 55) (m 94 46) (m 94 11) (m 94 12) (m 94 62) (m 94 17) (m 94 9) aa) (r_QI : qI aa) (r_MG : qMG (m 94 58) (m 106) (m 115) (m 94 57) (m 94 56) (m 99) (m 100) aa) (r_MK : aa 87 8 = (m 94 58)) (r_WTS : (m 94 45).toInt = sm (zbU (m 99)) (m 102) 3100) (KZ : ∀ v m₉, zV (zov wr_254 m m₉) → (zW (m 94 7) (m 98) (m 101) (m 102) (m 108)) → (zGW (T + 1) (m 94 55) (m₉ 109)) → (zGU T (m 94 46) (m 99)) → (zOw (m 99) (m 103) (m 111)) → (zGG (m 94 58) (m 94 56) (m 94 57) (m 106)) → (qRB (m 99) (m 100) (m 98) (m 101) (m 102) (m 103) (m 107) (m 108) (m₉ 109) (m 111) (m 112) (m 113) (m 114) (m 94 55) (m 94 46) (m 94 11) (m 94 12) (m 94 62) (m 94 17) (m 94 9) (xWi aa ob)) → (qI (xWi aa ob)) → (qMG (m 94 58) (m 106) (m 115) (m 94 57) (m 94 56) (m 99) (m 100) (xWi aa ob)) → ((xWi aa ob) 87 8 = (m 94 58)) → ((m 94 45).toInt = sm (zbU (m 99)) (m 102) 3100) → P (some (.inl v)) (zov wr_254 m m₉)) : zm X 5 109 254 0 [(0, .inr (.inr (some 94))), (1, .inl ob)] m P := by
  have K : ∀ v m₉, zF wr_254 m m₉ → zV m₉ → (zW (m₉ 94 7) (m₉ 98) (m₉ 101) (m₉ 102) (m₉ 108)) → (zGW (T + 1) (m₉ 94 55) (m₉ 109)) → (zGU T (m₉ 94 46) (m₉ 99)) → (zOw (m₉ 99) (m₉ 103) (m₉ 111)) → (zGG (m₉ 94 58) (m₉ 94 56) (m₉ 94 57) (m₉ 106)) → (qRB (m₉ 99) (m₉ 100) (m₉ 98) (m₉ 101) (m₉ 102) (m₉ 103) (m₉ 107) (m₉ 108) (m₉ 109) (m₉ 111) (m₉ 112) (m₉ 113) (m₉ 114) (m₉ 94 55) (m₉ 94 46) (m₉ 94 11) (m₉ 94 12) (m₉ 94 62) (m₉ 94 17) (m₉ 94 9) (xWi aa ob)) → (qI (xWi aa ob)) → (qMG (m₉ 94 58) (m₉ 106) (m₉ 115) (m₉ 94 57) (m₉ 94 56) (m₉ 99) (m₉ 100) (xWi aa ob)) → ((xWi aa ob) 87 8 = (m₉ 94 58)) → ((m₉ 94 45).toInt = sm (zbU (m₉ 99)) (m₉ 102) 3100) → P (some (.inl v)) m₉ := by
    intro v m₉ hf z q0 q1 q2 q3 q4 q5 q6 q7 q8 q9
    have e := zov_eq hf
    rw [e] at z ⊢
    try rw [e] at q0
    try rw [e] at q1
    try rw [e] at q2
    try rw [e] at q3
    try rw [e] at q4
    try rw [e] at q5
    try rw [e] at q6
    try rw [e] at q7
    try rw [e] at q8
    try rw [e] at q9
    exact KZ v m₉ z q0 q1 q2 q3 q4 q5 q6 q7 q8 q9
  refine g_254_0 ob ?_
  have f1 : 0 ≤ (m 94 10).toInt ∧ (m 94 10).toInt ≤ 6 := rs_94_10 (m := m) hV
  have f2 : 0 ≤ (m 94 8).toInt ∧ (m 94 8).toInt ≤ 1 := rs_94_8 (m := m) hV
  have li3 : (0 : Int32).toInt = 0 := rfl
  refine zd (fun (h4 : (m 94 8) = (0 : Int32)) => ?_) (fun (h4 : ¬ (m 94 8) = (0 : Int32)) => ?_)
  · skip
    have g5 := i_eq h4
    exfalso; omega
  · skip
    have g6 := i_ne h4
    have b7 := i_bd ob
    have hV8 : zV (ma_u m 94 0 (0 : Int32)) := uf_94_0 hV
    refine sp_245r (aa := aa) (ob) hV8 r_W r_RB r_QI (fun v2 m1 hV_m1 p0_m1 p1_m1 p2_m1 => zmi_n ?_)
    have p0_m1 : -1 ≤ v2.toInt ∧ v2.toInt ≤ 3099 := p0_m1
    have p1_m1 : v2.toInt < 0 ∨ (m 99) v2.toNatClampNeg ≠ 0 := p1_m1
    have p2_m1 : qRe (m 99) (m 100) aa ob v2 := p2_m1
    have b9 := i_bd v2
    refine zd (fun (h10 : (0 : Int32) ≤ v2) => ?_) (fun (h10 : ¬ (0 : Int32) ≤ v2) => ?_)
    · skip
      have g11 := i_le h10
      have hg12 : (0 ≤ v2 ∧ v2.toNatClampNeg < 3100) := i_ix (by omega) (by omega)
      refine ⟨hg12, ?_⟩
      first | have f13 : 0 ≤ (m 109 v2.toNatClampNeg).toInt ∧ (m 109 v2.toNatClampNeg).toInt ≤ 1 := ra_109 (m := m) hV (k := v2.toNatClampNeg) (i_ix (n := 3100) (by omega) (by omega)).2 | have b14 := i_bd (m 109 v2.toNatClampNeg)
      refine zd (fun (h15 : (m 109 v2.toNatClampNeg) = (0 : Int32)) => ?_) (fun (h15 : ¬ (m 109 v2.toNatClampNeg) = (0 : Int32)) => ?_)
      · skip
        have g16 := i_eq h15
        have hg17 : (0 ≤ v2 ∧ v2.toNatClampNeg < 3100) := i_ix (by omega) (by omega)
        refine ⟨hg17, ?_⟩
        have hV18 : zV (ma_u (zov wr_245 (ma_u m 94 0 (0 : Int32)) m1) 94 0 (0 : Int32)) := uf_94_0 hV_m1
        have li20 : (1 : Int32).toInt = 1 := rfl
        have hV19 : zV (ma_u (ma_u (zov wr_245 (ma_u m 94 0 (0 : Int32)) m1) 94 0 (0 : Int32)) 109 v2.toNatClampNeg (1 : Int32)) := ua_109 hV18 (by omega) (by omega)
        exact K ((1 : Int32)) _ (zF_u (zF_u (zF_zov (zF_u zF_rfl rfl) ws_245_254) rfl) rfl) hV19 r_W (show zGW (T + 1) (m 94 55) ((ma_u m 109 v2.toNatClampNeg (1 : Int32)) 109) from by first | (exact GW_more r_GW (by omega)) | (exfalso; omega; done) | (exfalso; contradiction; done)) r_GU r_OW r_GG (show qRB (m 99) (m 100) (m 98) (m 101) (m 102) (m 103) (m 107) (m 108) ((ma_u m 109 v2.toNatClampNeg (1 : Int32)) 109) (m 111) (m 112) (m 113) (m 114) (m 94 55) (m 94 46) (m 94 11) (m 94 12) (m 94 62) (m 94 17) (m 94 9) (xWi aa ob) from by first | (rw [Wi_y p2_m1 (by omega)]; exact RB_wi r_RB (by omega) (Re_y p2_m1 (by omega)).2.1; done) | (exfalso; omega; done) | (exfalso; contradiction; done)) (show qI (xWi aa ob) from by first | (rw [Wi_y p2_m1 (by omega)]; exact I_u r_QI (Or.inr (Or.inr (Or.inr rfl))); done) | (exfalso; omega; done) | (exfalso; contradiction; done)) (show qMG (m 94 58) (m 106) (m 115) (m 94 57) (m 94 56) (m 99) (m 100) (xWi aa ob) from by first | (rw [Wi_y p2_m1 (by omega)]; exact MG_u r_MG (Or.inr rfl); done) | (exfalso; omega; done) | (exfalso; contradiction; done)) (show (xWi aa ob) 87 8 = (m 94 58) from by first | (rw [Wi_y p2_m1 (by omega)]; rw [un (by decide)]; exact r_MK; done) | (exfalso; omega; done) | (exfalso; contradiction; done)) r_WTS
      · skip
        have g21 := i_ne h15
        have hg22 : (0 ≤ v2 ∧ v2.toNatClampNeg < 3100) := i_ix (by omega) (by omega)
        refine ⟨hg22, ?_⟩
        have hV23 : zV (ma_u (zov wr_245 (ma_u m 94 0 (0 : Int32)) m1) 94 0 (0 : Int32)) := uf_94_0 hV_m1
        have li25 : (1 : Int32).toInt = 1 := rfl
        have hV24 : zV (ma_u (ma_u (zov wr_245 (ma_u m 94 0 (0 : Int32)) m1) 94 0 (0 : Int32)) 109 v2.toNatClampNeg (1 : Int32)) := ua_109 hV23 (by omega) (by omega)
        exact K ((0 : Int32)) _ (zF_u (zF_u (zF_zov (zF_u zF_rfl rfl) ws_245_254) rfl) rfl) hV24 r_W (show zGW (T + 1) (m 94 55) ((ma_u m 109 v2.toNatClampNeg (1 : Int32)) 109) from by first | (exact GW_more r_GW (by omega)) | (exfalso; omega; done) | (exfalso; contradiction; done)) r_GU r_OW r_GG (show qRB (m 99) (m 100) (m 98) (m 101) (m 102) (m 103) (m 107) (m 108) ((ma_u m 109 v2.toNatClampNeg (1 : Int32)) 109) (m 111) (m 112) (m 113) (m 114) (m 94 55) (m 94 46) (m 94 11) (m 94 12) (m 94 62) (m 94 17) (m 94 9) (xWi aa ob) from by first | (rw [Wi_y p2_m1 (by omega)]; exact RB_wi r_RB (by omega) (Re_y p2_m1 (by omega)).2.1; done) | (exfalso; omega; done) | (exfalso; contradiction; done)) (show qI (xWi aa ob) from by first | (rw [Wi_y p2_m1 (by omega)]; exact I_u r_QI (Or.inr (Or.inr (Or.inr rfl))); done) | (exfalso; omega; done) | (exfalso; contradiction; done)) (show qMG (m 94 58) (m 106) (m 115) (m 94 57) (m 94 56) (m 99) (m 100) (xWi aa ob) from by first | (rw [Wi_y p2_m1 (by omega)]; exact MG_u r_MG (Or.inr rfl); done) | (exfalso; omega; done) | (exfalso; contradiction; done)) (show (xWi aa ob) 87 8 = (m 94 58) from by first | (rw [Wi_y p2_m1 (by omega)]; rw [un (by decide)]; exact r_MK; done) | (exfalso; omega; done) | (exfalso; contradiction; done)) r_WTS
    · skip
      have g26 := i_nle h10
      have hV27 : zV (ma_u (zov wr_245 (ma_u m 94 0 (0 : Int32)) m1) 94 0 (2 : Int32)) := uf_94_0 hV_m1
      exact K ((0 : Int32)) _ (zF_u (zF_zov (zF_u zF_rfl rfl) ws_245_254) rfl) hV27 r_W (show zGW (T + 1) (m 94 55) (m 109) from by first | (exact GW_up r_GW (by omega)) | (exfalso; omega; done) | (exfalso; contradiction; done)) r_GU r_OW r_GG (show qRB (m 99) (m 100) (m 98) (m 101) (m 102) (m 103) (m 107) (m 108) (m 109) (m 111) (m 112) (m 113) (m 114) (m 94 55) (m 94 46) (m 94 11) (m 94 12) (m 94 62) (m 94 17) (m 94 9) (xWi aa ob) from by first | (unfold xWi; rw [qIf_n (Re_n p2_m1 (by omega))]; exact r_RB; done) | (exfalso; omega; done) | (exfalso; contradiction; done)) (show qI (xWi aa ob) from by first | (unfold xWi; rw [qIf_n (Re_n p2_m1 (by omega))]; exact r_QI; done) | (exfalso; omega; done) | (exfalso; contradiction; done)) (show qMG (m 94 58) (m 106) (m 115) (m 94 57) (m 94 56) (m 99) (m 100) (xWi aa ob) from by first | (unfold xWi; rw [qIf_n (Re_n p2_m1 (by omega))]; exact r_MG; done) | (exfalso; omega; done) | (exfalso; contradiction; done)) (show (xWi aa ob) 87 8 = (m 94 58) from by first | (unfold xWi; rw [qIf_n (Re_n p2_m1 (by omega))]; exact r_MK; done) | (exfalso; omega; done) | (exfalso; contradiction; done)) r_WTS

/-! from 95.h27 -/
/-! the reference by numbers (written by wip/tools/gen18r.py) -/
theorem sp_253r {X : Nat × (Nat → Int32)} {P : Option ma_V → (Nat → Nat → Int32) → Prop} {T : Nat} {aa : Nat→Nat→Int32} {m : Nat → Nat → Int32} (ob : Int32) (on : Int32) (hV : zV m) (hpre0 : 0 ≤ on.toInt) (hpre1 : on.toInt ≤ 1) (hpre2 : T ≤ 512) (r_W : zW (m 94 7) (m 98) (m 101) (m 102) (m 108)) (r_GW : zGW T (m 94 55) (m 109)) (r_GU : zGU T (m 94 46) (m 99)) (r_OW : zOw (m 99) (m 103) (m 111)) (r_GG : zGG (m 94 58) (m 94 56) (m 94 57) (m 106)) (hpre8 : (m 94 10).toInt = 5) (hpre9 : (m 94 8).toInt = 1) (r_RB : qRB (m 99) (m 100) (m 98) (m 101) (m 102) (m 103) (m 107) (m 108) (m 109) (m 111) (m 112) (m 113) (m 114) (m 94 55) (m 94 46) (m 94 11) (m 94 12) (m 94 62) (m 94 17) (m 94 9) aa) (r_QI : qI aa) (r_MG : qMG (m 94 58) (m 106) (m 115) (m 94 57) (m 94 56) (m 99) (m 100) aa) (r_MK : aa 87 8 = (m 94 58)) (r_WTS : (m 94 45).toInt = sm (zbU (m 99)) (m 102) 3100) (KZ : ∀ v m₉, zV (zov wr_253 m m₉) → (zW (m 94 7) (m 98) (m 101) (m 102) (m 108)) → (zGW T (m₉ 94 55) (m₉ 109)) → (zGU T (m 94 46) (m₉ 99)) → (zOw (m₉ 99) (m 103) (m₉ 111)) → (zGG (m 94 58) (m 94 56) (m 94 57) (m 106)) → (qRB (m₉ 99) (m 100) (m 98) (m 101) (m 102) (m 103) (m₉ 107) (m 108) (m₉ 109) (m₉ 111) (m 112) (m₉ 113) (m₉ 114) (m₉ 94 55) (m 94 46) (m 94 11) (m 94 12) (m 94 62) (m 94 17) (m 94 9) (xHo aa ob on)) → (qI (xHo aa ob on)) → (qMG (m 94 58) (m 106) (m 115) (m 94 57) (m 94 56) (m₉ 99) (m 100) (xHo aa ob on)) → ((xHo aa ob on) 87 8 = (m 94 58)) → ((m₉ 94 45).toInt = sm (zbU (m₉ 99)) (m 102) 3100) → P (some (.inl v)) (zov wr_253 m m₉)) : zm X 5 109 253 0 [(0, .inr (.inr (some 94))), (1, .inl ob), (2, .inl on)] m P := by
  have K : ∀ v m₉, zF wr_253 m m₉ → zV m₉ → (zW (m₉ 94 7) (m₉ 98) (m₉ 101) (m₉ 102) (m₉ 108)) → (zGW T (m₉ 94 55) (m₉ 109)) → (zGU T (m₉ 94 46) (m₉ 99)) → (zOw (m₉ 99) (m₉ 103) (m₉ 111)) → (zGG (m₉ 94 58) (m₉ 94 56) (m₉ 94 57) (m₉ 106)) → (qRB (m₉ 99) (m₉ 100) (m₉ 98) (m₉ 101) (m₉ 102) (m₉ 103) (m₉ 107) (m₉ 108) (m₉ 109) (m₉ 111) (m₉ 112) (m₉ 113) (m₉ 114) (m₉ 94 55) (m₉ 94 46) (m₉ 94 11) (m₉ 94 12) (m₉ 94 62) (m₉ 94 17) (m₉ 94 9) (xHo aa ob on)) → (qI (xHo aa ob on)) → (qMG (m₉ 94 58) (m₉ 106) (m₉ 115) (m₉ 94 57) (m₉ 94 56) (m₉ 99) (m₉ 100) (xHo aa ob on)) → ((xHo aa ob on) 87 8 = (m₉ 94 58)) → ((m₉ 94 45).toInt = sm (zbU (m₉ 99)) (m₉ 102) 3100) → P (some (.inl v)) m₉ := by
    intro v m₉ hf z q0 q1 q2 q3 q4 q5 q6 q7 q8 q9
    have e := zov_eq hf
    rw [e] at z ⊢
    try rw [e] at q0
    try rw [e] at q1
    try rw [e] at q2
    try rw [e] at q3
    try rw [e] at q4
    try rw [e] at q5
    try rw [e] at q6
    try rw [e] at q7
    try rw [e] at q8
    try rw [e] at q9
    exact KZ v m₉ z q0 q1 q2 q3 q4 q5 q6 q7 q8 q9
  refine g_253_0 ob on ?_
  have f1 : 0 ≤ (m 94 10).toInt ∧ (m 94 10).toInt ≤ 6 := rs_94_10 (m := m) hV
  have f2 : 0 ≤ (m 94 8).toInt ∧ (m 94 8).toInt ≤ 1 := rs_94_8 (m := m) hV
  have li3 : (0 : Int32).toInt = 0 := rfl
  refine zd (fun (h4 : (m 94 8) = (0 : Int32)) => ?_) (fun (h4 : ¬ (m 94 8) = (0 : Int32)) => ?_)
  · skip
    have g5 := i_eq h4
    exfalso; omega
  · skip
    have g6 := i_ne h4
    have b7 := i_bd ob
    have hV8 : zV (ma_u m 94 0 (0 : Int32)) := uf_94_0 hV
    refine sp_245r (aa := aa) (ob) hV8 r_W r_RB r_QI (fun v2 m1 hV_m1 p0_m1 p1_m1 p2_m1 => zmi_n ?_)
    have p0_m1 : -1 ≤ v2.toInt ∧ v2.toInt ≤ 3099 := p0_m1
    have p1_m1 : v2.toInt < 0 ∨ (m 99) v2.toNatClampNeg ≠ 0 := p1_m1
    have p2_m1 : qRe (m 99) (m 100) aa ob v2 := p2_m1
    have b9 := i_bd v2
    refine zd (fun (h10 : (0 : Int32) ≤ v2) => ?_) (fun (h10 : ¬ (0 : Int32) ≤ v2) => ?_)
    · skip
      have g11 := i_le h10
      have li12 : (2 : Int32).toInt = 2 := rfl
      refine zd (fun (h13 : (m 94 10) = (2 : Int32)) => ?_) (fun (h13 : ¬ (m 94 10) = (2 : Int32)) => ?_)
      · skip
        have g14 := i_eq h13
        exfalso; omega
      · skip
        have g15 := i_ne h13
        have li16 : (3 : Int32).toInt = 3 := rfl
        refine zd (fun (h17 : (m 94 10) = (3 : Int32)) => ?_) (fun (h17 : ¬ (m 94 10) = (3 : Int32)) => ?_)
        · skip
          have g18 := i_eq h17
          exfalso; omega
        · skip
          have g19 := i_ne h17
          have b20 := i_bd on
          refine zd (fun (h21 : on = (0 : Int32)) => ?_) (fun (h21 : ¬ on = (0 : Int32)) => ?_)
          · skip
            have g22 := i_eq h21
            have hg23 : (0 ≤ v2 ∧ v2.toNatClampNeg < 3100) := i_ix (by omega) (by omega)
            refine ⟨hg23, ?_⟩
            have b24 := i_bd (m 107 v2.toNatClampNeg)
            refine zd (fun (h25 : (m 107 v2.toNatClampNeg) = (0 : Int32)) => ?_) (fun (h25 : ¬ (m 107 v2.toNatClampNeg) = (0 : Int32)) => ?_)
            · skip
              have g26 := i_eq h25
              have hV27 : zV (ma_u (zov wr_245 (ma_u m 94 0 (0 : Int32)) m1) 94 0 (3 : Int32)) := uf_94_0 hV_m1
              exact K ((0 : Int32)) _ (zF_u (zF_zov (zF_u zF_rfl rfl) ws_245_253) rfl) hV27 r_W r_GW r_GU r_OW r_GG (show qRB (m 99) (m 100) (m 98) (m 101) (m 102) (m 103) (m 107) (m 108) (m 109) (m 111) (m 112) (m 113) (m 114) (m 94 55) (m 94 46) (m 94 11) (m 94 12) (m 94 62) (m 94 17) (m 94 9) (xHo aa ob on) from by first | (unfold xHo; rw [qIf_n (fun w => Re_n p2_m1 (by omega) w.1)]; exact r_RB; done) | (rw [Ho_x r_RB p2_m1 (by omega) (i_zer (by omega)) (i_zer (by omega))]; exact r_RB; done) | (exfalso; omega; done) | (exfalso; contradiction; done)) (show qI (xHo aa ob on) from by first | (unfold xHo; rw [qIf_n (fun w => Re_n p2_m1 (by omega) w.1)]; exact r_QI; done) | (rw [Ho_x r_RB p2_m1 (by omega) (i_zer (by omega)) (i_zer (by omega))]; exact r_QI; done) | (exfalso; omega; done) | (exfalso; contradiction; done)) (show qMG (m 94 58) (m 106) (m 115) (m 94 57) (m 94 56) (m 99) (m 100) (xHo aa ob on) from by first | (unfold xHo; rw [qIf_n (fun w => Re_n p2_m1 (by omega) w.1)]; exact r_MG; done) | (rw [Ho_x r_RB p2_m1 (by omega) (i_zer (by omega)) (i_zer (by omega))]; exact r_MG; done) | (exfalso; omega; done) | (exfalso; contradiction; done)) (show (xHo aa ob on) 87 8 = (m 94 58) from by first | (unfold xHo; rw [qIf_n (fun w => Re_n p2_m1 (by omega) w.1)]; exact r_MK; done) | (rw [Ho_x r_RB p2_m1 (by omega) (i_zer (by omega)) (i_zer (by omega))]; exact r_MK; done) | (exfalso; omega; done) | (exfalso; contradiction; done)) r_WTS
            · skip
              have g28 := i_ne h25
              have hg29 : (0 ≤ v2 ∧ v2.toNatClampNeg < 3100) := i_ix (by omega) (by omega)
              refine ⟨hg29, ?_⟩
              refine zd (fun (h30 : on = (0 : Int32)) => ?_) (fun (h30 : ¬ on = (0 : Int32)) => ?_)
              · skip
                have g31 := i_eq h30
                have hg32 : (0 ≤ v2 ∧ v2.toNatClampNeg < 3100) := i_ix (by omega) (by omega)
                refine ⟨hg32, ?_⟩
                refine zd (fun (h33 : on = (0 : Int32)) => ?_) (fun (h33 : ¬ on = (0 : Int32)) => ?_)
                · skip
                  have g34 := i_eq h33
                  have hV35 : zV (ma_u (zov wr_245 (ma_u m 94 0 (0 : Int32)) m1) 94 0 (0 : Int32)) := uf_94_0 hV_m1
                  have hV36 : zV (ma_u (ma_u (zov wr_245 (ma_u m 94 0 (0 : Int32)) m1) 94 0 (0 : Int32)) 107 v2.toNatClampNeg ((m 107 v2.toNatClampNeg) + (-1 : Int32))) := ua_107 hV35
                  refine sp_241r (v2) hV36 (show (m 94 10).toInt = 5 from by omega) (fun m7 hV_m7 p0_m7 => zmv_n ?_)
                  have p0_m7 : (m7 99) = (m 99) ∧ (m7 105) = (m 105) ∧ (m7 109) = (m 109) ∧ (m7 111) = (m 111) ∧ (m7 113) = (m 113) ∧ (m7 114) = (m 114) ∧ (m7 94 55) = (m 94 55) ∧ (m7 94 45) = (m 94 45) := p0_m7
                  try have rgb := rs_94_64 hV
                  try have lel := LE_lo p0_m7
                  try have lex3 := LE_ex p0_m7 (lexi (by omega))
                  try have lexi := LE_some p0_m7
                  first | have e37 : ((m 107 v2.toNatClampNeg) + (-1 : Int32)).toInt = (m 107 v2.toNatClampNeg).toInt + (-1) := i_addk rfl (by omega) (by omega) | have b38 := i_bd ((m 107 v2.toNatClampNeg) + (-1 : Int32))
                  exact K (((m 107 v2.toNatClampNeg) + (-1 : Int32))) _ (zF_zov (zF_u (zF_u (zF_zov (zF_u zF_rfl rfl) ws_245_253) rfl) rfl) ws_241_253) hV_m7 r_W (show zGW T (m7 94 55) (m7 109) from by first | (rw [p0_m7.2.2.1, p0_m7.2.2.2.2.2.2.1]; exact r_GW; done) | (exfalso; omega; done) | (exfalso; contradiction; done)) (show zGU T (m 94 46) (m7 99) from by first | (rw [p0_m7.1]; exact r_GU; done) | (exact GU_0 r_GU) | (exfalso; omega; done) | (exfalso; contradiction; done)) (show zOw (m7 99) (m 103) (m7 111) from by first | (rw [p0_m7.1, p0_m7.2.2.2.1]; exact r_OW; done) | (exact Ow_rm r_OW (by decide) (tn_cast (by omega)).symm) | (exfalso; omega; done) | (exfalso; contradiction; done)) r_GG (show qRB (m7 99) (m 100) (m 98) (m 101) (m 102) (m 103) ((ma_u m 107 v2.toNatClampNeg ((m 107 v2.toNatClampNeg) + (-1 : Int32))) 107) (m 108) (m7 109) (m7 111) (m 112) (m7 113) (m7 114) (m7 94 55) (m 94 46) (m 94 11) (m 94 12) (m 94 62) (m 94 17) (m 94 9) (xHo aa ob on) from by first | (exfalso; omega; done) | (rw [Ho_y r_RB p2_m1 (by omega) (Or.inl (i_nz2 (by omega))) (by rw [if_neg (i_nz2 (by omega))])]; rw [p0_m7.1, p0_m7.2.2.1, p0_m7.2.2.2.1, p0_m7.2.2.2.2.1, p0_m7.2.2.2.2.2.1, p0_m7.2.2.2.2.2.2.1]; exact RB_ho r_RB (by omega) (Re_y p2_m1 (by omega)).2.1; done) | (rw [Ho_y r_RB p2_m1 (by omega) (Or.inr (i_nz2 (by omega))) (by rw [if_pos (i_zer (by omega))])]; rw [p0_m7.1, p0_m7.2.2.1, p0_m7.2.2.2.1, p0_m7.2.2.2.2.1, p0_m7.2.2.2.2.2.1, p0_m7.2.2.2.2.2.2.1]; exact RB_ho r_RB (by omega) (Re_y p2_m1 (by omega)).2.1; done) | (exfalso; omega; done) | (exfalso; contradiction; done)) (show qI (xHo aa ob on) from by first | (exfalso; omega; done) | (rw [Ho_y r_RB p2_m1 (by omega) (Or.inl (i_nz2 (by omega))) (by rw [if_neg (i_nz2 (by omega))])]; exact I_u r_QI (Or.inr (Or.inr (Or.inl rfl))); done) | (rw [Ho_y r_RB p2_m1 (by omega) (Or.inr (i_nz2 (by omega))) (by rw [if_pos (i_zer (by omega))])]; exact I_u r_QI (Or.inr (Or.inr (Or.inl rfl))); done) | (exfalso; omega; done) | (exfalso; contradiction; done)) (show qMG (m 94 58) (m 106) (m 115) (m 94 57) (m 94 56) (m7 99) (m 100) (xHo aa ob on) from by first | (exfalso; omega; done) | (rw [Ho_y r_RB p2_m1 (by omega) (Or.inl (i_nz2 (by omega))) (by rw [if_neg (i_nz2 (by omega))])]; rw [p0_m7.1]; rw [(Re_y p2_m1 (by omega)).2.2.1]; exact MG_ho r_MG r_QI (Re_y p2_m1 (by omega)).2.2.2; done) | (rw [Ho_y r_RB p2_m1 (by omega) (Or.inr (i_nz2 (by omega))) (by rw [if_pos (i_zer (by omega))])]; rw [p0_m7.1]; rw [(Re_y p2_m1 (by omega)).2.2.1]; exact MG_ho r_MG r_QI (Re_y p2_m1 (by omega)).2.2.2; done) | (exfalso; omega; done) | (exfalso; contradiction; done)) (show (xHo aa ob on) 87 8 = (m 94 58) from by first | (exfalso; omega; done) | (rw [Ho_y r_RB p2_m1 (by omega) (Or.inl (i_nz2 (by omega))) (by rw [if_neg (i_nz2 (by omega))])]; rw [un (by decide)]; exact r_MK; done) | (rw [Ho_y r_RB p2_m1 (by omega) (Or.inr (i_nz2 (by omega))) (by rw [if_pos (i_zer (by omega))])]; rw [un (by decide)]; exact r_MK; done) | (exfalso; omega; done) | (exfalso; contradiction; done)) (show (m7 94 45).toInt = sm (zbU (m7 99)) (m 102) 3100 from by first | (rw [p0_m7.1, p0_m7.2.2.2.2.2.2.2]; exact r_WTS; done) | (exfalso; omega; done) | (exfalso; contradiction; done))
                · skip
                  have g39 := i_ne h33
                  refine zd (fun (h40 : v2 < (0 : Int32)) => ?_) (fun (h40 : ¬ v2 < (0 : Int32)) => ?_)
                  · skip
                    have g41 := i_lt h40
                    have hV42 : zV (ma_u (zov wr_245 (ma_u m 94 0 (0 : Int32)) m1) 94 0 (0 : Int32)) := uf_94_0 hV_m1
                    have hV43 : zV (ma_u (ma_u (zov wr_245 (ma_u m 94 0 (0 : Int32)) m1) 94 0 (0 : Int32)) 107 v2.toNatClampNeg ((m 107 v2.toNatClampNeg) + (-1 : Int32))) := ua_107 hV42
                    first | have e44 : ((m 107 v2.toNatClampNeg) + (-1 : Int32)).toInt = (m 107 v2.toNatClampNeg).toInt + (-1) := i_addk rfl (by omega) (by omega) | have b45 := i_bd ((m 107 v2.toNatClampNeg) + (-1 : Int32))
                    exact K (((m 107 v2.toNatClampNeg) + (-1 : Int32))) _ (zF_u (zF_u (zF_zov (zF_u zF_rfl rfl) ws_245_253) rfl) rfl) hV43 r_W r_GW r_GU r_OW r_GG (show qRB (m 99) (m 100) (m 98) (m 101) (m 102) (m 103) ((ma_u m 107 v2.toNatClampNeg ((m 107 v2.toNatClampNeg) + (-1 : Int32))) 107) (m 108) (m 109) (m 111) (m 112) (m 113) (m 114) (m 94 55) (m 94 46) (m 94 11) (m 94 12) (m 94 62) (m 94 17) (m 94 9) (xHo aa ob on) from by first | (exfalso; omega; done) | (rw [Ho_y r_RB p2_m1 (by omega) (Or.inl (i_nz2 (by omega))) (by rw [if_neg (i_nz2 (by omega))])]; exact RB_ho r_RB (by omega) (Re_y p2_m1 (by omega)).2.1; done) | (rw [Ho_y r_RB p2_m1 (by omega) (Or.inr (i_nz2 (by omega))) (by rw [if_pos (i_zer (by omega))])]; exact RB_ho r_RB (by omega) (Re_y p2_m1 (by omega)).2.1; done) | (exfalso; omega; done) | (exfalso; contradiction; done)) (show qI (xHo aa ob on) from by first | (exfalso; omega; done) | (rw [Ho_y r_RB p2_m1 (by omega) (Or.inl (i_nz2 (by omega))) (by rw [if_neg (i_nz2 (by omega))])]; exact I_u r_QI (Or.inr (Or.inr (Or.inl rfl))); done) | (rw [Ho_y r_RB p2_m1 (by omega) (Or.inr (i_nz2 (by omega))) (by rw [if_pos (i_zer (by omega))])]; exact I_u r_QI (Or.inr (Or.inr (Or.inl rfl))); done) | (exfalso; omega; done) | (exfalso; contradiction; done)) (show qMG (m 94 58) (m 106) (m 115) (m 94 57) (m 94 56) (m 99) (m 100) (xHo aa ob on) from by first | (exfalso; omega; done) | (rw [Ho_y r_RB p2_m1 (by omega) (Or.inl (i_nz2 (by omega))) (by rw [if_neg (i_nz2 (by omega))])]; rw [(Re_y p2_m1 (by omega)).2.2.1]; exact MG_ho r_MG r_QI (Re_y p2_m1 (by omega)).2.2.2; done) | (rw [Ho_y r_RB p2_m1 (by omega) (Or.inr (i_nz2 (by omega))) (by rw [if_pos (i_zer (by omega))])]; rw [(Re_y p2_m1 (by omega)).2.2.1]; exact MG_ho r_MG r_QI (Re_y p2_m1 (by omega)).2.2.2; done) | (exfalso; omega; done) | (exfalso; contradiction; done)) (show (xHo aa ob on) 87 8 = (m 94 58) from by first | (exfalso; omega; done) | (rw [Ho_y r_RB p2_m1 (by omega) (Or.inl (i_nz2 (by omega))) (by rw [if_neg (i_nz2 (by omega))])]; rw [un (by decide)]; exact r_MK; done) | (rw [Ho_y r_RB p2_m1 (by omega) (Or.inr (i_nz2 (by omega))) (by rw [if_pos (i_zer (by omega))])]; rw [un (by decide)]; exact r_MK; done) | (exfalso; omega; done) | (exfalso; contradiction; done)) r_WTS
                  · skip
                    have g46 := i_nlt h40
                    have li47 : (4 : Int32).toInt = 4 := rfl
                    refine zd (fun (h48 : (m 94 10) = (4 : Int32)) => ?_) (fun (h48 : ¬ (m 94 10) = (4 : Int32)) => ?_)
                    · skip
                      have g49 := i_eq h48
                      exfalso; omega
                    · skip
                      have g50 := i_ne h48
                      have hV51 : zV (ma_u (zov wr_245 (ma_u m 94 0 (0 : Int32)) m1) 94 0 (0 : Int32)) := uf_94_0 hV_m1
                      have hV52 : zV (ma_u (ma_u (zov wr_245 (ma_u m 94 0 (0 : Int32)) m1) 94 0 (0 : Int32)) 107 v2.toNatClampNeg ((m 107 v2.toNatClampNeg) + (-1 : Int32))) := ua_107 hV51
                      first | have e53 : ((m 107 v2.toNatClampNeg) + (-1 : Int32)).toInt = (m 107 v2.toNatClampNeg).toInt + (-1) := i_addk rfl (by omega) (by omega) | have b54 := i_bd ((m 107 v2.toNatClampNeg) + (-1 : Int32))
                      exact K (((m 107 v2.toNatClampNeg) + (-1 : Int32))) _ (zF_u (zF_u (zF_zov (zF_u zF_rfl rfl) ws_245_253) rfl) rfl) hV52 r_W r_GW r_GU r_OW r_GG (show qRB (m 99) (m 100) (m 98) (m 101) (m 102) (m 103) ((ma_u m 107 v2.toNatClampNeg ((m 107 v2.toNatClampNeg) + (-1 : Int32))) 107) (m 108) (m 109) (m 111) (m 112) (m 113) (m 114) (m 94 55) (m 94 46) (m 94 11) (m 94 12) (m 94 62) (m 94 17) (m 94 9) (xHo aa ob on) from by first | (exfalso; omega; done) | (rw [Ho_y r_RB p2_m1 (by omega) (Or.inl (i_nz2 (by omega))) (by rw [if_neg (i_nz2 (by omega))])]; exact RB_ho r_RB (by omega) (Re_y p2_m1 (by omega)).2.1; done) | (rw [Ho_y r_RB p2_m1 (by omega) (Or.inr (i_nz2 (by omega))) (by rw [if_pos (i_zer (by omega))])]; exact RB_ho r_RB (by omega) (Re_y p2_m1 (by omega)).2.1; done) | (exfalso; omega; done) | (exfalso; contradiction; done)) (show qI (xHo aa ob on) from by first | (exfalso; omega; done) | (rw [Ho_y r_RB p2_m1 (by omega) (Or.inl (i_nz2 (by omega))) (by rw [if_neg (i_nz2 (by omega))])]; exact I_u r_QI (Or.inr (Or.inr (Or.inl rfl))); done) | (rw [Ho_y r_RB p2_m1 (by omega) (Or.inr (i_nz2 (by omega))) (by rw [if_pos (i_zer (by omega))])]; exact I_u r_QI (Or.inr (Or.inr (Or.inl rfl))); done) | (exfalso; omega; done) | (exfalso; contradiction; done)) (show qMG (m 94 58) (m 106) (m 115) (m 94 57) (m 94 56) (m 99) (m 100) (xHo aa ob on) from by first | (exfalso; omega; done) | (rw [Ho_y r_RB p2_m1 (by omega) (Or.inl (i_nz2 (by omega))) (by rw [if_neg (i_nz2 (by omega))])]; rw [(Re_y p2_m1 (by omega)).2.2.1]; exact MG_ho r_MG r_QI (Re_y p2_m1 (by omega)).2.2.2; done) | (rw [Ho_y r_RB p2_m1 (by omega) (Or.inr (i_nz2 (by omega))) (by rw [if_pos (i_zer (by omega))])]; rw [(Re_y p2_m1 (by omega)).2.2.1]; exact MG_ho r_MG r_QI (Re_y p2_m1 (by omega)).2.2.2; done) | (exfalso; omega; done) | (exfalso; contradiction; done)) (show (xHo aa ob on) 87 8 = (m 94 58) from by first | (exfalso; omega; done) | (rw [Ho_y r_RB p2_m1 (by omega) (Or.inl (i_nz2 (by omega))) (by rw [if_neg (i_nz2 (by omega))])]; rw [un (by decide)]; exact r_MK; done) | (rw [Ho_y r_RB p2_m1 (by omega) (Or.inr (i_nz2 (by omega))) (by rw [if_pos (i_zer (by omega))])]; rw [un (by decide)]; exact r_MK; done) | (exfalso; omega; done) | (exfalso; contradiction; done)) r_WTS
              · skip
                have g55 := i_ne h30
                have hg56 : (0 ≤ v2 ∧ v2.toNatClampNeg < 3100) := i_ix (by omega) (by omega)
                refine ⟨hg56, ?_⟩
                refine zd (fun (h57 : on = (0 : Int32)) => ?_) (fun (h57 : ¬ on = (0 : Int32)) => ?_)
                · skip
                  have g58 := i_eq h57
                  have hV59 : zV (ma_u (zov wr_245 (ma_u m 94 0 (0 : Int32)) m1) 94 0 (0 : Int32)) := uf_94_0 hV_m1
                  have hV60 : zV (ma_u (ma_u (zov wr_245 (ma_u m 94 0 (0 : Int32)) m1) 94 0 (0 : Int32)) 107 v2.toNatClampNeg ((m 107 v2.toNatClampNeg) + (1 : Int32))) := ua_107 hV59
                  refine sp_241r (v2) hV60 (show (m 94 10).toInt = 5 from by omega) (fun m9 hV_m9 p0_m9 => zmv_n ?_)
                  have p0_m9 : (m9 99) = (m 99) ∧ (m9 105) = (m 105) ∧ (m9 109) = (m 109) ∧ (m9 111) = (m 111) ∧ (m9 113) = (m 113) ∧ (m9 114) = (m 114) ∧ (m9 94 55) = (m 94 55) ∧ (m9 94 45) = (m 94 45) := p0_m9
                  try have rgb := rs_94_64 hV
                  try have lel := LE_lo p0_m9
                  try have lex3 := LE_ex p0_m9 (lexi (by omega))
                  try have lexi := LE_some p0_m9
                  first | have e61 : ((m 107 v2.toNatClampNeg) + (1 : Int32)).toInt = (m 107 v2.toNatClampNeg).toInt + (1) := i_addk rfl (by omega) (by omega) | have b62 := i_bd ((m 107 v2.toNatClampNeg) + (1 : Int32))
                  exact K (((m 107 v2.toNatClampNeg) + (1 : Int32))) _ (zF_zov (zF_u (zF_u (zF_zov (zF_u zF_rfl rfl) ws_245_253) rfl) rfl) ws_241_253) hV_m9 r_W (show zGW T (m9 94 55) (m9 109) from by first | (rw [p0_m9.2.2.1, p0_m9.2.2.2.2.2.2.1]; exact r_GW; done) | (exfalso; omega; done) | (exfalso; contradiction; done)) (show zGU T (m 94 46) (m9 99) from by first | (rw [p0_m9.1]; exact r_GU; done) | (exact GU_0 r_GU) | (exfalso; omega; done) | (exfalso; contradiction; done)) (show zOw (m9 99) (m 103) (m9 111) from by first | (rw [p0_m9.1, p0_m9.2.2.2.1]; exact r_OW; done) | (exact Ow_rm r_OW (by decide) (tn_cast (by omega)).symm) | (exfalso; omega; done) | (exfalso; contradiction; done)) r_GG (show qRB (m9 99) (m 100) (m 98) (m 101) (m 102) (m 103) ((ma_u m 107 v2.toNatClampNeg ((m 107 v2.toNatClampNeg) + (1 : Int32))) 107) (m 108) (m9 109) (m9 111) (m 112) (m9 113) (m9 114) (m9 94 55) (m 94 46) (m 94 11) (m 94 12) (m 94 62) (m 94 17) (m 94 9) (xHo aa ob on) from by first | (exfalso; omega; done) | (rw [Ho_y r_RB p2_m1 (by omega) (Or.inl (i_nz2 (by omega))) (by rw [if_neg (i_nz2 (by omega))])]; rw [p0_m9.1, p0_m9.2.2.1, p0_m9.2.2.2.1, p0_m9.2.2.2.2.1, p0_m9.2.2.2.2.2.1, p0_m9.2.2.2.2.2.2.1]; exact RB_ho r_RB (by omega) (Re_y p2_m1 (by omega)).2.1; done) | (rw [Ho_y r_RB p2_m1 (by omega) (Or.inr (i_nz2 (by omega))) (by rw [if_pos (i_zer (by omega))])]; rw [p0_m9.1, p0_m9.2.2.1, p0_m9.2.2.2.1, p0_m9.2.2.2.2.1, p0_m9.2.2.2.2.2.1, p0_m9.2.2.2.2.2.2.1]; exact RB_ho r_RB (by omega) (Re_y p2_m1 (by omega)).2.1; done) | (exfalso; omega; done) | (exfalso; contradiction; done)) (show qI (xHo aa ob on) from by first | (exfalso; omega; done) | (rw [Ho_y r_RB p2_m1 (by omega) (Or.inl (i_nz2 (by omega))) (by rw [if_neg (i_nz2 (by omega))])]; exact I_u r_QI (Or.inr (Or.inr (Or.inl rfl))); done) | (rw [Ho_y r_RB p2_m1 (by omega) (Or.inr (i_nz2 (by omega))) (by rw [if_pos (i_zer (by omega))])]; exact I_u r_QI (Or.inr (Or.inr (Or.inl rfl))); done) | (exfalso; omega; done) | (exfalso; contradiction; done)) (show qMG (m 94 58) (m 106) (m 115) (m 94 57) (m 94 56) (m9 99) (m 100) (xHo aa ob on) from by first | (exfalso; omega; done) | (rw [Ho_y r_RB p2_m1 (by omega) (Or.inl (i_nz2 (by omega))) (by rw [if_neg (i_nz2 (by omega))])]; rw [p0_m9.1]; rw [(Re_y p2_m1 (by omega)).2.2.1]; exact MG_ho r_MG r_QI (Re_y p2_m1 (by omega)).2.2.2; done) | (rw [Ho_y r_RB p2_m1 (by omega) (Or.inr (i_nz2 (by omega))) (by rw [if_pos (i_zer (by omega))])]; rw [p0_m9.1]; rw [(Re_y p2_m1 (by omega)).2.2.1]; exact MG_ho r_MG r_QI (Re_y p2_m1 (by omega)).2.2.2; done) | (exfalso; omega; done) | (exfalso; contradiction; done)) (show (xHo aa ob on) 87 8 = (m 94 58) from by first | (exfalso; omega; done) | (rw [Ho_y r_RB p2_m1 (by omega) (Or.inl (i_nz2 (by omega))) (by rw [if_neg (i_nz2 (by omega))])]; rw [un (by decide)]; exact r_MK; done) | (rw [Ho_y r_RB p2_m1 (by omega) (Or.inr (i_nz2 (by omega))) (by rw [if_pos (i_zer (by omega))])]; rw [un (by decide)]; exact r_MK; done) | (exfalso; omega; done) | (exfalso; contradiction; done)) (show (m9 94 45).toInt = sm (zbU (m9 99)) (m 102) 3100 from by first | (rw [p0_m9.1, p0_m9.2.2.2.2.2.2.2]; exact r_WTS; done) | (exfalso; omega; done) | (exfalso; contradiction; done))
                · skip
                  have g63 := i_ne h57
                  refine zd (fun (h64 : v2 < (0 : Int32)) => ?_) (fun (h64 : ¬ v2 < (0 : Int32)) => ?_)
                  · skip
                    have g65 := i_lt h64
                    have hV66 : zV (ma_u (zov wr_245 (ma_u m 94 0 (0 : Int32)) m1) 94 0 (0 : Int32)) := uf_94_0 hV_m1
                    have hV67 : zV (ma_u (ma_u (zov wr_245 (ma_u m 94 0 (0 : Int32)) m1) 94 0 (0 : Int32)) 107 v2.toNatClampNeg ((m 107 v2.toNatClampNeg) + (1 : Int32))) := ua_107 hV66
                    first | have e68 : ((m 107 v2.toNatClampNeg) + (1 : Int32)).toInt = (m 107 v2.toNatClampNeg).toInt + (1) := i_addk rfl (by omega) (by omega) | have b69 := i_bd ((m 107 v2.toNatClampNeg) + (1 : Int32))
                    exact K (((m 107 v2.toNatClampNeg) + (1 : Int32))) _ (zF_u (zF_u (zF_zov (zF_u zF_rfl rfl) ws_245_253) rfl) rfl) hV67 r_W r_GW r_GU r_OW r_GG (show qRB (m 99) (m 100) (m 98) (m 101) (m 102) (m 103) ((ma_u m 107 v2.toNatClampNeg ((m 107 v2.toNatClampNeg) + (1 : Int32))) 107) (m 108) (m 109) (m 111) (m 112) (m 113) (m 114) (m 94 55) (m 94 46) (m 94 11) (m 94 12) (m 94 62) (m 94 17) (m 94 9) (xHo aa ob on) from by first | (exfalso; omega; done) | (rw [Ho_y r_RB p2_m1 (by omega) (Or.inl (i_nz2 (by omega))) (by rw [if_neg (i_nz2 (by omega))])]; exact RB_ho r_RB (by omega) (Re_y p2_m1 (by omega)).2.1; done) | (rw [Ho_y r_RB p2_m1 (by omega) (Or.inr (i_nz2 (by omega))) (by rw [if_pos (i_zer (by omega))])]; exact RB_ho r_RB (by omega) (Re_y p2_m1 (by omega)).2.1; done) | (exfalso; omega; done) | (exfalso; contradiction; done)) (show qI (xHo aa ob on) from by first | (exfalso; omega; done) | (rw [Ho_y r_RB p2_m1 (by omega) (Or.inl (i_nz2 (by omega))) (by rw [if_neg (i_nz2 (by omega))])]; exact I_u r_QI (Or.inr (Or.inr (Or.inl rfl))); done) | (rw [Ho_y r_RB p2_m1 (by omega) (Or.inr (i_nz2 (by omega))) (by rw [if_pos (i_zer (by omega))])]; exact I_u r_QI (Or.inr (Or.inr (Or.inl rfl))); done) | (exfalso; omega; done) | (exfalso; contradiction; done)) (show qMG (m 94 58) (m 106) (m 115) (m 94 57) (m 94 56) (m 99) (m 100) (xHo aa ob on) from by first | (exfalso; omega; done) | (rw [Ho_y r_RB p2_m1 (by omega) (Or.inl (i_nz2 (by omega))) (by rw [if_neg (i_nz2 (by omega))])]; rw [(Re_y p2_m1 (by omega)).2.2.1]; exact MG_ho r_MG r_QI (Re_y p2_m1 (by omega)).2.2.2; done) | (rw [Ho_y r_RB p2_m1 (by omega) (Or.inr (i_nz2 (by omega))) (by rw [if_pos (i_zer (by omega))])]; rw [(Re_y p2_m1 (by omega)).2.2.1]; exact MG_ho r_MG r_QI (Re_y p2_m1 (by omega)).2.2.2; done) | (exfalso; omega; done) | (exfalso; contradiction; done)) (show (xHo aa ob on) 87 8 = (m 94 58) from by first | (exfalso; omega; done) | (rw [Ho_y r_RB p2_m1 (by omega) (Or.inl (i_nz2 (by omega))) (by rw [if_neg (i_nz2 (by omega))])]; rw [un (by decide)]; exact r_MK; done) | (rw [Ho_y r_RB p2_m1 (by omega) (Or.inr (i_nz2 (by omega))) (by rw [if_pos (i_zer (by omega))])]; rw [un (by decide)]; exact r_MK; done) | (exfalso; omega; done) | (exfalso; contradiction; done)) r_WTS
                  · skip
                    have g70 := i_nlt h64
                    have li71 : (4 : Int32).toInt = 4 := rfl
                    refine zd (fun (h72 : (m 94 10) = (4 : Int32)) => ?_) (fun (h72 : ¬ (m 94 10) = (4 : Int32)) => ?_)
                    · skip
                      have g73 := i_eq h72
                      exfalso; omega
                    · skip
                      have g74 := i_ne h72
                      have hV75 : zV (ma_u (zov wr_245 (ma_u m 94 0 (0 : Int32)) m1) 94 0 (0 : Int32)) := uf_94_0 hV_m1
                      have hV76 : zV (ma_u (ma_u (zov wr_245 (ma_u m 94 0 (0 : Int32)) m1) 94 0 (0 : Int32)) 107 v2.toNatClampNeg ((m 107 v2.toNatClampNeg) + (1 : Int32))) := ua_107 hV75
                      first | have e77 : ((m 107 v2.toNatClampNeg) + (1 : Int32)).toInt = (m 107 v2.toNatClampNeg).toInt + (1) := i_addk rfl (by omega) (by omega) | have b78 := i_bd ((m 107 v2.toNatClampNeg) + (1 : Int32))
                      exact K (((m 107 v2.toNatClampNeg) + (1 : Int32))) _ (zF_u (zF_u (zF_zov (zF_u zF_rfl rfl) ws_245_253) rfl) rfl) hV76 r_W r_GW r_GU r_OW r_GG (show qRB (m 99) (m 100) (m 98) (m 101) (m 102) (m 103) ((ma_u m 107 v2.toNatClampNeg ((m 107 v2.toNatClampNeg) + (1 : Int32))) 107) (m 108) (m 109) (m 111) (m 112) (m 113) (m 114) (m 94 55) (m 94 46) (m 94 11) (m 94 12) (m 94 62) (m 94 17) (m 94 9) (xHo aa ob on) from by first | (exfalso; omega; done) | (rw [Ho_y r_RB p2_m1 (by omega) (Or.inl (i_nz2 (by omega))) (by rw [if_neg (i_nz2 (by omega))])]; exact RB_ho r_RB (by omega) (Re_y p2_m1 (by omega)).2.1; done) | (rw [Ho_y r_RB p2_m1 (by omega) (Or.inr (i_nz2 (by omega))) (by rw [if_pos (i_zer (by omega))])]; exact RB_ho r_RB (by omega) (Re_y p2_m1 (by omega)).2.1; done) | (exfalso; omega; done) | (exfalso; contradiction; done)) (show qI (xHo aa ob on) from by first | (exfalso; omega; done) | (rw [Ho_y r_RB p2_m1 (by omega) (Or.inl (i_nz2 (by omega))) (by rw [if_neg (i_nz2 (by omega))])]; exact I_u r_QI (Or.inr (Or.inr (Or.inl rfl))); done) | (rw [Ho_y r_RB p2_m1 (by omega) (Or.inr (i_nz2 (by omega))) (by rw [if_pos (i_zer (by omega))])]; exact I_u r_QI (Or.inr (Or.inr (Or.inl rfl))); done) | (exfalso; omega; done) | (exfalso; contradiction; done)) (show qMG (m 94 58) (m 106) (m 115) (m 94 57) (m 94 56) (m 99) (m 100) (xHo aa ob on) from by first | (exfalso; omega; done) | (rw [Ho_y r_RB p2_m1 (by omega) (Or.inl (i_nz2 (by omega))) (by rw [if_neg (i_nz2 (by omega))])]; rw [(Re_y p2_m1 (by omega)).2.2.1]; exact MG_ho r_MG r_QI (Re_y p2_m1 (by omega)).2.2.2; done) | (rw [Ho_y r_RB p2_m1 (by omega) (Or.inr (i_nz2 (by omega))) (by rw [if_pos (i_zer (by omega))])]; rw [(Re_y p2_m1 (by omega)).2.2.1]; exact MG_ho r_MG r_QI (Re_y p2_m1 (by omega)).2.2.2; done) | (exfalso; omega; done) | (exfalso; contradiction; done)) (show (xHo aa ob on) 87 8 = (m 94 58) from by first | (exfalso; omega; done) | (rw [Ho_y r_RB p2_m1 (by omega) (Or.inl (i_nz2 (by omega))) (by rw [if_neg (i_nz2 (by omega))])]; rw [un (by decide)]; exact r_MK; done) | (rw [Ho_y r_RB p2_m1 (by omega) (Or.inr (i_nz2 (by omega))) (by rw [if_pos (i_zer (by omega))])]; rw [un (by decide)]; exact r_MK; done) | (exfalso; omega; done) | (exfalso; contradiction; done)) r_WTS
          · skip
            have g79 := i_ne h21
            have hg80 : (0 ≤ v2 ∧ v2.toNatClampNeg < 3100) := i_ix (by omega) (by omega)
            refine ⟨hg80, ?_⟩
            refine zd (fun (h81 : on = (0 : Int32)) => ?_) (fun (h81 : ¬ on = (0 : Int32)) => ?_)
            · skip
              have g82 := i_eq h81
              have hg83 : (0 ≤ v2 ∧ v2.toNatClampNeg < 3100) := i_ix (by omega) (by omega)
              refine ⟨hg83, ?_⟩
              refine zd (fun (h84 : on = (0 : Int32)) => ?_) (fun (h84 : ¬ on = (0 : Int32)) => ?_)
              · skip
                have g85 := i_eq h84
                have hV86 : zV (ma_u (zov wr_245 (ma_u m 94 0 (0 : Int32)) m1) 94 0 (0 : Int32)) := uf_94_0 hV_m1
                have hV87 : zV (ma_u (ma_u (zov wr_245 (ma_u m 94 0 (0 : Int32)) m1) 94 0 (0 : Int32)) 107 v2.toNatClampNeg ((m 107 v2.toNatClampNeg) + (-1 : Int32))) := ua_107 hV86
                refine sp_241r (v2) hV87 (show (m 94 10).toInt = 5 from by omega) (fun m3 hV_m3 p0_m3 => zmv_n ?_)
                have p0_m3 : (m3 99) = (m 99) ∧ (m3 105) = (m 105) ∧ (m3 109) = (m 109) ∧ (m3 111) = (m 111) ∧ (m3 113) = (m 113) ∧ (m3 114) = (m 114) ∧ (m3 94 55) = (m 94 55) ∧ (m3 94 45) = (m 94 45) := p0_m3
                try have rgb := rs_94_64 hV
                try have lel := LE_lo p0_m3
                try have lex3 := LE_ex p0_m3 (lexi (by omega))
                try have lexi := LE_some p0_m3
                have b88 := i_bd (m 107 v2.toNatClampNeg)
                first | have e89 : ((m 107 v2.toNatClampNeg) + (-1 : Int32)).toInt = (m 107 v2.toNatClampNeg).toInt + (-1) := i_addk rfl (by omega) (by omega) | have b90 := i_bd ((m 107 v2.toNatClampNeg) + (-1 : Int32))
                exact K (((m 107 v2.toNatClampNeg) + (-1 : Int32))) _ (zF_zov (zF_u (zF_u (zF_zov (zF_u zF_rfl rfl) ws_245_253) rfl) rfl) ws_241_253) hV_m3 r_W (show zGW T (m3 94 55) (m3 109) from by first | (rw [p0_m3.2.2.1, p0_m3.2.2.2.2.2.2.1]; exact r_GW; done) | (exfalso; omega; done) | (exfalso; contradiction; done)) (show zGU T (m 94 46) (m3 99) from by first | (rw [p0_m3.1]; exact r_GU; done) | (exact GU_0 r_GU) | (exfalso; omega; done) | (exfalso; contradiction; done)) (show zOw (m3 99) (m 103) (m3 111) from by first | (rw [p0_m3.1, p0_m3.2.2.2.1]; exact r_OW; done) | (exact Ow_rm r_OW (by decide) (tn_cast (by omega)).symm) | (exfalso; omega; done) | (exfalso; contradiction; done)) r_GG (show qRB (m3 99) (m 100) (m 98) (m 101) (m 102) (m 103) ((ma_u m 107 v2.toNatClampNeg ((m 107 v2.toNatClampNeg) + (-1 : Int32))) 107) (m 108) (m3 109) (m3 111) (m 112) (m3 113) (m3 114) (m3 94 55) (m 94 46) (m 94 11) (m 94 12) (m 94 62) (m 94 17) (m 94 9) (xHo aa ob on) from by first | (exfalso; omega; done) | (rw [Ho_y r_RB p2_m1 (by omega) (Or.inl (i_nz2 (by omega))) (by rw [if_neg (i_nz2 (by omega))])]; rw [p0_m3.1, p0_m3.2.2.1, p0_m3.2.2.2.1, p0_m3.2.2.2.2.1, p0_m3.2.2.2.2.2.1, p0_m3.2.2.2.2.2.2.1]; exact RB_ho r_RB (by omega) (Re_y p2_m1 (by omega)).2.1; done) | (rw [Ho_y r_RB p2_m1 (by omega) (Or.inr (i_nz2 (by omega))) (by rw [if_pos (i_zer (by omega))])]; rw [p0_m3.1, p0_m3.2.2.1, p0_m3.2.2.2.1, p0_m3.2.2.2.2.1, p0_m3.2.2.2.2.2.1, p0_m3.2.2.2.2.2.2.1]; exact RB_ho r_RB (by omega) (Re_y p2_m1 (by omega)).2.1; done) | (exfalso; omega; done) | (exfalso; contradiction; done)) (show qI (xHo aa ob on) from by first | (exfalso; omega; done) | (rw [Ho_y r_RB p2_m1 (by omega) (Or.inl (i_nz2 (by omega))) (by rw [if_neg (i_nz2 (by omega))])]; exact I_u r_QI (Or.inr (Or.inr (Or.inl rfl))); done) | (rw [Ho_y r_RB p2_m1 (by omega) (Or.inr (i_nz2 (by omega))) (by rw [if_pos (i_zer (by omega))])]; exact I_u r_QI (Or.inr (Or.inr (Or.inl rfl))); done) | (exfalso; omega; done) | (exfalso; contradiction; done)) (show qMG (m 94 58) (m 106) (m 115) (m 94 57) (m 94 56) (m3 99) (m 100) (xHo aa ob on) from by first | (exfalso; omega; done) | (rw [Ho_y r_RB p2_m1 (by omega) (Or.inl (i_nz2 (by omega))) (by rw [if_neg (i_nz2 (by omega))])]; rw [p0_m3.1]; rw [(Re_y p2_m1 (by omega)).2.2.1]; exact MG_ho r_MG r_QI (Re_y p2_m1 (by omega)).2.2.2; done) | (rw [Ho_y r_RB p2_m1 (by omega) (Or.inr (i_nz2 (by omega))) (by rw [if_pos (i_zer (by omega))])]; rw [p0_m3.1]; rw [(Re_y p2_m1 (by omega)).2.2.1]; exact MG_ho r_MG r_QI (Re_y p2_m1 (by omega)).2.2.2; done) | (exfalso; omega; done) | (exfalso; contradiction; done)) (show (xHo aa ob on) 87 8 = (m 94 58) from by first | (exfalso; omega; done) | (rw [Ho_y r_RB p2_m1 (by omega) (Or.inl (i_nz2 (by omega))) (by rw [if_neg (i_nz2 (by omega))])]; rw [un (by decide)]; exact r_MK; done) | (rw [Ho_y r_RB p2_m1 (by omega) (Or.inr (i_nz2 (by omega))) (by rw [if_pos (i_zer (by omega))])]; rw [un (by decide)]; exact r_MK; done) | (exfalso; omega; done) | (exfalso; contradiction; done)) (show (m3 94 45).toInt = sm (zbU (m3 99)) (m 102) 3100 from by first | (rw [p0_m3.1, p0_m3.2.2.2.2.2.2.2]; exact r_WTS; done) | (exfalso; omega; done) | (exfalso; contradiction; done))
              · skip
                have g91 := i_ne h84
                refine zd (fun (h92 : v2 < (0 : Int32)) => ?_) (fun (h92 : ¬ v2 < (0 : Int32)) => ?_)
                · skip
                  have g93 := i_lt h92
                  have hV94 : zV (ma_u (zov wr_245 (ma_u m 94 0 (0 : Int32)) m1) 94 0 (0 : Int32)) := uf_94_0 hV_m1
                  have hV95 : zV (ma_u (ma_u (zov wr_245 (ma_u m 94 0 (0 : Int32)) m1) 94 0 (0 : Int32)) 107 v2.toNatClampNeg ((m 107 v2.toNatClampNeg) + (-1 : Int32))) := ua_107 hV94
                  have b96 := i_bd (m 107 v2.toNatClampNeg)
                  first | have e97 : ((m 107 v2.toNatClampNeg) + (-1 : Int32)).toInt = (m 107 v2.toNatClampNeg).toInt + (-1) := i_addk rfl (by omega) (by omega) | have b98 := i_bd ((m 107 v2.toNatClampNeg) + (-1 : Int32))
                  exact K (((m 107 v2.toNatClampNeg) + (-1 : Int32))) _ (zF_u (zF_u (zF_zov (zF_u zF_rfl rfl) ws_245_253) rfl) rfl) hV95 r_W r_GW r_GU r_OW r_GG (show qRB (m 99) (m 100) (m 98) (m 101) (m 102) (m 103) ((ma_u m 107 v2.toNatClampNeg ((m 107 v2.toNatClampNeg) + (-1 : Int32))) 107) (m 108) (m 109) (m 111) (m 112) (m 113) (m 114) (m 94 55) (m 94 46) (m 94 11) (m 94 12) (m 94 62) (m 94 17) (m 94 9) (xHo aa ob on) from by first | (exfalso; omega; done) | (rw [Ho_y r_RB p2_m1 (by omega) (Or.inl (i_nz2 (by omega))) (by rw [if_neg (i_nz2 (by omega))])]; exact RB_ho r_RB (by omega) (Re_y p2_m1 (by omega)).2.1; done) | (rw [Ho_y r_RB p2_m1 (by omega) (Or.inr (i_nz2 (by omega))) (by rw [if_pos (i_zer (by omega))])]; exact RB_ho r_RB (by omega) (Re_y p2_m1 (by omega)).2.1; done) | (exfalso; omega; done) | (exfalso; contradiction; done)) (show qI (xHo aa ob on) from by first | (exfalso; omega; done) | (rw [Ho_y r_RB p2_m1 (by omega) (Or.inl (i_nz2 (by omega))) (by rw [if_neg (i_nz2 (by omega))])]; exact I_u r_QI (Or.inr (Or.inr (Or.inl rfl))); done) | (rw [Ho_y r_RB p2_m1 (by omega) (Or.inr (i_nz2 (by omega))) (by rw [if_pos (i_zer (by omega))])]; exact I_u r_QI (Or.inr (Or.inr (Or.inl rfl))); done) | (exfalso; omega; done) | (exfalso; contradiction; done)) (show qMG (m 94 58) (m 106) (m 115) (m 94 57) (m 94 56) (m 99) (m 100) (xHo aa ob on) from by first | (exfalso; omega; done) | (rw [Ho_y r_RB p2_m1 (by omega) (Or.inl (i_nz2 (by omega))) (by rw [if_neg (i_nz2 (by omega))])]; rw [(Re_y p2_m1 (by omega)).2.2.1]; exact MG_ho r_MG r_QI (Re_y p2_m1 (by omega)).2.2.2; done) | (rw [Ho_y r_RB p2_m1 (by omega) (Or.inr (i_nz2 (by omega))) (by rw [if_pos (i_zer (by omega))])]; rw [(Re_y p2_m1 (by omega)).2.2.1]; exact MG_ho r_MG r_QI (Re_y p2_m1 (by omega)).2.2.2; done) | (exfalso; omega; done) | (exfalso; contradiction; done)) (show (xHo aa ob on) 87 8 = (m 94 58) from by first | (exfalso; omega; done) | (rw [Ho_y r_RB p2_m1 (by omega) (Or.inl (i_nz2 (by omega))) (by rw [if_neg (i_nz2 (by omega))])]; rw [un (by decide)]; exact r_MK; done) | (rw [Ho_y r_RB p2_m1 (by omega) (Or.inr (i_nz2 (by omega))) (by rw [if_pos (i_zer (by omega))])]; rw [un (by decide)]; exact r_MK; done) | (exfalso; omega; done) | (exfalso; contradiction; done)) r_WTS
                · skip
                  have g99 := i_nlt h92
                  have li100 : (4 : Int32).toInt = 4 := rfl
                  refine zd (fun (h101 : (m 94 10) = (4 : Int32)) => ?_) (fun (h101 : ¬ (m 94 10) = (4 : Int32)) => ?_)
                  · skip
                    have g102 := i_eq h101
                    exfalso; omega
                  · skip
                    have g103 := i_ne h101
                    have hV104 : zV (ma_u (zov wr_245 (ma_u m 94 0 (0 : Int32)) m1) 94 0 (0 : Int32)) := uf_94_0 hV_m1
                    have hV105 : zV (ma_u (ma_u (zov wr_245 (ma_u m 94 0 (0 : Int32)) m1) 94 0 (0 : Int32)) 107 v2.toNatClampNeg ((m 107 v2.toNatClampNeg) + (-1 : Int32))) := ua_107 hV104
                    have b106 := i_bd (m 107 v2.toNatClampNeg)
                    first | have e107 : ((m 107 v2.toNatClampNeg) + (-1 : Int32)).toInt = (m 107 v2.toNatClampNeg).toInt + (-1) := i_addk rfl (by omega) (by omega) | have b108 := i_bd ((m 107 v2.toNatClampNeg) + (-1 : Int32))
                    exact K (((m 107 v2.toNatClampNeg) + (-1 : Int32))) _ (zF_u (zF_u (zF_zov (zF_u zF_rfl rfl) ws_245_253) rfl) rfl) hV105 r_W r_GW r_GU r_OW r_GG (show qRB (m 99) (m 100) (m 98) (m 101) (m 102) (m 103) ((ma_u m 107 v2.toNatClampNeg ((m 107 v2.toNatClampNeg) + (-1 : Int32))) 107) (m 108) (m 109) (m 111) (m 112) (m 113) (m 114) (m 94 55) (m 94 46) (m 94 11) (m 94 12) (m 94 62) (m 94 17) (m 94 9) (xHo aa ob on) from by first | (exfalso; omega; done) | (rw [Ho_y r_RB p2_m1 (by omega) (Or.inl (i_nz2 (by omega))) (by rw [if_neg (i_nz2 (by omega))])]; exact RB_ho r_RB (by omega) (Re_y p2_m1 (by omega)).2.1; done) | (rw [Ho_y r_RB p2_m1 (by omega) (Or.inr (i_nz2 (by omega))) (by rw [if_pos (i_zer (by omega))])]; exact RB_ho r_RB (by omega) (Re_y p2_m1 (by omega)).2.1; done) | (exfalso; omega; done) | (exfalso; contradiction; done)) (show qI (xHo aa ob on) from by first | (exfalso; omega; done) | (rw [Ho_y r_RB p2_m1 (by omega) (Or.inl (i_nz2 (by omega))) (by rw [if_neg (i_nz2 (by omega))])]; exact I_u r_QI (Or.inr (Or.inr (Or.inl rfl))); done) | (rw [Ho_y r_RB p2_m1 (by omega) (Or.inr (i_nz2 (by omega))) (by rw [if_pos (i_zer (by omega))])]; exact I_u r_QI (Or.inr (Or.inr (Or.inl rfl))); done) | (exfalso; omega; done) | (exfalso; contradiction; done)) (show qMG (m 94 58) (m 106) (m 115) (m 94 57) (m 94 56) (m 99) (m 100) (xHo aa ob on) from by first | (exfalso; omega; done) | (rw [Ho_y r_RB p2_m1 (by omega) (Or.inl (i_nz2 (by omega))) (by rw [if_neg (i_nz2 (by omega))])]; rw [(Re_y p2_m1 (by omega)).2.2.1]; exact MG_ho r_MG r_QI (Re_y p2_m1 (by omega)).2.2.2; done) | (rw [Ho_y r_RB p2_m1 (by omega) (Or.inr (i_nz2 (by omega))) (by rw [if_pos (i_zer (by omega))])]; rw [(Re_y p2_m1 (by omega)).2.2.1]; exact MG_ho r_MG r_QI (Re_y p2_m1 (by omega)).2.2.2; done) | (exfalso; omega; done) | (exfalso; contradiction; done)) (show (xHo aa ob on) 87 8 = (m 94 58) from by first | (exfalso; omega; done) | (rw [Ho_y r_RB p2_m1 (by omega) (Or.inl (i_nz2 (by omega))) (by rw [if_neg (i_nz2 (by omega))])]; rw [un (by decide)]; exact r_MK; done) | (rw [Ho_y r_RB p2_m1 (by omega) (Or.inr (i_nz2 (by omega))) (by rw [if_pos (i_zer (by omega))])]; rw [un (by decide)]; exact r_MK; done) | (exfalso; omega; done) | (exfalso; contradiction; done)) r_WTS
            · skip
              have g109 := i_ne h81
              have hg110 : (0 ≤ v2 ∧ v2.toNatClampNeg < 3100) := i_ix (by omega) (by omega)
              refine ⟨hg110, ?_⟩
              refine zd (fun (h111 : on = (0 : Int32)) => ?_) (fun (h111 : ¬ on = (0 : Int32)) => ?_)
              · skip
                have g112 := i_eq h111
                have hV113 : zV (ma_u (zov wr_245 (ma_u m 94 0 (0 : Int32)) m1) 94 0 (0 : Int32)) := uf_94_0 hV_m1
                have hV114 : zV (ma_u (ma_u (zov wr_245 (ma_u m 94 0 (0 : Int32)) m1) 94 0 (0 : Int32)) 107 v2.toNatClampNeg ((m 107 v2.toNatClampNeg) + (1 : Int32))) := ua_107 hV113
                refine sp_241r (v2) hV114 (show (m 94 10).toInt = 5 from by omega) (fun m5 hV_m5 p0_m5 => zmv_n ?_)
                have p0_m5 : (m5 99) = (m 99) ∧ (m5 105) = (m 105) ∧ (m5 109) = (m 109) ∧ (m5 111) = (m 111) ∧ (m5 113) = (m 113) ∧ (m5 114) = (m 114) ∧ (m5 94 55) = (m 94 55) ∧ (m5 94 45) = (m 94 45) := p0_m5
                try have rgb := rs_94_64 hV
                try have lel := LE_lo p0_m5
                try have lex3 := LE_ex p0_m5 (lexi (by omega))
                try have lexi := LE_some p0_m5
                have b115 := i_bd (m 107 v2.toNatClampNeg)
                first | have e116 : ((m 107 v2.toNatClampNeg) + (1 : Int32)).toInt = (m 107 v2.toNatClampNeg).toInt + (1) := i_addk rfl (by omega) (by omega) | have b117 := i_bd ((m 107 v2.toNatClampNeg) + (1 : Int32))
                exact K (((m 107 v2.toNatClampNeg) + (1 : Int32))) _ (zF_zov (zF_u (zF_u (zF_zov (zF_u zF_rfl rfl) ws_245_253) rfl) rfl) ws_241_253) hV_m5 r_W (show zGW T (m5 94 55) (m5 109) from by first | (rw [p0_m5.2.2.1, p0_m5.2.2.2.2.2.2.1]; exact r_GW; done) | (exfalso; omega; done) | (exfalso; contradiction; done)) (show zGU T (m 94 46) (m5 99) from by first | (rw [p0_m5.1]; exact r_GU; done) | (exact GU_0 r_GU) | (exfalso; omega; done) | (exfalso; contradiction; done)) (show zOw (m5 99) (m 103) (m5 111) from by first | (rw [p0_m5.1, p0_m5.2.2.2.1]; exact r_OW; done) | (exact Ow_rm r_OW (by decide) (tn_cast (by omega)).symm) | (exfalso; omega; done) | (exfalso; contradiction; done)) r_GG (show qRB (m5 99) (m 100) (m 98) (m 101) (m 102) (m 103) ((ma_u m 107 v2.toNatClampNeg ((m 107 v2.toNatClampNeg) + (1 : Int32))) 107) (m 108) (m5 109) (m5 111) (m 112) (m5 113) (m5 114) (m5 94 55) (m 94 46) (m 94 11) (m 94 12) (m 94 62) (m 94 17) (m 94 9) (xHo aa ob on) from by first | (exfalso; omega; done) | (rw [Ho_y r_RB p2_m1 (by omega) (Or.inl (i_nz2 (by omega))) (by rw [if_neg (i_nz2 (by omega))])]; rw [p0_m5.1, p0_m5.2.2.1, p0_m5.2.2.2.1, p0_m5.2.2.2.2.1, p0_m5.2.2.2.2.2.1, p0_m5.2.2.2.2.2.2.1]; exact RB_ho r_RB (by omega) (Re_y p2_m1 (by omega)).2.1; done) | (rw [Ho_y r_RB p2_m1 (by omega) (Or.inr (i_nz2 (by omega))) (by rw [if_pos (i_zer (by omega))])]; rw [p0_m5.1, p0_m5.2.2.1, p0_m5.2.2.2.1, p0_m5.2.2.2.2.1, p0_m5.2.2.2.2.2.1, p0_m5.2.2.2.2.2.2.1]; exact RB_ho r_RB (by omega) (Re_y p2_m1 (by omega)).2.1; done) | (exfalso; omega; done) | (exfalso; contradiction; done)) (show qI (xHo aa ob on) from by first | (exfalso; omega; done) | (rw [Ho_y r_RB p2_m1 (by omega) (Or.inl (i_nz2 (by omega))) (by rw [if_neg (i_nz2 (by omega))])]; exact I_u r_QI (Or.inr (Or.inr (Or.inl rfl))); done) | (rw [Ho_y r_RB p2_m1 (by omega) (Or.inr (i_nz2 (by omega))) (by rw [if_pos (i_zer (by omega))])]; exact I_u r_QI (Or.inr (Or.inr (Or.inl rfl))); done) | (exfalso; omega; done) | (exfalso; contradiction; done)) (show qMG (m 94 58) (m 106) (m 115) (m 94 57) (m 94 56) (m5 99) (m 100) (xHo aa ob on) from by first | (exfalso; omega; done) | (rw [Ho_y r_RB p2_m1 (by omega) (Or.inl (i_nz2 (by omega))) (by rw [if_neg (i_nz2 (by omega))])]; rw [p0_m5.1]; rw [(Re_y p2_m1 (by omega)).2.2.1]; exact MG_ho r_MG r_QI (Re_y p2_m1 (by omega)).2.2.2; done) | (rw [Ho_y r_RB p2_m1 (by omega) (Or.inr (i_nz2 (by omega))) (by rw [if_pos (i_zer (by omega))])]; rw [p0_m5.1]; rw [(Re_y p2_m1 (by omega)).2.2.1]; exact MG_ho r_MG r_QI (Re_y p2_m1 (by omega)).2.2.2; done) | (exfalso; omega; done) | (exfalso; contradiction; done)) (show (xHo aa ob on) 87 8 = (m 94 58) from by first | (exfalso; omega; done) | (rw [Ho_y r_RB p2_m1 (by omega) (Or.inl (i_nz2 (by omega))) (by rw [if_neg (i_nz2 (by omega))])]; rw [un (by decide)]; exact r_MK; done) | (rw [Ho_y r_RB p2_m1 (by omega) (Or.inr (i_nz2 (by omega))) (by rw [if_pos (i_zer (by omega))])]; rw [un (by decide)]; exact r_MK; done) | (exfalso; omega; done) | (exfalso; contradiction; done)) (show (m5 94 45).toInt = sm (zbU (m5 99)) (m 102) 3100 from by first | (rw [p0_m5.1, p0_m5.2.2.2.2.2.2.2]; exact r_WTS; done) | (exfalso; omega; done) | (exfalso; contradiction; done))
              · skip
                have g118 := i_ne h111
                refine zd (fun (h119 : v2 < (0 : Int32)) => ?_) (fun (h119 : ¬ v2 < (0 : Int32)) => ?_)
                · skip
                  have g120 := i_lt h119
                  have hV121 : zV (ma_u (zov wr_245 (ma_u m 94 0 (0 : Int32)) m1) 94 0 (0 : Int32)) := uf_94_0 hV_m1
                  have hV122 : zV (ma_u (ma_u (zov wr_245 (ma_u m 94 0 (0 : Int32)) m1) 94 0 (0 : Int32)) 107 v2.toNatClampNeg ((m 107 v2.toNatClampNeg) + (1 : Int32))) := ua_107 hV121
                  have b123 := i_bd (m 107 v2.toNatClampNeg)
                  first | have e124 : ((m 107 v2.toNatClampNeg) + (1 : Int32)).toInt = (m 107 v2.toNatClampNeg).toInt + (1) := i_addk rfl (by omega) (by omega) | have b125 := i_bd ((m 107 v2.toNatClampNeg) + (1 : Int32))
                  exact K (((m 107 v2.toNatClampNeg) + (1 : Int32))) _ (zF_u (zF_u (zF_zov (zF_u zF_rfl rfl) ws_245_253) rfl) rfl) hV122 r_W r_GW r_GU r_OW r_GG (show qRB (m 99) (m 100) (m 98) (m 101) (m 102) (m 103) ((ma_u m 107 v2.toNatClampNeg ((m 107 v2.toNatClampNeg) + (1 : Int32))) 107) (m 108) (m 109) (m 111) (m 112) (m 113) (m 114) (m 94 55) (m 94 46) (m 94 11) (m 94 12) (m 94 62) (m 94 17) (m 94 9) (xHo aa ob on) from by first | (exfalso; omega; done) | (rw [Ho_y r_RB p2_m1 (by omega) (Or.inl (i_nz2 (by omega))) (by rw [if_neg (i_nz2 (by omega))])]; exact RB_ho r_RB (by omega) (Re_y p2_m1 (by omega)).2.1; done) | (rw [Ho_y r_RB p2_m1 (by omega) (Or.inr (i_nz2 (by omega))) (by rw [if_pos (i_zer (by omega))])]; exact RB_ho r_RB (by omega) (Re_y p2_m1 (by omega)).2.1; done) | (exfalso; omega; done) | (exfalso; contradiction; done)) (show qI (xHo aa ob on) from by first | (exfalso; omega; done) | (rw [Ho_y r_RB p2_m1 (by omega) (Or.inl (i_nz2 (by omega))) (by rw [if_neg (i_nz2 (by omega))])]; exact I_u r_QI (Or.inr (Or.inr (Or.inl rfl))); done) | (rw [Ho_y r_RB p2_m1 (by omega) (Or.inr (i_nz2 (by omega))) (by rw [if_pos (i_zer (by omega))])]; exact I_u r_QI (Or.inr (Or.inr (Or.inl rfl))); done) | (exfalso; omega; done) | (exfalso; contradiction; done)) (show qMG (m 94 58) (m 106) (m 115) (m 94 57) (m 94 56) (m 99) (m 100) (xHo aa ob on) from by first | (exfalso; omega; done) | (rw [Ho_y r_RB p2_m1 (by omega) (Or.inl (i_nz2 (by omega))) (by rw [if_neg (i_nz2 (by omega))])]; rw [(Re_y p2_m1 (by omega)).2.2.1]; exact MG_ho r_MG r_QI (Re_y p2_m1 (by omega)).2.2.2; done) | (rw [Ho_y r_RB p2_m1 (by omega) (Or.inr (i_nz2 (by omega))) (by rw [if_pos (i_zer (by omega))])]; rw [(Re_y p2_m1 (by omega)).2.2.1]; exact MG_ho r_MG r_QI (Re_y p2_m1 (by omega)).2.2.2; done) | (exfalso; omega; done) | (exfalso; contradiction; done)) (show (xHo aa ob on) 87 8 = (m 94 58) from by first | (exfalso; omega; done) | (rw [Ho_y r_RB p2_m1 (by omega) (Or.inl (i_nz2 (by omega))) (by rw [if_neg (i_nz2 (by omega))])]; rw [un (by decide)]; exact r_MK; done) | (rw [Ho_y r_RB p2_m1 (by omega) (Or.inr (i_nz2 (by omega))) (by rw [if_pos (i_zer (by omega))])]; rw [un (by decide)]; exact r_MK; done) | (exfalso; omega; done) | (exfalso; contradiction; done)) r_WTS
                · skip
                  have g126 := i_nlt h119
                  have li127 : (4 : Int32).toInt = 4 := rfl
                  refine zd (fun (h128 : (m 94 10) = (4 : Int32)) => ?_) (fun (h128 : ¬ (m 94 10) = (4 : Int32)) => ?_)
                  · skip
                    have g129 := i_eq h128
                    exfalso; omega
                  · skip
                    have g130 := i_ne h128
                    have hV131 : zV (ma_u (zov wr_245 (ma_u m 94 0 (0 : Int32)) m1) 94 0 (0 : Int32)) := uf_94_0 hV_m1
                    have hV132 : zV (ma_u (ma_u (zov wr_245 (ma_u m 94 0 (0 : Int32)) m1) 94 0 (0 : Int32)) 107 v2.toNatClampNeg ((m 107 v2.toNatClampNeg) + (1 : Int32))) := ua_107 hV131
                    have b133 := i_bd (m 107 v2.toNatClampNeg)
                    first | have e134 : ((m 107 v2.toNatClampNeg) + (1 : Int32)).toInt = (m 107 v2.toNatClampNeg).toInt + (1) := i_addk rfl (by omega) (by omega) | have b135 := i_bd ((m 107 v2.toNatClampNeg) + (1 : Int32))
                    exact K (((m 107 v2.toNatClampNeg) + (1 : Int32))) _ (zF_u (zF_u (zF_zov (zF_u zF_rfl rfl) ws_245_253) rfl) rfl) hV132 r_W r_GW r_GU r_OW r_GG (show qRB (m 99) (m 100) (m 98) (m 101) (m 102) (m 103) ((ma_u m 107 v2.toNatClampNeg ((m 107 v2.toNatClampNeg) + (1 : Int32))) 107) (m 108) (m 109) (m 111) (m 112) (m 113) (m 114) (m 94 55) (m 94 46) (m 94 11) (m 94 12) (m 94 62) (m 94 17) (m 94 9) (xHo aa ob on) from by first | (exfalso; omega; done) | (rw [Ho_y r_RB p2_m1 (by omega) (Or.inl (i_nz2 (by omega))) (by rw [if_neg (i_nz2 (by omega))])]; exact RB_ho r_RB (by omega) (Re_y p2_m1 (by omega)).2.1; done) | (rw [Ho_y r_RB p2_m1 (by omega) (Or.inr (i_nz2 (by omega))) (by rw [if_pos (i_zer (by omega))])]; exact RB_ho r_RB (by omega) (Re_y p2_m1 (by omega)).2.1; done) | (exfalso; omega; done) | (exfalso; contradiction; done)) (show qI (xHo aa ob on) from by first | (exfalso; omega; done) | (rw [Ho_y r_RB p2_m1 (by omega) (Or.inl (i_nz2 (by omega))) (by rw [if_neg (i_nz2 (by omega))])]; exact I_u r_QI (Or.inr (Or.inr (Or.inl rfl))); done) | (rw [Ho_y r_RB p2_m1 (by omega) (Or.inr (i_nz2 (by omega))) (by rw [if_pos (i_zer (by omega))])]; exact I_u r_QI (Or.inr (Or.inr (Or.inl rfl))); done) | (exfalso; omega; done) | (exfalso; contradiction; done)) (show qMG (m 94 58) (m 106) (m 115) (m 94 57) (m 94 56) (m 99) (m 100) (xHo aa ob on) from by first | (exfalso; omega; done) | (rw [Ho_y r_RB p2_m1 (by omega) (Or.inl (i_nz2 (by omega))) (by rw [if_neg (i_nz2 (by omega))])]; rw [(Re_y p2_m1 (by omega)).2.2.1]; exact MG_ho r_MG r_QI (Re_y p2_m1 (by omega)).2.2.2; done) | (rw [Ho_y r_RB p2_m1 (by omega) (Or.inr (i_nz2 (by omega))) (by rw [if_pos (i_zer (by omega))])]; rw [(Re_y p2_m1 (by omega)).2.2.1]; exact MG_ho r_MG r_QI (Re_y p2_m1 (by omega)).2.2.2; done) | (exfalso; omega; done) | (exfalso; contradiction; done)) (show (xHo aa ob on) 87 8 = (m 94 58) from by first | (exfalso; omega; done) | (rw [Ho_y r_RB p2_m1 (by omega) (Or.inl (i_nz2 (by omega))) (by rw [if_neg (i_nz2 (by omega))])]; rw [un (by decide)]; exact r_MK; done) | (rw [Ho_y r_RB p2_m1 (by omega) (Or.inr (i_nz2 (by omega))) (by rw [if_pos (i_zer (by omega))])]; rw [un (by decide)]; exact r_MK; done) | (exfalso; omega; done) | (exfalso; contradiction; done)) r_WTS
    · skip
      have g136 := i_nle h10
      have hV137 : zV (ma_u (zov wr_245 (ma_u m 94 0 (0 : Int32)) m1) 94 0 (2 : Int32)) := uf_94_0 hV_m1
      exact K ((0 : Int32)) _ (zF_u (zF_zov (zF_u zF_rfl rfl) ws_245_253) rfl) hV137 r_W r_GW r_GU r_OW r_GG (show qRB (m 99) (m 100) (m 98) (m 101) (m 102) (m 103) (m 107) (m 108) (m 109) (m 111) (m 112) (m 113) (m 114) (m 94 55) (m 94 46) (m 94 11) (m 94 12) (m 94 62) (m 94 17) (m 94 9) (xHo aa ob on) from by first | (unfold xHo; rw [qIf_n (fun w => Re_n p2_m1 (by omega) w.1)]; exact r_RB; done) | (rw [Ho_x r_RB p2_m1 (by omega) (i_zer (by omega)) (i_zer (by omega))]; exact r_RB; done) | (exfalso; omega; done) | (exfalso; contradiction; done)) (show qI (xHo aa ob on) from by first | (unfold xHo; rw [qIf_n (fun w => Re_n p2_m1 (by omega) w.1)]; exact r_QI; done) | (rw [Ho_x r_RB p2_m1 (by omega) (i_zer (by omega)) (i_zer (by omega))]; exact r_QI; done) | (exfalso; omega; done) | (exfalso; contradiction; done)) (show qMG (m 94 58) (m 106) (m 115) (m 94 57) (m 94 56) (m 99) (m 100) (xHo aa ob on) from by first | (unfold xHo; rw [qIf_n (fun w => Re_n p2_m1 (by omega) w.1)]; exact r_MG; done) | (rw [Ho_x r_RB p2_m1 (by omega) (i_zer (by omega)) (i_zer (by omega))]; exact r_MG; done) | (exfalso; omega; done) | (exfalso; contradiction; done)) (show (xHo aa ob on) 87 8 = (m 94 58) from by first | (unfold xHo; rw [qIf_n (fun w => Re_n p2_m1 (by omega) w.1)]; exact r_MK; done) | (rw [Ho_x r_RB p2_m1 (by omega) (i_zer (by omega)) (i_zer (by omega))]; exact r_MK; done) | (exfalso; omega; done) | (exfalso; contradiction; done)) r_WTS

/-! from 95.h28 -/
/-! the reference by numbers (written by wip/tools/gen18r.py) -/
set_option maxHeartbeats 8000000 in
theorem sp_256r {X : Nat × (Nat → Int32)} {P : Option ma_V → (Nat → Nat → Int32) → Prop} {T : Nat} {aa : Nat→Nat→Int32} {m : Nat → Nat → Int32}  (hV : zV m) (hpre0 : T ≤ 512) (r_W : zW (m 94 7) (m 98) (m 101) (m 102) (m 108)) (r_GW : zGW T (m 94 55) (m 109)) (r_GU : zGU T (m 94 46) (m 99)) (r_OW : zOw (m 99) (m 103) (m 111)) (r_GG : zGG (m 94 58) (m 94 56) (m 94 57) (m 106)) (hpre6 : (m 94 10).toInt = 5) (hpre7 : (m 94 8).toInt = 1) (r_RB : qRB (m 99) (m 100) (m 98) (m 101) (m 102) (m 103) (m 107) (m 108) (m 109) (m 111) (m 112) (m 113) (m 114) (m 94 55) (m 94 46) (m 94 11) (m 94 12) (m 94 62) (m 94 17) (m 94 9) aa) (r_QI : qI aa) (r_MG : qMG (m 94 58) (m 106) (m 115) (m 94 57) (m 94 56) (m 99) (m 100) aa) (r_MK : aa 87 8 = (m 94 58)) (r_WTS : (m 94 45).toInt = sm (zbU (m 99)) (m 102) 3100) (KZ : ∀ v m₉, zV (zov wr_256 m m₉) → (zW (m 94 7) (m 98) (m 101) (m 102) (m 108)) → (zGW T (m₉ 94 55) (m₉ 109)) → (zGU T (m 94 46) (m₉ 99)) → (zOw (m₉ 99) (m₉ 103) (m₉ 111)) → (zGG (m₉ 94 58) (m₉ 94 56) (m₉ 94 57) (m₉ 106)) → (qRB (m₉ 99) (m 100) (m 98) (m 101) (m 102) (m₉ 103) (m 107) (m 108) (m₉ 109) (m₉ 111) (m 112) (m₉ 113) (m₉ 114) (m₉ 94 55) (m 94 46) (m 94 11) (m 94 12) (m 94 62) (m 94 17) (m 94 9) (aCl aa)) → (qI (aCl aa)) → (qMG (m₉ 94 58) (m₉ 106) (m₉ 115) (m₉ 94 57) (m₉ 94 56) (m₉ 99) (m 100) (aCl aa)) → ((aCl aa) 87 8 = (m₉ 94 58)) → ((m₉ 94 45).toInt = sm (zbU (m₉ 99)) (m 102) 3100) → P (some (.inl v)) (zov wr_256 m m₉)) : zm X 7 152 256 0 [(0, .inr (.inr (some 94)))] m P := by
  have K : ∀ v m₉, zF wr_256 m m₉ → zV m₉ → (zW (m₉ 94 7) (m₉ 98) (m₉ 101) (m₉ 102) (m₉ 108)) → (zGW T (m₉ 94 55) (m₉ 109)) → (zGU T (m₉ 94 46) (m₉ 99)) → (zOw (m₉ 99) (m₉ 103) (m₉ 111)) → (zGG (m₉ 94 58) (m₉ 94 56) (m₉ 94 57) (m₉ 106)) → (qRB (m₉ 99) (m₉ 100) (m₉ 98) (m₉ 101) (m₉ 102) (m₉ 103) (m₉ 107) (m₉ 108) (m₉ 109) (m₉ 111) (m₉ 112) (m₉ 113) (m₉ 114) (m₉ 94 55) (m₉ 94 46) (m₉ 94 11) (m₉ 94 12) (m₉ 94 62) (m₉ 94 17) (m₉ 94 9) (aCl aa)) → (qI (aCl aa)) → (qMG (m₉ 94 58) (m₉ 106) (m₉ 115) (m₉ 94 57) (m₉ 94 56) (m₉ 99) (m₉ 100) (aCl aa)) → ((aCl aa) 87 8 = (m₉ 94 58)) → ((m₉ 94 45).toInt = sm (zbU (m₉ 99)) (m₉ 102) 3100) → P (some (.inl v)) m₉ := by
    intro v m₉ hf z q0 q1 q2 q3 q4 q5 q6 q7 q8 q9
    have e := zov_eq hf
    rw [e] at z ⊢
    try rw [e] at q0
    try rw [e] at q1
    try rw [e] at q2
    try rw [e] at q3
    try rw [e] at q4
    try rw [e] at q5
    try rw [e] at q6
    try rw [e] at q7
    try rw [e] at q8
    try rw [e] at q9
    exact KZ v m₉ z q0 q1 q2 q3 q4 q5 q6 q7 q8 q9
  refine g_256_0  ?_
  have f1 : 0 ≤ (m 94 10).toInt ∧ (m 94 10).toInt ≤ 6 := rs_94_10 (m := m) hV
  have f2 : 0 ≤ (m 94 8).toInt ∧ (m 94 8).toInt ≤ 1 := rs_94_8 (m := m) hV
  have li3 : (0 : Int32).toInt = 0 := rfl
  refine zd (fun (h4 : (m 94 8) = (0 : Int32)) => ?_) (fun (h4 : ¬ (m 94 8) = (0 : Int32)) => ?_)
  · skip
    have g5 := i_eq h4
    exfalso; omega
  · skip
    have g6 := i_ne h4
    have li7 : (1 : Int32).toInt = 1 := rfl
    refine zd (fun (h8 : (m 94 10) = (1 : Int32)) => ?_) (fun (h8 : ¬ (m 94 10) = (1 : Int32)) => ?_)
    · skip
      have g9 := i_eq h8
      exfalso; omega
    · skip
      have g10 := i_ne h8
      have li11 : (2 : Int32).toInt = 2 := rfl
      refine zd (fun (h12 : (m 94 10) = (2 : Int32)) => ?_) (fun (h12 : ¬ (m 94 10) = (2 : Int32)) => ?_)
      · skip
        have g13 := i_eq h12
        exfalso; omega
      · skip
        have g14 := i_ne h12
        have li15 : (3 : Int32).toInt = 3 := rfl
        refine zd (fun (h16 : (m 94 10) = (3 : Int32)) => ?_) (fun (h16 : ¬ (m 94 10) = (3 : Int32)) => ?_)
        · skip
          have g17 := i_eq h16
          exfalso; omega
        · skip
          have g18 := i_ne h16
          have li19 : (4 : Int32).toInt = 4 := rfl
          refine zd (fun (h20 : (m 94 10) = (4 : Int32)) => ?_) (fun (h20 : ¬ (m 94 10) = (4 : Int32)) => ?_)
          · skip
            have g21 := i_eq h20
            exfalso; omega
          · skip
            have g22 := i_ne h20
            have li23 : (5 : Int32).toInt = 5 := rfl
            refine zd (fun (h24 : (m 94 10) = (5 : Int32)) => ?_) (fun (h24 : ¬ (m 94 10) = (5 : Int32)) => ?_)
            · skip
              have g25 := i_eq h24
              have f26 : 0 ≤ (m 94 58).toInt ∧ (m 94 58).toInt ≤ 1 := rs_94_58 (m := m) hV
              refine zd (fun (h27 : (m 94 58) = (0 : Int32)) => ?_) (fun (h27 : ¬ (m 94 58) = (0 : Int32)) => ?_)
              · skip
                have g28 := i_eq h27
                have hV29 : zV (ma_u m 94 0 (0 : Int32)) := uf_94_0 hV
                refine sp_219r (aa := aa)  hV29 r_RB r_QI (fun m13 hV_m13 p0_m13 p1_m13 p2_m13 p3_m13 p4_m13 => zmv_n ?_)
                have p0_m13 : zG1 (m13 94 56) (m13 94 57) (m13 106) := p0_m13
                have p1_m13 : (m13 94 58).toInt = 1 := p1_m13
                have p2_m13 : qRB (m 99) (m 100) (m 98) (m 101) (m 102) (m 103) (m 107) (m 108) (m 109) (m 111) (m 112) (m 113) (m 114) (m 94 55) (m 94 46) (m 94 11) (m 94 12) (m 94 62) (m 94 17) (m 94 9) (aB0 aa) := p2_m13
                have p3_m13 : qI (aB0 aa) := p3_m13
                have p4_m13 : qMQ (m13 106) (m13 115) (m13 94 57) (m13 94 56) (m 99) (m 100) (aB0 aa) := p4_m13
                have f30 : 0 ≤ (m13 94 58).toInt ∧ (m13 94 58).toInt ≤ 1 := rs_94_58 (m := (zov wr_219 (ma_u m 94 0 (0 : Int32)) m13)) hV_m13
                refine sp_230r (aa := (aB0 aa))  hV_m13 (by omega) r_W r_GW r_GU r_OW p0_m13 (show (m 94 10).toInt = 5 from by omega) (show (m13 94 58).toInt = 1 from by omega) p4_m13 p2_m13 p3_m13 (show qMI (aB0 aa) from by first | (exact MI_b0 r_QI) | (exfalso; omega; done) | (exfalso; contradiction; done)) (show (aB0 aa) 87 8 = (m13 94 58) from by first | (exact B0_87.trans (i_one (by omega))) | (exfalso; omega; done) | (exfalso; contradiction; done)) r_WTS (fun v16 m15 hV_m15 p0_m15 p1_m15 p2_m15 p3_m15 p4_m15 p5_m15 p6_m15 p7_m15 => zmi_n ?_)
                have p0_m15 : zGW T (m15 94 55) (m15 109) := p0_m15
                have p1_m15 : zGU T (m 94 46) (m15 99) := p1_m15
                have p2_m15 : zOw (m15 99) (m 103) (m15 111) := p2_m15
                have p3_m15 : zGG (m15 94 58) (m15 94 56) (m15 94 57) (m15 106) := p3_m15
                have p4_m15 : (m15 94 58).toInt = 0 := p4_m15
                have p5_m15 : qRB (m15 99) (m 100) (m 98) (m 101) (m 102) (m 103) (m 107) (m 108) (m15 109) (m15 111) (m 112) (m15 113) (m15 114) (m15 94 55) (m 94 46) (m 94 11) (m 94 12) (m 94 62) (m 94 17) (m 94 9) (aCl (aB0 aa)) := p5_m15
                have p6_m15 : qI (aCl (aB0 aa)) := p6_m15
                have p7_m15 : (m15 94 45).toInt = sm (zbU (m15 99)) (m 102) 3100 := p7_m15
                have f31 : 0 ≤ (m15 94 58).toInt ∧ (m15 94 58).toInt ≤ 1 := rs_94_58 (m := (zov wr_230 (zov wr_219 (ma_u m 94 0 (0 : Int32)) m13) m15)) hV_m15
                have b32 := i_bd v16
                exact K (v16) _ (zF_zov (zF_zov (zF_u zF_rfl rfl) ws_219_256) ws_230_256) hV_m15 r_W p0_m15 p1_m15 p2_m15 p3_m15 (show qRB (m15 99) (m 100) (m 98) (m 101) (m 102) (m 103) (m 107) (m 108) (m15 109) (m15 111) (m 112) (m15 113) (m15 114) (m15 94 55) (m 94 46) (m 94 11) (m 94 12) (m 94 62) (m 94 17) (m 94 9) (aCl aa) from by first | (rw [← Cl_b (r_MK.trans (i_zer (by omega)))]; exact p5_m15; done) | (exfalso; omega; done) | (exfalso; contradiction; done)) (show qI (aCl aa) from by first | (rw [← Cl_b (r_MK.trans (i_zer (by omega)))]; exact p6_m15; done) | (exfalso; omega; done) | (exfalso; contradiction; done)) (show qMG (m15 94 58) (m15 106) (m15 115) (m15 94 57) (m15 94 56) (m15 99) (m 100) (aCl aa) from by first | (exact fun z => absurd (by omega) z) | (exfalso; omega; done) | (exfalso; contradiction; done)) (show (aCl aa) 87 8 = (m15 94 58) from by first | (exact Cl_8.trans (i_zer (by omega)).symm) | (exfalso; omega; done) | (exfalso; contradiction; done)) p7_m15
              · skip
                have g33 := i_ne h27
                have hV34 : zV (ma_u m 94 0 (0 : Int32)) := uf_94_0 hV
                refine sp_230r (aa := aa)  hV34 (by omega) r_W r_GW r_GU r_OW (show zG1 (m 94 56) (m 94 57) (m 106) from by first | (exact r_GG (by omega)) | (exact G1_0 (by omega) (by omega)) | (exact r_GG (by omega)) | (exfalso; omega; done) | (exfalso; contradiction; done)) (show (m 94 10).toInt = 5 from by omega) (show (m 94 58).toInt = 1 from by omega) (show qMQ (m 106) (m 115) (m 94 57) (m 94 56) (m 99) (m 100) aa from by first | (exact (r_MG (by omega)).1) | (exfalso; omega; done) | (exfalso; contradiction; done)) r_RB r_QI (show qMI aa from by first | (exact (r_MG (by omega)).2) | (exfalso; omega; done) | (exfalso; contradiction; done)) r_MK r_WTS (fun v12 m11 hV_m11 p0_m11 p1_m11 p2_m11 p3_m11 p4_m11 p5_m11 p6_m11 p7_m11 => zmi_n ?_)
                have p0_m11 : zGW T (m11 94 55) (m11 109) := p0_m11
                have p1_m11 : zGU T (m 94 46) (m11 99) := p1_m11
                have p2_m11 : zOw (m11 99) (m 103) (m11 111) := p2_m11
                have p3_m11 : zGG (m11 94 58) (m11 94 56) (m11 94 57) (m11 106) := p3_m11
                have p4_m11 : (m11 94 58).toInt = 0 := p4_m11
                have p5_m11 : qRB (m11 99) (m 100) (m 98) (m 101) (m 102) (m 103) (m 107) (m 108) (m11 109) (m11 111) (m 112) (m11 113) (m11 114) (m11 94 55) (m 94 46) (m 94 11) (m 94 12) (m 94 62) (m 94 17) (m 94 9) (aCl aa) := p5_m11
                have p6_m11 : qI (aCl aa) := p6_m11
                have p7_m11 : (m11 94 45).toInt = sm (zbU (m11 99)) (m 102) 3100 := p7_m11
                have f35 : 0 ≤ (m11 94 58).toInt ∧ (m11 94 58).toInt ≤ 1 := rs_94_58 (m := (zov wr_230 (ma_u m 94 0 (0 : Int32)) m11)) hV_m11
                have b36 := i_bd v12
                exact K (v12) _ (zF_zov (zF_u zF_rfl rfl) ws_230_256) hV_m11 r_W p0_m11 p1_m11 p2_m11 p3_m11 p5_m11 p6_m11 (show qMG (m11 94 58) (m11 106) (m11 115) (m11 94 57) (m11 94 56) (m11 99) (m 100) (aCl aa) from by first | (exact fun z => absurd (by omega) z) | (exfalso; omega; done) | (exfalso; contradiction; done)) (show (aCl aa) 87 8 = (m11 94 58) from by first | (exact Cl_8.trans (i_zer (by omega)).symm) | (exfalso; omega; done) | (exfalso; contradiction; done)) p7_m11
            · skip
              have g37 := i_ne h24
              exfalso; omega

/-! from 95.h29 -/
/-! the reference by numbers (written by wip/tools/gen18r.py) -/
/-- a step's answer, and whether it throws -/
def qSt (a : Nat → Nat → Int32) (n th v : Int32) : Prop := (¬ (0 ≤ n.toInt ∧ n.toInt ≤ 1000) ∧ th.toInt = 1) ∨ ((0 ≤ n.toInt ∧ n.toInt ≤ 1000) ∧ th.toInt = 0 ∧ v.toInt = aGv a n.toInt.toNat)
theorem Go_0 {a : Nat → Nat → Int32} {n : Int32} (h0 : 0 ≤ n.toInt) (h1 : n.toInt ≤ 1000) (h : a 87 8 = 0) : xSp a n = a := by
  unfold xSp
  rw [qIf_y ⟨h0, h1⟩, aGo_0 h]
theorem Go_1 {a : Nat → Nat → Int32} {n : Int32} (h0 : 0 ≤ n.toInt) (h1 : n.toInt ≤ 1000) (h : a 87 8 ≠ 0) : xSp a n = aLk (aSp n.toInt.toNat a) := by
  unfold xSp aGo
  rw [qIf_y ⟨h0, h1⟩, if_neg h]
set_option maxHeartbeats 8000000 in
theorem sp_257r {X : Nat × (Nat → Int32)} {P : Option ma_V → (Nat → Nat → Int32) → Prop} {T : Nat} {aa : Nat→Nat→Int32} {m : Nat → Nat → Int32} (nn : Int32) (hV : zV m) (hpre0 : T ≤ 512) (r_W : zW (m 94 7) (m 98) (m 101) (m 102) (m 108)) (r_GW : zGW T (m 94 55) (m 109)) (r_GU : zGU T (m 94 46) (m 99)) (r_OW : zOw (m 99) (m 103) (m 111)) (r_GG : zGG (m 94 58) (m 94 56) (m 94 57) (m 106)) (hpre6 : (m 94 10).toInt = 5) (hpre7 : (m 94 8).toInt = 1) (r_RB : qRB (m 99) (m 100) (m 98) (m 101) (m 102) (m 103) (m 107) (m 108) (m 109) (m 111) (m 112) (m 113) (m 114) (m 94 55) (m 94 46) (m 94 11) (m 94 12) (m 94 62) (m 94 17) (m 94 9) aa) (r_QI : qI aa) (r_MG : qMG (m 94 58) (m 106) (m 115) (m 94 57) (m 94 56) (m 99) (m 100) aa) (r_MK : aa 87 8 = (m 94 58)) (r_WTS : (m 94 45).toInt = sm (zbU (m 99)) (m 102) 3100) (KZ : ∀ v m₉, zV (zov wr_257 m m₉) → (zW (m 94 7) (m 98) (m 101) (m 102) (m 108)) → (zGW T (m₉ 94 55) (m₉ 109)) → (zGU T (m 94 46) (m₉ 99)) → (zOw (m₉ 99) (m 103) (m₉ 111)) → (zGG (m₉ 94 58) (m₉ 94 56) (m₉ 94 57) (m₉ 106)) → (qRB (m₉ 99) (m 100) (m 98) (m 101) (m 102) (m 103) (m 107) (m 108) (m₉ 109) (m₉ 111) (m 112) (m₉ 113) (m₉ 114) (m₉ 94 55) (m 94 46) (m 94 11) (m 94 12) (m 94 62) (m 94 17) (m 94 9) (xSp aa nn)) → (qI (xSp aa nn)) → (qMG (m₉ 94 58) (m₉ 106) (m₉ 115) (m₉ 94 57) (m₉ 94 56) (m₉ 99) (m 100) (xSp aa nn)) → ((xSp aa nn) 87 8 = (m₉ 94 58)) → ((m₉ 94 45).toInt = sm (zbU (m₉ 99)) (m 102) 3100) → (qSt aa nn (m₉ 94 0) v) → P (some (.inl v)) (zov wr_257 m m₉)) : zm X 5 109 257 0 [(0, .inr (.inr (some 94))), (1, .inl nn)] m P := by
  have K : ∀ v m₉, zF wr_257 m m₉ → zV m₉ → (zW (m₉ 94 7) (m₉ 98) (m₉ 101) (m₉ 102) (m₉ 108)) → (zGW T (m₉ 94 55) (m₉ 109)) → (zGU T (m₉ 94 46) (m₉ 99)) → (zOw (m₉ 99) (m₉ 103) (m₉ 111)) → (zGG (m₉ 94 58) (m₉ 94 56) (m₉ 94 57) (m₉ 106)) → (qRB (m₉ 99) (m₉ 100) (m₉ 98) (m₉ 101) (m₉ 102) (m₉ 103) (m₉ 107) (m₉ 108) (m₉ 109) (m₉ 111) (m₉ 112) (m₉ 113) (m₉ 114) (m₉ 94 55) (m₉ 94 46) (m₉ 94 11) (m₉ 94 12) (m₉ 94 62) (m₉ 94 17) (m₉ 94 9) (xSp aa nn)) → (qI (xSp aa nn)) → (qMG (m₉ 94 58) (m₉ 106) (m₉ 115) (m₉ 94 57) (m₉ 94 56) (m₉ 99) (m₉ 100) (xSp aa nn)) → ((xSp aa nn) 87 8 = (m₉ 94 58)) → ((m₉ 94 45).toInt = sm (zbU (m₉ 99)) (m₉ 102) 3100) → (qSt aa nn (m₉ 94 0) v) → P (some (.inl v)) m₉ := by
    intro v m₉ hf z q0 q1 q2 q3 q4 q5 q6 q7 q8 q9 q10
    have e := zov_eq hf
    rw [e] at z ⊢
    try rw [e] at q0
    try rw [e] at q1
    try rw [e] at q2
    try rw [e] at q3
    try rw [e] at q4
    try rw [e] at q5
    try rw [e] at q6
    try rw [e] at q7
    try rw [e] at q8
    try rw [e] at q9
    try rw [e] at q10
    exact KZ v m₉ z q0 q1 q2 q3 q4 q5 q6 q7 q8 q9 q10
  refine g_257_0 nn ?_
  have f1 : 0 ≤ (m 94 10).toInt ∧ (m 94 10).toInt ≤ 6 := rs_94_10 (m := m) hV
  have f2 : 0 ≤ (m 94 8).toInt ∧ (m 94 8).toInt ≤ 1 := rs_94_8 (m := m) hV
  have b3 := i_bd nn
  have li4 : (0 : Int32).toInt = 0 := rfl
  refine zd (fun (h5 : nn < (0 : Int32)) => ?_) (fun (h5 : ¬ nn < (0 : Int32)) => ?_)
  · skip
    have g6 := i_lt h5
    have hV7 : zV (ma_u m 94 0 (1 : Int32)) := uf_94_0 hV
    exact K ((0 : Int32)) _ (zF_u zF_rfl rfl) hV7 r_W r_GW r_GU r_OW r_GG (show qRB (m 99) (m 100) (m 98) (m 101) (m 102) (m 103) (m 107) (m 108) (m 109) (m 111) (m 112) (m 113) (m 114) (m 94 55) (m 94 46) (m 94 11) (m 94 12) (m 94 62) (m 94 17) (m 94 9) (xSp aa nn) from by first | (unfold xSp; rw [qIf_n (by omega)]; exact r_RB; done) | (rw [Go_0 (by omega) (by omega) (r_MK.trans (i_zer (by omega)))]; exact r_RB; done) | (exfalso; omega; done) | (exfalso; contradiction; done)) (show qI (xSp aa nn) from by first | (unfold xSp; rw [qIf_n (by omega)]; exact r_QI; done) | (rw [Go_0 (by omega) (by omega) (r_MK.trans (i_zer (by omega)))]; exact r_QI; done) | (exfalso; omega; done) | (exfalso; contradiction; done)) (show qMG (m 94 58) (m 106) (m 115) (m 94 57) (m 94 56) (m 99) (m 100) (xSp aa nn) from by first | (unfold xSp; rw [qIf_n (by omega)]; exact r_MG; done) | (rw [Go_0 (by omega) (by omega) (r_MK.trans (i_zer (by omega)))]; exact r_MG; done) | (exfalso; omega; done) | (exfalso; contradiction; done)) (show (xSp aa nn) 87 8 = (m 94 58) from by first | (unfold xSp; rw [qIf_n (by omega)]; exact r_MK; done) | (rw [Go_0 (by omega) (by omega) (r_MK.trans (i_zer (by omega)))]; exact r_MK; done) | (exfalso; omega; done) | (exfalso; contradiction; done)) r_WTS (show qSt aa nn (1 : Int32) (0 : Int32) from by first | (exact Or.inl ⟨by omega, by decide⟩) | (exact Or.inr ⟨⟨by omega, by omega⟩, by decide, (aGv_0 (r_MK.trans (i_zer (by omega)))).symm⟩) | (exfalso; omega; done) | (exfalso; contradiction; done))
  · skip
    have g8 := i_nlt h5
    have li9 : (1000 : Int32).toInt = 1000 := rfl
    refine zd (fun (h10 : nn ≤ (1000 : Int32)) => ?_) (fun (h10 : ¬ nn ≤ (1000 : Int32)) => ?_)
    · skip
      have g11 := i_le h10
      refine zd (fun (h12 : (m 94 8) = (0 : Int32)) => ?_) (fun (h12 : ¬ (m 94 8) = (0 : Int32)) => ?_)
      · skip
        have g13 := i_eq h12
        exfalso; omega
      · skip
        have g14 := i_ne h12
        have li15 : (5 : Int32).toInt = 5 := rfl
        refine zd (fun (h16 : (m 94 10) = (5 : Int32)) => ?_) (fun (h16 : ¬ (m 94 10) = (5 : Int32)) => ?_)
        · skip
          have g17 := i_eq h16
          have f18 : 0 ≤ (m 94 58).toInt ∧ (m 94 58).toInt ≤ 1 := rs_94_58 (m := m) hV
          refine zd (fun (h19 : (m 94 58) = (0 : Int32)) => ?_) (fun (h19 : ¬ (m 94 58) = (0 : Int32)) => ?_)
          · skip
            have g20 := i_eq h19
            have hV21 : zV (ma_u m 94 0 (0 : Int32)) := uf_94_0 hV
            exact K ((0 : Int32)) _ (zF_u zF_rfl rfl) hV21 r_W r_GW r_GU r_OW r_GG (show qRB (m 99) (m 100) (m 98) (m 101) (m 102) (m 103) (m 107) (m 108) (m 109) (m 111) (m 112) (m 113) (m 114) (m 94 55) (m 94 46) (m 94 11) (m 94 12) (m 94 62) (m 94 17) (m 94 9) (xSp aa nn) from by first | (unfold xSp; rw [qIf_n (by omega)]; exact r_RB; done) | (rw [Go_0 (by omega) (by omega) (r_MK.trans (i_zer (by omega)))]; exact r_RB; done) | (exfalso; omega; done) | (exfalso; contradiction; done)) (show qI (xSp aa nn) from by first | (unfold xSp; rw [qIf_n (by omega)]; exact r_QI; done) | (rw [Go_0 (by omega) (by omega) (r_MK.trans (i_zer (by omega)))]; exact r_QI; done) | (exfalso; omega; done) | (exfalso; contradiction; done)) (show qMG (m 94 58) (m 106) (m 115) (m 94 57) (m 94 56) (m 99) (m 100) (xSp aa nn) from by first | (unfold xSp; rw [qIf_n (by omega)]; exact r_MG; done) | (rw [Go_0 (by omega) (by omega) (r_MK.trans (i_zer (by omega)))]; exact r_MG; done) | (exfalso; omega; done) | (exfalso; contradiction; done)) (show (xSp aa nn) 87 8 = (m 94 58) from by first | (unfold xSp; rw [qIf_n (by omega)]; exact r_MK; done) | (rw [Go_0 (by omega) (by omega) (r_MK.trans (i_zer (by omega)))]; exact r_MK; done) | (exfalso; omega; done) | (exfalso; contradiction; done)) r_WTS (show qSt aa nn (0 : Int32) (0 : Int32) from by first | (exact Or.inl ⟨by omega, by decide⟩) | (exact Or.inr ⟨⟨by omega, by omega⟩, by decide, (aGv_0 (r_MK.trans (i_zer (by omega)))).symm⟩) | (exfalso; omega; done) | (exfalso; contradiction; done))
          · skip
            have g22 := i_ne h19
            have hV23 : zV (ma_u m 94 0 (0 : Int32)) := uf_94_0 hV
            refine sp_222r (aa := aa) (nn) hV23 (by omega) r_W (show zG1 (m 94 56) (m 94 57) (m 106) from by first | (exact r_GG (by omega)) | (exact G1_0 (by omega) (by omega)) | (exact r_GG (by omega)) | (exfalso; omega; done) | (exfalso; contradiction; done)) (show qMQ (m 106) (m 115) (m 94 57) (m 94 56) (m 99) (m 100) aa from by first | (exact (r_MG (by omega)).1) | (exfalso; omega; done) | (exfalso; contradiction; done)) r_RB r_QI (fun v2 m1 hV_m1 p0_m1 p1_m1 p2_m1 p3_m1 p4_m1 p5_m1 p6_m1 => zmi_n ?_)
            have p0_m1 : zG1 (m1 94 56) (m1 94 57) (m1 106) := p0_m1
            have p1_m1 : (m 94 56).toInt ≤ (m1 94 56).toInt := p1_m1
            have p2_m1 : (m 94 57).toInt ≤ (m1 94 57).toInt ∧ ((m1 94 56).toInt ≤ (m1 94 57).toInt ∨ (m 94 57).toInt + nn.toInt ≤ (m1 94 57).toInt) := p2_m1
            have p3_m1 : qRB (m 99) (m 100) (m 98) (m 101) (m 102) (m 103) (m 107) (m 108) (m 109) (m 111) (m 112) (m 113) (m 114) (m 94 55) (m 94 46) (m 94 11) (m 94 12) (m 94 62) (m 94 17) (m 94 9) (aSp nn.toInt.toNat aa) := p3_m1
            have p4_m1 : qI (aSp nn.toInt.toNat aa) := p4_m1
            have p5_m1 : qMQ (m1 106) (m1 115) (m1 94 57) (m1 94 56) (m 99) (m 100) (aSp nn.toInt.toNat aa) := p5_m1
            have p6_m1 : qEq v2.toInt (aSn nn.toInt.toNat aa : Int) := p6_m1
            have f24 : 0 ≤ (m 94 56).toInt ∧ (m 94 56).toInt ≤ 3100 := rs_94_56 (m := m) hV
            have f25 : 0 ≤ (m1 94 56).toInt ∧ (m1 94 56).toInt ≤ 3100 := rs_94_56 (m := (zov wr_222 (ma_u m 94 0 (0 : Int32)) m1)) hV_m1
            have f26 : 0 ≤ (m 94 57).toInt ∧ (m 94 57).toInt ≤ 3100 := rs_94_57 (m := m) hV
            have f27 : 0 ≤ (m1 94 57).toInt ∧ (m1 94 57).toInt ≤ 3100 := rs_94_57 (m := (zov wr_222 (ma_u m 94 0 (0 : Int32)) m1)) hV_m1
            refine sp_223r (aa := (aSp nn.toInt.toNat aa))  hV_m1 (by omega) r_W r_GW r_GU r_OW p0_m1 (show (m 94 10).toInt = 5 from by omega) (show (m 94 58).toInt = 1 from by omega) p5_m1 p3_m1 p4_m1 (show qMI (aSp nn.toInt.toNat aa) from by first | (exact MI_sp _ _ (r_MG (by omega)).2 (r_MG (by omega)).1.2.2.2.2) | (exfalso; omega; done) | (exfalso; contradiction; done)) (show (aSp nn.toInt.toNat aa) 87 8 = (m 94 58) from by first | (exact Sp_87.trans r_MK) | (exfalso; omega; done) | (exfalso; contradiction; done)) r_WTS (fun v4 m3 hV_m3 p0_m3 p1_m3 p2_m3 p3_m3 p4_m3 p5_m3 p6_m3 p7_m3 p8_m3 p9_m3 => zmi_n ?_)
            have p0_m3 : zGW T (m3 94 55) (m3 109) := p0_m3
            have p1_m3 : zGU T (m 94 46) (m3 99) := p1_m3
            have p2_m3 : zOw (m3 99) (m 103) (m3 111) := p2_m3
            have p3_m3 : zGG (m3 94 58) (m3 94 56) (m1 94 57) (m3 106) := p3_m3
            have p4_m3 : (m3 94 58).toInt = 0 ∨ ((m3 94 58).toInt = 1 ∧ (m1 94 57).toInt < (m3 94 56).toInt ∧ (m1 94 57).toInt = (m1 94 57).toInt) := p4_m3
            have p5_m3 : qRB (m3 99) (m 100) (m 98) (m 101) (m 102) (m 103) (m 107) (m 108) (m3 109) (m3 111) (m 112) (m3 113) (m3 114) (m3 94 55) (m 94 46) (m 94 11) (m 94 12) (m 94 62) (m 94 17) (m 94 9) (aLk (aSp nn.toInt.toNat aa)) := p5_m3
            have p6_m3 : qI (aLk (aSp nn.toInt.toNat aa)) := p6_m3
            have p7_m3 : qMG (m3 94 58) (m3 106) (m3 115) (m1 94 57) (m3 94 56) (m3 99) (m 100) (aLk (aSp nn.toInt.toNat aa)) := p7_m3
            have p8_m3 : (aLk (aSp nn.toInt.toNat aa)) 87 8 = (m3 94 58) := p8_m3
            have p9_m3 : (m3 94 45).toInt = sm (zbU (m3 99)) (m 102) 3100 := p9_m3
            have f28 : 0 ≤ (m3 94 58).toInt ∧ (m3 94 58).toInt ≤ 1 := rs_94_58 (m := (zov wr_223 (zov wr_222 (ma_u m 94 0 (0 : Int32)) m1) m3)) hV_m3
            have f29 : 0 ≤ (m3 94 56).toInt ∧ (m3 94 56).toInt ≤ 3100 := rs_94_56 (m := (zov wr_223 (zov wr_222 (ma_u m 94 0 (0 : Int32)) m1) m3)) hV_m3
            have b30 := i_bd v2
            exact K (v2) _ (zF_zov (zF_zov (zF_u zF_rfl rfl) ws_222_257) ws_223_257) hV_m3 r_W p0_m3 p1_m3 p2_m3 p3_m3 (show qRB (m3 99) (m 100) (m 98) (m 101) (m 102) (m 103) (m 107) (m 108) (m3 109) (m3 111) (m 112) (m3 113) (m3 114) (m3 94 55) (m 94 46) (m 94 11) (m 94 12) (m 94 62) (m 94 17) (m 94 9) (xSp aa nn) from by first | (rw [Go_1 (by omega) (by omega) (fun w => absurd (r_MK.symm.trans w) (i_nz2 (by omega)))]; exact p5_m3; done) | (exfalso; omega; done) | (exfalso; contradiction; done)) (show qI (xSp aa nn) from by first | (rw [Go_1 (by omega) (by omega) (fun w => absurd (r_MK.symm.trans w) (i_nz2 (by omega)))]; exact p6_m3; done) | (exfalso; omega; done) | (exfalso; contradiction; done)) (show qMG (m3 94 58) (m3 106) (m3 115) (m1 94 57) (m3 94 56) (m3 99) (m 100) (xSp aa nn) from by first | (rw [Go_1 (by omega) (by omega) (fun w => absurd (r_MK.symm.trans w) (i_nz2 (by omega)))]; exact p7_m3; done) | (exfalso; omega; done) | (exfalso; contradiction; done)) (show (xSp aa nn) 87 8 = (m3 94 58) from by first | (rw [Go_1 (by omega) (by omega) (fun w => absurd (r_MK.symm.trans w) (i_nz2 (by omega)))]; exact p8_m3; done) | (exfalso; omega; done) | (exfalso; contradiction; done)) p9_m3 (show qSt aa nn (0 : Int32) v2 from by first | (exact Or.inr ⟨⟨by omega, by omega⟩, by decide, (qE p6_m1).trans (aGv_1 (fun w => absurd (r_MK.symm.trans w) (i_nz2 (by omega)))).symm⟩) | (exfalso; omega; done) | (exfalso; contradiction; done))
        · skip
          have g31 := i_ne h16
          exfalso; omega
    · skip
      have g32 := i_nle h10
      have hV33 : zV (ma_u m 94 0 (1 : Int32)) := uf_94_0 hV
      exact K ((0 : Int32)) _ (zF_u zF_rfl rfl) hV33 r_W r_GW r_GU r_OW r_GG (show qRB (m 99) (m 100) (m 98) (m 101) (m 102) (m 103) (m 107) (m 108) (m 109) (m 111) (m 112) (m 113) (m 114) (m 94 55) (m 94 46) (m 94 11) (m 94 12) (m 94 62) (m 94 17) (m 94 9) (xSp aa nn) from by first | (unfold xSp; rw [qIf_n (by omega)]; exact r_RB; done) | (rw [Go_0 (by omega) (by omega) (r_MK.trans (i_zer (by omega)))]; exact r_RB; done) | (exfalso; omega; done) | (exfalso; contradiction; done)) (show qI (xSp aa nn) from by first | (unfold xSp; rw [qIf_n (by omega)]; exact r_QI; done) | (rw [Go_0 (by omega) (by omega) (r_MK.trans (i_zer (by omega)))]; exact r_QI; done) | (exfalso; omega; done) | (exfalso; contradiction; done)) (show qMG (m 94 58) (m 106) (m 115) (m 94 57) (m 94 56) (m 99) (m 100) (xSp aa nn) from by first | (unfold xSp; rw [qIf_n (by omega)]; exact r_MG; done) | (rw [Go_0 (by omega) (by omega) (r_MK.trans (i_zer (by omega)))]; exact r_MG; done) | (exfalso; omega; done) | (exfalso; contradiction; done)) (show (xSp aa nn) 87 8 = (m 94 58) from by first | (unfold xSp; rw [qIf_n (by omega)]; exact r_MK; done) | (rw [Go_0 (by omega) (by omega) (r_MK.trans (i_zer (by omega)))]; exact r_MK; done) | (exfalso; omega; done) | (exfalso; contradiction; done)) r_WTS (show qSt aa nn (1 : Int32) (0 : Int32) from by first | (exact Or.inl ⟨by omega, by decide⟩) | (exact Or.inr ⟨⟨by omega, by omega⟩, by decide, (aGv_0 (r_MK.trans (i_zer (by omega)))).symm⟩) | (exfalso; omega; done) | (exfalso; contradiction; done))

/-! from 95.h30 -/
/-! the reference by numbers (written by wip/tools/gen18r.py) -/
section QY
variable {aa a b : Nat → Nat → Int32} {us nr kr kd ws at₉ ho wd wi ow rt wk wl wl₉ kp co gr : Nat → Int32} {wm wm₉ nu ro fo le ra pi y x z i j ga gm r s v mk o t ks : Int32} {n k u : Nat} {m m2 : Nat → Nat → Int32} {l : Int}
/-! strong -/
theorem St_of : zOf a (aSt a y) := by
  unfold aSt
  split
  · exact cm_of
  · exact Of_rf
theorem St_y (h : a 87 8 ≠ 0) : aSt a y = aCm a y := if_pos h
theorem St_push (hR : qRB us nr kr kd ws at₉ ho wd wi ow rt wk wl wm nu ro fo le ra pi a) (hG : qMQ (m 106) (m2 115) ga gm us nr a ∧ qMI a) (h8 : a 87 8 ≠ 0) (u : qU us s) (h0 : 0 ≤ s.toInt) (hw : m 106 s.toNatClampNeg = 0) : qMQ (ma_u m 106 s.toNatClampNeg 1 106) (ma_u m2 115 gm.toNatClampNeg s 115) ga (gm + 1) us nr (aSt a (qNo nr s)) ∧ qMI (aSt a (qNo nr s)) := by
  rw [St_y h8]
  have q := U_y u h0
  exact ⟨MQ_push hG.1 hR.1 h0 q.1 q.2 hw rfl, MI_cm hG.2 hG.1.2.2.2.2⟩
theorem St_skip (hG : qMQ co gr ga gm us nr a ∧ qMI a) (h8 : a 87 8 ≠ 0) (u : qU us s) (hw : co s.toNatClampNeg ≠ 0) : qMQ co gr ga gm us nr (aSt a (qNo nr s)) ∧ qMI (aSt a (qNo nr s)) := by
  rw [St_y h8, MQ_sk hG.1 u (Or.inr hw)]
  exact hG
theorem MS_st (hR : qRB us nr kr kd ws at₉ ho wd wi ow rt wk wl wm nu ro fo le ra pi a) (hG : qMG mk co gr ga gm us nr a) (hK : a 87 8 = mk) (u : qU us s) (h0 : 0 ≤ s.toInt) : qMS mk (aSt a (qNo nr s)) (qNo nr s) := fun z _ => Or.inr (by
  have q := U_y u h0
  have hs := tn_lt h0 q.1
  have t := hR.1.1 _ hs q.2
  rw [St_y (by rw [hK]; exact fun w => z (by rw [w]; rfl)), No_y h0]
  exact zM_in ((Nn_cm (hG z).1.2.2.2.2).mpr (Or.inr ⟨t.1.1, t.1.2, rfl, R1_al hR.1 hs q.2⟩)))
theorem Sg_y (hR : qRB us nr kr kd ws at₉ ho wd wi ow rt wk wl wm nu ro fo le ra pi a) (hi : 0 ≤ i.toInt) (hi2 : i.toInt ≤ 15) (hr : 0 ≤ r.toInt) (hr2 : r.toInt ≤ 15) (h0 : 0 ≤ (wk i.toNatClampNeg).toInt) : ySg a i r = aRt (aSt a (qNo nr (wk i.toNatClampNeg))) r (qNo nr (wk i.toNatClampNeg)) := by
  have c := tn_cast hi
  have q := hR.2.2.2.1 i.toNatClampNeg (by omega)
  have u := U_y q.1 h0
  have t := hR.1.1 _ (tn_lt h0 u.1) u.2
  rw [← q.2]
  refine qIf_y ⟨⟨hi, hi2⟩, ⟨hr, hr2⟩, ?_⟩
  rw [q.2, Nm_no hR.1 q.1, No_y h0]
  intro w
  have := t.1.1
  rw [w] at this
  exact absurd this (by decide)
theorem Sg_n (hR : qRB us nr kr kd ws at₉ ho wd wi ow rt wk wl wm nu ro fo le ra pi a) (hi : 0 ≤ i.toInt) (hi2 : i.toInt ≤ 15) (h0 : (wk i.toNatClampNeg).toInt < 0) : ySg a i r = a := by
  have c := tn_cast hi
  have q := hR.2.2.2.1 i.toNatClampNeg (by omega)
  refine qIf_n (fun w => w.2.2 ?_)
  rw [q.2, Nm_no hR.1 q.1, No_n h0]
theorem Sg_x (h : (i.toInt < 0 ∨ 16 ≤ i.toInt) ∨ (r.toInt < 0 ∨ 16 ≤ r.toInt)) : ySg a i r = a := qIf_n (fun w => by
  have w1 := w.1.1
  have w2 := w.1.2
  have w3 := w.2.1.1
  have w4 := w.2.1.2
  omega)
/-! granted -/
def qSh (wl0 wl : Nat → Int32) (l : Int) : Prop := ∀ k : Nat, wl k = (if (k : Int) < l then wl0 (k + 1) else wl0 k)
theorem Sh_0 (h : l ≤ 0) : qSh wl wl l := fun k => by rw [if_neg (by omega)]
theorem Sh_s {l₉ : Int} (h : qSh wl (m 114) i.toInt) (h0 : 0 ≤ i.toInt) (e : l₉ = i.toInt + 1) (hj : j.toInt = i.toInt + 1) : qSh wl (ma_u m 114 i.toNatClampNeg (m 114 j.toNatClampNeg) 114) l₉ := by
  intro k
  have c := tn_cast h0
  have cj := tn_cast (x := j) (by omega)
  by_cases w : k = i.toNatClampNeg
  · rw [w, mu_self, h j.toNatClampNeg, if_neg (by omega), if_pos (by omega), show j.toNatClampNeg = i.toNatClampNeg + 1 by omega]
  · rw [mu_ne w, h k]
    by_cases w2 : (k : Int) < i.toInt
    · rw [if_pos w2, if_pos (by omega)]
    · rw [if_neg w2, if_neg (by omega)]
theorem Tw_r (h : 0 < (a 69 5).toInt) : aTw a 69 5 = a 69 5 - 1 ∧ (∀ k : Nat, (k : Int) < (a 69 5).toInt - 1 → aTw a 74 k = a 74 (k + 1)) ∧ (∀ c, c ≠ 69 → c ≠ 74 → aTw a c = a c) ∧ aTw a 69 6 = a 69 6 ∧ aTw a 69 8 = a 69 8 ∧ aTy a = a 74 0 := by
  unfold aTw aTy
  rw [if_pos h, if_pos h]
  refine ⟨?_, fun k hk => ?_, fun c h1 h2 => ?_, ?_, ?_, rfl⟩
  · unfold zSh
    rw [if_neg (by omega), xu_s]
  · unfold zSh
    rw [if_pos ⟨rfl, hk⟩, xu_o (by omega)]
  · funext k
    unfold zSh
    rw [if_neg (fun w => h2 w.1), xu_o (fun w => h1 w.1)]
  · unfold zSh
    rw [if_neg (by omega), xu_o (by omega)]
  · unfold zSh
    rw [if_neg (by omega), xu_o (by omega)]
theorem RB_tw (hR : qRB us nr kr kd ws at₉ ho wd wi ow rt wk wl wm nu ro fo le ra pi a) (h : 0 < wm.toInt) (hs : qSh wl wl₉ l) (hl : l = wm.toInt - 1) (e : wm₉ = wm - 1) : qRB us nr kr kd ws at₉ ho wd wi ow rt wk wl₉ wm₉ nu ro fo le ra pi (aTw a) := by
  have w5 := hR.2.2.2.2.1.1
  have t := Tw_r (a := a) (by rw [w5]; exact h)
  have bd := i_bd wm
  have e1 : (wm - 1).toInt = wm.toInt - 1 := i_subk rfl (by omega) (by omega)
  rw [w5] at t
  have cc := t.2.2.1
  refine ⟨R1_cg hR.1 (cc 126 (by decide) (by decide)) (cc 128 (by decide) (by decide)) (cc 130 (by decide) (by decide)) (cc 133 (by decide) (by decide)), R2_cg hR.2.1 (fun n => cc (1000 + n) (by omega) (by omega)) (cc 130 (by decide) (by decide)) (cc 71 (by decide) (by decide)), R3_cg hR.2.2.1 (cc 72 (by decide) (by decide)), R3_cg hR.2.2.2.1 (cc 73 (by decide) (by decide)), ⟨by rw [t.1, e], fun k hk => ?_⟩, R6_cg hR.2.2.2.2.2.1 (cc 134 (by decide) (by decide)), hR.2.2.2.2.2.2.1, R8_cg hR.2.2.2.2.2.2.2 t.2.2.2.1 (cc 87 (by decide) (by decide))⟩
  rw [e, e1] at hk
  rw [hs k, if_pos (by omega), t.2.1 k hk]
  exact hR.2.2.2.2.1.2 (k + 1) (by omega)
theorem I_tw (h : qI a) (h5 : 0 < (a 69 5).toInt) : qI (aTw a) := by
  have t := Tw_r h5
  have cc := t.2.2.1
  have al : xAl (aTw a) = xAl a := by
    funext n
    unfold xAl
    rw [cc 126 (by decide) (by decide)]
  have su := Su_cg (a := aTw a) (b := a) (cc 126 (by decide) (by decide)) (cc 128 (by decide) (by decide)) 512
  have bd := i_bd (a 69 5)
  have e1 : (a 69 5 - 1).toInt = (a 69 5).toInt - 1 := i_subk rfl (by omega) (by omega)
  obtain ⟨h1, h2, h3, h4, h6, h7⟩ := h
  have i5 := h4.2.1
  have e8 : qI6 (aTw a) := fun n hn k => by
    rw [cc (1000 + n) (by omega) (by omega)]
    exact h7 n (by rw [← al]; exact hn) k
  unfold qI qI1 qI2 qI3 qI4 qGd at *
  rw [al, su, cc 128 (by decide) (by decide), cc 130 (by decide) (by decide), cc 71 (by decide) (by decide), cc 87 (by decide) (by decide), t.2.2.2.1, t.2.2.2.2.1, t.1, e1]
  exact ⟨h1, h2, h3, ⟨h4.1, ⟨by omega, by omega⟩, h4.2.2⟩, h6, e8⟩
theorem Ed_tw (h5 : 0 < (a 69 5).toInt) : zEd (aTw a) = zEd a := by
  have cc := (Tw_r h5).2.2.1
  exact Ed_cg (cc 126 (by decide) (by decide)) (cc 128 (by decide) (by decide)) (fun n i => rf_cg (cc (1000 + n) (by omega) (by omega)) (cc 130 (by decide) (by decide)) (cc 71 (by decide) (by decide)))
theorem MG_tw (h : qMG mk co gr ga gm us nr a) (h5 : 0 < (a 69 5).toInt) : qMG mk co gr ga gm us nr (aTw a) := fun z => by
  have t := Tw_r h5
  have cc := t.2.2.1
  have bd := i_bd (a 69 5)
  have e1 : (a 69 5 - 1).toInt = (a 69 5).toInt - 1 := i_subk rfl (by omega) (by omega)
  refine ⟨?_, MI_cg (h z).2 (cc 77 (by decide) (by decide)) (Ed_tw h5) (cc 126 (by decide) (by decide)) (by rw [cc 87 (by decide) (by decide)]) (fun _ u hu => Or.inl ?_)⟩
  · obtain ⟨q1, q2, q3, q4, q5⟩ := (h z).1
    have w := WQ_cg q5 (cc 75 (by decide) (by decide)).symm (cc 76 (by decide) (by decide)).symm (cc 77 (by decide) (by decide)).symm (cc 126 (by decide) (by decide)).symm (cc 130 (by decide) (by decide)).symm
    unfold qMQ
    rw [cc 75 (by decide) (by decide), cc 76 (by decide) (by decide), cc 77 (by decide) (by decide)]
    exact ⟨q1, q2, q3, q4, w⟩
  · unfold zRt zRl zWl zHl xAl at hu ⊢
    rw [cc 126 (by decide) (by decide), cc 72 (by decide) (by decide), cc 133 (by decide) (by decide), t.1, e1, t.2.2.2.1] at hu
    refine ⟨hu.1, hu.2.imp id (fun w => w.imp (fun ⟨j, j1, j2⟩ => ⟨j + 1, by omega, ?_⟩) id)⟩
    rw [← t.2.1 j j1]
    exact j2
theorem MS_tw (hR : qRB us nr kr kd ws at₉ ho wd wi ow rt wk wl wm nu ro fo le ra pi a) (h : qMG mk co gr ga gm us nr a) (h5 : 0 < wm.toInt) (e : y = qNo nr (wl 0)) : qMS mk (aTw a) y := fun z h7 => Or.inr (by
  have w5 := hR.2.2.2.2.1
  have h50 : 0 < (a 69 5).toInt := by rw [w5.1]; exact h5
  have t := Tw_r h50
  have cc := t.2.2.1
  rw [cc 87 (by decide) (by decide)] at h7
  have q := ((h z).2.2 h7).1
  have p := w5.2 0 (by omega)
  have hs := tn_lt p.1.1 p.1.2.1
  have k := Mk_cg (a := a) (b := aTw a) (cc 77 (by decide) (by decide)) (Ed_tw h50)
  rw [k.1, e, No_y p.1.1]
  refine q _ ⟨R1_al hR.1 hs p.1.2.2, Or.inr (Or.inl ⟨0, by omega, ?_⟩)⟩
  rw [p.2, R1_of_nr hR.1 hs p.1.2.2])
theorem Gr_0 (hR : qRB us nr kr kd ws at₉ ho wd wi ow rt wk wl wm nu ro fo le ra pi a) (h : wm = 0) : xGr a r = a := by
  have w5 := hR.2.2.2.2.1.1
  have e : ¬ 0 < (a 69 5).toInt := by
    rw [w5, h]
    decide
  have t : aTy a = -1 := if_neg e
  have w : aTw a = a := if_neg e
  unfold xGr
  by_cases z : zSl r
  · rw [qIf_y z, qIf_y (by rw [t]; exact if_neg (fun w => absurd w.1 (by decide))), w]
  · rw [qIf_n z]
theorem Gr_y (hR : qRB us nr kr kd ws at₉ ho wd wi ow rt wk wl wm nu ro fo le ra pi a) (h : 0 < wm.toInt) (hr : 0 ≤ r.toInt) (hr2 : r.toInt ≤ 15) : xGr a r = aRt (aTw a) r (qNo nr (wl 0)) := by
  have w5 := hR.2.2.2.2.1
  have t := Tw_r (a := a) (by rw [w5.1]; exact h)
  have p := w5.2 0 (by omega)
  have hs := tn_lt p.1.1 p.1.2.1
  have q := hR.1.1 _ hs p.1.2.2
  have ty : aTy a = qNo nr (wl 0) := by
    rw [t.2.2.2.2.2, p.2, No_y p.1.1]
  unfold xGr
  rw [qIf_y ⟨hr, hr2⟩, ty, qIf_n]
  rw [Nm_no hR.1 (Or.inr ⟨p.1.2.1, p.1.2.2⟩), No_y p.1.1]
  intro w
  have := q.1.1
  rw [w] at this
  exact absurd this (by decide)
/-! a kind -/
theorem RB_kd (hR : qRB us nr (m 98) kd ws at₉ ho wd wi ow rt wk wl wm nu ro fo le ra pi a) (hW : zW ks (m 98) kd ws wd) (hk : (k : Int) = ks.toInt) (hd : ∀ s, s < 3100 → 0 ≤ (kd s).toInt) : qRB us nr (ma_u m 98 k x 98) kd ws at₉ ho wd wi ow rt wk wl wm nu ro fo le ra pi a := by
  refine ⟨hR.1, fun s hs hu i hi => ?_, hR.2.2⟩
  have q := hR.2.1 s hs hu i hi
  rw [zrf_kind hW hk hd s i hs hi]
  refine ⟨q.1, q.2.1, q.2.2.trans ?_⟩
  unfold qIr
  by_cases h16 : kd s = 16
  · exact ⟨fun _ => Or.inl h16, fun _ => Or.inl h16⟩
  · by_cases hl : (kd s).toInt < ks.toInt
    · have hn : (kd s).toNatClampNeg ≠ k := by
        rw [tn_eq]
        have := hd s hs
        omega
      rw [mu_ne hn]
    · have h3 : ¬ kd s < 16 := fun z => by
        have z2 := Int32.lt_iff_toInt_lt.mp z
        have z3 : (16 : Int32).toInt = 16 := rfl
        rcases (hW s hs).2 with q | q | q <;> omega
      exact ⟨fun w => w.elim Or.inl (fun w2 => absurd w2.1 h3), fun w => w.elim Or.inl (fun w2 => absurd w2.1 h3)⟩
end QY

/-! from 95.h31 -/
/-! the reference by numbers (written by wip/tools/gen18r.py) -/
theorem sp_252r {X : Nat × (Nat → Int32)} {P : Option ma_V → (Nat → Nat → Int32) → Prop} {T : Nat} {aa : Nat→Nat→Int32} {m : Nat → Nat → Int32} (ix : Int32) (r1 : Int32) (hV : zV m) (hpre0 : T ≤ 512) (r_W : zW (m 94 7) (m 98) (m 101) (m 102) (m 108)) (r_GW : zGW T (m 94 55) (m 109)) (r_GU : zGU T (m 94 46) (m 99)) (r_OW : zOw (m 99) (m 103) (m 111)) (r_GG : zGG (m 94 58) (m 94 56) (m 94 57) (m 106)) (hpre6 : (m 94 10).toInt = 5) (hpre7 : (m 94 8).toInt = 1) (r_RB : qRB (m 99) (m 100) (m 98) (m 101) (m 102) (m 103) (m 107) (m 108) (m 109) (m 111) (m 112) (m 113) (m 114) (m 94 55) (m 94 46) (m 94 11) (m 94 12) (m 94 62) (m 94 17) (m 94 9) aa) (r_QI : qI aa) (r_MG : qMG (m 94 58) (m 106) (m 115) (m 94 57) (m 94 56) (m 99) (m 100) aa) (r_MK : aa 87 8 = (m 94 58)) (r_WTS : (m 94 45).toInt = sm (zbU (m 99)) (m 102) 3100) (KZ : ∀ v m₉, zV (zov wr_252 m m₉) → (zW (m 94 7) (m 98) (m 101) (m 102) (m 108)) → (zGW T (m₉ 94 55) (m₉ 109)) → (zGU T (m 94 46) (m₉ 99)) → (zOw (m₉ 99) (m 103) (m₉ 111)) → (zGG (m 94 58) (m₉ 94 56) (m 94 57) (m₉ 106)) → (qRB (m₉ 99) (m 100) (m 98) (m 101) (m 102) (m 103) (m 107) (m 108) (m₉ 109) (m₉ 111) (m₉ 112) (m₉ 113) (m₉ 114) (m₉ 94 55) (m 94 46) (m 94 11) (m 94 12) (m 94 62) (m 94 17) (m 94 9) (ySg aa ix r1)) → (qI (ySg aa ix r1)) → (qMG (m 94 58) (m₉ 106) (m₉ 115) (m 94 57) (m₉ 94 56) (m₉ 99) (m 100) (ySg aa ix r1)) → ((ySg aa ix r1) 87 8 = (m 94 58)) → ((m₉ 94 45).toInt = sm (zbU (m₉ 99)) (m 102) 3100) → P (some (.inl v)) (zov wr_252 m m₉)) : zm X 5 111 252 0 [(0, .inr (.inr (some 94))), (1, .inl ix), (2, .inl r1)] m P := by
  have K : ∀ v m₉, zF wr_252 m m₉ → zV m₉ → (zW (m₉ 94 7) (m₉ 98) (m₉ 101) (m₉ 102) (m₉ 108)) → (zGW T (m₉ 94 55) (m₉ 109)) → (zGU T (m₉ 94 46) (m₉ 99)) → (zOw (m₉ 99) (m₉ 103) (m₉ 111)) → (zGG (m₉ 94 58) (m₉ 94 56) (m₉ 94 57) (m₉ 106)) → (qRB (m₉ 99) (m₉ 100) (m₉ 98) (m₉ 101) (m₉ 102) (m₉ 103) (m₉ 107) (m₉ 108) (m₉ 109) (m₉ 111) (m₉ 112) (m₉ 113) (m₉ 114) (m₉ 94 55) (m₉ 94 46) (m₉ 94 11) (m₉ 94 12) (m₉ 94 62) (m₉ 94 17) (m₉ 94 9) (ySg aa ix r1)) → (qI (ySg aa ix r1)) → (qMG (m₉ 94 58) (m₉ 106) (m₉ 115) (m₉ 94 57) (m₉ 94 56) (m₉ 99) (m₉ 100) (ySg aa ix r1)) → ((ySg aa ix r1) 87 8 = (m₉ 94 58)) → ((m₉ 94 45).toInt = sm (zbU (m₉ 99)) (m₉ 102) 3100) → P (some (.inl v)) m₉ := by
    intro v m₉ hf z q0 q1 q2 q3 q4 q5 q6 q7 q8 q9
    have e := zov_eq hf
    rw [e] at z ⊢
    try rw [e] at q0
    try rw [e] at q1
    try rw [e] at q2
    try rw [e] at q3
    try rw [e] at q4
    try rw [e] at q5
    try rw [e] at q6
    try rw [e] at q7
    try rw [e] at q8
    try rw [e] at q9
    exact KZ v m₉ z q0 q1 q2 q3 q4 q5 q6 q7 q8 q9
  refine g_252_0 ix r1 ?_
  have f1 : 0 ≤ (m 94 10).toInt ∧ (m 94 10).toInt ≤ 6 := rs_94_10 (m := m) hV
  have f2 : 0 ≤ (m 94 8).toInt ∧ (m 94 8).toInt ≤ 1 := rs_94_8 (m := m) hV
  have b3 := i_bd ix
  have li4 : (0 : Int32).toInt = 0 := rfl
  refine zd (fun (h5 : ix < (0 : Int32)) => ?_) (fun (h5 : ¬ ix < (0 : Int32)) => ?_)
  · skip
    have g6 := i_lt h5
    have hV7 : zV (ma_u m 94 0 (1 : Int32)) := uf_94_0 hV
    exact K ((0 : Int32)) _ (zF_u zF_rfl rfl) hV7 r_W r_GW r_GU r_OW r_GG (show qRB (m 99) (m 100) (m 98) (m 101) (m 102) (m 103) (m 107) (m 108) (m 109) (m 111) (m 112) (m 113) (m 114) (m 94 55) (m 94 46) (m 94 11) (m 94 12) (m 94 62) (m 94 17) (m 94 9) (ySg aa ix r1) from by first | (rw [Sg_n r_RB (by omega) (by omega) (by omega)]; exact r_RB; done) | (rw [Sg_x (by omega)]; exact r_RB; done) | (exfalso; omega; done) | (exfalso; contradiction; done)) (show qI (ySg aa ix r1) from by first | (rw [Sg_n r_RB (by omega) (by omega) (by omega)]; exact r_QI; done) | (rw [Sg_x (by omega)]; exact r_QI; done) | (exfalso; omega; done) | (exfalso; contradiction; done)) (show qMG (m 94 58) (m 106) (m 115) (m 94 57) (m 94 56) (m 99) (m 100) (ySg aa ix r1) from by first | (rw [Sg_n r_RB (by omega) (by omega) (by omega)]; exact r_MG; done) | (rw [Sg_x (by omega)]; exact r_MG; done) | (exfalso; omega; done) | (exfalso; contradiction; done)) (show (ySg aa ix r1) 87 8 = (m 94 58) from by first | (rw [Sg_n r_RB (by omega) (by omega) (by omega)]; exact r_MK; done) | (rw [Sg_x (by omega)]; exact r_MK; done) | (exfalso; omega; done) | (exfalso; contradiction; done)) r_WTS
  · skip
    have g8 := i_nlt h5
    have li9 : (16 : Int32).toInt = 16 := rfl
    refine zd (fun (h10 : (16 : Int32) ≤ ix) => ?_) (fun (h10 : ¬ (16 : Int32) ≤ ix) => ?_)
    · skip
      have g11 := i_le h10
      have hV12 : zV (ma_u m 94 0 (1 : Int32)) := uf_94_0 hV
      exact K ((0 : Int32)) _ (zF_u zF_rfl rfl) hV12 r_W r_GW r_GU r_OW r_GG (show qRB (m 99) (m 100) (m 98) (m 101) (m 102) (m 103) (m 107) (m 108) (m 109) (m 111) (m 112) (m 113) (m 114) (m 94 55) (m 94 46) (m 94 11) (m 94 12) (m 94 62) (m 94 17) (m 94 9) (ySg aa ix r1) from by first | (rw [Sg_n r_RB (by omega) (by omega) (by omega)]; exact r_RB; done) | (rw [Sg_x (by omega)]; exact r_RB; done) | (exfalso; omega; done) | (exfalso; contradiction; done)) (show qI (ySg aa ix r1) from by first | (rw [Sg_n r_RB (by omega) (by omega) (by omega)]; exact r_QI; done) | (rw [Sg_x (by omega)]; exact r_QI; done) | (exfalso; omega; done) | (exfalso; contradiction; done)) (show qMG (m 94 58) (m 106) (m 115) (m 94 57) (m 94 56) (m 99) (m 100) (ySg aa ix r1) from by first | (rw [Sg_n r_RB (by omega) (by omega) (by omega)]; exact r_MG; done) | (rw [Sg_x (by omega)]; exact r_MG; done) | (exfalso; omega; done) | (exfalso; contradiction; done)) (show (ySg aa ix r1) 87 8 = (m 94 58) from by first | (rw [Sg_n r_RB (by omega) (by omega) (by omega)]; exact r_MK; done) | (rw [Sg_x (by omega)]; exact r_MK; done) | (exfalso; omega; done) | (exfalso; contradiction; done)) r_WTS
    · skip
      have g13 := i_nle h10
      have b14 := i_bd r1
      refine zd (fun (h15 : r1 < (0 : Int32)) => ?_) (fun (h15 : ¬ r1 < (0 : Int32)) => ?_)
      · skip
        have g16 := i_lt h15
        have hV17 : zV (ma_u m 94 0 (1 : Int32)) := uf_94_0 hV
        exact K ((0 : Int32)) _ (zF_u zF_rfl rfl) hV17 r_W r_GW r_GU r_OW r_GG (show qRB (m 99) (m 100) (m 98) (m 101) (m 102) (m 103) (m 107) (m 108) (m 109) (m 111) (m 112) (m 113) (m 114) (m 94 55) (m 94 46) (m 94 11) (m 94 12) (m 94 62) (m 94 17) (m 94 9) (ySg aa ix r1) from by first | (rw [Sg_n r_RB (by omega) (by omega) (by omega)]; exact r_RB; done) | (rw [Sg_x (by omega)]; exact r_RB; done) | (exfalso; omega; done) | (exfalso; contradiction; done)) (show qI (ySg aa ix r1) from by first | (rw [Sg_n r_RB (by omega) (by omega) (by omega)]; exact r_QI; done) | (rw [Sg_x (by omega)]; exact r_QI; done) | (exfalso; omega; done) | (exfalso; contradiction; done)) (show qMG (m 94 58) (m 106) (m 115) (m 94 57) (m 94 56) (m 99) (m 100) (ySg aa ix r1) from by first | (rw [Sg_n r_RB (by omega) (by omega) (by omega)]; exact r_MG; done) | (rw [Sg_x (by omega)]; exact r_MG; done) | (exfalso; omega; done) | (exfalso; contradiction; done)) (show (ySg aa ix r1) 87 8 = (m 94 58) from by first | (rw [Sg_n r_RB (by omega) (by omega) (by omega)]; exact r_MK; done) | (rw [Sg_x (by omega)]; exact r_MK; done) | (exfalso; omega; done) | (exfalso; contradiction; done)) r_WTS
      · skip
        have g18 := i_nlt h15
        refine zd (fun (h19 : (16 : Int32) ≤ r1) => ?_) (fun (h19 : ¬ (16 : Int32) ≤ r1) => ?_)
        · skip
          have g20 := i_le h19
          have hV21 : zV (ma_u m 94 0 (1 : Int32)) := uf_94_0 hV
          exact K ((0 : Int32)) _ (zF_u zF_rfl rfl) hV21 r_W r_GW r_GU r_OW r_GG (show qRB (m 99) (m 100) (m 98) (m 101) (m 102) (m 103) (m 107) (m 108) (m 109) (m 111) (m 112) (m 113) (m 114) (m 94 55) (m 94 46) (m 94 11) (m 94 12) (m 94 62) (m 94 17) (m 94 9) (ySg aa ix r1) from by first | (rw [Sg_n r_RB (by omega) (by omega) (by omega)]; exact r_RB; done) | (rw [Sg_x (by omega)]; exact r_RB; done) | (exfalso; omega; done) | (exfalso; contradiction; done)) (show qI (ySg aa ix r1) from by first | (rw [Sg_n r_RB (by omega) (by omega) (by omega)]; exact r_QI; done) | (rw [Sg_x (by omega)]; exact r_QI; done) | (exfalso; omega; done) | (exfalso; contradiction; done)) (show qMG (m 94 58) (m 106) (m 115) (m 94 57) (m 94 56) (m 99) (m 100) (ySg aa ix r1) from by first | (rw [Sg_n r_RB (by omega) (by omega) (by omega)]; exact r_MG; done) | (rw [Sg_x (by omega)]; exact r_MG; done) | (exfalso; omega; done) | (exfalso; contradiction; done)) (show (ySg aa ix r1) 87 8 = (m 94 58) from by first | (rw [Sg_n r_RB (by omega) (by omega) (by omega)]; exact r_MK; done) | (rw [Sg_x (by omega)]; exact r_MK; done) | (exfalso; omega; done) | (exfalso; contradiction; done)) r_WTS
        · skip
          have g22 := i_nle h19
          refine zd (fun (h23 : (m 94 8) = (0 : Int32)) => ?_) (fun (h23 : ¬ (m 94 8) = (0 : Int32)) => ?_)
          · skip
            have g24 := i_eq h23
            exfalso; omega
          · skip
            have g25 := i_ne h23
            have hg26 : (0 ≤ ix ∧ ix.toNatClampNeg < 16) := i_ix (by omega) (by omega)
            refine ⟨hg26, ?_⟩
            first | have f27 : -1 ≤ (m 113 ix.toNatClampNeg).toInt ∧ (m 113 ix.toNatClampNeg).toInt ≤ 3099 := ra_113 (m := m) hV (k := ix.toNatClampNeg) (i_ix (n := 16) (by omega) (by omega)).2 | have b28 := i_bd (m 113 ix.toNatClampNeg)
            refine zd (fun (h29 : (0 : Int32) ≤ (m 113 ix.toNatClampNeg)) => ?_) (fun (h29 : ¬ (0 : Int32) ≤ (m 113 ix.toNatClampNeg)) => ?_)
            · skip
              have g30 := i_le h29
              have f31 : 0 ≤ (m 94 58).toInt ∧ (m 94 58).toInt ≤ 1 := rs_94_58 (m := m) hV
              refine zd (fun (h32 : (m 94 58) = (0 : Int32)) => ?_) (fun (h32 : ¬ (m 94 58) = (0 : Int32)) => ?_)
              · skip
                have g33 := i_eq h32
                have hV34 : zV (ma_u m 94 0 (0 : Int32)) := uf_94_0 hV
                refine sp_238r (aa := (aSt aa (qNo (m 100) (m 113 ix.toNatClampNeg)))) (r1) ((m 113 ix.toNatClampNeg)) hV34 (by omega) (by omega) (by omega) (by omega) (show (m 94 10).toInt = 5 from by omega) r_W r_GW r_GU r_OW r_GG (show qRB (m 99) (m 100) (m 98) (m 101) (m 102) (m 103) (m 107) (m 108) (m 109) (m 111) (m 112) (m 113) (m 114) (m 94 55) (m 94 46) (m 94 11) (m 94 12) (m 94 62) (m 94 17) (m 94 9) (aSt aa (qNo (m 100) (m 113 ix.toNatClampNeg))) from by first | (exact RB_of r_RB St_of) | (exfalso; omega; done) | (exfalso; contradiction; done)) (show qI (aSt aa (qNo (m 100) (m 113 ix.toNatClampNeg))) from by first | (exact qI_of r_QI St_of) | (exfalso; omega; done) | (exfalso; contradiction; done)) (show qMG (m 94 58) (m 106) (m 115) (m 94 57) (m 94 56) (m 99) (m 100) (aSt aa (qNo (m 100) (m 113 ix.toNatClampNeg))) from by first | (exact fun z => absurd (by omega) z) | (exact fun z => St_skip (r_MG z) (fun w => absurd (r_MK.symm.trans w) (i_nz2 (by omega))) (r_RB.2.2.2.1 ix.toNatClampNeg (by omega)).1 (by assumption)) | (exfalso; omega; done) | (exfalso; contradiction; done)) (show (aSt aa (qNo (m 100) (m 113 ix.toNatClampNeg))) 87 8 = (m 94 58) from by first | (exact (St_of 87 8 (by decide) (by decide) (by decide)).symm.trans r_MK) | (exfalso; omega; done) | (exfalso; contradiction; done)) r_WTS (show qU (m 99) (m 113 ix.toNatClampNeg) from by first | (exact (r_RB.2.2.2.1 ix.toNatClampNeg (by omega)).1) | (assumption; done) | (exact ow5.1) | (exact ow3.1) | (exfalso; omega; done) | (exfalso; contradiction; done)) (show qMS (m 94 58) (aSt aa (qNo (m 100) (m 113 ix.toNatClampNeg))) (qNo (m 100) (m 113 ix.toNatClampNeg)) from by first | (exact MS_st r_RB r_MG r_MK (r_RB.2.2.2.1 ix.toNatClampNeg (by omega)).1 (by omega)) | (exfalso; omega; done) | (exfalso; contradiction; done)) (fun m1 hV_m1 p0_m1 p1_m1 p2_m1 p3_m1 p4_m1 p5_m1 p6_m1 p7_m1 p8_m1 => zmv_n ?_)
                have p0_m1 : zGW T (m1 94 55) (m1 109) := p0_m1
                have p1_m1 : zGU T (m 94 46) (m1 99) := p1_m1
                have p2_m1 : zOw (m1 99) (m 103) (m1 111) := p2_m1
                have p3_m1 : zGG (m 94 58) (m1 94 56) (m 94 57) (m1 106) := p3_m1
                have p4_m1 : qRB (m1 99) (m 100) (m 98) (m 101) (m 102) (m 103) (m 107) (m 108) (m1 109) (m1 111) (m1 112) (m1 113) (m1 114) (m1 94 55) (m 94 46) (m 94 11) (m 94 12) (m 94 62) (m 94 17) (m 94 9) (aRt (aSt aa (qNo (m 100) (m 113 ix.toNatClampNeg))) r1 (qNo (m 100) (m 113 ix.toNatClampNeg))) := p4_m1
                have p5_m1 : qI (aRt (aSt aa (qNo (m 100) (m 113 ix.toNatClampNeg))) r1 (qNo (m 100) (m 113 ix.toNatClampNeg))) := p5_m1
                have p6_m1 : qMG (m 94 58) (m1 106) (m1 115) (m 94 57) (m1 94 56) (m1 99) (m 100) (aRt (aSt aa (qNo (m 100) (m 113 ix.toNatClampNeg))) r1 (qNo (m 100) (m 113 ix.toNatClampNeg))) := p6_m1
                have p7_m1 : (aRt (aSt aa (qNo (m 100) (m 113 ix.toNatClampNeg))) r1 (qNo (m 100) (m 113 ix.toNatClampNeg))) 87 8 = (m 94 58) := p7_m1
                have p8_m1 : (m1 94 45).toInt = sm (zbU (m1 99)) (m 102) 3100 := p8_m1
                have hg35 : (0 ≤ (m 113 ix.toNatClampNeg) ∧ (m 113 ix.toNatClampNeg).toNatClampNeg < 3100) := i_ix (by omega) (by omega)
                refine ⟨hg35, ?_⟩
                first | have f36 : 0 ≤ (m 100 (m 113 ix.toNatClampNeg).toNatClampNeg).toInt ∧ (m 100 (m 113 ix.toNatClampNeg).toNatClampNeg).toInt ≤ 100000 := ra_100 (m := m) hV (k := (m 113 ix.toNatClampNeg).toNatClampNeg) (i_ix (n := 3100) (by omega) (by omega)).2 | have b37 := i_bd (m 100 (m 113 ix.toNatClampNeg).toNatClampNeg)
                exact K ((m 100 (m 113 ix.toNatClampNeg).toNatClampNeg)) _ (zF_zov (zF_u zF_rfl rfl) ws_238_252) hV_m1 r_W p0_m1 p1_m1 p2_m1 p3_m1 (show qRB (m1 99) (m 100) (m 98) (m 101) (m 102) (m 103) (m 107) (m 108) (m1 109) (m1 111) (m1 112) (m1 113) (m1 114) (m1 94 55) (m 94 46) (m 94 11) (m 94 12) (m 94 62) (m 94 17) (m 94 9) (ySg aa ix r1) from by first | (rw [Sg_y r_RB (by omega) (by omega) (by omega) (by omega) (by omega)]; exact p4_m1; done) | (exfalso; omega; done) | (exfalso; contradiction; done)) (show qI (ySg aa ix r1) from by first | (rw [Sg_y r_RB (by omega) (by omega) (by omega) (by omega) (by omega)]; exact p5_m1; done) | (exfalso; omega; done) | (exfalso; contradiction; done)) (show qMG (m 94 58) (m1 106) (m1 115) (m 94 57) (m1 94 56) (m1 99) (m 100) (ySg aa ix r1) from by first | (rw [Sg_y r_RB (by omega) (by omega) (by omega) (by omega) (by omega)]; exact p6_m1; done) | (exfalso; omega; done) | (exfalso; contradiction; done)) (show (ySg aa ix r1) 87 8 = (m 94 58) from by first | (rw [Sg_y r_RB (by omega) (by omega) (by omega) (by omega) (by omega)]; exact p7_m1; done) | (exfalso; omega; done) | (exfalso; contradiction; done)) p8_m1
              · skip
                have g38 := i_ne h32
                refine zd (fun (h39 : (m 113 ix.toNatClampNeg) < (0 : Int32)) => ?_) (fun (h39 : ¬ (m 113 ix.toNatClampNeg) < (0 : Int32)) => ?_)
                · skip
                  have g40 := i_lt h39
                  have hV41 : zV (ma_u m 94 0 (0 : Int32)) := uf_94_0 hV
                  refine sp_238r (aa := (aSt aa (qNo (m 100) (m 113 ix.toNatClampNeg)))) (r1) ((m 113 ix.toNatClampNeg)) hV41 (by omega) (by omega) (by omega) (by omega) (show (m 94 10).toInt = 5 from by omega) r_W r_GW r_GU r_OW r_GG (show qRB (m 99) (m 100) (m 98) (m 101) (m 102) (m 103) (m 107) (m 108) (m 109) (m 111) (m 112) (m 113) (m 114) (m 94 55) (m 94 46) (m 94 11) (m 94 12) (m 94 62) (m 94 17) (m 94 9) (aSt aa (qNo (m 100) (m 113 ix.toNatClampNeg))) from by first | (exact RB_of r_RB St_of) | (exfalso; omega; done) | (exfalso; contradiction; done)) (show qI (aSt aa (qNo (m 100) (m 113 ix.toNatClampNeg))) from by first | (exact qI_of r_QI St_of) | (exfalso; omega; done) | (exfalso; contradiction; done)) (show qMG (m 94 58) (m 106) (m 115) (m 94 57) (m 94 56) (m 99) (m 100) (aSt aa (qNo (m 100) (m 113 ix.toNatClampNeg))) from by first | (exact fun z => absurd (by omega) z) | (exact fun z => St_skip (r_MG z) (fun w => absurd (r_MK.symm.trans w) (i_nz2 (by omega))) (r_RB.2.2.2.1 ix.toNatClampNeg (by omega)).1 (by assumption)) | (exfalso; omega; done) | (exfalso; contradiction; done)) (show (aSt aa (qNo (m 100) (m 113 ix.toNatClampNeg))) 87 8 = (m 94 58) from by first | (exact (St_of 87 8 (by decide) (by decide) (by decide)).symm.trans r_MK) | (exfalso; omega; done) | (exfalso; contradiction; done)) r_WTS (show qU (m 99) (m 113 ix.toNatClampNeg) from by first | (exact (r_RB.2.2.2.1 ix.toNatClampNeg (by omega)).1) | (assumption; done) | (exact ow5.1) | (exact ow3.1) | (exfalso; omega; done) | (exfalso; contradiction; done)) (show qMS (m 94 58) (aSt aa (qNo (m 100) (m 113 ix.toNatClampNeg))) (qNo (m 100) (m 113 ix.toNatClampNeg)) from by first | (exact MS_st r_RB r_MG r_MK (r_RB.2.2.2.1 ix.toNatClampNeg (by omega)).1 (by omega)) | (exfalso; omega; done) | (exfalso; contradiction; done)) (fun m3 hV_m3 p0_m3 p1_m3 p2_m3 p3_m3 p4_m3 p5_m3 p6_m3 p7_m3 p8_m3 => zmv_n ?_)
                  have p0_m3 : zGW T (m3 94 55) (m3 109) := p0_m3
                  have p1_m3 : zGU T (m 94 46) (m3 99) := p1_m3
                  have p2_m3 : zOw (m3 99) (m 103) (m3 111) := p2_m3
                  have p3_m3 : zGG (m 94 58) (m3 94 56) (m 94 57) (m3 106) := p3_m3
                  have p4_m3 : qRB (m3 99) (m 100) (m 98) (m 101) (m 102) (m 103) (m 107) (m 108) (m3 109) (m3 111) (m3 112) (m3 113) (m3 114) (m3 94 55) (m 94 46) (m 94 11) (m 94 12) (m 94 62) (m 94 17) (m 94 9) (aRt (aSt aa (qNo (m 100) (m 113 ix.toNatClampNeg))) r1 (qNo (m 100) (m 113 ix.toNatClampNeg))) := p4_m3
                  have p5_m3 : qI (aRt (aSt aa (qNo (m 100) (m 113 ix.toNatClampNeg))) r1 (qNo (m 100) (m 113 ix.toNatClampNeg))) := p5_m3
                  have p6_m3 : qMG (m 94 58) (m3 106) (m3 115) (m 94 57) (m3 94 56) (m3 99) (m 100) (aRt (aSt aa (qNo (m 100) (m 113 ix.toNatClampNeg))) r1 (qNo (m 100) (m 113 ix.toNatClampNeg))) := p6_m3
                  have p7_m3 : (aRt (aSt aa (qNo (m 100) (m 113 ix.toNatClampNeg))) r1 (qNo (m 100) (m 113 ix.toNatClampNeg))) 87 8 = (m 94 58) := p7_m3
                  have p8_m3 : (m3 94 45).toInt = sm (zbU (m3 99)) (m 102) 3100 := p8_m3
                  have hg42 : (0 ≤ (m 113 ix.toNatClampNeg) ∧ (m 113 ix.toNatClampNeg).toNatClampNeg < 3100) := i_ix (by omega) (by omega)
                  refine ⟨hg42, ?_⟩
                  first | have f43 : 0 ≤ (m 100 (m 113 ix.toNatClampNeg).toNatClampNeg).toInt ∧ (m 100 (m 113 ix.toNatClampNeg).toNatClampNeg).toInt ≤ 100000 := ra_100 (m := m) hV (k := (m 113 ix.toNatClampNeg).toNatClampNeg) (i_ix (n := 3100) (by omega) (by omega)).2 | have b44 := i_bd (m 100 (m 113 ix.toNatClampNeg).toNatClampNeg)
                  exact K ((m 100 (m 113 ix.toNatClampNeg).toNatClampNeg)) _ (zF_zov (zF_u zF_rfl rfl) ws_238_252) hV_m3 r_W p0_m3 p1_m3 p2_m3 p3_m3 (show qRB (m3 99) (m 100) (m 98) (m 101) (m 102) (m 103) (m 107) (m 108) (m3 109) (m3 111) (m3 112) (m3 113) (m3 114) (m3 94 55) (m 94 46) (m 94 11) (m 94 12) (m 94 62) (m 94 17) (m 94 9) (ySg aa ix r1) from by first | (rw [Sg_y r_RB (by omega) (by omega) (by omega) (by omega) (by omega)]; exact p4_m3; done) | (exfalso; omega; done) | (exfalso; contradiction; done)) (show qI (ySg aa ix r1) from by first | (rw [Sg_y r_RB (by omega) (by omega) (by omega) (by omega) (by omega)]; exact p5_m3; done) | (exfalso; omega; done) | (exfalso; contradiction; done)) (show qMG (m 94 58) (m3 106) (m3 115) (m 94 57) (m3 94 56) (m3 99) (m 100) (ySg aa ix r1) from by first | (rw [Sg_y r_RB (by omega) (by omega) (by omega) (by omega) (by omega)]; exact p6_m3; done) | (exfalso; omega; done) | (exfalso; contradiction; done)) (show (ySg aa ix r1) 87 8 = (m 94 58) from by first | (rw [Sg_y r_RB (by omega) (by omega) (by omega) (by omega) (by omega)]; exact p7_m3; done) | (exfalso; omega; done) | (exfalso; contradiction; done)) p8_m3
                · skip
                  have g45 := i_nlt h39
                  have hg46 : (0 ≤ (m 113 ix.toNatClampNeg) ∧ (m 113 ix.toNatClampNeg).toNatClampNeg < 3100) := i_ix (by omega) (by omega)
                  refine ⟨hg46, ?_⟩
                  have b47 := i_bd (m 106 (m 113 ix.toNatClampNeg).toNatClampNeg)
                  refine zd (fun (h48 : (m 106 (m 113 ix.toNatClampNeg).toNatClampNeg) = (0 : Int32)) => ?_) (fun (h48 : ¬ (m 106 (m 113 ix.toNatClampNeg).toNatClampNeg) = (0 : Int32)) => ?_)
                  · skip
                    have g49 := i_eq h48
                    have hg50 : (0 ≤ (m 113 ix.toNatClampNeg) ∧ (m 113 ix.toNatClampNeg).toNatClampNeg < 3100) := i_ix (by omega) (by omega)
                    refine ⟨hg50, ?_⟩
                    have f51 : 0 ≤ (m 94 56).toInt ∧ (m 94 56).toInt ≤ 3100 := rs_94_56 (m := m) hV
                    try have gk := G1_room (r_GG (by omega)) (by assumption) (by omega)
                    have hg52 : (0 ≤ (m 94 56) ∧ (m 94 56).toNatClampNeg < 3100) := i_ix (by omega) (by omega)
                    refine ⟨hg52, ?_⟩
                    have hV53 : zV (ma_u m 94 0 (0 : Int32)) := uf_94_0 hV
                    have hV54 : zV (ma_u (ma_u m 94 0 (0 : Int32)) 106 (m 113 ix.toNatClampNeg).toNatClampNeg (1 : Int32)) := ua_106 hV53
                    have hV55 : zV (ma_u (ma_u (ma_u m 94 0 (0 : Int32)) 106 (m 113 ix.toNatClampNeg).toNatClampNeg (1 : Int32)) 115 (m 94 56).toNatClampNeg (m 113 ix.toNatClampNeg)) := ua_115 hV54 (by omega) (by omega)
                    first | have e57 : ((m 94 56) + (1 : Int32)).toInt = (m 94 56).toInt + (1) := i_addk rfl (by omega) (by omega) | have b58 := i_bd ((m 94 56) + (1 : Int32))
                    have hV56 : zV (ma_u (ma_u (ma_u (ma_u m 94 0 (0 : Int32)) 106 (m 113 ix.toNatClampNeg).toNatClampNeg (1 : Int32)) 115 (m 94 56).toNatClampNeg (m 113 ix.toNatClampNeg)) 94 56 ((m 94 56) + (1 : Int32))) := us_94_56 hV55 (by omega) (by omega)
                    refine sp_238r (aa := (aSt aa (qNo (m 100) (m 113 ix.toNatClampNeg)))) (r1) ((m 113 ix.toNatClampNeg)) hV56 (by omega) (by omega) (by omega) (by omega) (show (m 94 10).toInt = 5 from by omega) r_W r_GW r_GU r_OW (show zGG (m 94 58) ((m 94 56) + (1 : Int32)) (m 94 57) ((ma_u m 106 (m 113 ix.toNatClampNeg).toNatClampNeg (1 : Int32)) 106) from by first | (exact fun z => G1_push (r_GG z) (by assumption) (by omega) (by decide) (by assumption)) | (exact r_GG) | (exact fun z => absurd z (by decide)) | (exact fun z => absurd z (by omega)) | (exfalso; omega; done) | (exfalso; contradiction; done)) (show qRB (m 99) (m 100) (m 98) (m 101) (m 102) (m 103) (m 107) (m 108) (m 109) (m 111) (m 112) (m 113) (m 114) (m 94 55) (m 94 46) (m 94 11) (m 94 12) (m 94 62) (m 94 17) (m 94 9) (aSt aa (qNo (m 100) (m 113 ix.toNatClampNeg))) from by first | (exact RB_of r_RB St_of) | (exfalso; omega; done) | (exfalso; contradiction; done)) (show qI (aSt aa (qNo (m 100) (m 113 ix.toNatClampNeg))) from by first | (exact qI_of r_QI St_of) | (exfalso; omega; done) | (exfalso; contradiction; done)) (show qMG (m 94 58) ((ma_u m 106 (m 113 ix.toNatClampNeg).toNatClampNeg (1 : Int32)) 106) ((ma_u m 115 (m 94 56).toNatClampNeg (m 113 ix.toNatClampNeg)) 115) (m 94 57) ((m 94 56) + (1 : Int32)) (m 99) (m 100) (aSt aa (qNo (m 100) (m 113 ix.toNatClampNeg))) from by first | (exact fun z => St_push r_RB (r_MG z) (fun w => absurd (r_MK.symm.trans w) (i_nz2 (by omega))) (r_RB.2.2.2.1 ix.toNatClampNeg (by omega)).1 (by omega) (by assumption)) | (exfalso; omega; done) | (exfalso; contradiction; done)) (show (aSt aa (qNo (m 100) (m 113 ix.toNatClampNeg))) 87 8 = (m 94 58) from by first | (exact (St_of 87 8 (by decide) (by decide) (by decide)).symm.trans r_MK) | (exfalso; omega; done) | (exfalso; contradiction; done)) r_WTS (show qU (m 99) (m 113 ix.toNatClampNeg) from by first | (exact (r_RB.2.2.2.1 ix.toNatClampNeg (by omega)).1) | (assumption; done) | (exact ow5.1) | (exact ow3.1) | (exfalso; omega; done) | (exfalso; contradiction; done)) (show qMS (m 94 58) (aSt aa (qNo (m 100) (m 113 ix.toNatClampNeg))) (qNo (m 100) (m 113 ix.toNatClampNeg)) from by first | (exact MS_st r_RB r_MG r_MK (r_RB.2.2.2.1 ix.toNatClampNeg (by omega)).1 (by omega)) | (exfalso; omega; done) | (exfalso; contradiction; done)) (fun m5 hV_m5 p0_m5 p1_m5 p2_m5 p3_m5 p4_m5 p5_m5 p6_m5 p7_m5 p8_m5 => zmv_n ?_)
                    have p0_m5 : zGW T (m5 94 55) (m5 109) := p0_m5
                    have p1_m5 : zGU T (m 94 46) (m5 99) := p1_m5
                    have p2_m5 : zOw (m5 99) (m 103) (m5 111) := p2_m5
                    have p3_m5 : zGG (m 94 58) (m5 94 56) (m 94 57) (m5 106) := p3_m5
                    have p4_m5 : qRB (m5 99) (m 100) (m 98) (m 101) (m 102) (m 103) (m 107) (m 108) (m5 109) (m5 111) (m5 112) (m5 113) (m5 114) (m5 94 55) (m 94 46) (m 94 11) (m 94 12) (m 94 62) (m 94 17) (m 94 9) (aRt (aSt aa (qNo (m 100) (m 113 ix.toNatClampNeg))) r1 (qNo (m 100) (m 113 ix.toNatClampNeg))) := p4_m5
                    have p5_m5 : qI (aRt (aSt aa (qNo (m 100) (m 113 ix.toNatClampNeg))) r1 (qNo (m 100) (m 113 ix.toNatClampNeg))) := p5_m5
                    have p6_m5 : qMG (m 94 58) (m5 106) (m5 115) (m 94 57) (m5 94 56) (m5 99) (m 100) (aRt (aSt aa (qNo (m 100) (m 113 ix.toNatClampNeg))) r1 (qNo (m 100) (m 113 ix.toNatClampNeg))) := p6_m5
                    have p7_m5 : (aRt (aSt aa (qNo (m 100) (m 113 ix.toNatClampNeg))) r1 (qNo (m 100) (m 113 ix.toNatClampNeg))) 87 8 = (m 94 58) := p7_m5
                    have p8_m5 : (m5 94 45).toInt = sm (zbU (m5 99)) (m 102) 3100 := p8_m5
                    have hg59 : (0 ≤ (m 113 ix.toNatClampNeg) ∧ (m 113 ix.toNatClampNeg).toNatClampNeg < 3100) := i_ix (by omega) (by omega)
                    refine ⟨hg59, ?_⟩
                    first | have f60 : 0 ≤ (m 100 (m 113 ix.toNatClampNeg).toNatClampNeg).toInt ∧ (m 100 (m 113 ix.toNatClampNeg).toNatClampNeg).toInt ≤ 100000 := ra_100 (m := m) hV (k := (m 113 ix.toNatClampNeg).toNatClampNeg) (i_ix (n := 3100) (by omega) (by omega)).2 | have b61 := i_bd (m 100 (m 113 ix.toNatClampNeg).toNatClampNeg)
                    exact K ((m 100 (m 113 ix.toNatClampNeg).toNatClampNeg)) _ (zF_zov (zF_u (zF_u (zF_u (zF_u zF_rfl rfl) rfl) rfl) rfl) ws_238_252) hV_m5 r_W p0_m5 p1_m5 p2_m5 p3_m5 (show qRB (m5 99) (m 100) (m 98) (m 101) (m 102) (m 103) (m 107) (m 108) (m5 109) (m5 111) (m5 112) (m5 113) (m5 114) (m5 94 55) (m 94 46) (m 94 11) (m 94 12) (m 94 62) (m 94 17) (m 94 9) (ySg aa ix r1) from by first | (rw [Sg_y r_RB (by omega) (by omega) (by omega) (by omega) (by omega)]; exact p4_m5; done) | (exfalso; omega; done) | (exfalso; contradiction; done)) (show qI (ySg aa ix r1) from by first | (rw [Sg_y r_RB (by omega) (by omega) (by omega) (by omega) (by omega)]; exact p5_m5; done) | (exfalso; omega; done) | (exfalso; contradiction; done)) (show qMG (m 94 58) (m5 106) (m5 115) (m 94 57) (m5 94 56) (m5 99) (m 100) (ySg aa ix r1) from by first | (rw [Sg_y r_RB (by omega) (by omega) (by omega) (by omega) (by omega)]; exact p6_m5; done) | (exfalso; omega; done) | (exfalso; contradiction; done)) (show (ySg aa ix r1) 87 8 = (m 94 58) from by first | (rw [Sg_y r_RB (by omega) (by omega) (by omega) (by omega) (by omega)]; exact p7_m5; done) | (exfalso; omega; done) | (exfalso; contradiction; done)) p8_m5
                  · skip
                    have g62 := i_ne h48
                    have hV63 : zV (ma_u m 94 0 (0 : Int32)) := uf_94_0 hV
                    refine sp_238r (aa := (aSt aa (qNo (m 100) (m 113 ix.toNatClampNeg)))) (r1) ((m 113 ix.toNatClampNeg)) hV63 (by omega) (by omega) (by omega) (by omega) (show (m 94 10).toInt = 5 from by omega) r_W r_GW r_GU r_OW r_GG (show qRB (m 99) (m 100) (m 98) (m 101) (m 102) (m 103) (m 107) (m 108) (m 109) (m 111) (m 112) (m 113) (m 114) (m 94 55) (m 94 46) (m 94 11) (m 94 12) (m 94 62) (m 94 17) (m 94 9) (aSt aa (qNo (m 100) (m 113 ix.toNatClampNeg))) from by first | (exact RB_of r_RB St_of) | (exfalso; omega; done) | (exfalso; contradiction; done)) (show qI (aSt aa (qNo (m 100) (m 113 ix.toNatClampNeg))) from by first | (exact qI_of r_QI St_of) | (exfalso; omega; done) | (exfalso; contradiction; done)) (show qMG (m 94 58) (m 106) (m 115) (m 94 57) (m 94 56) (m 99) (m 100) (aSt aa (qNo (m 100) (m 113 ix.toNatClampNeg))) from by first | (exact fun z => absurd (by omega) z) | (exact fun z => St_skip (r_MG z) (fun w => absurd (r_MK.symm.trans w) (i_nz2 (by omega))) (r_RB.2.2.2.1 ix.toNatClampNeg (by omega)).1 (by assumption)) | (exfalso; omega; done) | (exfalso; contradiction; done)) (show (aSt aa (qNo (m 100) (m 113 ix.toNatClampNeg))) 87 8 = (m 94 58) from by first | (exact (St_of 87 8 (by decide) (by decide) (by decide)).symm.trans r_MK) | (exfalso; omega; done) | (exfalso; contradiction; done)) r_WTS (show qU (m 99) (m 113 ix.toNatClampNeg) from by first | (exact (r_RB.2.2.2.1 ix.toNatClampNeg (by omega)).1) | (assumption; done) | (exact ow5.1) | (exact ow3.1) | (exfalso; omega; done) | (exfalso; contradiction; done)) (show qMS (m 94 58) (aSt aa (qNo (m 100) (m 113 ix.toNatClampNeg))) (qNo (m 100) (m 113 ix.toNatClampNeg)) from by first | (exact MS_st r_RB r_MG r_MK (r_RB.2.2.2.1 ix.toNatClampNeg (by omega)).1 (by omega)) | (exfalso; omega; done) | (exfalso; contradiction; done)) (fun m7 hV_m7 p0_m7 p1_m7 p2_m7 p3_m7 p4_m7 p5_m7 p6_m7 p7_m7 p8_m7 => zmv_n ?_)
                    have p0_m7 : zGW T (m7 94 55) (m7 109) := p0_m7
                    have p1_m7 : zGU T (m 94 46) (m7 99) := p1_m7
                    have p2_m7 : zOw (m7 99) (m 103) (m7 111) := p2_m7
                    have p3_m7 : zGG (m 94 58) (m7 94 56) (m 94 57) (m7 106) := p3_m7
                    have p4_m7 : qRB (m7 99) (m 100) (m 98) (m 101) (m 102) (m 103) (m 107) (m 108) (m7 109) (m7 111) (m7 112) (m7 113) (m7 114) (m7 94 55) (m 94 46) (m 94 11) (m 94 12) (m 94 62) (m 94 17) (m 94 9) (aRt (aSt aa (qNo (m 100) (m 113 ix.toNatClampNeg))) r1 (qNo (m 100) (m 113 ix.toNatClampNeg))) := p4_m7
                    have p5_m7 : qI (aRt (aSt aa (qNo (m 100) (m 113 ix.toNatClampNeg))) r1 (qNo (m 100) (m 113 ix.toNatClampNeg))) := p5_m7
                    have p6_m7 : qMG (m 94 58) (m7 106) (m7 115) (m 94 57) (m7 94 56) (m7 99) (m 100) (aRt (aSt aa (qNo (m 100) (m 113 ix.toNatClampNeg))) r1 (qNo (m 100) (m 113 ix.toNatClampNeg))) := p6_m7
                    have p7_m7 : (aRt (aSt aa (qNo (m 100) (m 113 ix.toNatClampNeg))) r1 (qNo (m 100) (m 113 ix.toNatClampNeg))) 87 8 = (m 94 58) := p7_m7
                    have p8_m7 : (m7 94 45).toInt = sm (zbU (m7 99)) (m 102) 3100 := p8_m7
                    have hg64 : (0 ≤ (m 113 ix.toNatClampNeg) ∧ (m 113 ix.toNatClampNeg).toNatClampNeg < 3100) := i_ix (by omega) (by omega)
                    refine ⟨hg64, ?_⟩
                    first | have f65 : 0 ≤ (m 100 (m 113 ix.toNatClampNeg).toNatClampNeg).toInt ∧ (m 100 (m 113 ix.toNatClampNeg).toNatClampNeg).toInt ≤ 100000 := ra_100 (m := m) hV (k := (m 113 ix.toNatClampNeg).toNatClampNeg) (i_ix (n := 3100) (by omega) (by omega)).2 | have b66 := i_bd (m 100 (m 113 ix.toNatClampNeg).toNatClampNeg)
                    exact K ((m 100 (m 113 ix.toNatClampNeg).toNatClampNeg)) _ (zF_zov (zF_u zF_rfl rfl) ws_238_252) hV_m7 r_W p0_m7 p1_m7 p2_m7 p3_m7 (show qRB (m7 99) (m 100) (m 98) (m 101) (m 102) (m 103) (m 107) (m 108) (m7 109) (m7 111) (m7 112) (m7 113) (m7 114) (m7 94 55) (m 94 46) (m 94 11) (m 94 12) (m 94 62) (m 94 17) (m 94 9) (ySg aa ix r1) from by first | (rw [Sg_y r_RB (by omega) (by omega) (by omega) (by omega) (by omega)]; exact p4_m7; done) | (exfalso; omega; done) | (exfalso; contradiction; done)) (show qI (ySg aa ix r1) from by first | (rw [Sg_y r_RB (by omega) (by omega) (by omega) (by omega) (by omega)]; exact p5_m7; done) | (exfalso; omega; done) | (exfalso; contradiction; done)) (show qMG (m 94 58) (m7 106) (m7 115) (m 94 57) (m7 94 56) (m7 99) (m 100) (ySg aa ix r1) from by first | (rw [Sg_y r_RB (by omega) (by omega) (by omega) (by omega) (by omega)]; exact p6_m7; done) | (exfalso; omega; done) | (exfalso; contradiction; done)) (show (ySg aa ix r1) 87 8 = (m 94 58) from by first | (rw [Sg_y r_RB (by omega) (by omega) (by omega) (by omega) (by omega)]; exact p7_m7; done) | (exfalso; omega; done) | (exfalso; contradiction; done)) p8_m7
            · skip
              have g67 := i_nle h29
              have hV68 : zV (ma_u m 94 0 (0 : Int32)) := uf_94_0 hV
              have li69 : (-1 : Int32).toInt = -1 := rfl
              exact K ((-1 : Int32)) _ (zF_u zF_rfl rfl) hV68 r_W r_GW r_GU r_OW r_GG (show qRB (m 99) (m 100) (m 98) (m 101) (m 102) (m 103) (m 107) (m 108) (m 109) (m 111) (m 112) (m 113) (m 114) (m 94 55) (m 94 46) (m 94 11) (m 94 12) (m 94 62) (m 94 17) (m 94 9) (ySg aa ix r1) from by first | (rw [Sg_n r_RB (by omega) (by omega) (by omega)]; exact r_RB; done) | (rw [Sg_x (by omega)]; exact r_RB; done) | (exfalso; omega; done) | (exfalso; contradiction; done)) (show qI (ySg aa ix r1) from by first | (rw [Sg_n r_RB (by omega) (by omega) (by omega)]; exact r_QI; done) | (rw [Sg_x (by omega)]; exact r_QI; done) | (exfalso; omega; done) | (exfalso; contradiction; done)) (show qMG (m 94 58) (m 106) (m 115) (m 94 57) (m 94 56) (m 99) (m 100) (ySg aa ix r1) from by first | (rw [Sg_n r_RB (by omega) (by omega) (by omega)]; exact r_MG; done) | (rw [Sg_x (by omega)]; exact r_MG; done) | (exfalso; omega; done) | (exfalso; contradiction; done)) (show (ySg aa ix r1) 87 8 = (m 94 58) from by first | (rw [Sg_n r_RB (by omega) (by omega) (by omega)]; exact r_MK; done) | (rw [Sg_x (by omega)]; exact r_MK; done) | (exfalso; omega; done) | (exfalso; contradiction; done)) r_WTS

/-! from 95.h32 -/
/-! the reference by numbers (written by wip/tools/gen18r.py) -/
theorem lp_255r_61 {X : Nat × (Nat → Int32)} {P : Option ma_V → (Nat → Nat → Int32) → Prop} {T : Nat} {aa : Nat→Nat→Int32} {r1 : Int32} {m0 : Nat → Nat → Int32} (h0 : zV m0) (K : ∀ v m₉, zF wr_255 m0 m₉ → zV m₉ → (zW (m₉ 94 7) (m₉ 98) (m₉ 101) (m₉ 102) (m₉ 108)) → (zGW T (m₉ 94 55) (m₉ 109)) → (zGU T (m₉ 94 46) (m₉ 99)) → (zOw (m₉ 99) (m₉ 103) (m₉ 111)) → (zGG (m₉ 94 58) (m₉ 94 56) (m₉ 94 57) (m₉ 106)) → (qRB (m₉ 99) (m₉ 100) (m₉ 98) (m₉ 101) (m₉ 102) (m₉ 103) (m₉ 107) (m₉ 108) (m₉ 109) (m₉ 111) (m₉ 112) (m₉ 113) (m₉ 114) (m₉ 94 55) (m₉ 94 46) (m₉ 94 11) (m₉ 94 12) (m₉ 94 62) (m₉ 94 17) (m₉ 94 9) (xGr aa r1)) → (qI (xGr aa r1)) → (qMG (m₉ 94 58) (m₉ 106) (m₉ 115) (m₉ 94 57) (m₉ 94 56) (m₉ 99) (m₉ 100) (xGr aa r1)) → ((xGr aa r1) 87 8 = (m₉ 94 58)) → ((m₉ 94 45).toInt = sm (zbU (m₉ 99)) (m₉ 102) 3100) → P (some (.inl v)) m₉) : ∀ (n : Nat) (m : Nat → Nat → Int32) (l1 : Int32) (l2 : Int32) (l3 : Int32), (3100 - l3.toInt).toNat = n → zF wr_255 m0 m → zV m → (0 ≤ l3.toInt) → (0 ≤ l1.toInt) → (l1.toInt ≤ 15) → (l1.toInt = r1.toInt) → (l1 = r1) → (0 ≤ l2.toInt) → (l2.toInt ≤ 3099) → (T ≤ 512) → (1 ≤ (m0 94 55).toInt) → ((m 94 55).toInt = (m0 94 55).toInt - 1) → (l3.toInt ≤ (m 94 55).toInt) → (zW (m 94 7) (m 98) (m 101) (m 102) (m 108)) → (zGW T (m 94 55) (m 109)) → (zGU T (m 94 46) (m 99)) → (zOw (m 99) (m 103) (m 111)) → (zGG (m 94 58) (m 94 56) (m 94 57) (m 106)) → ((m 94 10).toInt = 5) → ((m 94 8).toInt = 1) → (qRB (m 99) (m 100) (m 98) (m 101) (m 102) (m 103) (m 107) (m 108) (m 109) (m 111) (m 112) (m 113) (m0 114) (m0 94 55) (m 94 46) (m 94 11) (m 94 12) (m 94 62) (m 94 17) (m 94 9) aa) → (qI aa) → (qMG (m 94 58) (m 106) (m 115) (m 94 57) (m 94 56) (m 99) (m 100) aa) → (aa 87 8 = (m 94 58)) → ((m 94 45).toInt = sm (zbU (m 99)) (m 102) 3100) → (qSh (m0 114) (m 114) l3.toInt) → ((m 94 55) = (m0 94 55) - 1) → (l2 = (m0 114) 0) → zm X 5 111 255 61 [(0, .inr (.inr (some 94))), (1, .inl l1), (2, .inl l2), (3, .inl l3)] m P := by
  intro n
  induction n using Nat.strongRecOn with
  | _ n IH =>
    intro m l1 l2 l3 hmu hF hV hi0 hi1 hi2 hi3 r_R1e hi5 hi6 hi7 hi8 hi9 hi10 r_W r_GW r_GU r_OW r_GG hi16 hi17 r_RB0 r_QI r_MG r_MK r_WTS r_SHl r_WMe r_L2s
    refine g_255_61 l1 l2 l3 ?_
    have f1 : 0 ≤ (m0 94 55).toInt ∧ (m0 94 55).toInt ≤ 3100 := rs_94_55 (m := m0) h0
    have f2 : 0 ≤ (m 94 55).toInt ∧ (m 94 55).toInt ≤ 3100 := rs_94_55 (m := m) hV
    have f3 : 0 ≤ (m 94 10).toInt ∧ (m 94 10).toInt ≤ 6 := rs_94_10 (m := m) hV
    have f4 : 0 ≤ (m 94 8).toInt ∧ (m 94 8).toInt ≤ 1 := rs_94_8 (m := m) hV
    have b5 := i_bd l3
    refine zd (fun (h6 : (m 94 55) ≤ l3) => ?_) (fun (h6 : ¬ (m 94 55) ≤ l3) => ?_)
    · skip
      have g7 := i_le h6
      have b8 := i_bd l2
      have hg9 : (0 ≤ l2 ∧ l2.toNatClampNeg < 3100) := i_ix (by omega) (by omega)
      refine ⟨hg9, ?_⟩
      have b10 := i_bd l1
      refine sp_238r (aa := (aTw aa)) (l1) (l2) hV (by omega) (by omega) (by omega) (by omega) (show (m 94 10).toInt = 5 from by omega) r_W r_GW r_GU r_OW r_GG (show qRB (m 99) (m 100) (m 98) (m 101) (m 102) (m 103) (m 107) (m 108) (m 109) (m 111) (m 112) (m 113) (m 114) (m 94 55) (m 94 46) (m 94 11) (m 94 12) (m 94 62) (m 94 17) (m 94 9) (aTw aa) from by first | (exact RB_tw r_RB0 (by omega) r_SHl (by rw [congrArg Int32.toInt r_WMe] at *; omega) r_WMe) | (exact RB_tw r_RB0 (by omega) r_SHl (by omega) r_WMe) | (exfalso; omega; done) | (exfalso; contradiction; done)) (show qI (aTw aa) from by first | (exact I_tw r_QI (show 0 < (aa 69 5).toInt from by rw [r_RB0.2.2.2.2.1.1]; omega)) | (exfalso; omega; done) | (exfalso; contradiction; done)) (show qMG (m 94 58) (m 106) (m 115) (m 94 57) (m 94 56) (m 99) (m 100) (aTw aa) from by first | (exact MG_tw r_MG (show 0 < (aa 69 5).toInt from by rw [r_RB0.2.2.2.2.1.1]; omega)) | (exfalso; omega; done) | (exfalso; contradiction; done)) (show (aTw aa) 87 8 = (m 94 58) from by first | (rw [(Tw_r (show 0 < (aa 69 5).toInt from by rw [r_RB0.2.2.2.2.1.1]; omega)).2.2.1 87 (by decide) (by decide)]; exact r_MK; done) | (exfalso; omega; done) | (exfalso; contradiction; done)) r_WTS (show qU (m 99) l2 from by first | (rw [r_L2s]; exact Or.inr (r_RB0.2.2.2.2.1.2 0 (by omega)).1.2; done) | (assumption; done) | (exact ow5.1) | (exact ow3.1) | (exfalso; omega; done) | (exfalso; contradiction; done)) (show qMS (m 94 58) (aTw aa) (qNo (m 100) l2) from by first | (rw [r_L2s]; exact MS_tw r_RB0 r_MG (by omega) rfl; done) | (exfalso; omega; done) | (exfalso; contradiction; done)) (fun m1 hV_m1 p0_m1 p1_m1 p2_m1 p3_m1 p4_m1 p5_m1 p6_m1 p7_m1 p8_m1 => zmv_n ?_)
      have p0_m1 : zGW T (m1 94 55) (m1 109) := p0_m1
      have p1_m1 : zGU T (m 94 46) (m1 99) := p1_m1
      have p2_m1 : zOw (m1 99) (m 103) (m1 111) := p2_m1
      have p3_m1 : zGG (m 94 58) (m1 94 56) (m 94 57) (m1 106) := p3_m1
      have p4_m1 : qRB (m1 99) (m 100) (m 98) (m 101) (m 102) (m 103) (m 107) (m 108) (m1 109) (m1 111) (m1 112) (m1 113) (m1 114) (m1 94 55) (m 94 46) (m 94 11) (m 94 12) (m 94 62) (m 94 17) (m 94 9) (aRt (aTw aa) l1 (qNo (m 100) l2)) := p4_m1
      have p5_m1 : qI (aRt (aTw aa) l1 (qNo (m 100) l2)) := p5_m1
      have p6_m1 : qMG (m 94 58) (m1 106) (m1 115) (m 94 57) (m1 94 56) (m1 99) (m 100) (aRt (aTw aa) l1 (qNo (m 100) l2)) := p6_m1
      have p7_m1 : (aRt (aTw aa) l1 (qNo (m 100) l2)) 87 8 = (m 94 58) := p7_m1
      have p8_m1 : (m1 94 45).toInt = sm (zbU (m1 99)) (m 102) 3100 := p8_m1
      refine sp_241r (l2) hV_m1 (show (m 94 10).toInt = 5 from by omega) (fun m3 hV_m3 p0_m3 => zmv_n ?_)
      have p0_m3 : (m3 99) = (m1 99) ∧ (m3 105) = (m1 105) ∧ (m3 109) = (m1 109) ∧ (m3 111) = (m1 111) ∧ (m3 113) = (m1 113) ∧ (m3 114) = (m1 114) ∧ (m3 94 55) = (m1 94 55) ∧ (m3 94 45) = (m1 94 45) := p0_m3
      try have rgb := rs_94_64 hV
      try have lel := LE_lo p0_m3
      try have lex3 := LE_ex p0_m3 (lexi (by omega))
      try have lexi := LE_some p0_m3
      first | have f11 : 0 ≤ (m 100 l2.toNatClampNeg).toInt ∧ (m 100 l2.toNatClampNeg).toInt ≤ 100000 := ra_100 (m := m) hV (k := l2.toNatClampNeg) (i_ix (n := 3100) (by omega) (by omega)).2 | have b12 := i_bd (m 100 l2.toNatClampNeg)
      exact K ((m 100 l2.toNatClampNeg)) _ (zF_zov (zF_zov hF ws_238_255) ws_241_255) hV_m3 r_W (show zGW T (m3 94 55) (m3 109) from by first | (rw [p0_m3.2.2.1, p0_m3.2.2.2.2.2.2.1]; exact p0_m1; done) | (exfalso; omega; done) | (exfalso; contradiction; done)) (show zGU T (m 94 46) (m3 99) from by first | (rw [p0_m3.1]; exact p1_m1; done) | (exact GU_0 p1_m1) | (exfalso; omega; done) | (exfalso; contradiction; done)) (show zOw (m3 99) (m 103) (m3 111) from by first | (rw [p0_m3.1, p0_m3.2.2.2.1]; exact p2_m1; done) | (exact Ow_rm p2_m1 (by decide) (tn_cast (by omega)).symm) | (exfalso; omega; done) | (exfalso; contradiction; done)) p3_m1 (show qRB (m3 99) (m 100) (m 98) (m 101) (m 102) (m 103) (m 107) (m 108) (m3 109) (m3 111) (m1 112) (m3 113) (m3 114) (m3 94 55) (m 94 46) (m 94 11) (m 94 12) (m 94 62) (m 94 17) (m 94 9) (xGr aa r1) from by first | (rw [Gr_y r_RB0 (by omega) (by omega) (by omega), ← r_L2s, ← r_R1e]; rw [p0_m3.1, p0_m3.2.2.1, p0_m3.2.2.2.1, p0_m3.2.2.2.2.1, p0_m3.2.2.2.2.2.1, p0_m3.2.2.2.2.2.2.1]; exact p4_m1; done) | (exfalso; omega; done) | (exfalso; contradiction; done)) (show qI (xGr aa r1) from by first | (rw [Gr_y r_RB0 (by omega) (by omega) (by omega), ← r_L2s, ← r_R1e]; exact p5_m1; done) | (exfalso; omega; done) | (exfalso; contradiction; done)) (show qMG (m 94 58) (m1 106) (m1 115) (m 94 57) (m1 94 56) (m3 99) (m 100) (xGr aa r1) from by first | (rw [Gr_y r_RB0 (by omega) (by omega) (by omega), ← r_L2s, ← r_R1e]; rw [p0_m3.1]; exact p6_m1; done) | (exfalso; omega; done) | (exfalso; contradiction; done)) (show (xGr aa r1) 87 8 = (m 94 58) from by first | (rw [Gr_y r_RB0 (by omega) (by omega) (by omega), ← r_L2s, ← r_R1e]; exact p7_m1; done) | (exfalso; omega; done) | (exfalso; contradiction; done)) (show (m3 94 45).toInt = sm (zbU (m3 99)) (m 102) 3100 from by first | (rw [p0_m3.1, p0_m3.2.2.2.2.2.2.2]; exact p8_m1; done) | (exfalso; omega; done) | (exfalso; contradiction; done))
    · skip
      have g13 := i_nle h6
      first | have e14 : (l3 + (1 : Int32)).toInt = l3.toInt + (1) := i_addk rfl (by omega) (by omega) | have b15 := i_bd (l3 + (1 : Int32))
      have hg16 : (0 ≤ (l3 + (1 : Int32)) ∧ (l3 + (1 : Int32)).toNatClampNeg < 3100) := i_ix (by omega) (by omega)
      refine ⟨hg16, ?_⟩
      have hg17 : (0 ≤ l3 ∧ l3.toNatClampNeg < 3100) := i_ix (by omega) (by omega)
      refine ⟨hg17, ?_⟩
      first | have f19 : 0 ≤ (m 114 (l3 + (1 : Int32)).toNatClampNeg).toInt ∧ (m 114 (l3 + (1 : Int32)).toNatClampNeg).toInt ≤ 3099 := ra_114 (m := m) hV (k := (l3 + (1 : Int32)).toNatClampNeg) (i_ix (n := 3100) (by omega) (by omega)).2 | have b20 := i_bd (m 114 (l3 + (1 : Int32)).toNatClampNeg)
      have hV18 : zV (ma_u m 114 l3.toNatClampNeg (m 114 (l3 + (1 : Int32)).toNatClampNeg)) := ua_114 hV (by omega) (by omega)
      have b21 := i_bd l1
      have b22 := i_bd l2
      exact IH (3100 - (l3 + (1 : Int32)).toInt).toNat (by omega) _ (l1) (l2) ((l3 + (1 : Int32))) rfl (zF_u hF rfl) hV18 (by omega) (by omega) (by omega) (by omega) r_R1e (by omega) (by omega) (by omega) (show 1 ≤ (m0 94 55).toInt from by omega) (show (m 94 55).toInt = (m0 94 55).toInt - 1 from by omega) (show (l3 + (1 : Int32)).toInt ≤ (m 94 55).toInt from by omega) r_W r_GW r_GU r_OW r_GG (show (m 94 10).toInt = 5 from by omega) (show (m 94 8).toInt = 1 from by omega) r_RB0 r_QI r_MG r_MK r_WTS (show qSh (m0 114) ((ma_u m 114 l3.toNatClampNeg (m 114 (l3 + (1 : Int32)).toNatClampNeg)) 114) (l3 + (1 : Int32)).toInt from by first | (exact Sh_s r_SHl (by omega) (by omega) (by omega)) | (exfalso; omega; done) | (exfalso; contradiction; done)) r_WMe r_L2s
theorem sp_255r {X : Nat × (Nat → Int32)} {P : Option ma_V → (Nat → Nat → Int32) → Prop} {T : Nat} {aa : Nat→Nat→Int32} {m : Nat → Nat → Int32} (r1 : Int32) (hV : zV m) (hpre0 : T ≤ 512) (r_W : zW (m 94 7) (m 98) (m 101) (m 102) (m 108)) (r_GW : zGW T (m 94 55) (m 109)) (r_GU : zGU T (m 94 46) (m 99)) (r_OW : zOw (m 99) (m 103) (m 111)) (r_GG : zGG (m 94 58) (m 94 56) (m 94 57) (m 106)) (hpre6 : (m 94 10).toInt = 5) (hpre7 : (m 94 8).toInt = 1) (r_RB : qRB (m 99) (m 100) (m 98) (m 101) (m 102) (m 103) (m 107) (m 108) (m 109) (m 111) (m 112) (m 113) (m 114) (m 94 55) (m 94 46) (m 94 11) (m 94 12) (m 94 62) (m 94 17) (m 94 9) aa) (r_QI : qI aa) (r_MG : qMG (m 94 58) (m 106) (m 115) (m 94 57) (m 94 56) (m 99) (m 100) aa) (r_MK : aa 87 8 = (m 94 58)) (r_WTS : (m 94 45).toInt = sm (zbU (m 99)) (m 102) 3100) (KZ : ∀ v m₉, zV (zov wr_255 m m₉) → (zW (m 94 7) (m 98) (m 101) (m 102) (m 108)) → (zGW T (m₉ 94 55) (m₉ 109)) → (zGU T (m 94 46) (m₉ 99)) → (zOw (m₉ 99) (m 103) (m₉ 111)) → (zGG (m 94 58) (m₉ 94 56) (m 94 57) (m₉ 106)) → (qRB (m₉ 99) (m 100) (m 98) (m 101) (m 102) (m 103) (m 107) (m 108) (m₉ 109) (m₉ 111) (m₉ 112) (m₉ 113) (m₉ 114) (m₉ 94 55) (m 94 46) (m 94 11) (m 94 12) (m 94 62) (m 94 17) (m 94 9) (xGr aa r1)) → (qI (xGr aa r1)) → (qMG (m 94 58) (m₉ 106) (m₉ 115) (m 94 57) (m₉ 94 56) (m₉ 99) (m 100) (xGr aa r1)) → ((xGr aa r1) 87 8 = (m 94 58)) → ((m₉ 94 45).toInt = sm (zbU (m₉ 99)) (m 102) 3100) → P (some (.inl v)) (zov wr_255 m m₉)) : zm X 5 111 255 0 [(0, .inr (.inr (some 94))), (1, .inl r1)] m P := by
  have K : ∀ v m₉, zF wr_255 m m₉ → zV m₉ → (zW (m₉ 94 7) (m₉ 98) (m₉ 101) (m₉ 102) (m₉ 108)) → (zGW T (m₉ 94 55) (m₉ 109)) → (zGU T (m₉ 94 46) (m₉ 99)) → (zOw (m₉ 99) (m₉ 103) (m₉ 111)) → (zGG (m₉ 94 58) (m₉ 94 56) (m₉ 94 57) (m₉ 106)) → (qRB (m₉ 99) (m₉ 100) (m₉ 98) (m₉ 101) (m₉ 102) (m₉ 103) (m₉ 107) (m₉ 108) (m₉ 109) (m₉ 111) (m₉ 112) (m₉ 113) (m₉ 114) (m₉ 94 55) (m₉ 94 46) (m₉ 94 11) (m₉ 94 12) (m₉ 94 62) (m₉ 94 17) (m₉ 94 9) (xGr aa r1)) → (qI (xGr aa r1)) → (qMG (m₉ 94 58) (m₉ 106) (m₉ 115) (m₉ 94 57) (m₉ 94 56) (m₉ 99) (m₉ 100) (xGr aa r1)) → ((xGr aa r1) 87 8 = (m₉ 94 58)) → ((m₉ 94 45).toInt = sm (zbU (m₉ 99)) (m₉ 102) 3100) → P (some (.inl v)) m₉ := by
    intro v m₉ hf z q0 q1 q2 q3 q4 q5 q6 q7 q8 q9
    have e := zov_eq hf
    rw [e] at z ⊢
    try rw [e] at q0
    try rw [e] at q1
    try rw [e] at q2
    try rw [e] at q3
    try rw [e] at q4
    try rw [e] at q5
    try rw [e] at q6
    try rw [e] at q7
    try rw [e] at q8
    try rw [e] at q9
    exact KZ v m₉ z q0 q1 q2 q3 q4 q5 q6 q7 q8 q9
  refine g_255_0 r1 ?_
  have f1 : 0 ≤ (m 94 10).toInt ∧ (m 94 10).toInt ≤ 6 := rs_94_10 (m := m) hV
  have f2 : 0 ≤ (m 94 8).toInt ∧ (m 94 8).toInt ≤ 1 := rs_94_8 (m := m) hV
  have b3 := i_bd r1
  have li4 : (0 : Int32).toInt = 0 := rfl
  refine zd (fun (h5 : r1 < (0 : Int32)) => ?_) (fun (h5 : ¬ r1 < (0 : Int32)) => ?_)
  · skip
    have g6 := i_lt h5
    have hV7 : zV (ma_u m 94 0 (1 : Int32)) := uf_94_0 hV
    exact K ((0 : Int32)) _ (zF_u zF_rfl rfl) hV7 r_W r_GW r_GU r_OW r_GG (show qRB (m 99) (m 100) (m 98) (m 101) (m 102) (m 103) (m 107) (m 108) (m 109) (m 111) (m 112) (m 113) (m 114) (m 94 55) (m 94 46) (m 94 11) (m 94 12) (m 94 62) (m 94 17) (m 94 9) (xGr aa r1) from by first | (unfold xGr; rw [qIf_n (fun w => by have w1 := w.1; have w2 := w.2; omega)]; exact r_RB; done) | (rw [Gr_0 r_RB (i_zer (by omega))]; exact r_RB; done) | (exfalso; omega; done) | (exfalso; contradiction; done)) (show qI (xGr aa r1) from by first | (unfold xGr; rw [qIf_n (fun w => by have w1 := w.1; have w2 := w.2; omega)]; exact r_QI; done) | (rw [Gr_0 r_RB (i_zer (by omega))]; exact r_QI; done) | (exfalso; omega; done) | (exfalso; contradiction; done)) (show qMG (m 94 58) (m 106) (m 115) (m 94 57) (m 94 56) (m 99) (m 100) (xGr aa r1) from by first | (unfold xGr; rw [qIf_n (fun w => by have w1 := w.1; have w2 := w.2; omega)]; exact r_MG; done) | (rw [Gr_0 r_RB (i_zer (by omega))]; exact r_MG; done) | (exfalso; omega; done) | (exfalso; contradiction; done)) (show (xGr aa r1) 87 8 = (m 94 58) from by first | (unfold xGr; rw [qIf_n (fun w => by have w1 := w.1; have w2 := w.2; omega)]; exact r_MK; done) | (rw [Gr_0 r_RB (i_zer (by omega))]; exact r_MK; done) | (exfalso; omega; done) | (exfalso; contradiction; done)) r_WTS
  · skip
    have g8 := i_nlt h5
    have li9 : (16 : Int32).toInt = 16 := rfl
    refine zd (fun (h10 : (16 : Int32) ≤ r1) => ?_) (fun (h10 : ¬ (16 : Int32) ≤ r1) => ?_)
    · skip
      have g11 := i_le h10
      have hV12 : zV (ma_u m 94 0 (1 : Int32)) := uf_94_0 hV
      exact K ((0 : Int32)) _ (zF_u zF_rfl rfl) hV12 r_W r_GW r_GU r_OW r_GG (show qRB (m 99) (m 100) (m 98) (m 101) (m 102) (m 103) (m 107) (m 108) (m 109) (m 111) (m 112) (m 113) (m 114) (m 94 55) (m 94 46) (m 94 11) (m 94 12) (m 94 62) (m 94 17) (m 94 9) (xGr aa r1) from by first | (unfold xGr; rw [qIf_n (fun w => by have w1 := w.1; have w2 := w.2; omega)]; exact r_RB; done) | (rw [Gr_0 r_RB (i_zer (by omega))]; exact r_RB; done) | (exfalso; omega; done) | (exfalso; contradiction; done)) (show qI (xGr aa r1) from by first | (unfold xGr; rw [qIf_n (fun w => by have w1 := w.1; have w2 := w.2; omega)]; exact r_QI; done) | (rw [Gr_0 r_RB (i_zer (by omega))]; exact r_QI; done) | (exfalso; omega; done) | (exfalso; contradiction; done)) (show qMG (m 94 58) (m 106) (m 115) (m 94 57) (m 94 56) (m 99) (m 100) (xGr aa r1) from by first | (unfold xGr; rw [qIf_n (fun w => by have w1 := w.1; have w2 := w.2; omega)]; exact r_MG; done) | (rw [Gr_0 r_RB (i_zer (by omega))]; exact r_MG; done) | (exfalso; omega; done) | (exfalso; contradiction; done)) (show (xGr aa r1) 87 8 = (m 94 58) from by first | (unfold xGr; rw [qIf_n (fun w => by have w1 := w.1; have w2 := w.2; omega)]; exact r_MK; done) | (rw [Gr_0 r_RB (i_zer (by omega))]; exact r_MK; done) | (exfalso; omega; done) | (exfalso; contradiction; done)) r_WTS
    · skip
      have g13 := i_nle h10
      refine zd (fun (h14 : (m 94 8) = (0 : Int32)) => ?_) (fun (h14 : ¬ (m 94 8) = (0 : Int32)) => ?_)
      · skip
        have g15 := i_eq h14
        exfalso; omega
      · skip
        have g16 := i_ne h14
        have f17 : 0 ≤ (m 94 55).toInt ∧ (m 94 55).toInt ≤ 3100 := rs_94_55 (m := m) hV
        refine zd (fun (h18 : (m 94 55) = (0 : Int32)) => ?_) (fun (h18 : ¬ (m 94 55) = (0 : Int32)) => ?_)
        · skip
          have g19 := i_eq h18
          have hV20 : zV (ma_u m 94 0 (0 : Int32)) := uf_94_0 hV
          have li21 : (-1 : Int32).toInt = -1 := rfl
          exact K ((-1 : Int32)) _ (zF_u zF_rfl rfl) hV20 r_W r_GW r_GU r_OW r_GG (show qRB (m 99) (m 100) (m 98) (m 101) (m 102) (m 103) (m 107) (m 108) (m 109) (m 111) (m 112) (m 113) (m 114) (m 94 55) (m 94 46) (m 94 11) (m 94 12) (m 94 62) (m 94 17) (m 94 9) (xGr aa r1) from by first | (unfold xGr; rw [qIf_n (fun w => by have w1 := w.1; have w2 := w.2; omega)]; exact r_RB; done) | (rw [Gr_0 r_RB (i_zer (by omega))]; exact r_RB; done) | (exfalso; omega; done) | (exfalso; contradiction; done)) (show qI (xGr aa r1) from by first | (unfold xGr; rw [qIf_n (fun w => by have w1 := w.1; have w2 := w.2; omega)]; exact r_QI; done) | (rw [Gr_0 r_RB (i_zer (by omega))]; exact r_QI; done) | (exfalso; omega; done) | (exfalso; contradiction; done)) (show qMG (m 94 58) (m 106) (m 115) (m 94 57) (m 94 56) (m 99) (m 100) (xGr aa r1) from by first | (unfold xGr; rw [qIf_n (fun w => by have w1 := w.1; have w2 := w.2; omega)]; exact r_MG; done) | (rw [Gr_0 r_RB (i_zer (by omega))]; exact r_MG; done) | (exfalso; omega; done) | (exfalso; contradiction; done)) (show (xGr aa r1) 87 8 = (m 94 58) from by first | (unfold xGr; rw [qIf_n (fun w => by have w1 := w.1; have w2 := w.2; omega)]; exact r_MK; done) | (rw [Gr_0 r_RB (i_zer (by omega))]; exact r_MK; done) | (exfalso; omega; done) | (exfalso; contradiction; done)) r_WTS
        · skip
          have g22 := i_ne h18
          have hV23 : zV (ma_u m 94 0 (0 : Int32)) := uf_94_0 hV
          first | have e25 : ((m 94 55) - (1 : Int32)).toInt = (m 94 55).toInt - (1) := i_subk rfl (by omega) (by omega) | have b26 := i_bd ((m 94 55) - (1 : Int32))
          have hV24 : zV (ma_u (ma_u m 94 0 (0 : Int32)) 94 55 ((m 94 55) - (1 : Int32))) := us_94_55 hV23 (by omega) (by omega)
          have f27 : 0 ≤ (m 114 0).toInt ∧ (m 114 0).toInt ≤ 3099 := ra_114 (m := m) hV (k := 0) (by decide)
          exact lp_255r_61 (r1 := r1) hV K _ _ (r1) ((m 114 0)) ((0 : Int32)) rfl (zF_u (zF_u zF_rfl rfl) rfl) hV24 (by omega) (by omega) (by omega) (by omega) (show r1 = r1 from by first | (exact rfl) | (exfalso; omega; done) | (exfalso; contradiction; done)) (by omega) (by omega) (by omega) (show 1 ≤ (m 94 55).toInt from by omega) (show ((m 94 55) - (1 : Int32)).toInt = (m 94 55).toInt - 1 from by omega) (show (0 : Int32).toInt ≤ ((m 94 55) - (1 : Int32)).toInt from by omega) r_W (show zGW T ((m 94 55) - (1 : Int32)) (m 109) from by first | (exact GW_le r_GW (by omega)) | (exfalso; omega; done) | (exfalso; contradiction; done)) r_GU r_OW r_GG (show (m 94 10).toInt = 5 from by omega) (show (m 94 8).toInt = 1 from by omega) (show qRB (m 99) (m 100) (m 98) (m 101) (m 102) (m 103) (m 107) (m 108) (m 109) (m 111) (m 112) (m 113) (m 114) (m 94 55) (m 94 46) (m 94 11) (m 94 12) (m 94 62) (m 94 17) (m 94 9) aa from by first | (exact r_RB) | (exfalso; omega; done) | (exfalso; contradiction; done)) r_QI r_MG r_MK r_WTS (show qSh (m 114) (m 114) (0 : Int32).toInt from by first | (exact Sh_0 (by decide)) | (exfalso; omega; done) | (exfalso; contradiction; done)) (show ((m 94 55) - (1 : Int32)) = (m 94 55) - 1 from by first | (exact rfl) | (exfalso; omega; done) | (exfalso; contradiction; done)) (show (m 114 0) = (m 114) 0 from by first | (exact rfl) | (exfalso; omega; done) | (exfalso; contradiction; done))
/-! from 95.h33 -/
/-! the reference by numbers (written by wip/tools/gen18r.py) -/
section QV
variable {aa a b : Nat → Nat → Int32} {us nr kr kd ws at₉ ho wd wi ow rt wk wl co gr : Nat → Int32} {wm nu ro fo le ra pi y x z i j ga gm r s v mk o t q w : Int32} {n k u : Nat}
def qTh (a : Nat → Nat → Int32) (o t q : Int32) : Prop := (q.toInt = 1 ∧ zRq a o ∧ (t = -1 ∨ zRq a t)) ∨ (q.toInt = 0 ∧ ¬ (zRq a o ∧ (t = -1 ∨ zRq a t)))
theorem Th_y (h : qTh a o t q) (hq : q.toInt ≠ 0) : t = -1 ∨ zRq a t := h.elim (fun w => w.2.2) (fun w => absurd w.1 hq)
theorem Th_n (h : qTh a o t q) (hq : q.toInt = 0) : xLi a o i t = a := qIf_n (fun w => h.elim (fun z => by have := z.1; omega) (fun z => z.2 ⟨w.1, w.2.1⟩))
theorem Li_h (hR : qRB us nr kr kd ws at₉ ho wd wi ow rt wk wl wm nu ro fo le ra pi a) (h : qRe us nr a o v) (hv : 0 ≤ v.toInt) (hi : i.toInt < 0 ∨ (ws v.toNatClampNeg).toInt ≤ i.toInt) : xLi a o i t = a := qIf_n (fun w => by
  have w2 := (Hw_y hR h hv).mp w.2.2.1
  omega)
theorem Li_i (hR : qRB us nr kr kd ws at₉ ho wd wi ow rt wk wl wm nu ro fo le ra pi a) (h : qRe us nr a o v) (hv : 0 ≤ v.toInt) (h0 : 0 ≤ i.toInt) (h1 : i.toInt < (ws v.toNatClampNeg).toInt) (hk : ¬ kd v.toNatClampNeg = 16) (hk2 : ¬ (kd v.toNatClampNeg < 16 ∧ ((kr (kd v.toNatClampNeg).toNatClampNeg >>> (i &&& 31)) &&& 1) = 1)) : xLi a o i t = a := qIf_n (fun w => ((Ir_y hR h hv h0 h1).mp w.2.2.2).elim hk hk2)
theorem As_p (hR : qRB us nr kr kd ws at₉ ho wd wi ow rt wk wl wm nu ro fo le ra pi a) (h : qPl us nr x v) (e : x = o) (hq : o = -1 ∨ zRq a o) (hn : x.toInt ≠ -1) : qAs us nr a o v := by
  subst e
  have rq := hq.elim (fun w => absurd (by rw [w]; rfl) hn) id
  rcases h with w | w
  · have c := tn_cast rq.1
    obtain ⟨t, ht, hu, e⟩ := hR.1.2.2 x.toNatClampNeg (by have := rq.2.1; omega) rq.2.2.1
    exact absurd (by rw [e]; exact ofN_tn rq.1) (w.2 t ht hu)
  · exact Or.inr ⟨w.1, w.2.1, w.2.2.1, w.2.2.2, rq⟩
theorem No_al (h1 : qR1 us nr ws at₉ ho a) (u : qU us x) : qNo nr x = -1 ∨ (0 ≤ (qNo nr x).toInt ∧ (qNo nr x).toInt < 512 ∧ xAl a (qNo nr x).toNatClampNeg) := by
  by_cases z : x.toInt < 0
  · exact Or.inl (No_n z)
  · have w := U_y u (by omega)
    have hs := tn_lt (by omega) w.1
    rw [No_y (by omega)]
    exact Or.inr ⟨(h1.1 _ hs w.2).1.1, (h1.1 _ hs w.2).1.2, R1_al h1 hs w.2⟩
def qMF (mk : Int32) (a : Nat → Nat → Int32) : Prop := mk.toInt ≠ 0 → qMI a
theorem LI_mi (hR : qRB us nr kr kd ws at₉ ho wd wi ow rt wk wl wm nu ro fo le ra pi a) (hI : qI a) (hG : qMG mk co gr ga gm us nr a) (hK : a 87 8 = mk) (W : qWp a n i) (hr : a (1000 + n) i.toNatClampNeg ≠ 0) (hA : qAs us nr a t s) (ar : aRef a n i = qNo nr v) (uv : qU us v) : qMF mk (aNc (aCi a n i (qNo nr s)) (qNo nr v) (qNo nr s)) := fun z => by
  have h8 : a 87 8 ≠ 0 := by
    rw [hK]
    exact fun w => z (by rw [w]; rfl)
  have e7 : a 87 7 = (if pi = 0 then 1 else 0) := hR.2.2.2.2.2.2.2.2.2.2.2.2
  rw [← ar]
  refine MI_li hI (hG z).1.2.2.2.2 (hG z).2 W hr h8 (As_s hA hG hI z) ?_ ?_ ?_
  · rcases No_al hR.1 (As_u hA) with w | w
    · exact Or.inl (by rw [w]; decide)
    · exact Or.inr w.2
  · rw [e7]
    split
    · exact Or.inr rfl
    · exact Or.inl rfl
  · rw [ar]
    exact No_al hR.1 uv
end QV

/-! from 95.h34 -/
/-! the reference by numbers (written by wip/tools/gen18r.py) -/
set_option maxHeartbeats 8000000 in
theorem lp_247r_207 {X : Nat × (Nat → Int32)} {P : Option ma_V → (Nat → Nat → Int32) → Prop} {T : Nat} {aa : Nat→Nat→Int32} {ob : Int32} {ix : Int32} {oo : Int32} {m0 : Nat → Nat → Int32} (h0 : zV m0) (K : ∀ v m₉, zF wr_247 m0 m₉ → zV m₉ → (zW (m₉ 94 7) (m₉ 98) (m₉ 101) (m₉ 102) (m₉ 108)) → (zGW T (m₉ 94 55) (m₉ 109)) → (zGU T (m₉ 94 46) (m₉ 99)) → (zOw (m₉ 99) (m₉ 103) (m₉ 111)) → (zGG (m₉ 94 58) (m₉ 94 56) (m₉ 94 57) (m₉ 106)) → (qRB (m₉ 99) (m₉ 100) (m₉ 98) (m₉ 101) (m₉ 102) (m₉ 103) (m₉ 107) (m₉ 108) (m₉ 109) (m₉ 111) (m₉ 112) (m₉ 113) (m₉ 114) (m₉ 94 55) (m₉ 94 46) (m₉ 94 11) (m₉ 94 12) (m₉ 94 62) (m₉ 94 17) (m₉ 94 9) (xLi aa ob ix oo)) → (qI (xLi aa ob ix oo)) → (qMG (m₉ 94 58) (m₉ 106) (m₉ 115) (m₉ 94 57) (m₉ 94 56) (m₉ 99) (m₉ 100) (xLi aa ob ix oo)) → ((xLi aa ob ix oo) 87 8 = (m₉ 94 58)) → ((m₉ 94 45).toInt = sm (zbU (m₉ 99)) (m₉ 102) 3100) → P (some (.inl v)) m₉) : ∀ (n : Nat) (m : Nat → Nat → Int32) (l6 : Int32) (l7 : Int32) (l8 : Int32), ((0 : Int)).toNat = n → zF wr_247 m0 m → zV m → (-1 ≤ l6.toInt) → (l6.toInt ≤ 3099) → (-1 ≤ l7.toInt) → (l7.toInt ≤ 3099) → (T ≤ 512) → (zW (m 94 7) (m 98) (m 101) (m 102) (m 108)) → (zGW T (m 94 55) (m 109)) → (zGU T (m 94 46) (m 99)) → (zOw (m 99) (m 103) (m 111)) → (zGG (m 94 58) (m 94 56) (m 94 57) (m 106)) → ((m 94 10).toInt = 5) → ((m 94 8).toInt = 1) → (qRB (m 99) (m 100) (m 98) (m 101) (m 102) (m 103) (m 107) (m 108) (m 109) (m 111) (m 112) (m 113) (m 114) (m 94 55) (m 94 46) (m 94 11) (m 94 12) (m 94 62) (m 94 17) (m 94 9) (aCi aa ob.toNatClampNeg ix (qNo (m 100) l6))) → (qI (aCi aa ob.toNatClampNeg ix (qNo (m 100) l6))) → ((aCi aa ob.toNatClampNeg ix (qNo (m 100) l6)) 87 8 = (m 94 58)) → (qGQ (m 94 58) (m 106) (m 115) (m 94 57) (m 94 56) (m 99) (m 100) (aCi aa ob.toNatClampNeg ix (qNo (m 100) l6))) → ((m 94 45).toInt = sm (zbU (m 99)) (m 102) 3100) → (xLi aa ob ix oo = (aNc (aCi aa ob.toNatClampNeg ix (qNo (m 100) l6)) (qNo (m 100) l7) (qNo (m 100) l6))) → (qMF (m 94 58) (aNc (aCi aa ob.toNatClampNeg ix (qNo (m 100) l6)) (qNo (m 100) l7) (qNo (m 100) l6))) → (qU (m 99) l7) → (qU (m 99) l6) → zm X 5 109 247 207 [(0, .inr (.inr (some 94))), (6, .inl l6), (7, .inl l7), (8, .inl l8)] m P := by
  intro n
  induction n using Nat.strongRecOn with
  | _ n IH =>
    intro m l6 l7 l8 hmu hF hV hi0 hi1 hi2 hi3 hi4 r_W r_GW r_GU r_OW r_GG hi10 hi11 r_RB r_QI r_MK r_MQG r_WTS r_LIq r_MF r_UVl r_UTl
    refine g_247_207 l6 l7 l8 ?_
    have f1 : 0 ≤ (m 94 10).toInt ∧ (m 94 10).toInt ≤ 6 := rs_94_10 (m := m) hV
    have f2 : 0 ≤ (m 94 8).toInt ∧ (m 94 8).toInt ≤ 1 := rs_94_8 (m := m) hV
    have b3 := i_bd l7
    have b4 := i_bd l6
    refine sp_240r (aa := (aCi aa ob.toNatClampNeg ix (qNo (m 100) l6))) (l7) (l6) hV (show (m 94 10).toInt = 5 from by omega) (by omega) (by omega) (by omega) (by omega) r_GG r_RB r_QI r_MK (show qU (m 99) l7 from by first | (exact r_UVl) | (exfalso; omega; done) | (exfalso; contradiction; done)) (show qU (m 99) l6 from by first | (exact r_UTl) | (exfalso; omega; done) | (exfalso; contradiction; done)) r_MQG (fun m1 hV_m1 p0_m1 p1_m1 p2_m1 p3_m1 p4_m1 => zmv_n ?_)
    have p0_m1 : zGG (m 94 58) (m1 94 56) (m 94 57) (m1 106) := p0_m1
    have p1_m1 : qRB (m 99) (m 100) (m 98) (m 101) (m 102) (m 103) (m 107) (m 108) (m 109) (m 111) (m 112) (m 113) (m 114) (m 94 55) (m 94 46) (m 94 11) (m 94 12) (m 94 62) (m 94 17) (m 94 9) (aNc (aCi aa ob.toNatClampNeg ix (qNo (m 100) l6)) (qNo (m 100) l7) (qNo (m 100) l6)) := p1_m1
    have p2_m1 : qI (aNc (aCi aa ob.toNatClampNeg ix (qNo (m 100) l6)) (qNo (m 100) l7) (qNo (m 100) l6)) := p2_m1
    have p3_m1 : (aNc (aCi aa ob.toNatClampNeg ix (qNo (m 100) l6)) (qNo (m 100) l7) (qNo (m 100) l6)) 87 8 = (m 94 58) := p3_m1
    have p4_m1 : qGQ (m 94 58) (m1 106) (m1 115) (m 94 57) (m1 94 56) (m 99) (m 100) (aNc (aCi aa ob.toNatClampNeg ix (qNo (m 100) l6)) (qNo (m 100) l7) (qNo (m 100) l6)) := p4_m1
    refine sp_241r (l7) hV_m1 (show (m 94 10).toInt = 5 from by omega) (fun m3 hV_m3 p0_m3 => zmv_n ?_)
    have p0_m3 : (m3 99) = (m 99) ∧ (m3 105) = (m 105) ∧ (m3 109) = (m 109) ∧ (m3 111) = (m 111) ∧ (m3 113) = (m 113) ∧ (m3 114) = (m 114) ∧ (m3 94 55) = (m 94 55) ∧ (m3 94 45) = (m 94 45) := p0_m3
    try have rgb := rs_94_64 hV
    try have lel := LE_lo p0_m3
    try have lex3 := LE_ex p0_m3 (lexi (by omega))
    try have lexi := LE_some p0_m3
    try have w60 := (ra_102 hV (k := l4.toNatClampNeg) (by omega)).2
    have b5 := i_bd l8
    exact K (l8) _ (zF_zov (zF_zov hF ws_240_247) ws_241_247) hV_m3 r_W (show zGW T (m3 94 55) (m3 109) from by first | (rw [p0_m3.2.2.1, p0_m3.2.2.2.2.2.2.1]; exact r_GW; done) | (exfalso; omega; done) | (exfalso; contradiction; done)) (show zGU T (m 94 46) (m3 99) from by first | (rw [p0_m3.1]; exact r_GU; done) | (exact GU_0 r_GU) | (exfalso; omega; done) | (exfalso; contradiction; done)) (show zOw (m3 99) (m 103) (m3 111) from by first | (rw [p0_m3.1, p0_m3.2.2.2.1]; exact r_OW; done) | (exact Ow_rm r_OW (by decide) (tn_cast (by omega)).symm) | (exfalso; omega; done) | (exfalso; contradiction; done)) p0_m1 (show qRB (m3 99) (m 100) (m 98) (m 101) (m 102) (m 103) (m 107) (m 108) (m3 109) (m3 111) (m 112) (m3 113) (m3 114) (m3 94 55) (m 94 46) (m 94 11) (m 94 12) (m 94 62) (m 94 17) (m 94 9) (xLi aa ob ix oo) from by first | (rw [r_LIq]; rw [p0_m3.1, p0_m3.2.2.1, p0_m3.2.2.2.1, p0_m3.2.2.2.2.1, p0_m3.2.2.2.2.2.1, p0_m3.2.2.2.2.2.2.1]; exact p1_m1; done) | (exfalso; omega; done) | (exfalso; contradiction; done)) (show qI (xLi aa ob ix oo) from by first | (rw [r_LIq]; exact p2_m1; done) | (exfalso; omega; done) | (exfalso; contradiction; done)) (show qMG (m 94 58) (m1 106) (m1 115) (m 94 57) (m1 94 56) (m3 99) (m 100) (xLi aa ob ix oo) from by first | (rw [r_LIq]; rw [p0_m3.1]; exact fun z => ⟨p4_m1 z, r_MF z⟩; done) | (exfalso; omega; done) | (exfalso; contradiction; done)) (show (xLi aa ob ix oo) 87 8 = (m 94 58) from by first | (rw [r_LIq]; exact p3_m1; done) | (exfalso; omega; done) | (exfalso; contradiction; done)) (show (m3 94 45).toInt = sm (zbU (m3 99)) (m 102) 3100 from by first | (rw [p0_m3.1, p0_m3.2.2.2.2.2.2.2]; exact r_WTS; done) | (exfalso; omega; done) | (exfalso; contradiction; done))
set_option maxHeartbeats 8000000 in
theorem lp_247r_149 {X : Nat × (Nat → Int32)} {P : Option ma_V → (Nat → Nat → Int32) → Prop} {T : Nat} {aa : Nat→Nat→Int32} {ob : Int32} {ix : Int32} {oo : Int32} {m0 : Nat → Nat → Int32} (h0 : zV m0) (K : ∀ v m₉, zF wr_247 m0 m₉ → zV m₉ → (zW (m₉ 94 7) (m₉ 98) (m₉ 101) (m₉ 102) (m₉ 108)) → (zGW T (m₉ 94 55) (m₉ 109)) → (zGU T (m₉ 94 46) (m₉ 99)) → (zOw (m₉ 99) (m₉ 103) (m₉ 111)) → (zGG (m₉ 94 58) (m₉ 94 56) (m₉ 94 57) (m₉ 106)) → (qRB (m₉ 99) (m₉ 100) (m₉ 98) (m₉ 101) (m₉ 102) (m₉ 103) (m₉ 107) (m₉ 108) (m₉ 109) (m₉ 111) (m₉ 112) (m₉ 113) (m₉ 114) (m₉ 94 55) (m₉ 94 46) (m₉ 94 11) (m₉ 94 12) (m₉ 94 62) (m₉ 94 17) (m₉ 94 9) (xLi aa ob ix oo)) → (qI (xLi aa ob ix oo)) → (qMG (m₉ 94 58) (m₉ 106) (m₉ 115) (m₉ 94 57) (m₉ 94 56) (m₉ 99) (m₉ 100) (xLi aa ob ix oo)) → ((xLi aa ob ix oo) 87 8 = (m₉ 94 58)) → ((m₉ 94 45).toInt = sm (zbU (m₉ 99)) (m₉ 102) 3100) → P (some (.inl v)) m₉) : ∀ (n : Nat) (m : Nat → Nat → Int32) (l2 : Int32) (l4 : Int32) (l6 : Int32) (l7 : Int32) (l8 : Int32), ((0 : Int)).toNat = n → zF wr_247 m0 m → zV m → (0 ≤ l4.toInt) → (l4.toInt ≤ 3099) → (0 ≤ l2.toInt) → (l2.toInt < (m 102 l4.toNatClampNeg).toInt) → ((m 101) l4.toNatClampNeg = 16 ∨ ((m 101) l4.toNatClampNeg < 16 ∧ (((m 98) ((m 101) l4.toNatClampNeg).toNatClampNeg >>> (l2 &&& 31)) &&& 1) = 1)) → (-1 ≤ l6.toInt) → (l6.toInt ≤ 3099) → (-1 ≤ l7.toInt) → (l7.toInt ≤ 3099) → (T ≤ 512) → (zW (m 94 7) (m 98) (m 101) (m 102) (m 108)) → (zGW T (m 94 55) (m 109)) → (zGU T (m 94 46) (m 99)) → (zOw (m 99) (m 103) (m 111)) → (zGG (m 94 58) (m 94 56) (m 94 57) (m 106)) → ((m 94 10).toInt = 5) → ((m 94 8).toInt = 1) → (qRB (m 99) (m 100) (m 98) (m 101) (m 102) (m 103) (m 107) (m 108) (m 109) (m 111) (m 112) (m 113) (m 114) (m 94 55) (m 94 46) (m 94 11) (m 94 12) (m 94 62) (m 94 17) (m 94 9) aa) → (qI aa) → (qMG (m 94 58) (m 106) (m 115) (m 94 57) (m 94 56) (m 99) (m 100) aa) → (aa 87 8 = (m 94 58)) → ((m 94 45).toInt = sm (zbU (m 99)) (m 102) 3100) → (l2 = ix) → (qRe (m 99) (m 100) aa ob l4) → (qAs (m 99) (m 100) aa oo l6) → (l7 = (m 108) (l4 * (60 : Int32) + l2).toNatClampNeg) → zm X 5 109 247 149 [(0, .inr (.inr (some 94))), (2, .inl l2), (4, .inl l4), (6, .inl l6), (7, .inl l7), (8, .inl l8)] m P := by
  intro n
  induction n using Nat.strongRecOn with
  | _ n IH =>
    intro m l2 l4 l6 l7 l8 hmu hF hV hi0 hi1 hi2 hi3 r_ISR hi5 hi6 hi7 hi8 hi9 r_W r_GW r_GU r_OW r_GG hi15 hi16 r_RB r_QI r_MG r_MK r_WTS r_L2e r_REl r_ASl r_L7e
    refine g_247_149 l2 l4 l6 l7 l8 ?_
    have b1 := i_bd l4
    first | have f2 : 0 ≤ (m 102 l4.toNatClampNeg).toInt ∧ (m 102 l4.toNatClampNeg).toInt ≤ 60 := ra_102 (m := m) hV (k := l4.toNatClampNeg) (i_ix (n := 3100) (by omega) (by omega)).2 | have b3 := i_bd (m 102 l4.toNatClampNeg)
    have f4 : 0 ≤ (m 94 10).toInt ∧ (m 94 10).toInt ≤ 6 := rs_94_10 (m := m) hV
    have f5 : 0 ≤ (m 94 8).toInt ∧ (m 94 8).toInt ≤ 1 := rs_94_8 (m := m) hV
    have li6 : (60 : Int32).toInt = 60 := rfl
    first | have e7 : (l4 * (60 : Int32)).toInt = l4.toInt * 60 := i_mulk rfl (by omega) (by omega) | have b8 := i_bd (l4 * (60 : Int32))
    have b9 := i_bd l2
    first | have e10 : ((l4 * (60 : Int32)) + l2).toInt = (l4 * (60 : Int32)).toInt + l2.toInt := i_add (by omega) (by omega) | have b11 := i_bd ((l4 * (60 : Int32)) + l2)
    have hg12 : (0 ≤ ((l4 * (60 : Int32)) + l2) ∧ ((l4 * (60 : Int32)) + l2).toNatClampNeg < 186000) := i_ix (by omega) (by omega)
    refine ⟨hg12, ?_⟩
    have li13 : (3 : Int32).toInt = 3 := rfl
    refine zd (fun (h14 : (m 94 10) = (3 : Int32)) => ?_) (fun (h14 : ¬ (m 94 10) = (3 : Int32)) => ?_)
    · skip
      have g15 := i_eq h14
      exfalso; omega
    · skip
      have g16 := i_ne h14
      try have w60 := (ra_102 hV (k := l4.toNatClampNeg) (by omega)).2
      try have ww := W_isr r_W (s := l4) (i := l2) (by omega) (by omega) (by omega) (by omega) (by omega) r_ISR
      have hV17 : zV (ma_u m 108 ((l4 * (60 : Int32)) + l2).toNatClampNeg l6) := ua_108 hV
      have b18 := i_bd l6
      have b19 := i_bd l7
      have b20 := i_bd l8
      exact lp_247r_207 (ob := ob) (ix := ix) (oo := oo) h0 K _ _ (l6) (l7) (l8) rfl (zF_u hF rfl) hV17 (by omega) (by omega) (by omega) (by omega) (by omega) (show zW (m 94 7) (m 98) (m 101) (m 102) ((ma_u m 108 ((l4 * (60 : Int32)) + l2).toNatClampNeg l6) 108) from by first | (exact W_link r_W (by omega) (by omega) (fun s2 i2 hs2 hi2 => zrf_link (s := l4) (i := l2) (by omega) (by omega) (by omega) (by omega) r_ISR s2 i2 (by have := (ra_102 hV hs2).2; omega))) | (exfalso; omega; done) | (exfalso; contradiction; done)) r_GW r_GU r_OW r_GG (show (m 94 10).toInt = 5 from by omega) (show (m 94 8).toInt = 1 from by omega) (show qRB (m 99) (m 100) (m 98) (m 101) (m 102) (m 103) (m 107) ((ma_u m 108 ((l4 * (60 : Int32)) + l2).toNatClampNeg l6) 108) (m 109) (m 111) (m 112) (m 113) (m 114) (m 94 55) (m 94 46) (m 94 11) (m 94 12) (m 94 62) (m 94 17) (m 94 9) (aCi aa ob.toNatClampNeg ix (qNo (m 100) l6)) from by first | (rw [← r_L2e]; exact (RB_li r_RB r_QI (s := l4) (by omega) (by omega) (Re_y r_REl (by omega)).2.1 (i := l2) (by omega) (by omega) r_ISR (Re_y r_REl (by omega)).2.2.1 (As_u r_ASl)).1; done) | (exfalso; omega; done) | (exfalso; contradiction; done)) (show qI (aCi aa ob.toNatClampNeg ix (qNo (m 100) l6)) from by first | (rw [← r_L2e, Ci_eq r_QI (RB_li r_RB r_QI (s := l4) (by omega) (by omega) (Re_y r_REl (by omega)).2.1 (i := l2) (by omega) (by omega) r_ISR (Re_y r_REl (by omega)).2.2.1 (As_u r_ASl)).2.2.1]; exact I_w r_QI (RB_li r_RB r_QI (s := l4) (by omega) (by omega) (Re_y r_REl (by omega)).2.1 (i := l2) (by omega) (by omega) r_ISR (Re_y r_REl (by omega)).2.2.1 (As_u r_ASl)).2.2.1; done) | (exfalso; omega; done) | (exfalso; contradiction; done)) (show (aCi aa ob.toNatClampNeg ix (qNo (m 100) l6)) 87 8 = (m 94 58) from by first | (rw [← r_L2e, Ci_eq r_QI (RB_li r_RB r_QI (s := l4) (by omega) (by omega) (Re_y r_REl (by omega)).2.1 (i := l2) (by omega) (by omega) r_ISR (Re_y r_REl (by omega)).2.2.1 (As_u r_ASl)).2.2.1, un (by decide)]; exact r_MK; done) | (exfalso; omega; done) | (exfalso; contradiction; done)) (show qGQ (m 94 58) (m 106) (m 115) (m 94 57) (m 94 56) (m 99) (m 100) (aCi aa ob.toNatClampNeg ix (qNo (m 100) l6)) from by first | (rw [← r_L2e, Ci_eq r_QI (RB_li r_RB r_QI (s := l4) (by omega) (by omega) (Re_y r_REl (by omega)).2.1 (i := l2) (by omega) (by omega) r_ISR (Re_y r_REl (by omega)).2.2.1 (As_u r_ASl)).2.2.1]; exact fun z => MQ_71 (r_MG z).1; done) | (exfalso; omega; done) | (exfalso; contradiction; done)) r_WTS (show xLi aa ob ix oo = (aNc (aCi aa ob.toNatClampNeg ix (qNo (m 100) l6)) (qNo (m 100) l7) (qNo (m 100) l6)) from by first | (rw [← r_L2e, Li_y r_RB r_REl (by omega) (by omega) (by omega) r_ISR r_ASl, (RB_li r_RB r_QI (s := l4) (by omega) (by omega) (Re_y r_REl (by omega)).2.1 (i := l2) (by omega) (by omega) r_ISR (Re_y r_REl (by omega)).2.2.1 (As_u r_ASl)).2.2.2.1, ← r_L7e]; done) | (exfalso; omega; done) | (exfalso; contradiction; done)) (show qMF (m 94 58) (aNc (aCi aa ob.toNatClampNeg ix (qNo (m 100) l6)) (qNo (m 100) l7) (qNo (m 100) l6)) from by first | (rw [← r_L2e]; exact LI_mi r_RB r_QI r_MG r_MK (RB_li r_RB r_QI (s := l4) (by omega) (by omega) (Re_y r_REl (by omega)).2.1 (i := l2) (by omega) (by omega) r_ISR (Re_y r_REl (by omega)).2.2.1 (As_u r_ASl)).2.2.1 (RB_li r_RB r_QI (s := l4) (by omega) (by omega) (Re_y r_REl (by omega)).2.1 (i := l2) (by omega) (by omega) r_ISR (Re_y r_REl (by omega)).2.2.1 (As_u r_ASl)).2.1 r_ASl (by rw [r_L7e]; exact (RB_li r_RB r_QI (s := l4) (by omega) (by omega) (Re_y r_REl (by omega)).2.1 (i := l2) (by omega) (by omega) r_ISR (Re_y r_REl (by omega)).2.2.1 (As_u r_ASl)).2.2.2.1) (by rw [r_L7e]; exact (RB_li r_RB r_QI (s := l4) (by omega) (by omega) (Re_y r_REl (by omega)).2.1 (i := l2) (by omega) (by omega) r_ISR (Re_y r_REl (by omega)).2.2.1 (As_u r_ASl)).2.2.2.2); done) | (exfalso; omega; done) | (exfalso; contradiction; done)) (show qU (m 99) l7 from by first | (rw [r_L7e]; exact (RB_li r_RB r_QI (s := l4) (by omega) (by omega) (Re_y r_REl (by omega)).2.1 (i := l2) (by omega) (by omega) r_ISR (Re_y r_REl (by omega)).2.2.1 (As_u r_ASl)).2.2.2.2; done) | (exfalso; omega; done) | (exfalso; contradiction; done)) (show qU (m 99) l6 from by first | (exact As_u r_ASl) | (exfalso; omega; done) | (exfalso; contradiction; done))
set_option maxHeartbeats 8000000 in
theorem lp_247r_121 {X : Nat × (Nat → Int32)} {P : Option ma_V → (Nat → Nat → Int32) → Prop} {T : Nat} {aa : Nat→Nat→Int32} {ob : Int32} {ix : Int32} {oo : Int32} {m0 : Nat → Nat → Int32} (h0 : zV m0) (K : ∀ v m₉, zF wr_247 m0 m₉ → zV m₉ → (zW (m₉ 94 7) (m₉ 98) (m₉ 101) (m₉ 102) (m₉ 108)) → (zGW T (m₉ 94 55) (m₉ 109)) → (zGU T (m₉ 94 46) (m₉ 99)) → (zOw (m₉ 99) (m₉ 103) (m₉ 111)) → (zGG (m₉ 94 58) (m₉ 94 56) (m₉ 94 57) (m₉ 106)) → (qRB (m₉ 99) (m₉ 100) (m₉ 98) (m₉ 101) (m₉ 102) (m₉ 103) (m₉ 107) (m₉ 108) (m₉ 109) (m₉ 111) (m₉ 112) (m₉ 113) (m₉ 114) (m₉ 94 55) (m₉ 94 46) (m₉ 94 11) (m₉ 94 12) (m₉ 94 62) (m₉ 94 17) (m₉ 94 9) (xLi aa ob ix oo)) → (qI (xLi aa ob ix oo)) → (qMG (m₉ 94 58) (m₉ 106) (m₉ 115) (m₉ 94 57) (m₉ 94 56) (m₉ 99) (m₉ 100) (xLi aa ob ix oo)) → ((xLi aa ob ix oo) 87 8 = (m₉ 94 58)) → ((m₉ 94 45).toInt = sm (zbU (m₉ 99)) (m₉ 102) 3100) → P (some (.inl v)) m₉) : ∀ (n : Nat) (m : Nat → Nat → Int32) (l2 : Int32) (l4 : Int32) (l6 : Int32), ((0 : Int)).toNat = n → zF wr_247 m0 m → zV m → (0 ≤ l4.toInt) → (l4.toInt ≤ 3099) → (0 ≤ l2.toInt) → (l2.toInt < (m 102 l4.toNatClampNeg).toInt) → ((m 101) l4.toNatClampNeg = 16 ∨ ((m 101) l4.toNatClampNeg < 16 ∧ (((m 98) ((m 101) l4.toNatClampNeg).toNatClampNeg >>> (l2 &&& 31)) &&& 1) = 1)) → (-1 ≤ l6.toInt) → (l6.toInt ≤ 3099) → (T ≤ 512) → (zW (m 94 7) (m 98) (m 101) (m 102) (m 108)) → (zGW T (m 94 55) (m 109)) → (zGU T (m 94 46) (m 99)) → (zOw (m 99) (m 103) (m 111)) → (zGG (m 94 58) (m 94 56) (m 94 57) (m 106)) → ((m 94 10).toInt = 5) → ((m 94 8).toInt = 1) → (qRB (m 99) (m 100) (m 98) (m 101) (m 102) (m 103) (m 107) (m 108) (m 109) (m 111) (m 112) (m 113) (m 114) (m 94 55) (m 94 46) (m 94 11) (m 94 12) (m 94 62) (m 94 17) (m 94 9) aa) → (qI aa) → (qMG (m 94 58) (m 106) (m 115) (m 94 57) (m 94 56) (m 99) (m 100) aa) → (aa 87 8 = (m 94 58)) → ((m 94 45).toInt = sm (zbU (m 99)) (m 102) 3100) → (l2 = ix) → (qRe (m 99) (m 100) aa ob l4) → (qAs (m 99) (m 100) aa oo l6) → zm X 5 109 247 121 [(0, .inr (.inr (some 94))), (2, .inl l2), (4, .inl l4), (6, .inl l6)] m P := by
  intro n
  induction n using Nat.strongRecOn with
  | _ n IH =>
    intro m l2 l4 l6 hmu hF hV hi0 hi1 hi2 hi3 r_ISR hi5 hi6 hi7 r_W r_GW r_GU r_OW r_GG hi13 hi14 r_RB r_QI r_MG r_MK r_WTS r_L2e r_REl r_ASl
    refine g_247_121 l2 l4 l6 ?_
    have b1 := i_bd l4
    first | have f2 : 0 ≤ (m 102 l4.toNatClampNeg).toInt ∧ (m 102 l4.toNatClampNeg).toInt ≤ 60 := ra_102 (m := m) hV (k := l4.toNatClampNeg) (i_ix (n := 3100) (by omega) (by omega)).2 | have b3 := i_bd (m 102 l4.toNatClampNeg)
    have f4 : 0 ≤ (m 94 10).toInt ∧ (m 94 10).toInt ≤ 6 := rs_94_10 (m := m) hV
    have f5 : 0 ≤ (m 94 8).toInt ∧ (m 94 8).toInt ≤ 1 := rs_94_8 (m := m) hV
    have li6 : (60 : Int32).toInt = 60 := rfl
    first | have e7 : (l4 * (60 : Int32)).toInt = l4.toInt * 60 := i_mulk rfl (by omega) (by omega) | have b8 := i_bd (l4 * (60 : Int32))
    have b9 := i_bd l2
    first | have e10 : ((l4 * (60 : Int32)) + l2).toInt = (l4 * (60 : Int32)).toInt + l2.toInt := i_add (by omega) (by omega) | have b11 := i_bd ((l4 * (60 : Int32)) + l2)
    have hg12 : (0 ≤ ((l4 * (60 : Int32)) + l2) ∧ ((l4 * (60 : Int32)) + l2).toNatClampNeg < 186000) := i_ix (by omega) (by omega)
    refine ⟨hg12, ?_⟩
    have li13 : (0 : Int32).toInt = 0 := rfl
    have b14 := i_bd (m 108 ((l4 * (60 : Int32)) + l2).toNatClampNeg)
    refine zd (fun (h15 : (0 : Int32) ≤ (m 108 ((l4 * (60 : Int32)) + l2).toNatClampNeg)) => ?_) (fun (h15 : ¬ (0 : Int32) ≤ (m 108 ((l4 * (60 : Int32)) + l2).toNatClampNeg)) => ?_)
    · skip
      have g16 := i_le h15
      try have w60 := (ra_102 hV (k := l4.toNatClampNeg) (by omega)).2
      try have ww := W_isr r_W (s := l4) (i := l2) (by omega) (by omega) (by omega) (by omega) (by omega) r_ISR
      have hg17 : (0 ≤ (m 108 ((l4 * (60 : Int32)) + l2).toNatClampNeg) ∧ (m 108 ((l4 * (60 : Int32)) + l2).toNatClampNeg).toNatClampNeg < 3100) := i_ix (by omega) (by omega)
      refine ⟨hg17, ?_⟩
      have b18 := i_bd l6
      refine zd (fun (h19 : l6 < (0 : Int32)) => ?_) (fun (h19 : ¬ l6 < (0 : Int32)) => ?_)
      · skip
        have g20 := i_lt h19
        try have w60 := (ra_102 hV (k := l4.toNatClampNeg) (by omega)).2
        try have ww := W_isr r_W (s := l4) (i := l2) (by omega) (by omega) (by omega) (by omega) (by omega) r_ISR
        first | have f21 : 0 ≤ (m 100 (m 108 ((l4 * (60 : Int32)) + l2).toNatClampNeg).toNatClampNeg).toInt ∧ (m 100 (m 108 ((l4 * (60 : Int32)) + l2).toNatClampNeg).toNatClampNeg).toInt ≤ 100000 := ra_100 (m := m) hV (k := (m 108 ((l4 * (60 : Int32)) + l2).toNatClampNeg).toNatClampNeg) (i_ix (n := 3100) (by omega) (by omega)).2 | have b22 := i_bd (m 100 (m 108 ((l4 * (60 : Int32)) + l2).toNatClampNeg).toNatClampNeg)
        exact lp_247r_149 (ob := ob) (ix := ix) (oo := oo) h0 K _ _ (l2) (l4) (l6) ((m 108 ((l4 * (60 : Int32)) + l2).toNatClampNeg)) ((m 100 (m 108 ((l4 * (60 : Int32)) + l2).toNatClampNeg).toNatClampNeg)) rfl hF hV (by omega) (by omega) (by omega) (show l2.toInt < (m 102 l4.toNatClampNeg).toInt from by omega) r_ISR (by omega) (by omega) (by omega) (by omega) (by omega) r_W r_GW r_GU r_OW r_GG (show (m 94 10).toInt = 5 from by omega) (show (m 94 8).toInt = 1 from by omega) r_RB r_QI r_MG r_MK r_WTS r_L2e r_REl r_ASl (show (m 108 ((l4 * (60 : Int32)) + l2).toNatClampNeg) = (m 108) (l4 * (60 : Int32) + l2).toNatClampNeg from by first | (exact rfl) | (exfalso; omega; done) | (exfalso; contradiction; done))
      · skip
        have g23 := i_nlt h19
        have li24 : (4 : Int32).toInt = 4 := rfl
        refine zd (fun (h25 : (m 94 10) = (4 : Int32)) => ?_) (fun (h25 : ¬ (m 94 10) = (4 : Int32)) => ?_)
        · skip
          have g26 := i_eq h25
          exfalso; omega
        · skip
          have g27 := i_ne h25
          try have w60 := (ra_102 hV (k := l4.toNatClampNeg) (by omega)).2
          try have ww := W_isr r_W (s := l4) (i := l2) (by omega) (by omega) (by omega) (by omega) (by omega) r_ISR
          first | have f28 : 0 ≤ (m 100 (m 108 ((l4 * (60 : Int32)) + l2).toNatClampNeg).toNatClampNeg).toInt ∧ (m 100 (m 108 ((l4 * (60 : Int32)) + l2).toNatClampNeg).toNatClampNeg).toInt ≤ 100000 := ra_100 (m := m) hV (k := (m 108 ((l4 * (60 : Int32)) + l2).toNatClampNeg).toNatClampNeg) (i_ix (n := 3100) (by omega) (by omega)).2 | have b29 := i_bd (m 100 (m 108 ((l4 * (60 : Int32)) + l2).toNatClampNeg).toNatClampNeg)
          exact lp_247r_149 (ob := ob) (ix := ix) (oo := oo) h0 K _ _ (l2) (l4) (l6) ((m 108 ((l4 * (60 : Int32)) + l2).toNatClampNeg)) ((m 100 (m 108 ((l4 * (60 : Int32)) + l2).toNatClampNeg).toNatClampNeg)) rfl hF hV (by omega) (by omega) (by omega) (show l2.toInt < (m 102 l4.toNatClampNeg).toInt from by omega) r_ISR (by omega) (by omega) (by omega) (by omega) (by omega) r_W r_GW r_GU r_OW r_GG (show (m 94 10).toInt = 5 from by omega) (show (m 94 8).toInt = 1 from by omega) r_RB r_QI r_MG r_MK r_WTS r_L2e r_REl r_ASl (show (m 108 ((l4 * (60 : Int32)) + l2).toNatClampNeg) = (m 108) (l4 * (60 : Int32) + l2).toNatClampNeg from by first | (exact rfl) | (exfalso; omega; done) | (exfalso; contradiction; done))
    · skip
      have g30 := i_nle h15
      have b31 := i_bd l6
      refine zd (fun (h32 : l6 < (0 : Int32)) => ?_) (fun (h32 : ¬ l6 < (0 : Int32)) => ?_)
      · skip
        have g33 := i_lt h32
        try have w60 := (ra_102 hV (k := l4.toNatClampNeg) (by omega)).2
        try have ww := W_isr r_W (s := l4) (i := l2) (by omega) (by omega) (by omega) (by omega) (by omega) r_ISR
        have li34 : (-1 : Int32).toInt = -1 := rfl
        exact lp_247r_149 (ob := ob) (ix := ix) (oo := oo) h0 K _ _ (l2) (l4) (l6) ((m 108 ((l4 * (60 : Int32)) + l2).toNatClampNeg)) ((-1 : Int32)) rfl hF hV (by omega) (by omega) (by omega) (show l2.toInt < (m 102 l4.toNatClampNeg).toInt from by omega) r_ISR (by omega) (by omega) (by omega) (by omega) (by omega) r_W r_GW r_GU r_OW r_GG (show (m 94 10).toInt = 5 from by omega) (show (m 94 8).toInt = 1 from by omega) r_RB r_QI r_MG r_MK r_WTS r_L2e r_REl r_ASl (show (m 108 ((l4 * (60 : Int32)) + l2).toNatClampNeg) = (m 108) (l4 * (60 : Int32) + l2).toNatClampNeg from by first | (exact rfl) | (exfalso; omega; done) | (exfalso; contradiction; done))
      · skip
        have g35 := i_nlt h32
        have li36 : (4 : Int32).toInt = 4 := rfl
        refine zd (fun (h37 : (m 94 10) = (4 : Int32)) => ?_) (fun (h37 : ¬ (m 94 10) = (4 : Int32)) => ?_)
        · skip
          have g38 := i_eq h37
          exfalso; omega
        · skip
          have g39 := i_ne h37
          try have w60 := (ra_102 hV (k := l4.toNatClampNeg) (by omega)).2
          try have ww := W_isr r_W (s := l4) (i := l2) (by omega) (by omega) (by omega) (by omega) (by omega) r_ISR
          have li40 : (-1 : Int32).toInt = -1 := rfl
          exact lp_247r_149 (ob := ob) (ix := ix) (oo := oo) h0 K _ _ (l2) (l4) (l6) ((m 108 ((l4 * (60 : Int32)) + l2).toNatClampNeg)) ((-1 : Int32)) rfl hF hV (by omega) (by omega) (by omega) (show l2.toInt < (m 102 l4.toNatClampNeg).toInt from by omega) r_ISR (by omega) (by omega) (by omega) (by omega) (by omega) r_W r_GW r_GU r_OW r_GG (show (m 94 10).toInt = 5 from by omega) (show (m 94 8).toInt = 1 from by omega) r_RB r_QI r_MG r_MK r_WTS r_L2e r_REl r_ASl (show (m 108 ((l4 * (60 : Int32)) + l2).toNatClampNeg) = (m 108) (l4 * (60 : Int32) + l2).toNatClampNeg from by first | (exact rfl) | (exfalso; omega; done) | (exfalso; contradiction; done))
set_option maxHeartbeats 8000000 in
theorem lp_247r_105 {X : Nat × (Nat → Int32)} {P : Option ma_V → (Nat → Nat → Int32) → Prop} {T : Nat} {aa : Nat→Nat→Int32} {ob : Int32} {ix : Int32} {oo : Int32} {m0 : Nat → Nat → Int32} (h0 : zV m0) (K : ∀ v m₉, zF wr_247 m0 m₉ → zV m₉ → (zW (m₉ 94 7) (m₉ 98) (m₉ 101) (m₉ 102) (m₉ 108)) → (zGW T (m₉ 94 55) (m₉ 109)) → (zGU T (m₉ 94 46) (m₉ 99)) → (zOw (m₉ 99) (m₉ 103) (m₉ 111)) → (zGG (m₉ 94 58) (m₉ 94 56) (m₉ 94 57) (m₉ 106)) → (qRB (m₉ 99) (m₉ 100) (m₉ 98) (m₉ 101) (m₉ 102) (m₉ 103) (m₉ 107) (m₉ 108) (m₉ 109) (m₉ 111) (m₉ 112) (m₉ 113) (m₉ 114) (m₉ 94 55) (m₉ 94 46) (m₉ 94 11) (m₉ 94 12) (m₉ 94 62) (m₉ 94 17) (m₉ 94 9) (xLi aa ob ix oo)) → (qI (xLi aa ob ix oo)) → (qMG (m₉ 94 58) (m₉ 106) (m₉ 115) (m₉ 94 57) (m₉ 94 56) (m₉ 99) (m₉ 100) (xLi aa ob ix oo)) → ((xLi aa ob ix oo) 87 8 = (m₉ 94 58)) → ((m₉ 94 45).toInt = sm (zbU (m₉ 99)) (m₉ 102) 3100) → P (some (.inl v)) m₉) : ∀ (n : Nat) (m : Nat → Nat → Int32) (l2 : Int32) (l3 : Int32) (l4 : Int32), ((0 : Int)).toNat = n → zF wr_247 m0 m → zV m → (0 ≤ l4.toInt) → (l4.toInt ≤ 3099) → (0 ≤ l2.toInt) → (l2.toInt < (m 102 l4.toNatClampNeg).toInt) → ((m 101) l4.toNatClampNeg = 16 ∨ ((m 101) l4.toNatClampNeg < 16 ∧ (((m 98) ((m 101) l4.toNatClampNeg).toNatClampNeg >>> (l2 &&& 31)) &&& 1) = 1)) → (T ≤ 512) → (zW (m 94 7) (m 98) (m 101) (m 102) (m 108)) → (zGW T (m 94 55) (m 109)) → (zGU T (m 94 46) (m 99)) → (zOw (m 99) (m 103) (m 111)) → (zGG (m 94 58) (m 94 56) (m 94 57) (m 106)) → ((m 94 10).toInt = 5) → ((m 94 8).toInt = 1) → (qRB (m 99) (m 100) (m 98) (m 101) (m 102) (m 103) (m 107) (m 108) (m 109) (m 111) (m 112) (m 113) (m 114) (m 94 55) (m 94 46) (m 94 11) (m 94 12) (m 94 62) (m 94 17) (m 94 9) aa) → (qI aa) → (qMG (m 94 58) (m 106) (m 115) (m 94 57) (m 94 56) (m 99) (m 100) aa) → (aa 87 8 = (m 94 58)) → ((m 94 45).toInt = sm (zbU (m 99)) (m 102) 3100) → (l2 = ix) → (l3 = oo) → (qRe (m 99) (m 100) aa ob l4) → (oo = -1 ∨ zRq aa oo) → zm X 5 109 247 105 [(0, .inr (.inr (some 94))), (2, .inl l2), (3, .inl l3), (4, .inl l4)] m P := by
  intro n
  induction n using Nat.strongRecOn with
  | _ n IH =>
    intro m l2 l3 l4 hmu hF hV hi0 hi1 hi2 hi3 r_ISR hi5 r_W r_GW r_GU r_OW r_GG hi11 hi12 r_RB r_QI r_MG r_MK r_WTS r_L2e r_L3e r_REl r_THy
    refine g_247_105 l2 l3 l4 ?_
    have b1 := i_bd l4
    first | have f2 : 0 ≤ (m 102 l4.toNatClampNeg).toInt ∧ (m 102 l4.toNatClampNeg).toInt ≤ 60 := ra_102 (m := m) hV (k := l4.toNatClampNeg) (i_ix (n := 3100) (by omega) (by omega)).2 | have b3 := i_bd (m 102 l4.toNatClampNeg)
    have f4 : 0 ≤ (m 94 10).toInt ∧ (m 94 10).toInt ≤ 6 := rs_94_10 (m := m) hV
    have f5 : 0 ≤ (m 94 8).toInt ∧ (m 94 8).toInt ≤ 1 := rs_94_8 (m := m) hV
    have b6 := i_bd l3
    have li7 : (-1 : Int32).toInt = -1 := rfl
    refine zd (fun (h8 : l3 = (-1 : Int32)) => ?_) (fun (h8 : ¬ l3 = (-1 : Int32)) => ?_)
    · skip
      have g9 := i_eq h8
      try have w60 := (ra_102 hV (k := l4.toNatClampNeg) (by omega)).2
      try have ww := W_isr r_W (s := l4) (i := l2) (by omega) (by omega) (by omega) (by omega) (by omega) r_ISR
      have b10 := i_bd l2
      exact lp_247r_121 (ob := ob) (ix := ix) (oo := oo) h0 K _ _ (l2) (l4) ((-1 : Int32)) rfl hF hV (by omega) (by omega) (by omega) (show l2.toInt < (m 102 l4.toNatClampNeg).toInt from by omega) r_ISR (by omega) (by omega) (by omega) r_W r_GW r_GU r_OW r_GG (show (m 94 10).toInt = 5 from by omega) (show (m 94 8).toInt = 1 from by omega) r_RB r_QI r_MG r_MK r_WTS r_L2e r_REl (show qAs (m 99) (m 100) aa oo (-1 : Int32) from by first | (exact As_n (r_L3e.symm.trans (by assumption))) | (exfalso; omega; done) | (exfalso; contradiction; done))
    · skip
      have g11 := i_ne h8
      refine sp_246r (l3) hV  (fun v2 m1 hV_m1 p0_m1 p1_m1 => zmi_n ?_)
      have p0_m1 : -1 ≤ v2.toInt ∧ v2.toInt ≤ 3099 := p0_m1
      have p1_m1 : qPl (m 99) (m 100) l3 v2 := p1_m1
      try have w60 := (ra_102 hV (k := l4.toNatClampNeg) (by omega)).2
      try have ww := W_isr r_W (s := l4) (i := l2) (by omega) (by omega) (by omega) (by omega) (by omega) r_ISR
      have b12 := i_bd l2
      have b13 := i_bd v2
      exact lp_247r_121 (ob := ob) (ix := ix) (oo := oo) h0 K _ _ (l2) (l4) (v2) rfl (zF_zov hF ws_246_247) hV_m1 (by omega) (by omega) (by omega) (show l2.toInt < (m 102 l4.toNatClampNeg).toInt from by omega) r_ISR (by omega) (by omega) (by omega) r_W r_GW r_GU r_OW r_GG (show (m 94 10).toInt = 5 from by omega) (show (m 94 8).toInt = 1 from by omega) r_RB r_QI r_MG r_MK r_WTS r_L2e r_REl (show qAs (m 99) (m 100) aa oo v2 from by first | (exact As_p r_RB p1_m1 r_L3e r_THy (by omega)) | (exfalso; omega; done) | (exfalso; contradiction; done))
set_option maxHeartbeats 8000000 in
theorem lp_247r_53 {X : Nat × (Nat → Int32)} {P : Option ma_V → (Nat → Nat → Int32) → Prop} {T : Nat} {aa : Nat→Nat→Int32} {ob : Int32} {ix : Int32} {oo : Int32} {m0 : Nat → Nat → Int32} (h0 : zV m0) (K : ∀ v m₉, zF wr_247 m0 m₉ → zV m₉ → (zW (m₉ 94 7) (m₉ 98) (m₉ 101) (m₉ 102) (m₉ 108)) → (zGW T (m₉ 94 55) (m₉ 109)) → (zGU T (m₉ 94 46) (m₉ 99)) → (zOw (m₉ 99) (m₉ 103) (m₉ 111)) → (zGG (m₉ 94 58) (m₉ 94 56) (m₉ 94 57) (m₉ 106)) → (qRB (m₉ 99) (m₉ 100) (m₉ 98) (m₉ 101) (m₉ 102) (m₉ 103) (m₉ 107) (m₉ 108) (m₉ 109) (m₉ 111) (m₉ 112) (m₉ 113) (m₉ 114) (m₉ 94 55) (m₉ 94 46) (m₉ 94 11) (m₉ 94 12) (m₉ 94 62) (m₉ 94 17) (m₉ 94 9) (xLi aa ob ix oo)) → (qI (xLi aa ob ix oo)) → (qMG (m₉ 94 58) (m₉ 106) (m₉ 115) (m₉ 94 57) (m₉ 94 56) (m₉ 99) (m₉ 100) (xLi aa ob ix oo)) → ((xLi aa ob ix oo) 87 8 = (m₉ 94 58)) → ((m₉ 94 45).toInt = sm (zbU (m₉ 99)) (m₉ 102) 3100) → P (some (.inl v)) m₉) : ∀ (n : Nat) (m : Nat → Nat → Int32) (l2 : Int32) (l3 : Int32) (l4 : Int32) (l5 : Int32), ((0 : Int)).toNat = n → zF wr_247 m0 m → zV m → (-1 ≤ l4.toInt) → (l4.toInt ≤ 3099) → (0 ≤ l5.toInt) → (l5.toInt ≤ 1) → (l5.toInt = 0 ∨ 0 ≤ l4.toInt) → (T ≤ 512) → (zW (m 94 7) (m 98) (m 101) (m 102) (m 108)) → (zGW T (m 94 55) (m 109)) → (zGU T (m 94 46) (m 99)) → (zOw (m 99) (m 103) (m 111)) → (zGG (m 94 58) (m 94 56) (m 94 57) (m 106)) → ((m 94 10).toInt = 5) → ((m 94 8).toInt = 1) → (qRB (m 99) (m 100) (m 98) (m 101) (m 102) (m 103) (m 107) (m 108) (m 109) (m 111) (m 112) (m 113) (m 114) (m 94 55) (m 94 46) (m 94 11) (m 94 12) (m 94 62) (m 94 17) (m 94 9) aa) → (qI aa) → (qMG (m 94 58) (m 106) (m 115) (m 94 57) (m 94 56) (m 99) (m 100) aa) → (aa 87 8 = (m 94 58)) → ((m 94 45).toInt = sm (zbU (m 99)) (m 102) 3100) → (l2 = ix) → (l3 = oo) → (qRe (m 99) (m 100) aa ob l4) → (qTh aa ob oo l5) → zm X 5 109 247 53 [(0, .inr (.inr (some 94))), (2, .inl l2), (3, .inl l3), (4, .inl l4), (5, .inl l5)] m P := by
  intro n
  induction n using Nat.strongRecOn with
  | _ n IH =>
    intro m l2 l3 l4 l5 hmu hF hV hi0 hi1 hi2 hi3 hi4 hi5 r_W r_GW r_GU r_OW r_GG hi11 hi12 r_RB r_QI r_MG r_MK r_WTS r_L2e r_L3e r_REl r_TH
    refine g_247_53 l2 l3 l4 l5 ?_
    have f1 : 0 ≤ (m 94 10).toInt ∧ (m 94 10).toInt ≤ 6 := rs_94_10 (m := m) hV
    have f2 : 0 ≤ (m 94 8).toInt ∧ (m 94 8).toInt ≤ 1 := rs_94_8 (m := m) hV
    have b3 := i_bd l5
    have li4 : (0 : Int32).toInt = 0 := rfl
    refine zd (fun (h5 : l5 = (0 : Int32)) => ?_) (fun (h5 : ¬ l5 = (0 : Int32)) => ?_)
    · skip
      have g6 := i_eq h5
      try have w60 := (ra_102 hV (k := l4.toNatClampNeg) (by omega)).2
      have hV7 : zV (ma_u m 94 0 (2 : Int32)) := uf_94_0 hV
      exact K ((0 : Int32)) _ (zF_u hF rfl) hV7 r_W r_GW r_GU r_OW r_GG (show qRB (m 99) (m 100) (m 98) (m 101) (m 102) (m 103) (m 107) (m 108) (m 109) (m 111) (m 112) (m 113) (m 114) (m 94 55) (m 94 46) (m 94 11) (m 94 12) (m 94 62) (m 94 17) (m 94 9) (xLi aa ob ix oo) from by first | (rw [Th_n r_TH (by omega)]; exact r_RB; done) | (rw [← r_L2e, Li_h r_RB r_REl (by omega) (by omega)]; exact r_RB; done) | (rw [← r_L2e, Li_i r_RB r_REl (by omega) (by omega) (by omega) (by assumption) (fun z => by first | exact absurd (Int32.lt_iff_toInt_lt.mp z.1) (by omega) | exact absurd z.2 (by assumption))]; exact r_RB; done) | (exfalso; omega; done) | (exfalso; contradiction; done)) (show qI (xLi aa ob ix oo) from by first | (rw [Th_n r_TH (by omega)]; exact r_QI; done) | (rw [← r_L2e, Li_h r_RB r_REl (by omega) (by omega)]; exact r_QI; done) | (rw [← r_L2e, Li_i r_RB r_REl (by omega) (by omega) (by omega) (by assumption) (fun z => by first | exact absurd (Int32.lt_iff_toInt_lt.mp z.1) (by omega) | exact absurd z.2 (by assumption))]; exact r_QI; done) | (exfalso; omega; done) | (exfalso; contradiction; done)) (show qMG (m 94 58) (m 106) (m 115) (m 94 57) (m 94 56) (m 99) (m 100) (xLi aa ob ix oo) from by first | (rw [Th_n r_TH (by omega)]; exact r_MG; done) | (rw [← r_L2e, Li_h r_RB r_REl (by omega) (by omega)]; exact r_MG; done) | (rw [← r_L2e, Li_i r_RB r_REl (by omega) (by omega) (by omega) (by assumption) (fun z => by first | exact absurd (Int32.lt_iff_toInt_lt.mp z.1) (by omega) | exact absurd z.2 (by assumption))]; exact r_MG; done) | (exfalso; omega; done) | (exfalso; contradiction; done)) (show (xLi aa ob ix oo) 87 8 = (m 94 58) from by first | (rw [Th_n r_TH (by omega)]; exact r_MK; done) | (rw [← r_L2e, Li_h r_RB r_REl (by omega) (by omega)]; exact r_MK; done) | (rw [← r_L2e, Li_i r_RB r_REl (by omega) (by omega) (by omega) (by assumption) (fun z => by first | exact absurd (Int32.lt_iff_toInt_lt.mp z.1) (by omega) | exact absurd z.2 (by assumption))]; exact r_MK; done) | (exfalso; omega; done) | (exfalso; contradiction; done)) r_WTS
    · skip
      have g8 := i_ne h5
      have b9 := i_bd l2
      refine zd (fun (h10 : l2 < (0 : Int32)) => ?_) (fun (h10 : ¬ l2 < (0 : Int32)) => ?_)
      · skip
        have g11 := i_lt h10
        try have w60 := (ra_102 hV (k := l4.toNatClampNeg) (by omega)).2
        have hV12 : zV (ma_u m 94 0 (3 : Int32)) := uf_94_0 hV
        exact K ((0 : Int32)) _ (zF_u hF rfl) hV12 r_W r_GW r_GU r_OW r_GG (show qRB (m 99) (m 100) (m 98) (m 101) (m 102) (m 103) (m 107) (m 108) (m 109) (m 111) (m 112) (m 113) (m 114) (m 94 55) (m 94 46) (m 94 11) (m 94 12) (m 94 62) (m 94 17) (m 94 9) (xLi aa ob ix oo) from by first | (rw [Th_n r_TH (by omega)]; exact r_RB; done) | (rw [← r_L2e, Li_h r_RB r_REl (by omega) (by omega)]; exact r_RB; done) | (rw [← r_L2e, Li_i r_RB r_REl (by omega) (by omega) (by omega) (by assumption) (fun z => by first | exact absurd (Int32.lt_iff_toInt_lt.mp z.1) (by omega) | exact absurd z.2 (by assumption))]; exact r_RB; done) | (exfalso; omega; done) | (exfalso; contradiction; done)) (show qI (xLi aa ob ix oo) from by first | (rw [Th_n r_TH (by omega)]; exact r_QI; done) | (rw [← r_L2e, Li_h r_RB r_REl (by omega) (by omega)]; exact r_QI; done) | (rw [← r_L2e, Li_i r_RB r_REl (by omega) (by omega) (by omega) (by assumption) (fun z => by first | exact absurd (Int32.lt_iff_toInt_lt.mp z.1) (by omega) | exact absurd z.2 (by assumption))]; exact r_QI; done) | (exfalso; omega; done) | (exfalso; contradiction; done)) (show qMG (m 94 58) (m 106) (m 115) (m 94 57) (m 94 56) (m 99) (m 100) (xLi aa ob ix oo) from by first | (rw [Th_n r_TH (by omega)]; exact r_MG; done) | (rw [← r_L2e, Li_h r_RB r_REl (by omega) (by omega)]; exact r_MG; done) | (rw [← r_L2e, Li_i r_RB r_REl (by omega) (by omega) (by omega) (by assumption) (fun z => by first | exact absurd (Int32.lt_iff_toInt_lt.mp z.1) (by omega) | exact absurd z.2 (by assumption))]; exact r_MG; done) | (exfalso; omega; done) | (exfalso; contradiction; done)) (show (xLi aa ob ix oo) 87 8 = (m 94 58) from by first | (rw [Th_n r_TH (by omega)]; exact r_MK; done) | (rw [← r_L2e, Li_h r_RB r_REl (by omega) (by omega)]; exact r_MK; done) | (rw [← r_L2e, Li_i r_RB r_REl (by omega) (by omega) (by omega) (by assumption) (fun z => by first | exact absurd (Int32.lt_iff_toInt_lt.mp z.1) (by omega) | exact absurd z.2 (by assumption))]; exact r_MK; done) | (exfalso; omega; done) | (exfalso; contradiction; done)) r_WTS
      · skip
        have g13 := i_nlt h10
        have b14 := i_bd l4
        have hg15 : (0 ≤ l4 ∧ l4.toNatClampNeg < 3100) := i_ix (by omega) (by omega)
        refine ⟨hg15, ?_⟩
        first | have f16 : 0 ≤ (m 102 l4.toNatClampNeg).toInt ∧ (m 102 l4.toNatClampNeg).toInt ≤ 60 := ra_102 (m := m) hV (k := l4.toNatClampNeg) (i_ix (n := 3100) (by omega) (by omega)).2 | have b17 := i_bd (m 102 l4.toNatClampNeg)
        refine zd (fun (h18 : l2 < (m 102 l4.toNatClampNeg)) => ?_) (fun (h18 : ¬ l2 < (m 102 l4.toNatClampNeg)) => ?_)
        · skip
          have g19 := i_lt h18
          have hg20 : (0 ≤ l4 ∧ l4.toNatClampNeg < 3100) := i_ix (by omega) (by omega)
          refine ⟨hg20, ?_⟩
          first | have f21 : 0 ≤ (m 101 l4.toNatClampNeg).toInt ∧ (m 101 l4.toNatClampNeg).toInt ≤ 17 := ra_101 (m := m) hV (k := l4.toNatClampNeg) (i_ix (n := 3100) (by omega) (by omega)).2 | have b22 := i_bd (m 101 l4.toNatClampNeg)
          have li23 : (16 : Int32).toInt = 16 := rfl
          refine zd (fun (h24 : (m 101 l4.toNatClampNeg) = (16 : Int32)) => ?_) (fun (h24 : ¬ (m 101 l4.toNatClampNeg) = (16 : Int32)) => ?_)
          · skip
            have g25 := i_eq h24
            try have w60 := (ra_102 hV (k := l4.toNatClampNeg) (by omega)).2
            have hV26 : zV (ma_u m 94 0 (0 : Int32)) := uf_94_0 hV
            have b27 := i_bd l3
            exact lp_247r_105 (ob := ob) (ix := ix) (oo := oo) h0 K _ _ (l2) (l3) (l4) rfl (zF_u hF rfl) hV26 (by omega) (by omega) (by omega) (show l2.toInt < (m 102 l4.toNatClampNeg).toInt from by omega) (show (m 101) l4.toNatClampNeg = 16 ∨ ((m 101) l4.toNatClampNeg < 16 ∧ (((m 98) ((m 101) l4.toNatClampNeg).toNatClampNeg >>> (l2 &&& 31)) &&& 1) = 1) from by first | (exact Or.inl (by assumption)) | (exact Or.inr ⟨Int32.not_le.mp (by assumption), by assumption⟩) | (exfalso; omega; done) | (exfalso; contradiction; done)) (by omega) r_W r_GW r_GU r_OW r_GG (show (m 94 10).toInt = 5 from by omega) (show (m 94 8).toInt = 1 from by omega) r_RB r_QI r_MG r_MK r_WTS r_L2e r_L3e r_REl (show oo = -1 ∨ zRq aa oo from by first | (exact Th_y r_TH (by omega)) | (exfalso; omega; done) | (exfalso; contradiction; done))
          · skip
            have g28 := i_ne h24
            have hg29 : (0 ≤ l4 ∧ l4.toNatClampNeg < 3100) := i_ix (by omega) (by omega)
            refine ⟨hg29, ?_⟩
            refine zd (fun (h30 : (16 : Int32) ≤ (m 101 l4.toNatClampNeg)) => ?_) (fun (h30 : ¬ (16 : Int32) ≤ (m 101 l4.toNatClampNeg)) => ?_)
            · skip
              have g31 := i_le h30
              try have w60 := (ra_102 hV (k := l4.toNatClampNeg) (by omega)).2
              have hV32 : zV (ma_u m 94 0 (4 : Int32)) := uf_94_0 hV
              exact K ((0 : Int32)) _ (zF_u hF rfl) hV32 r_W r_GW r_GU r_OW r_GG (show qRB (m 99) (m 100) (m 98) (m 101) (m 102) (m 103) (m 107) (m 108) (m 109) (m 111) (m 112) (m 113) (m 114) (m 94 55) (m 94 46) (m 94 11) (m 94 12) (m 94 62) (m 94 17) (m 94 9) (xLi aa ob ix oo) from by first | (rw [Th_n r_TH (by omega)]; exact r_RB; done) | (rw [← r_L2e, Li_h r_RB r_REl (by omega) (by omega)]; exact r_RB; done) | (rw [← r_L2e, Li_i r_RB r_REl (by omega) (by omega) (by omega) (by assumption) (fun z => by first | exact absurd (Int32.lt_iff_toInt_lt.mp z.1) (by omega) | exact absurd z.2 (by assumption))]; exact r_RB; done) | (exfalso; omega; done) | (exfalso; contradiction; done)) (show qI (xLi aa ob ix oo) from by first | (rw [Th_n r_TH (by omega)]; exact r_QI; done) | (rw [← r_L2e, Li_h r_RB r_REl (by omega) (by omega)]; exact r_QI; done) | (rw [← r_L2e, Li_i r_RB r_REl (by omega) (by omega) (by omega) (by assumption) (fun z => by first | exact absurd (Int32.lt_iff_toInt_lt.mp z.1) (by omega) | exact absurd z.2 (by assumption))]; exact r_QI; done) | (exfalso; omega; done) | (exfalso; contradiction; done)) (show qMG (m 94 58) (m 106) (m 115) (m 94 57) (m 94 56) (m 99) (m 100) (xLi aa ob ix oo) from by first | (rw [Th_n r_TH (by omega)]; exact r_MG; done) | (rw [← r_L2e, Li_h r_RB r_REl (by omega) (by omega)]; exact r_MG; done) | (rw [← r_L2e, Li_i r_RB r_REl (by omega) (by omega) (by omega) (by assumption) (fun z => by first | exact absurd (Int32.lt_iff_toInt_lt.mp z.1) (by omega) | exact absurd z.2 (by assumption))]; exact r_MG; done) | (exfalso; omega; done) | (exfalso; contradiction; done)) (show (xLi aa ob ix oo) 87 8 = (m 94 58) from by first | (rw [Th_n r_TH (by omega)]; exact r_MK; done) | (rw [← r_L2e, Li_h r_RB r_REl (by omega) (by omega)]; exact r_MK; done) | (rw [← r_L2e, Li_i r_RB r_REl (by omega) (by omega) (by omega) (by assumption) (fun z => by first | exact absurd (Int32.lt_iff_toInt_lt.mp z.1) (by omega) | exact absurd z.2 (by assumption))]; exact r_MK; done) | (exfalso; omega; done) | (exfalso; contradiction; done)) r_WTS
            · skip
              have g33 := i_nle h30
              have hg34 : (0 ≤ l4 ∧ l4.toNatClampNeg < 3100) := i_ix (by omega) (by omega)
              refine ⟨hg34, ?_⟩
              have hg35 : (0 ≤ (m 101 l4.toNatClampNeg) ∧ (m 101 l4.toNatClampNeg).toNatClampNeg < 16) := i_ix (by omega) (by omega)
              refine ⟨hg35, ?_⟩
              have b36 := i_bd (((m 98 (m 101 l4.toNatClampNeg).toNatClampNeg) >>> (l2 &&& 31)) &&& (1 : Int32))
              have li37 : (1 : Int32).toInt = 1 := rfl
              refine zd (fun (h38 : (((m 98 (m 101 l4.toNatClampNeg).toNatClampNeg) >>> (l2 &&& 31)) &&& (1 : Int32)) = (1 : Int32)) => ?_) (fun (h38 : ¬ (((m 98 (m 101 l4.toNatClampNeg).toNatClampNeg) >>> (l2 &&& 31)) &&& (1 : Int32)) = (1 : Int32)) => ?_)
              · skip
                have g39 := i_eq h38
                try have w60 := (ra_102 hV (k := l4.toNatClampNeg) (by omega)).2
                have hV40 : zV (ma_u m 94 0 (0 : Int32)) := uf_94_0 hV
                have b41 := i_bd l3
                exact lp_247r_105 (ob := ob) (ix := ix) (oo := oo) h0 K _ _ (l2) (l3) (l4) rfl (zF_u hF rfl) hV40 (by omega) (by omega) (by omega) (show l2.toInt < (m 102 l4.toNatClampNeg).toInt from by omega) (show (m 101) l4.toNatClampNeg = 16 ∨ ((m 101) l4.toNatClampNeg < 16 ∧ (((m 98) ((m 101) l4.toNatClampNeg).toNatClampNeg >>> (l2 &&& 31)) &&& 1) = 1) from by first | (exact Or.inl (by assumption)) | (exact Or.inr ⟨Int32.not_le.mp (by assumption), by assumption⟩) | (exfalso; omega; done) | (exfalso; contradiction; done)) (by omega) r_W r_GW r_GU r_OW r_GG (show (m 94 10).toInt = 5 from by omega) (show (m 94 8).toInt = 1 from by omega) r_RB r_QI r_MG r_MK r_WTS r_L2e r_L3e r_REl (show oo = -1 ∨ zRq aa oo from by first | (exact Th_y r_TH (by omega)) | (exfalso; omega; done) | (exfalso; contradiction; done))
              · skip
                have g42 := i_ne h38
                try have w60 := (ra_102 hV (k := l4.toNatClampNeg) (by omega)).2
                have hV43 : zV (ma_u m 94 0 (4 : Int32)) := uf_94_0 hV
                exact K ((0 : Int32)) _ (zF_u hF rfl) hV43 r_W r_GW r_GU r_OW r_GG (show qRB (m 99) (m 100) (m 98) (m 101) (m 102) (m 103) (m 107) (m 108) (m 109) (m 111) (m 112) (m 113) (m 114) (m 94 55) (m 94 46) (m 94 11) (m 94 12) (m 94 62) (m 94 17) (m 94 9) (xLi aa ob ix oo) from by first | (rw [Th_n r_TH (by omega)]; exact r_RB; done) | (rw [← r_L2e, Li_h r_RB r_REl (by omega) (by omega)]; exact r_RB; done) | (rw [← r_L2e, Li_i r_RB r_REl (by omega) (by omega) (by omega) (by assumption) (fun z => by first | exact absurd (Int32.lt_iff_toInt_lt.mp z.1) (by omega) | exact absurd z.2 (by assumption))]; exact r_RB; done) | (exfalso; omega; done) | (exfalso; contradiction; done)) (show qI (xLi aa ob ix oo) from by first | (rw [Th_n r_TH (by omega)]; exact r_QI; done) | (rw [← r_L2e, Li_h r_RB r_REl (by omega) (by omega)]; exact r_QI; done) | (rw [← r_L2e, Li_i r_RB r_REl (by omega) (by omega) (by omega) (by assumption) (fun z => by first | exact absurd (Int32.lt_iff_toInt_lt.mp z.1) (by omega) | exact absurd z.2 (by assumption))]; exact r_QI; done) | (exfalso; omega; done) | (exfalso; contradiction; done)) (show qMG (m 94 58) (m 106) (m 115) (m 94 57) (m 94 56) (m 99) (m 100) (xLi aa ob ix oo) from by first | (rw [Th_n r_TH (by omega)]; exact r_MG; done) | (rw [← r_L2e, Li_h r_RB r_REl (by omega) (by omega)]; exact r_MG; done) | (rw [← r_L2e, Li_i r_RB r_REl (by omega) (by omega) (by omega) (by assumption) (fun z => by first | exact absurd (Int32.lt_iff_toInt_lt.mp z.1) (by omega) | exact absurd z.2 (by assumption))]; exact r_MG; done) | (exfalso; omega; done) | (exfalso; contradiction; done)) (show (xLi aa ob ix oo) 87 8 = (m 94 58) from by first | (rw [Th_n r_TH (by omega)]; exact r_MK; done) | (rw [← r_L2e, Li_h r_RB r_REl (by omega) (by omega)]; exact r_MK; done) | (rw [← r_L2e, Li_i r_RB r_REl (by omega) (by omega) (by omega) (by assumption) (fun z => by first | exact absurd (Int32.lt_iff_toInt_lt.mp z.1) (by omega) | exact absurd z.2 (by assumption))]; exact r_MK; done) | (exfalso; omega; done) | (exfalso; contradiction; done)) r_WTS
        · skip
          have g44 := i_nlt h18
          try have w60 := (ra_102 hV (k := l4.toNatClampNeg) (by omega)).2
          have hV45 : zV (ma_u m 94 0 (3 : Int32)) := uf_94_0 hV
          exact K ((0 : Int32)) _ (zF_u hF rfl) hV45 r_W r_GW r_GU r_OW r_GG (show qRB (m 99) (m 100) (m 98) (m 101) (m 102) (m 103) (m 107) (m 108) (m 109) (m 111) (m 112) (m 113) (m 114) (m 94 55) (m 94 46) (m 94 11) (m 94 12) (m 94 62) (m 94 17) (m 94 9) (xLi aa ob ix oo) from by first | (rw [Th_n r_TH (by omega)]; exact r_RB; done) | (rw [← r_L2e, Li_h r_RB r_REl (by omega) (by omega)]; exact r_RB; done) | (rw [← r_L2e, Li_i r_RB r_REl (by omega) (by omega) (by omega) (by assumption) (fun z => by first | exact absurd (Int32.lt_iff_toInt_lt.mp z.1) (by omega) | exact absurd z.2 (by assumption))]; exact r_RB; done) | (exfalso; omega; done) | (exfalso; contradiction; done)) (show qI (xLi aa ob ix oo) from by first | (rw [Th_n r_TH (by omega)]; exact r_QI; done) | (rw [← r_L2e, Li_h r_RB r_REl (by omega) (by omega)]; exact r_QI; done) | (rw [← r_L2e, Li_i r_RB r_REl (by omega) (by omega) (by omega) (by assumption) (fun z => by first | exact absurd (Int32.lt_iff_toInt_lt.mp z.1) (by omega) | exact absurd z.2 (by assumption))]; exact r_QI; done) | (exfalso; omega; done) | (exfalso; contradiction; done)) (show qMG (m 94 58) (m 106) (m 115) (m 94 57) (m 94 56) (m 99) (m 100) (xLi aa ob ix oo) from by first | (rw [Th_n r_TH (by omega)]; exact r_MG; done) | (rw [← r_L2e, Li_h r_RB r_REl (by omega) (by omega)]; exact r_MG; done) | (rw [← r_L2e, Li_i r_RB r_REl (by omega) (by omega) (by omega) (by assumption) (fun z => by first | exact absurd (Int32.lt_iff_toInt_lt.mp z.1) (by omega) | exact absurd z.2 (by assumption))]; exact r_MG; done) | (exfalso; omega; done) | (exfalso; contradiction; done)) (show (xLi aa ob ix oo) 87 8 = (m 94 58) from by first | (rw [Th_n r_TH (by omega)]; exact r_MK; done) | (rw [← r_L2e, Li_h r_RB r_REl (by omega) (by omega)]; exact r_MK; done) | (rw [← r_L2e, Li_i r_RB r_REl (by omega) (by omega) (by omega) (by assumption) (fun z => by first | exact absurd (Int32.lt_iff_toInt_lt.mp z.1) (by omega) | exact absurd z.2 (by assumption))]; exact r_MK; done) | (exfalso; omega; done) | (exfalso; contradiction; done)) r_WTS
set_option maxHeartbeats 8000000 in
theorem sp_247r {X : Nat × (Nat → Int32)} {P : Option ma_V → (Nat → Nat → Int32) → Prop} {T : Nat} {aa : Nat→Nat→Int32} {m : Nat → Nat → Int32} (ob : Int32) (ix : Int32) (oo : Int32) (hV : zV m) (hpre0 : T ≤ 512) (r_W : zW (m 94 7) (m 98) (m 101) (m 102) (m 108)) (r_GW : zGW T (m 94 55) (m 109)) (r_GU : zGU T (m 94 46) (m 99)) (r_OW : zOw (m 99) (m 103) (m 111)) (r_GG : zGG (m 94 58) (m 94 56) (m 94 57) (m 106)) (hpre6 : (m 94 10).toInt = 5) (hpre7 : (m 94 8).toInt = 1) (r_RB : qRB (m 99) (m 100) (m 98) (m 101) (m 102) (m 103) (m 107) (m 108) (m 109) (m 111) (m 112) (m 113) (m 114) (m 94 55) (m 94 46) (m 94 11) (m 94 12) (m 94 62) (m 94 17) (m 94 9) aa) (r_QI : qI aa) (r_MG : qMG (m 94 58) (m 106) (m 115) (m 94 57) (m 94 56) (m 99) (m 100) aa) (r_MK : aa 87 8 = (m 94 58)) (r_WTS : (m 94 45).toInt = sm (zbU (m 99)) (m 102) 3100) (KZ : ∀ v m₉, zV (zov wr_247 m m₉) → (zW (m 94 7) (m 98) (m 101) (m 102) (m₉ 108)) → (zGW T (m₉ 94 55) (m₉ 109)) → (zGU T (m 94 46) (m₉ 99)) → (zOw (m₉ 99) (m 103) (m₉ 111)) → (zGG (m 94 58) (m₉ 94 56) (m 94 57) (m₉ 106)) → (qRB (m₉ 99) (m 100) (m 98) (m 101) (m 102) (m 103) (m 107) (m₉ 108) (m₉ 109) (m₉ 111) (m 112) (m₉ 113) (m₉ 114) (m₉ 94 55) (m 94 46) (m 94 11) (m 94 12) (m 94 62) (m 94 17) (m 94 9) (xLi aa ob ix oo)) → (qI (xLi aa ob ix oo)) → (qMG (m 94 58) (m₉ 106) (m₉ 115) (m 94 57) (m₉ 94 56) (m₉ 99) (m 100) (xLi aa ob ix oo)) → ((xLi aa ob ix oo) 87 8 = (m 94 58)) → ((m₉ 94 45).toInt = sm (zbU (m₉ 99)) (m 102) 3100) → P (some (.inl v)) (zov wr_247 m m₉)) : zm X 5 109 247 0 [(0, .inr (.inr (some 94))), (1, .inl ob), (2, .inl ix), (3, .inl oo)] m P := by
  have K : ∀ v m₉, zF wr_247 m m₉ → zV m₉ → (zW (m₉ 94 7) (m₉ 98) (m₉ 101) (m₉ 102) (m₉ 108)) → (zGW T (m₉ 94 55) (m₉ 109)) → (zGU T (m₉ 94 46) (m₉ 99)) → (zOw (m₉ 99) (m₉ 103) (m₉ 111)) → (zGG (m₉ 94 58) (m₉ 94 56) (m₉ 94 57) (m₉ 106)) → (qRB (m₉ 99) (m₉ 100) (m₉ 98) (m₉ 101) (m₉ 102) (m₉ 103) (m₉ 107) (m₉ 108) (m₉ 109) (m₉ 111) (m₉ 112) (m₉ 113) (m₉ 114) (m₉ 94 55) (m₉ 94 46) (m₉ 94 11) (m₉ 94 12) (m₉ 94 62) (m₉ 94 17) (m₉ 94 9) (xLi aa ob ix oo)) → (qI (xLi aa ob ix oo)) → (qMG (m₉ 94 58) (m₉ 106) (m₉ 115) (m₉ 94 57) (m₉ 94 56) (m₉ 99) (m₉ 100) (xLi aa ob ix oo)) → ((xLi aa ob ix oo) 87 8 = (m₉ 94 58)) → ((m₉ 94 45).toInt = sm (zbU (m₉ 99)) (m₉ 102) 3100) → P (some (.inl v)) m₉ := by
    intro v m₉ hf z q0 q1 q2 q3 q4 q5 q6 q7 q8 q9
    have e := zov_eq hf
    rw [e] at z ⊢
    try rw [e] at q0
    try rw [e] at q1
    try rw [e] at q2
    try rw [e] at q3
    try rw [e] at q4
    try rw [e] at q5
    try rw [e] at q6
    try rw [e] at q7
    try rw [e] at q8
    try rw [e] at q9
    exact KZ v m₉ z q0 q1 q2 q3 q4 q5 q6 q7 q8 q9
  refine g_247_0 ob ix oo ?_
  have f1 : 0 ≤ (m 94 10).toInt ∧ (m 94 10).toInt ≤ 6 := rs_94_10 (m := m) hV
  have f2 : 0 ≤ (m 94 8).toInt ∧ (m 94 8).toInt ≤ 1 := rs_94_8 (m := m) hV
  have li3 : (0 : Int32).toInt = 0 := rfl
  refine zd (fun (h4 : (m 94 8) = (0 : Int32)) => ?_) (fun (h4 : ¬ (m 94 8) = (0 : Int32)) => ?_)
  · skip
    have g5 := i_eq h4
    exfalso; omega
  · skip
    have g6 := i_ne h4
    have b7 := i_bd ob
    have hV8 : zV (ma_u m 94 0 (0 : Int32)) := uf_94_0 hV
    refine sp_245r (aa := aa) (ob) hV8 r_W r_RB r_QI (fun v2 m1 hV_m1 p0_m1 p1_m1 p2_m1 => zmi_n ?_)
    have p0_m1 : -1 ≤ v2.toInt ∧ v2.toInt ≤ 3099 := p0_m1
    have p1_m1 : v2.toInt < 0 ∨ (m 99) v2.toNatClampNeg ≠ 0 := p1_m1
    have p2_m1 : qRe (m 99) (m 100) aa ob v2 := p2_m1
    have b9 := i_bd v2
    refine zd (fun (h10 : v2 < (0 : Int32)) => ?_) (fun (h10 : ¬ v2 < (0 : Int32)) => ?_)
    · skip
      have g11 := i_lt h10
      try have w60 := (ra_102 hV (k := l4.toNatClampNeg) (by omega)).2
      have b12 := i_bd ix
      have b13 := i_bd oo
      exact lp_247r_53 (ob := ob) (ix := ix) (oo := oo) hV K _ _ (ix) (oo) (v2) ((0 : Int32)) rfl (zF_zov (zF_u zF_rfl rfl) ws_245_247) hV_m1 (by omega) (by omega) (by omega) (by omega) (by omega) (by omega) r_W r_GW r_GU r_OW r_GG (show (m 94 10).toInt = 5 from by omega) (show (m 94 8).toInt = 1 from by omega) r_RB r_QI r_MG r_MK r_WTS (show ix = ix from by first | (exact rfl) | (exfalso; omega; done) | (exfalso; contradiction; done)) (show oo = oo from by first | (exact rfl) | (exfalso; omega; done) | (exfalso; contradiction; done)) (show qRe (m 99) (m 100) aa ob v2 from by first | (exact p2_m1) | (exfalso; omega; done) | (exfalso; contradiction; done)) (show qTh aa ob oo (0 : Int32) from by first | (exact Or.inr ⟨by decide, fun w => Re_n p2_m1 (by omega) w.1⟩) | (exact Or.inl ⟨by decide, (Re_y p2_m1 (by omega)).2.2.2, Or.inl (by assumption)⟩) | (exfalso; omega; done) | (exfalso; contradiction; done))
    · skip
      have g14 := i_nlt h10
      have b15 := i_bd oo
      have li16 : (-1 : Int32).toInt = -1 := rfl
      refine zd (fun (h17 : oo = (-1 : Int32)) => ?_) (fun (h17 : ¬ oo = (-1 : Int32)) => ?_)
      · skip
        have g18 := i_eq h17
        try have w60 := (ra_102 hV (k := l4.toNatClampNeg) (by omega)).2
        have b19 := i_bd ix
        have li20 : (1 : Int32).toInt = 1 := rfl
        exact lp_247r_53 (ob := ob) (ix := ix) (oo := oo) hV K _ _ (ix) (oo) (v2) ((1 : Int32)) rfl (zF_zov (zF_u zF_rfl rfl) ws_245_247) hV_m1 (by omega) (by omega) (by omega) (by omega) (by omega) (by omega) r_W r_GW r_GU r_OW r_GG (show (m 94 10).toInt = 5 from by omega) (show (m 94 8).toInt = 1 from by omega) r_RB r_QI r_MG r_MK r_WTS (show ix = ix from by first | (exact rfl) | (exfalso; omega; done) | (exfalso; contradiction; done)) (show oo = oo from by first | (exact rfl) | (exfalso; omega; done) | (exfalso; contradiction; done)) (show qRe (m 99) (m 100) aa ob v2 from by first | (exact p2_m1) | (exfalso; omega; done) | (exfalso; contradiction; done)) (show qTh aa ob oo (1 : Int32) from by first | (exact Or.inr ⟨by decide, fun w => Re_n p2_m1 (by omega) w.1⟩) | (exact Or.inl ⟨by decide, (Re_y p2_m1 (by omega)).2.2.2, Or.inl (by assumption)⟩) | (exfalso; omega; done) | (exfalso; contradiction; done))
      · skip
        have g21 := i_ne h17
        refine sp_245r (aa := aa) (oo) hV_m1 r_W r_RB r_QI (fun v4 m3 hV_m3 p0_m3 p1_m3 p2_m3 => zmi_n ?_)
        have p0_m3 : -1 ≤ v4.toInt ∧ v4.toInt ≤ 3099 := p0_m3
        have p1_m3 : v4.toInt < 0 ∨ (m 99) v4.toNatClampNeg ≠ 0 := p1_m3
        have p2_m3 : qRe (m 99) (m 100) aa oo v4 := p2_m3
        have b22 := i_bd v4
        refine zd (fun (h23 : v4 < (0 : Int32)) => ?_) (fun (h23 : ¬ v4 < (0 : Int32)) => ?_)
        · skip
          have g24 := i_lt h23
          try have w60 := (ra_102 hV (k := l4.toNatClampNeg) (by omega)).2
          have b25 := i_bd ix
          exact lp_247r_53 (ob := ob) (ix := ix) (oo := oo) hV K _ _ (ix) (oo) (v2) ((0 : Int32)) rfl (zF_zov (zF_zov (zF_u zF_rfl rfl) ws_245_247) ws_245_247) hV_m3 (by omega) (by omega) (by omega) (by omega) (by omega) (by omega) r_W r_GW r_GU r_OW r_GG (show (m 94 10).toInt = 5 from by omega) (show (m 94 8).toInt = 1 from by omega) r_RB r_QI r_MG r_MK r_WTS (show ix = ix from by first | (exact rfl) | (exfalso; omega; done) | (exfalso; contradiction; done)) (show oo = oo from by first | (exact rfl) | (exfalso; omega; done) | (exfalso; contradiction; done)) (show qRe (m 99) (m 100) aa ob v2 from by first | (exact p2_m1) | (exfalso; omega; done) | (exfalso; contradiction; done)) (show qTh aa ob oo (0 : Int32) from by first | (exact Or.inl ⟨by decide, (Re_y p2_m1 (by omega)).2.2.2, Or.inr (Re_y p2_m3 (by omega)).2.2.2⟩) | (exact Or.inr ⟨by decide, fun w => w.2.elim (fun z => absurd (congrArg Int32.toInt z) (by omega)) (Re_n p2_m3 (by omega))⟩) | (exfalso; omega; done) | (exfalso; contradiction; done))
        · skip
          have g26 := i_nlt h23
          try have w60 := (ra_102 hV (k := l4.toNatClampNeg) (by omega)).2
          have b27 := i_bd ix
          have li28 : (1 : Int32).toInt = 1 := rfl
          exact lp_247r_53 (ob := ob) (ix := ix) (oo := oo) hV K _ _ (ix) (oo) (v2) ((1 : Int32)) rfl (zF_zov (zF_zov (zF_u zF_rfl rfl) ws_245_247) ws_245_247) hV_m3 (by omega) (by omega) (by omega) (by omega) (by omega) (by omega) r_W r_GW r_GU r_OW r_GG (show (m 94 10).toInt = 5 from by omega) (show (m 94 8).toInt = 1 from by omega) r_RB r_QI r_MG r_MK r_WTS (show ix = ix from by first | (exact rfl) | (exfalso; omega; done) | (exfalso; contradiction; done)) (show oo = oo from by first | (exact rfl) | (exfalso; omega; done) | (exfalso; contradiction; done)) (show qRe (m 99) (m 100) aa ob v2 from by first | (exact p2_m1) | (exfalso; omega; done) | (exfalso; contradiction; done)) (show qTh aa ob oo (1 : Int32) from by first | (exact Or.inl ⟨by decide, (Re_y p2_m1 (by omega)).2.2.2, Or.inr (Re_y p2_m3 (by omega)).2.2.2⟩) | (exact Or.inr ⟨by decide, fun w => w.2.elim (fun z => absurd (congrArg Int32.toInt z) (by omega)) (Re_n p2_m3 (by omega))⟩) | (exfalso; omega; done) | (exfalso; contradiction; done))

/-! from 95.h35 -/
/-! the reference by numbers (written by wip/tools/gen18r.py) -/
/-! A FREE PLACE THAT IS LONG ENOUGH -/
def qFs (b : Nat → Nat → Int32) (z p : Int) : Prop := 0 ≤ p ∧ p + z ≤ (b 87 0).toInt ∧ ∀ n, xAl b n → (b 130 n).toInt + (b 128 n).toInt ≤ p ∨ p + z ≤ (b 130 n).toInt
section QF
variable {b : Nat → Nat → Int32} {p q z bb v l : Int} {s : Int32} {k : Nat}
theorem Un_g (hI : qI b) (g : qGd b q) (h0 : 0 ≤ q) (h5 : q < 4500) (hf : (zOb b q).toInt < 0) : ∀ n, xAl b n → ¬ ((b 130 n).toInt ≤ q ∧ q < (b 130 n).toInt + (b 128 n).toInt) := by
  intro n hn w
  have gg := g n hn
  have i := hI.1 n hn
  have ep : (b 130 n).toInt = q := by omega
  have z := i.2.2.2
  rw [tn_i i.1.2 ep] at z
  have e := ofN_i hn.1
  have : zOb b q = Int32.ofNat n := by
    unfold zOb
    rw [z, if_pos ⟨h0, h5, by omega, by have := hn.1; omega, by rw [tn_of hn.1]; exact hn.2⟩]
  rw [this] at hf
  omega
theorem E_un (hI : qI b) : ∀ (f : Nat) (p : Int), ((b 87 0).toInt - p).toNat = f → qGd b p → 0 ≤ p → ∀ q, p ≤ q → q < aE b p → ∀ n, xAl b n → ¬ ((b 130 n).toInt ≤ q ∧ q < (b 130 n).toInt + (b 128 n).toInt) := by
  intro f
  have r5 := hI.2.2.2.1.2.2.1
  induction f using Nat.strongRecOn with
  | _ f IH =>
    intro p hf g h0 q h1 h2
    by_cases c : p < (b 87 0).toInt ∧ (zOb b p).toInt < 0
    · by_cases e : q = p
      · rw [e]
        exact Un_g hI g h0 (by omega) c.2
      · rw [aE_go c.1 c.2] at h2
        exact IH _ (by omega) (p + 1) rfl (Gd_s hI g c.2 h0 (by omega)) (by omega) q (by omega) h2
    · rw [aE_st c] at h2
      omega
theorem Gd_ro (hI : qI b) : qGd b (b 87 0).toInt := by
  intro n hn w
  have := (hI.1 n hn).2.2.1
  omega
theorem Gd_N (hI : qI b) : ∀ (f : Nat) (p : Int), ((b 87 0).toInt - p).toNat = f → qGd b p → qGd b (aN b p) := by
  intro f
  induction f using Nat.strongRecOn with
  | _ f IH =>
    intro p hf g
    by_cases c : p < (b 87 0).toInt
    · by_cases d : (zOb b p).toInt < 0
      · rw [aN_fr c d]
        exact g
      · have nx := Gd_nx hI g (by omega)
        rw [aN_ob (Sz_I hI) c (by omega)]
        exact IH _ (by omega) _ rfl nx.1
    · rw [aN_ro (by omega)]
      exact Gd_ro hI
theorem Gd_E (hI : qI b) : ∀ (f : Nat) (p : Int), ((b 87 0).toInt - p).toNat = f → 0 ≤ p → qGd b p → qGd b (aE b p) := by
  intro f
  have r5 := hI.2.2.2.1.2.2.1
  induction f using Nat.strongRecOn with
  | _ f IH =>
    intro p hf h0 g
    by_cases c : p < (b 87 0).toInt ∧ (zOb b p).toInt < 0
    · rw [aE_go c.1 c.2]
      exact IH _ (by omega) (p + 1) rfl (by omega) (Gd_s hI g c.2 h0 (by omega))
    · rw [aE_st c]
      exact g
theorem FS_of (hI : qI b) (g : qGd b p) (h0 : 0 ≤ p) (h1 : p ≤ (b 87 0).toInt) (hz : z ≤ aE b p - p) (hz1 : 1 ≤ z) : qFs b z p := by
  have ge := aE_ge (a := b) _ p rfl
  have g2 := ge.2.2 h1
  refine ⟨h0, by omega, fun n hn => ?_⟩
  by_cases c : (b 130 n).toInt + (b 128 n).toInt ≤ p
  · exact Or.inl c
  · by_cases d : p + z ≤ (b 130 n).toInt
    · exact Or.inr d
    · exfalso
      have sz := (hI.1 n hn).2.1.1
      by_cases e : p ≤ (b 130 n).toInt
      · exact E_un hI _ p rfl g h0 (b 130 n).toInt e (by omega) n hn (by omega)
      · exact E_un hI _ p rfl g h0 p (by omega) (by omega) n hn (by omega)
theorem nx_ok (hI : qI b) (g : qGd b p) (h0 : 0 ≤ p) (h1 : p ≤ (b 87 0).toInt) : qGd b (aN b (aE b p)) ∧ 0 ≤ aN b (aE b p) ∧ aN b (aE b p) ≤ (b 87 0).toInt := by
  have ge := aE_ge (a := b) _ p rfl
  have g2 := ge.2.2 h1
  have gn := aN_ge (Sz_I hI) _ (aE b p) rfl g2
  exact ⟨Gd_N hI _ _ rfl (Gd_E hI _ _ rfl h0 g), by omega, gn.2.1⟩
theorem Ff_fs (hI : qI b) (hz1 : 1 ≤ z) (hb : bb ≤ (b 87 0).toInt) : ∀ (k : Nat) (p : Int), qGd b p → 0 ≤ p → p ≤ (b 87 0).toInt → aFf b z bb k p ≠ -1 → qFs b z (aFf b z bb k p) := by
  intro k
  induction k with
  | zero => intro p _ _ _ h; exact absurd rfl h
  | succ k ih =>
    intro p g h0 h1 h
    by_cases c : p < bb
    · by_cases d : z ≤ aE b p - p
      · rw [aFf_y c d]
        exact FS_of hI g h0 h1 d hz1
      · rw [aFf_n c d] at h ⊢
        have n := nx_ok hI g h0 h1
        exact ih _ n.1 n.2.1 n.2.2 h
    · rw [aFf_st (Or.inr c)] at h
      exact absurd rfl h
theorem Fl_fs (hI : qI b) (hz1 : 1 ≤ z) : ∀ (k : Nat) (p q l : Int), qGd b p → 0 ≤ p → p ≤ (b 87 0).toInt → (q ≠ -1 → qFs b z q) → aFl b z s k p q l ≠ -1 → qFs b z (aFl b z s k p q l) := by
  intro k
  induction k with
  | zero => intro p q l _ _ _ hq h; exact hq h
  | succ k ih =>
    intro p q l g h0 h1 hq h
    by_cases c : p < (b 87 0).toInt
    · have n := nx_ok hI g h0 h1
      by_cases d : z ≤ aE b p - p ∧ (q = -1 ∨ (if s = 0 then l < aE b p - p else aE b p - p < l))
      · have e : aFl b z s (k + 1) p q l = aFl b z s k (aN b (aE b p)) p (aE b p - p) := by
          show (if p < (b 87 0).toInt then (if _ then _ else _) else q) = _
          rw [if_pos c, if_pos d]
        rw [e] at h ⊢
        exact ih _ _ _ n.1 n.2.1 n.2.2 (fun _ => FS_of hI g h0 h1 d.1 hz1) h
      · have e : aFl b z s (k + 1) p q l = aFl b z s k (aN b (aE b p)) q l := by
          show (if p < (b 87 0).toInt then (if _ then _ else _) else q) = _
          rw [if_pos c, if_neg d]
        rw [e] at h ⊢
        exact ih _ _ _ n.1 n.2.1 n.2.2 hq h
    · rw [aFl_st (Or.inr c)] at h ⊢
      exact hq h
theorem Ft_fs (hI : qI b) (hz1 : 1 ≤ z) (h : aFt b z ≠ -1) : qFs b z (aFt b z) := by
  have i4 := hI.2.2.2.1
  have r0 := i4.2.2.1
  have sz := Sz_I hI
  have n0 := aN_ge sz _ 0 rfl (by omega)
  have g0 := Gd_N hI _ 0 rfl (Gd_0 hI)
  have nl := aN_ge sz _ (b 87 2).toInt rfl i4.2.2.2.1.2
  have gl := Gd_N hI _ (b 87 2).toInt rfl i4.2.2.2.2.1
  have l0 := i4.2.2.2.1
  unfold aFt at h ⊢
  by_cases c0 : b 87 1 = 0
  · rw [if_pos c0] at h ⊢
    exact Ff_fs hI hz1 (by omega) _ _ g0 n0.1 n0.2.1 h
  · rw [if_neg c0] at h ⊢
    by_cases c1 : b 87 1 = 1
    · rw [if_pos c1] at h ⊢
      unfold aFx at h ⊢
      by_cases c3 : aFf b z (b 87 0).toInt 4500 (aN b (b 87 2).toInt) = -1
      · rw [if_pos c3] at h ⊢
        exact Ff_fs hI hz1 l0.2 _ _ g0 n0.1 n0.2.1 h
      · rw [if_neg c3]
        exact Ff_fs hI hz1 (by omega) _ _ gl (by omega) nl.2.1 c3
    · rw [if_neg c1] at h ⊢
      by_cases c2 : b 87 1 = 2
      · rw [if_pos c2] at h ⊢
        exact Fl_fs hI hz1 _ _ _ _ g0 n0.1 n0.2.1 (fun w => absurd rfl w) h
      · rw [if_neg c2] at h ⊢
        exact Fl_fs hI hz1 _ _ _ _ g0 n0.1 n0.2.1 (fun w => absurd rfl w) h
end QF

/-! from 95.h36 -/
/-! the reference by numbers (written by wip/tools/gen18r.py) -/
/-! A NEW ONE COMES -/
/-- b with the one of number n, kind kd, wd words, at pl; L which words refer -/
def qAd (b d : Nat → Nat → Int32) (y kd wd pl : Int32) (L : Int64) : Prop :=
  (d 126 y.toNatClampNeg = 1 ∧ d 128 y.toNatClampNeg = wd + 1 ∧ d 130 y.toNatClampNeg = pl ∧ d 133 y.toNatClampNeg = 0 ∧ d 134 y.toNatClampNeg = 0) ∧
  (∀ f x, 126 ≤ f → f < 1000 → x ≠ y.toNatClampNeg → d f x = b f x) ∧
  ((∀ k, d (1000 + y.toNatClampNeg) k = zbit L (Int32.ofNat k)) ∧ ∀ x, x ≠ y.toNatClampNeg → d (1000 + x) = b (1000 + x)) ∧
  (d 71 pl.toNatClampNeg = y ∧ (∀ i : Int32, 0 ≤ i.toInt → i.toInt < wd.toInt → d 71 (pl + 1 + i).toNatClampNeg = if zbit L i = 0 then 0 else -1) ∧ ∀ p : Nat, ((p : Int) < pl.toInt ∨ pl.toInt + wd.toInt + 1 ≤ (p : Int)) → d 71 p = b 71 p) ∧
  (d 72 = b 72 ∧ d 73 = b 73 ∧ d 74 = b 74 ∧ d 69 5 = b 69 5) ∧
  (d 69 6 = b 69 6 + 1 ∧ d 69 8 = b 69 8 + (wd + 1)) ∧ (∀ k, k ≠ 2 → d 87 k = b 87 k) ∧ d 87 2 = pl + (wd + 1)
section QN
variable {aa a b d : Nat → Nat → Int32} {us nr kr kd ws at₉ ho wd wi ow rt wk wl co gr : Nat → Int32} {wm nu ro fo le ra pi y x z i j ga gm r v mk kk w pl : Int32} {n k u s t : Nat} {L : Int64}
theorem fn_0 {nu kd sz pl : Int32} : zFn nu kd sz pl 1 = kd ∧ zFn nu kd sz pl 2 = sz ∧ zFn nu kd sz pl 4 = pl ∧ zFn nu kd sz pl 7 = 0 ∧ zFn nu kd sz pl 8 = 0 := ⟨rfl, rfl, rfl, rfl, rfl⟩
theorem Ad_of (hy : 0 ≤ y.toInt) (hw : 0 ≤ w.toInt) (hw6 : w.toInt ≤ 60) (hp : 0 ≤ pl.toInt) (hp5 : pl.toInt ≤ 4500) : qAd b (aMd (aAd b y (zFn y kk (w + 1) pl) L) y) y kk w pl L := by
  have e1 := i_p1 (i := w) (by omega)
  have cp := tn_cast hp
  have F := @fn_0 y kk (w + 1) pl
  have nw : ∀ c k, aAd b y (zFn y kk (w + 1) pl) L c k = if c = 69 ∧ k = 8 then b 69 8 + (w + 1) else if c = 69 ∧ k = 6 then b 69 6 + 1 else zIw (ma_u (zNw b y.toNatClampNeg (zFn y kk (w + 1) pl) L) 71 pl.toNatClampNeg y) pl.toInt L w.toInt c k := fun c k => by
    show (if c = 69 ∧ k = 8 then b 69 8 + (w + 1) else if c = 69 ∧ k = 6 then b 69 6 + 1 else zIw (ma_u (zNw b y.toNatClampNeg (zFn y kk (w + 1) pl) L) 71 pl.toNatClampNeg y) pl.toInt L ((w + 1).toInt - 1) c k) = _
    rw [e1, show w.toInt + 1 - 1 = w.toInt by omega]
  have hi : ∀ c k, c ≠ 69 → c ≠ 71 → aAd b y (zFn y kk (w + 1) pl) L c k = zNw b y.toNatClampNeg (zFn y kk (w + 1) pl) L c k := fun c k h1 h2 => by
    rw [nw, if_neg (fun z => h1 z.1), if_neg (fun z => h1 z.1), zIw_o h2, xu_o (fun z => h2 z.1)]
  have md : ∀ c k, ¬ (c = 87 ∧ k = 2) → c ≠ 77 → aMd (aAd b y (zFn y kk (w + 1) pl) L) y c k = aAd b y (zFn y kk (w + 1) pl) L c k := fun c k h1 h2 => by
    unfold aMd
    split
    · rw [xu_o h1]
    · rw [xu_o (fun z => h2 z.1), xu_o h1]
  have md2 : aMd (aAd b y (zFn y kk (w + 1) pl) L) y 87 2 = aAd b y (zFn y kk (w + 1) pl) L 130 y.toNatClampNeg + aAd b y (zFn y kk (w + 1) pl) L 128 y.toNatClampNeg := by
    unfold aMd
    split
    · rw [xu_s]
    · rw [xu_o (by omega), xu_s]
  have th : ∀ f, 126 < f → f < 1000 → zNw b y.toNatClampNeg (zFn y kk (w + 1) pl) L f y.toNatClampNeg = if zfd (f - 126) = true then zFn y kk (w + 1) pl (f - 126) else 0 := fun f h1 h2 => by
    unfold zNw
    rw [if_neg (by omega), if_pos ⟨h1, h2, rfl⟩]
  have t128 : aAd b y (zFn y kk (w + 1) pl) L 128 y.toNatClampNeg = w + 1 := by
    rw [hi _ _ (by decide) (by decide), th 128 (by decide) (by decide)]
    rfl
  have t130 : aAd b y (zFn y kk (w + 1) pl) L 130 y.toNatClampNeg = pl := by
    rw [hi _ _ (by decide) (by decide), th 130 (by decide) (by decide)]
    rfl
  have m71 : ∀ p : Nat, aMd (aAd b y (zFn y kk (w + 1) pl) L) y 71 p = zIw (ma_u (zNw b y.toNatClampNeg (zFn y kk (w + 1) pl) L) 71 pl.toNatClampNeg y) pl.toInt L w.toInt 71 p := fun p => by
    rw [md _ _ (by omega) (by decide), nw, if_neg (by omega), if_neg (by omega)]
  have lo : ∀ c k, c < 126 → c ≠ 69 → c ≠ 71 → c ≠ 77 → c ≠ 87 → aMd (aAd b y (zFn y kk (w + 1) pl) L) y c k = b c k := fun c k h1 h2 h3 h4 h5 => by
    rw [md _ _ (fun z => h5 z.1) h4, hi _ _ h2 h3, zNw_o h1]
  refine ⟨⟨?_, ?_, ?_, ?_, ?_⟩, fun f x f1 f2 hx => ?_, ⟨fun k => ?_, fun x hx => ?_⟩, ⟨?_, fun i i0 i1 => ?_, fun p hpp => ?_⟩, ⟨funext (fun k => lo 72 k (by decide) (by decide) (by decide) (by decide) (by decide)), funext (fun k => lo 73 k (by decide) (by decide) (by decide) (by decide) (by decide)), funext (fun k => lo 74 k (by decide) (by decide) (by decide) (by decide) (by decide)), ?_⟩, ⟨?_, ?_⟩, fun k hk => ?_, ?_⟩
  · rw [md _ _ (by omega) (by decide), hi _ _ (by decide) (by decide)]
    unfold zNw
    rw [if_pos ⟨rfl, rfl⟩]
  · rw [md _ _ (by omega) (by decide)]
    exact t128
  · rw [md _ _ (by omega) (by decide)]
    exact t130
  · rw [md _ _ (by omega) (by decide), hi _ _ (by decide) (by decide), th 133 (by decide) (by decide)]
    rfl
  · rw [md _ _ (by omega) (by decide), hi _ _ (by decide) (by decide), th 134 (by decide) (by decide)]
    rfl
  · rw [md _ _ (by omega) (by omega), hi _ _ (by omega) (by omega)]
    unfold zNw
    rw [if_neg (by omega), if_neg (by omega), if_neg (by omega)]
  · rw [md _ _ (by omega) (by omega), hi _ _ (by omega) (by omega)]
    unfold zNw
    rw [if_neg (by omega), if_neg (by omega), if_pos rfl]
  · funext k
    rw [md _ _ (by omega) (by omega), hi _ _ (by omega) (by omega)]
    unfold zNw
    rw [if_neg (by omega), if_neg (by omega), if_neg (by omega)]
  · rw [m71]
    unfold zIw
    rw [if_neg (by omega), xu_s]
  · have ep := i_p1 (i := pl) (by omega)
    have ei : (pl + 1 + i).toInt = pl.toInt + 1 + i.toInt := by
      rw [i_add (by omega) (by omega)]
      omega
    have ci := tn_cast (x := pl + 1 + i) (by omega)
    rw [m71]
    unfold zIw
    rw [if_pos ⟨rfl, by omega, by omega⟩, show (((pl + 1 + i).toNatClampNeg : Int) - pl.toInt - 1).toNat = i.toNatClampNeg by have := tn_cast i0; omega, ofN_tn i0]
  · rw [m71]
    unfold zIw
    rw [if_neg (by omega), xu_o (by omega), zNw_o (by decide)]
  · rw [md _ _ (by omega) (by decide), nw, if_neg (by omega), if_neg (by omega), zIw_o (by decide), xu_o (by omega), zNw_o (by decide)]
  · rw [md _ _ (by omega) (by decide), nw, if_neg (by omega), if_pos ⟨rfl, rfl⟩]
  · rw [md _ _ (by omega) (by decide), nw, if_pos ⟨rfl, rfl⟩]
  · rw [md _ _ (fun z => hk z.2) (by decide), hi _ _ (by decide) (by decide), zNw_o (by decide)]
  · rw [md2, t130, t128]
end QN

/-! from 95.h37 -/
/-! the reference by numbers (written by wip/tools/gen18r.py) -/
section QP
variable {b d : Nat → Nat → Int32} {us nr kr kd ws at₉ ho wd wi ow rt wk wl co gr : Nat → Int32} {wm nu ro fo le ra pi y i ga gm kk w pl mk : Int32} {n k u s t x : Nat} {L : Int64}
/-- what is asked of a new one -/
def qNe (b : Nat → Nat → Int32) (y w pl : Int32) : Prop := qI b ∧ y = b 69 6 ∧ y.toInt < 512 ∧ (0 ≤ w.toInt ∧ w.toInt ≤ 60) ∧ qFs b (w.toInt + 1) pl.toInt
theorem Ne_b (h : qNe b y w pl) : 0 ≤ y.toInt ∧ y.toNatClampNeg < 512 ∧ ((y.toNatClampNeg : Nat) : Int) = y.toInt ∧ 0 ≤ pl.toInt ∧ pl.toInt + w.toInt + 1 ≤ 4500 ∧ (w + 1).toInt = w.toInt + 1 ∧ (pl + (w + 1)).toInt = pl.toInt + w.toInt + 1 := by
  obtain ⟨hI, h1, h2, h3, h4⟩ := h
  have i4 := hI.2.2.2.1
  have a1 := i4.1.1
  rw [← h1] at a1
  have c := tn_cast a1
  have r5 := i4.2.2.1
  have p0 := h4.1
  have p1 := h4.2.1
  have e1 := i_p1 (i := w) (by omega)
  have e2 : (pl + (w + 1)).toInt = pl.toInt + (w + 1).toInt := i_add (by omega) (by omega)
  omega
theorem Ne_al (h : qNe b y w pl) : ¬ xAl b y.toNatClampNeg := fun z => by
  have q := Ne_b h
  have i := (h.1.1 _ z).1.1
  rw [← h.2.1] at i
  omega
theorem Al_ad (h : qNe b y w pl) (hA : qAd b d y kk w pl L) : xAl d x ↔ xAl b x ∨ x = y.toNatClampNeg := by
  have q := Ne_b h
  unfold xAl
  by_cases z : x = y.toNatClampNeg
  · rw [z, hA.1.1]
    exact ⟨fun _ => Or.inr rfl, fun _ => ⟨q.2.1, by decide⟩⟩
  · rw [hA.2.1 126 x (by decide) (by decide) z]
    exact ⟨Or.inl, fun w => w.elim id (fun w2 => absurd w2 z)⟩
theorem ne_al (h : qNe b y w pl) (hx : xAl b x) : x ≠ y.toNatClampNeg := fun z => Ne_al h (z ▸ hx)
theorem I_ad (h : qNe b y w pl) (hA : qAd b d y kk w pl L) : qI d := by
  have q := Ne_b h
  have al := fun x => Al_ad (x := x) h hA
  have nal := Ne_al h
  obtain ⟨hI, hy, hy5, hw, hF⟩ := h
  obtain ⟨⟨a1, a2, a3, a4, a5⟩, b1, ⟨c1, c2⟩, ⟨d1, d2, d3⟩, ⟨e1, e2, e3, e4⟩, ⟨f1, f2⟩, g1, g2⟩ := hA
  have i4 := hI.2.2.2.1
  have e6 : (b 69 6 + 1).toInt = (b 69 6).toInt + 1 := i_p1 (by rw [← hy]; omega)
  have b0 : b 126 y.toNatClampNeg = 0 := by
    by_cases z : b 126 y.toNatClampNeg = 0
    · exact z
    · exact absurd ⟨q.2.1, z⟩ nal
  have old : ∀ x, xAl b x → x ≠ y.toNatClampNeg := fun x hx z => nal (z ▸ hx)
  have g87 : ∀ k, k ≠ 2 → d 87 k = b 87 k := g1
  refine ⟨fun x hx => ?_, fun x x₉ hx hx₉ hne => ?_, fun p hp hc => ?_, ⟨?_, ?_, ?_, ?_, ?_, ?_⟩, ?_, fun x hx k => ?_⟩
  · rcases (al x).mp hx with z | z
    · have o := old x z
      have i := hI.1 x z
      have fs := hF.2.2 x z
      have cx := tn_cast i.1.2
      rw [b1 130 x (by decide) (by decide) o, b1 128 x (by decide) (by decide) o, f1, e6, g87 0 (by decide), d3 _ (by have := i.2.1.1; omega)]
      exact ⟨⟨by omega, i.1.2⟩, i.2⟩
    · rw [z, a2, a3, f1, e6, g87 0 (by decide), d1, ← hy, q.2.2.2.2.2.1]
      exact ⟨⟨by omega, q.2.2.2.1⟩, ⟨by omega, by omega⟩, by have := hF.2.1; omega, (ofN_tn q.1).symm⟩
  · rcases (al x).mp hx with z | z
    · rcases (al x₉).mp hx₉ with z₉ | z₉
      · rw [b1 130 x (by decide) (by decide) (old x z), b1 128 x (by decide) (by decide) (old x z), b1 130 x₉ (by decide) (by decide) (old x₉ z₉), b1 128 x₉ (by decide) (by decide) (old x₉ z₉)]
        exact hI.2.1 x x₉ z z₉ hne
      · rw [b1 130 x (by decide) (by decide) (old x z), b1 128 x (by decide) (by decide) (old x z), z₉, a2, a3, q.2.2.2.2.2.1]
        have := hF.2.2 x z
        omega
    · rcases (al x₉).mp hx₉ with z₉ | z₉
      · rw [b1 130 x₉ (by decide) (by decide) (old x₉ z₉), b1 128 x₉ (by decide) (by decide) (old x₉ z₉), z, a2, a3, q.2.2.2.2.2.1]
        have := hF.2.2 x₉ z₉
        omega
      · exact absurd (z.trans z₉.symm) hne
  · have hn := hc y.toNatClampNeg ((al _).mpr (Or.inr rfl))
    rw [a2, a3, q.2.2.2.2.2.1] at hn
    rw [d3 p (by omega)]
    refine hI.2.2.1 p hp (fun x hx w => ?_)
    have := hc x ((al x).mpr (Or.inl hx))
    rw [b1 130 x (by decide) (by decide) (old x hx), b1 128 x (by decide) (by decide) (old x hx)] at this
    exact this w
  · rw [f1, e6]
    have := i4.1
    rw [← hy] at this ⊢
    omega
  · rw [e4]
    exact i4.2.1
  · rw [g87 0 (by decide)]
    exact i4.2.2.1
  · rw [g2, g87 0 (by decide), q.2.2.2.2.2.2]
    have := hF.2.1
    omega
  · rw [g2, q.2.2.2.2.2.2]
    intro x hx w2
    rcases (al x).mp hx with z | z
    · rw [b1 130 x (by decide) (by decide) (old x z), b1 128 x (by decide) (by decide) (old x z)] at w2
      have := hF.2.2 x z
      omega
    · rw [z, a2, a3, q.2.2.2.2.2.1] at w2
      omega
  · rw [g87 6 (by decide)]
    exact i4.2.2.2.2.2
  · have su := Su_dn (a := d) (b := b) (k := y.toNatClampNeg) (n := 512) q.2.1 (by rw [a1]; decide) b0 (fun x _ hx => ⟨b1 126 x (by decide) (by decide) hx, b1 128 x (by decide) (by decide) hx⟩)
    rw [a2] at su
    rw [f2, hI.2.2.2.2.1, su, show qSu d 512 = (qSu d 512 - (w + 1).toInt) + (w + 1).toInt by omega, Int32.ofInt_add, Int32.ofInt_toInt]
    rw [show qSu d 512 - (w + 1).toInt + (w + 1).toInt - (w + 1).toInt = qSu d 512 - (w + 1).toInt by omega]
  · have nx : x ≠ y.toNatClampNeg := fun z => hx ((al x).mpr (Or.inr z))
    rw [c2 x nx]
    exact hI.2.2.2.2.2 x (fun z => hx ((al x).mpr (Or.inl z))) k
/-- words of those that were there stay -/
theorem rf_ad (h : qNe b y w pl) (hA : qAd b d y kk w pl L) (hW : qWp b x i) : aRef d x i = aRef b x i := by
  have q := Ne_b h
  have o := ne_al h hW.1
  have p := wp_i h.1 hW
  have cp := tn_cast p.2.1
  have fs := h.2.2.2.2.2.2 x hW.1
  have i0 := hW.2
  unfold aRef
  rw [hA.2.2.1.2 x o, hA.2.1 130 x (by decide) (by decide) o, hA.2.2.2.1.2.2 (b 130 x + 1 + i).toNatClampNeg (by omega)]
/-- the new one refers to nothing -/
theorem rf_nw (h : qNe b y w pl) (hA : qAd b d y kk w pl L) (h0 : 0 ≤ i.toInt) (h1 : i.toInt < w.toInt) : aRef d y.toNatClampNeg i = -1 := by
  unfold aRef
  split
  · next z =>
    rw [hA.1.2.2.1, hA.2.2.2.1.2.1 i h0 h1, if_neg]
    rw [hA.2.2.1.1, ofN_tn h0] at z
    exact z.1
  · rfl
theorem RB_ad (h : qNe b y w pl) (hA : qAd b d y kk w pl L) (hR : qRB (zmk us s) nr kr kd ws at₉ ho wd wi ow rt wk wl wm nu ro fo le ra pi b) (hs : s < 3100) (hu : us s ≠ 0) (hn : nr s = y) (hw : ws s = w) (hp : at₉ s = pl) (hh : ho s = 0) (hi : wi s = 0) (hO : ow pl.toNatClampNeg = Int32.ofNat s) (hz : ∀ j : Nat, (j : Int) < (ws s).toInt → (zrf kr kd wd s j).toInt = -1) (hb : ∀ j : Nat, (j : Int) < w.toInt → (zbit L (Int32.ofNat j) ≠ 0 ↔ qIr kr kd s j)) : qRB us nr kr kd ws at₉ ho wd wi ow rt wk wl wm (nu + 1) ro fo (pl + (w + 1)) ra pi d := by
  have q := Ne_b h
  have zk : ∀ t, t ≠ s → zmk us s t = us t := fun t ht => if_neg ht
  have us2 : ∀ t, us t ≠ 0 → t ≠ s → zmk us s t ≠ 0 := fun t h1 h2 => by
    rw [zk t h2]
    exact h1
  have uU : ∀ x : Int32, qU (zmk us s) x → qU us x := fun x hx => hx.imp id (fun z => ⟨z.1, fun w => z.2 (by
    unfold zmk
    by_cases e : x.toNatClampNeg = s
    · rw [if_pos e]
    · rw [if_neg e]
      exact w)⟩)
  have old : ∀ t, t < 3100 → us t ≠ 0 → t ≠ s → (nr t).toNatClampNeg ≠ y.toNatClampNeg := fun t ht hv e => ne_al h (R1_al hR.1 ht (us2 t hv e))
  refine ⟨⟨fun t ht hv => ?_, fun t t₉ ht ht₉ hv hv₉ e => ?_, fun x hx ha => ?_⟩, fun t ht hv j hj => ?_, fun k hk => ?_, fun k hk => ?_, ⟨?_, fun k hk => ?_⟩, fun t ht hv => ?_, fun t ht hv => ?_, ?_⟩
  · by_cases e : t = s
    · rw [e, hn, hw, hp, hh, hA.1.1, hA.1.2.1, hA.1.2.2.1, hA.1.2.2.2.1]
      exact ⟨⟨q.1, h.2.2.1⟩, by decide, rfl, rfl, rfl, h.2.2.2.1, q.2.2.2.1⟩
    · have o := old t ht hv e
      rw [hA.2.1 126 _ (by decide) (by decide) o, hA.2.1 128 _ (by decide) (by decide) o, hA.2.1 130 _ (by decide) (by decide) o, hA.2.1 133 _ (by decide) (by decide) o]
      exact hR.1.1 t ht (us2 t hv e)
  · by_cases e1 : t = s
    · by_cases e2 : t₉ = s
      · rw [e1, e2]
      · rw [e1, hn] at e
        exact absurd (by rw [← e]) (old t₉ ht₉ hv₉ e2)
    · by_cases e2 : t₉ = s
      · rw [e2, hn] at e
        exact absurd (by rw [e]) (old t ht hv e1)
      · exact hR.1.2.1 t t₉ ht ht₉ (us2 t hv e1) (us2 t₉ hv₉ e2) e
  · rcases (Al_ad h hA).mp (show xAl d x from ⟨hx, ha⟩) with z | z
    · obtain ⟨t, ht, hv, en⟩ := hR.1.2.2 x hx z.2
      have ts : t ≠ s := fun e => hv (by unfold zmk; rw [if_pos e])
      rw [zk t ts] at hv
      exact ⟨t, ht, hv, en⟩
    · refine ⟨s, hs, hu, ?_⟩
      rw [hn, z]
      exact (ofN_tn q.1).symm
  · by_cases e : t = s
    · rw [e] at hj ⊢
      have zr : zrf kr kd wd s j = -1 := Int32.toInt_inj.mp (hz j hj)
      rw [hw] at hj
      have ej : (Int32.ofNat j).toInt = (j : Int) := Int32.toInt_ofNat_of_lt (by have := h.2.2.2.1; omega)
      rw [zr, hn, rf_nw h hA (i := Int32.ofNat j) (by omega) (by omega), hA.2.2.1.1]
      exact ⟨Or.inl (by decide), (No_n (by decide)).symm, hb j hj⟩
    · have r := hR.2.1 t ht (us2 t hv e) j hj
      have tt := hR.1.1 t ht (us2 t hv e)
      have ej : (Int32.ofNat j).toInt = (j : Int) := Int32.toInt_ofNat_of_lt (by have := tt.2.2.2.2.2.1; omega)
      rw [rf_ad h hA (Wp_s hR ht (us2 t hv e) (i := Int32.ofNat j) (by omega) (by omega)), hA.2.2.1.2 _ (old t ht hv e)]
      exact ⟨uU _ r.1, r.2⟩
  · have r := hR.2.2.1 k hk
    rw [hA.2.2.2.2.1.1]
    exact ⟨uU _ r.1, r.2⟩
  · have r := hR.2.2.2.1 k hk
    rw [hA.2.2.2.2.1.2.1]
    exact ⟨uU _ r.1, r.2⟩
  · rw [hA.2.2.2.2.1.2.2.2]
    exact hR.2.2.2.2.1.1
  · have r := hR.2.2.2.2.1.2 k hk
    rw [hA.2.2.2.2.1.2.2.1]
    have u := uU (wl k) (Or.inr r.1.2)
    exact ⟨⟨r.1.1, (U_y u r.1.1).1, (U_y u r.1.1).2⟩, r.2⟩
  · by_cases e : t = s
    · rw [e, hn, hi]
      exact hA.1.2.2.2.2
    · rw [hA.2.1 134 _ (by decide) (by decide) (old t ht hv e)]
      exact hR.2.2.2.2.2.1 t ht (us2 t hv e)
  · by_cases e : t = s
    · rw [e, hp]
      exact hO
    · exact hR.2.2.2.2.2.2.1 t ht (us2 t hv e)
  · have g := hR.2.2.2.2.2.2.2
    have g1 := hA.2.2.2.2.2.2.1
    refine ⟨?_, ?_, ?_, hA.2.2.2.2.2.2.2, ?_, ?_⟩
    · rw [hA.2.2.2.2.2.1.1, g.1]
    · rw [g1 0 (by decide)]
      exact g.2.1
    · rw [g1 1 (by decide)]
      exact g.2.2.1
    · rw [g1 6 (by decide)]
      exact g.2.2.2.2.1
    · rw [g1 7 (by decide)]
      exact g.2.2.2.2.2
end QP

/-! from 95.h38 -/
/-! the reference by numbers (written by wip/tools/gen18r.py) -/
section QO
variable {b d : Nat → Nat → Int32} {us nr kr kd ws at₉ ho wd wi ow rt wk wl co gr : Nat → Int32} {wm nu ro fo le ra pi y i ga gm kk w pl mk wt : Int32} {n k u s t x v : Nat} {L : Int64} {m : Nat → Nat → Int32}
/-- the walk's cells behind it -/
def qA7 (b d : Nat → Nat → Int32) (y : Int32) : Prop := d 75 = b 75 ∧ d 76 = b 76 ∧ (b 87 8 ≠ 0 → d 77 y.toNatClampNeg = 2) ∧ ∀ x, x ≠ y.toNatClampNeg → d 77 x = b 77 x
theorem A7_of {F : Nat → Int32} : qA7 b (aMd (aAd b y F L) y) y := by
  have hi : ∀ c k, c ≠ 69 → c ≠ 71 → c < 126 → aAd b y F L c k = b c k := fun c k h1 h2 h3 => by
    show (if c = 69 ∧ k = 8 then _ else if c = 69 ∧ k = 6 then _ else zIw (ma_u (zNw b y.toNatClampNeg F L) 71 (F 4).toNatClampNeg y) (F 4).toInt L ((F 2).toInt - 1) c k) = b c k
    rw [if_neg (fun z => h1 z.1), if_neg (fun z => h1 z.1), zIw_o h2, xu_o (fun z => h2 z.1), zNw_o h3]
  refine ⟨funext (fun k => ?_), funext (fun k => ?_), fun h => ?_, fun x hx => ?_⟩
  · unfold aMd
    split
    · rw [xu_o (by omega), hi _ _ (by decide) (by decide) (by decide)]
    · rw [xu_o (by omega), xu_o (by omega), hi _ _ (by decide) (by decide) (by decide)]
  · unfold aMd
    split
    · rw [xu_o (by omega), hi _ _ (by decide) (by decide) (by decide)]
    · rw [xu_o (by omega), xu_o (by omega), hi _ _ (by decide) (by decide) (by decide)]
  · rw [aMd_y (by rw [hi _ _ (by decide) (by decide) (by decide)]; exact h), xu_s]
  · unfold aMd
    split
    · rw [xu_o (by omega), hi _ _ (by decide) (by decide) (by decide)]
    · rw [xu_o (fun z => hx z.2), xu_o (by omega), hi _ _ (by decide) (by decide) (by decide)]
theorem WQ_ad (h : qNe b y w pl) (hA : qAd b d y kk w pl L) (h7 : qA7 b d y) (hm : b 87 8 ≠ 0) (hw : zWQ b) : zWQ d := by
  have q := Ne_b h
  have nal := Ne_al h
  have al := fun x => Al_ad (x := x) h hA
  obtain ⟨q1, q2, q3, q4, q5, q6, q7⟩ := hw
  have c7 := h7.2.2.1 hm
  have cn : cnt (b 77) 512 ≤ cnt (d 77) 512 := cnt_mono (fun j hj z => by
    by_cases e : j = y.toNatClampNeg
    · rw [e, c7]
      decide
    · rw [h7.2.2.2 j e]
      exact z)
  refine ⟨⟨?_, ?_, ?_⟩, ?_, ?_, ?_, ?_, ?_, ?_⟩
  · rw [h7.1]
    exact q1.1
  · rw [h7.1]
    exact q1.2.1
  · rw [h7.1]
    have := q1.2.2
    omega
  · intro j j1 j2
    rw [h7.1] at j1 j2
    have p := q2 j j1 j2
    have cp := tn_cast p.1
    have ne : (b 76 j).toNatClampNeg ≠ y.toNatClampNeg := ne_al h ⟨by have := p.2.1; omega, p.2.2.1⟩
    rw [h7.2.1, hA.2.1 126 _ (by decide) (by decide) ne, h7.2.2.2 _ ne]
    exact p
  · intro j j₉ j1 j2 j3
    rw [h7.1] at j1 j3
    rw [h7.2.1]
    exact q3 j j₉ j1 j2 j3
  · intro x hx hx1
    by_cases e : x = y.toNatClampNeg
    · rw [e, c7] at hx1
      exact absurd hx1 (by decide)
    · rw [h7.2.2.2 x e] at hx1
      rw [h7.1, h7.2.1]
      exact q4 x hx hx1
  · intro x hx
    by_cases e : x = y.toNatClampNeg
    · rw [e, c7]
      exact Or.inr (Or.inr rfl)
    · rw [h7.2.2.2 x e]
      exact q5 x hx
  · rw [h7.1]
    exact q6
  · intro x hx
    rcases (al x).mp hx with z | z
    · rw [hA.2.1 130 x (by decide) (by decide) (ne_al h z)]
      exact q7 x z
    · rw [z, hA.1.2.2.1]
      exact q.2.2.2.1
theorem MQ_ad (h : qNe b y w pl) (hA : qAd b d y kk w pl L) (h7 : qA7 b d y) (hm : b 87 8 ≠ 0) (h1 : qR1 (zmk us s) nr ws at₉ ho b) (hQ : qMQ co gr ga gm (zmk us s) nr b) (hn : nr s = y) (hc : co s = 2) : qMQ co gr ga gm us nr d := by
  obtain ⟨q1, q2, q3, q4, q5⟩ := hQ
  have us2 : ∀ t, us t ≠ 0 → t ≠ s → zmk us s t ≠ 0 := fun t h1 h2 => by
    unfold zmk
    rw [if_neg h2]
    exact h1
  refine ⟨by rw [h7.1]; exact q1, by rw [h7.1]; exact q2, fun t ht hv => ?_, fun j j1 j2 => ?_, WQ_ad h hA h7 hm q5⟩
  · by_cases e : t = s
    · rw [e, hn, hc, h7.2.2.1 hm]
    · rw [h7.2.2.2 _ (ne_al h (R1_al h1 ht (us2 t hv e)))]
      exact q3 t ht (us2 t hv e)
  · have p := q4 j j1 j2
    rw [h7.2.1]
    refine ⟨⟨p.1.1, p.1.2.1, fun z => p.1.2.2 ?_⟩, p.2⟩
    unfold zmk
    split
    · rfl
    · exact z
theorem Ed_ad (h : qNe b y w pl) (hA : qAd b d y kk w pl L) (hR : qRB (zmk us s) nr kr kd ws at₉ ho wd wi ow rt wk wl wm nu ro fo le ra pi b) : zEd d u v ↔ zEd b u v := by
  have q := Ne_b h
  have Id := I_ad h hA
  rw [Ed_wp Id.2.2.2.2.2, Ed_wp h.1.2.2.2.2.2]
  constructor
  · rintro ⟨w1, j, w2, w3⟩
    have ev := ofN_i w1.1
    by_cases e : u = y.toNatClampNeg
    · rw [e] at w3
      have w4 := w2.2
      rw [e, hA.1.2.1, q.2.2.2.2.2.1] at w4
      rw [rf_nw h hA w4.1 (by omega)] at w3
      rw [← w3] at ev
      have m1 : (-1 : Int32).toInt = -1 := rfl
      omega
    · have au : xAl b u := ((Al_ad h hA).mp w2.1).elim id (fun z => absurd z e)
      have w4 := w2.2
      rw [hA.2.1 128 u (by decide) (by decide) e] at w4
      have W : qWp b u j := ⟨au, w4.1, w4.2⟩
      rw [rf_ad h hA W] at w3
      refine ⟨?_, j, W, w3⟩
      rcases (Al_ad h hA).mp w1 with z | z
      · exact z
      · exfalso
        obtain ⟨t, ht, hv, en⟩ := R1_ex hR.1 au
        have tt := hR.1.1 t ht hv
        rw [en] at tt
        have cj := tn_cast w4.1
        have sz : j.toInt < (ws t).toInt := by
          have := w4.2
          rw [tt.2.2.1, i_p1 (by have := tt.2.2.2.2.2.1; omega)] at this
          omega
        have r := hR.2.1 t ht hv j.toNatClampNeg (by omega)
        rw [en, ofN_tn w4.1, w3] at r
        rcases No_al hR.1 r.1 with z2 | z2
        · rw [z2] at r
          have := congrArg Int32.toInt r.2.1
          have m1 : (-1 : Int32).toInt = -1 := rfl
          omega
        · have al := z2.2.2
          rw [← r.2.1, tn_of w1.1] at al
          exact ne_al h al z
  · rintro ⟨w1, j, w2, w3⟩
    have e := ne_al h w2.1
    refine ⟨(Al_ad h hA).mpr (Or.inl w1), j, ⟨(Al_ad h hA).mpr (Or.inl w2.1), w2.2.1, ?_⟩, ?_⟩
    · rw [hA.2.1 128 u (by decide) (by decide) e]
      exact w2.2.2
    · rw [rf_ad h hA w2]
      exact w3
theorem Rt_ad (h : qNe b y w pl) (hA : qAd b d y kk w pl L) (hR : qRB (zmk us s) nr kr kd ws at₉ ho wd wi ow rt wk wl wm nu ro fo le ra pi b) (hu : zRt d u) : zRt b u := by
  obtain ⟨al, hr⟩ := hu
  have eu := ofN_i al.1
  have m1 : (-1 : Int32).toInt = -1 := rfl
  have nu0 : u ≠ y.toNatClampNeg := fun e => by
    have nal := Ne_al h
    rw [← e] at nal
    unfold zRl zWl zHl at hr
    rw [hA.2.2.2.2.1.1, hA.2.2.2.2.1.2.2.1, hA.2.2.2.2.1.2.2.2] at hr
    rcases hr with ⟨j, j1, j2⟩ | ⟨j, j1, j2⟩ | z
    · have r := hR.2.2.1 j j1
      rcases No_al hR.1 r.1 with z2 | z2
      · rw [r.2, z2] at j2
        rw [← j2] at eu
        omega
      · have a2 := z2.2.2
        rw [← r.2, j2, tn_of al.1] at a2
        exact nal a2
    · rw [hR.2.2.2.2.1.1] at j1
      have r := hR.2.2.2.2.1.2 j j1
      have hs := tn_lt r.1.1 r.1.2.1
      have a2 := R1_al hR.1 hs r.1.2.2
      rw [← r.2, j2, tn_of al.1] at a2
      exact nal a2
    · have z2 := z.2
      rw [e, hA.1.2.2.2.1] at z2
      exact absurd z2 (by decide)
  have alb : xAl b u := ((Al_ad h hA).mp al).elim id (fun z => absurd z nu0)
  refine ⟨alb, ?_⟩
  unfold zRl zWl zHl at hr ⊢
  rw [hA.2.2.2.2.1.1, hA.2.2.2.2.1.2.2.1, hA.2.2.2.2.1.2.2.2, hA.2.1 133 u (by decide) (by decide) nu0] at hr
  exact hr.imp id (fun z => z.imp id (fun z2 => ⟨(h.1.1 u alb).1.1, z2.2⟩))
theorem MI_ad (h : qNe b y w pl) (hA : qAd b d y kk w pl L) (h7 : qA7 b d y) (hm : b 87 8 ≠ 0) (hR : qRB (zmk us s) nr kr kd ws at₉ ho wd wi ow rt wk wl wm nu ro fo le ra pi b) (hM : qMI b) : qMI d := by
  have q := Ne_b h
  have c7 := h7.2.2.1 hm
  have ed := fun u v => Ed_ad (u := u) (v := v) h hA hR
  have e7 := hA.2.2.2.2.2.2.1 7 (by decide)
  have nn : ∀ x, zNn d x ↔ zNn b x ∨ x = y.toNatClampNeg := fun x => by
    unfold zNn
    by_cases e : x = y.toNatClampNeg
    · rw [e, c7]
      exact ⟨fun _ => Or.inr rfl, fun _ => ⟨q.2.1, by decide⟩⟩
    · rw [h7.2.2.2 x e]
      exact ⟨Or.inl, fun z => z.elim id (fun z2 => absurd z2 e)⟩
  have dn : ∀ x, zDn d x ↔ zDn b x ∨ x = y.toNatClampNeg := fun x => by
    unfold zDn
    by_cases e : x = y.toNatClampNeg
    · rw [e, c7]
      exact ⟨fun _ => Or.inr rfl, fun _ => ⟨q.2.1, rfl⟩⟩
    · rw [h7.2.2.2 x e]
      exact ⟨Or.inl, fun z => z.elim id (fun z2 => absurd z2 e)⟩
  have eb : ∀ u v, zEd b u v → xAl b u := fun u v he => by
    obtain ⟨_, j, W, _⟩ := (Ed_wp h.1.2.2.2.2.2).mp he
    exact W.1
  refine ⟨fun w1 u v hd _ he => ?_, fun w1 => ?_⟩
  · have he2 := (ed u v).mp he
    have au := eb u v he2
    rcases (dn u).mp hd with z | z
    · exact (nn v).mpr (Or.inl (hM.1 (by rw [← e7]; exact w1) u v z au he2))
    · exact absurd z (ne_al h au)
  · have hp := hM.2 (by rw [← e7]; exact w1)
    have mu : ∀ x, zMk b x → zMk d x := fun x hx => hx _ (fun g hg => zM_in ((nn g).mpr (Or.inl hg))) (fun u v hu hnd he => by
      refine zM_cl hu (fun z => ?_) ((ed u v).mpr he)
      rcases (dn u).mp z with z2 | z2
      · exact hnd z2
      · exact ne_al h (eb u v he) z2)
    have md : ∀ x, zMk d x → zMk b x ∨ x = y.toNatClampNeg := fun x hx => hx (fun x => zMk b x ∨ x = y.toNatClampNeg) (fun g hg => ((nn g).mp hg).imp zM_in id) (fun u v hu hnd he => by
      have he2 := (ed u v).mp he
      have au := ne_al h (eb u v he2)
      exact Or.inl (zM_cl (hu.elim id (fun z => absurd z au)) (fun z => hnd ((dn u).mpr (Or.inl z))) he2))
    refine ⟨fun u hu => mu u (hp.1 u (Rt_ad h hA hR hu)), fun u v hu he => ?_⟩
    have he2 := (ed u v).mp he
    have au := ne_al h (eb u v he2)
    exact mu v (hp.2 u v ((md u hu).elim id (fun z => absurd z au)) he2)
/-- words there -/
theorem WT_ad (h : wt.toInt = sm (zbU (zmk us s)) ws 3100) (hs : s < 3100) (hu : us s ≠ 0) (hw : ∀ t, t < 3100 → 0 ≤ (ws t).toInt ∧ (ws t).toInt ≤ 60) : (wt + (ws s + 1)).toInt = sm (zbU us) ws 3100 := by
  have o := sm_out (ws := ws) (b := zbU us) (b₉ := zbU (zmk us s)) (n := 3100) hs (decide_eq_true hu) (decide_eq_false (fun w => w (by unfold zmk; rw [if_pos rfl]))) (fun t ht e => by unfold zbU zmk; rw [if_neg e])
  have ub := sm_ub 3100 (fun t ht => (hw t ht).2) (zbU (zmk us s)) (fun t ht => (hw t ht).1)
  have w := hw s hs
  have e1 : (ws s + 1).toInt = (ws s).toInt + 1 := i_p1 (by omega)
  rw [i_add (by omega) (by omega)]
  omega
end QO

/-! from 95.h39 -/
/-! the reference by numbers (written by wip/tools/gen18r.py) -/
/-! IN THE MIDST OF A NEW ONE: slot s has it, the others are as they were -/
def qNs (us nr kr kd ws at₉ ho wd wi ow rt wk wl : Nat → Int32) (wm nu ro fo le ra pi : Int32) (b : Nat → Nat → Int32) (s : Nat) (y kk w pl : Int32) : Prop := qRB (zmk us s) nr kr kd ws at₉ ho wd wi ow rt wk wl wm nu ro fo le ra pi b ∧ us s ≠ 0 ∧ nr s = y ∧ kd s = kk ∧ ws s = w ∧ at₉ s = pl ∧ ow pl.toNatClampNeg = Int32.ofNat s
section QN2
variable {b : Nat → Nat → Int32} {us us₉ nr nr₉ kr kd kd₉ ws ws₉ at₉ at2 ho ho₉ wd wd₉ wi wi₉ ow ow₉ rt wk wl co gr : Nat → Int32} {wm nu ro fo le ra pi y kk w pl : Int32} {s t : Nat}
/-- rows that differ at slot s alone -/
theorem RB_ot (h : qRB us nr kr kd ws at₉ ho wd wi ow rt wk wl wm nu ro fo le ra pi b) (h0 : us s = 0) (e1 : ∀ t, t ≠ s → nr₉ t = nr t) (e2 : ∀ t, t ≠ s → kd₉ t = kd t) (e3 : ∀ t, t ≠ s → ws₉ t = ws t) (e4 : ∀ t, t ≠ s → at2 t = at₉ t) (e5 : ∀ t, t ≠ s → ho₉ t = ho t) (e6 : ∀ t, t ≠ s → wi₉ t = wi t) (e7 : ∀ t, t < 3100 → t ≠ s → ∀ i : Nat, (i : Int) < (ws t).toInt → zrf kr kd₉ wd₉ t i = zrf kr kd wd t i) (e8 : ∀ t, t < 3100 → us t ≠ 0 → ow₉ (at₉ t).toNatClampNeg = ow (at₉ t).toNatClampNeg) : qRB us nr₉ kr kd₉ ws₉ at2 ho₉ wd₉ wi₉ ow₉ rt wk wl wm nu ro fo le ra pi b := by
  have ne : ∀ t, us t ≠ 0 → t ≠ s := fun t ht e => ht (e ▸ h0)
  have no : ∀ x : Int32, qU us x → qNo nr₉ x = qNo nr x := fun x hx => by
    by_cases z : x.toInt < 0
    · rw [No_n z, No_n z]
    · rw [No_y (by omega), No_y (by omega)]
      exact e1 _ (ne _ (U_y hx (by omega)).2)
  refine ⟨⟨fun t ht hv => ?_, fun t t₉ ht ht₉ hv hv₉ e => ?_, fun x hx ha => ?_⟩, fun t ht hv i hi => ?_, fun k hk => ?_, fun k hk => ?_, ⟨h.2.2.2.2.1.1, fun k hk => ?_⟩, fun t ht hv => ?_, fun t ht hv => ?_, h.2.2.2.2.2.2.2⟩
  · have n := ne t hv
    rw [e1 t n, e3 t n, e4 t n, e5 t n]
    exact h.1.1 t ht hv
  · rw [e1 t (ne t hv), e1 t₉ (ne t₉ hv₉)] at e
    exact h.1.2.1 t t₉ ht ht₉ hv hv₉ e
  · obtain ⟨t, ht, hv, en⟩ := h.1.2.2 x hx ha
    exact ⟨t, ht, hv, by rw [e1 t (ne t hv)]; exact en⟩
  · have n := ne t hv
    rw [e3 t n] at hi
    have q := h.2.1 t ht hv i hi
    rw [e1 t n, e7 t ht n i hi, no _ q.1]
    refine ⟨q.1, q.2.1, q.2.2.trans ?_⟩
    unfold qIr
    rw [e2 t n]
  · have q := h.2.2.1 k hk
    rw [no _ q.1]
    exact q
  · have q := h.2.2.2.1 k hk
    rw [no _ q.1]
    exact q
  · have q := h.2.2.2.2.1.2 k hk
    rw [e1 _ (ne _ q.1.2.2)]
    exact q
  · rw [e1 t (ne t hv), e6 t (ne t hv)]
    exact h.2.2.2.2.2.1 t ht hv
  · rw [e4 t (ne t hv), e8 t ht hv]
    exact h.2.2.2.2.2.2.1 t ht hv
theorem zmk_e (h0 : us s = 0) (e : ∀ t, t ≠ s → us₉ t = us t) : zmk us₉ s = us := by
  funext t
  unfold zmk
  by_cases z : t = s
  · rw [if_pos z, z, h0]
  · rw [if_neg z, e t z]
/-- a place that is free is nobody's -/
theorem fs_at (h : qRB us nr kr kd ws at₉ ho wd wi ow rt wk wl wm nu ro fo le ra pi b) (hI : qI b) {z : Int} (hz : 1 ≤ z) (hF : qFs b z pl.toInt) (ht : t < 3100) (hv : us t ≠ 0) : (at₉ t).toNatClampNeg ≠ pl.toNatClampNeg := by
  have q := h.1.1 t ht hv
  have al := R1_al h.1 ht hv
  have f := hF.2.2 _ al
  have i := hI.1 _ al
  rw [q.2.2.2.1] at f
  have c1 := tn_cast q.2.2.2.2.2.2
  have c2 := tn_cast (x := pl) hF.1
  have sz := i.2.1.1
  omega
theorem NS_0 (h : qRB us nr kr kd ws at₉ ho wd wi ow rt wk wl wm nu ro fo le ra pi b) (hI : qI b) {z : Int} (hz : 1 ≤ z) (hF : qFs b z pl.toInt) (h0 : us s = 0) (u1 : us₉ s ≠ 0) (u2 : ∀ t, t ≠ s → us₉ t = us t) (n1 : nr₉ s = y) (n2 : ∀ t, t ≠ s → nr₉ t = nr t) (k1 : kd₉ s = kk) (k2 : ∀ t, t ≠ s → kd₉ t = kd t) (w1 : ws₉ s = w) (w2 : ∀ t, t ≠ s → ws₉ t = ws t) (a1 : at2 s = pl) (a2 : ∀ t, t ≠ s → at2 t = at₉ t) (o1 : ow₉ pl.toNatClampNeg = Int32.ofNat s) (o2 : ∀ p, p ≠ pl.toNatClampNeg → ow₉ p = ow p) : qNs us₉ nr₉ kr kd₉ ws₉ at2 ho wd wi ow₉ rt wk wl wm nu ro fo le ra pi b s y kk w pl := by
  refine ⟨?_, u1, n1, k1, w1, a1, o1⟩
  rw [zmk_e h0 u2]
  exact RB_ot h h0 n2 k2 w2 a2 (fun _ _ => rfl) (fun _ _ => rfl) (fun t _ e i _ => zrf_kd (k2 t e)) (fun t ht hv => o2 _ (fs_at h hI hz hF ht hv))
/-- its holds, its wish, its words -/
theorem NS_h (h : qNs us nr kr kd ws at₉ ho wd wi ow rt wk wl wm nu ro fo le ra pi b s y kk w pl) (e5 : ∀ t, t ≠ s → ho₉ t = ho t) (e6 : ∀ t, t ≠ s → wi₉ t = wi t) (e7 : ∀ t, t < 3100 → t ≠ s → ∀ i : Nat, (i : Int) < (ws t).toInt → zrf kr kd wd₉ t i = zrf kr kd wd t i) : qNs us nr kr kd ws at₉ ho₉ wd₉ wi₉ ow rt wk wl wm nu ro fo le ra pi b s y kk w pl := ⟨RB_ot h.1 (by unfold zmk; rw [if_pos rfl]) (fun _ _ => rfl) (fun _ _ => rfl) (fun _ _ => rfl) (fun _ _ => rfl) e5 e6 e7 (fun _ _ _ => rfl), h.2⟩
theorem MG_0 {mk ga gm : Int32} {co₉ : Nat → Int32} (h : qMG mk co gr ga gm us nr b) (h0 : us s = 0) (u2 : ∀ t, t ≠ s → us₉ t = us t) (n2 : ∀ t, t ≠ s → nr₉ t = nr t) (c2 : ∀ t, t ≠ s → co₉ t = co t) : qMG mk co₉ gr ga gm (zmk us₉ s) nr₉ b := fun z => by
  rw [zmk_e h0 u2]
  obtain ⟨⟨q1, q2, q3, q4, q5⟩, q6⟩ := h z
  have ne : ∀ t, us t ≠ 0 → t ≠ s := fun t ht e => ht (e ▸ h0)
  refine ⟨⟨q1, q2, fun t ht hv => ?_, fun j j1 j2 => ?_, q5⟩, q6⟩
  · rw [c2 t (ne t hv), n2 t (ne t hv)]
    exact q3 t ht hv
  · have p := q4 j j1 j2
    rw [n2 _ (ne _ p.1.2.2)]
    exact p
theorem MG_1 {mk ga gm : Int32} {co₉ : Nat → Int32} (h : qMG mk co gr ga gm (zmk us s) nr b) (c2 : ∀ t, t ≠ s → co₉ t = co t) : qMG mk co₉ gr ga gm (zmk us s) nr b := by
  have h0 : zmk us s s = 0 := if_pos rfl
  have q := MG_0 (us₉ := zmk us s) (nr₉ := nr) h h0 (fun _ _ => rfl) (fun _ _ => rfl) c2
  rw [zmk_e h0 (fun _ _ => rfl)] at q
  exact q
theorem WT_0 {wt : Int32} (h : wt.toInt = sm (zbU us) ws 3100) (h0 : us s = 0) (u2 : ∀ t, t ≠ s → us₉ t = us t) (w2 : ∀ t, t ≠ s → ws₉ t = ws t) : wt.toInt = sm (zbU (zmk us₉ s)) ws₉ 3100 := by
  rw [zmk_e h0 u2, h]
  exact (sm_old (s := s) (decide_eq_false (fun w => w h0)) (decide_eq_false (fun w => w h0)) (fun _ _ => rfl) w2).symm
def qCo (mk : Int32) (co : Nat → Int32) (s : Nat) : Prop := mk.toInt ≠ 0 → co s = 2
theorem MG_ad {mk ga gm : Int32} {d : Nat → Nat → Int32} {L : Int64} (hN : qNs us nr kr kd ws at₉ ho wd wi ow rt wk wl wm nu ro fo le ra pi b s y kk w pl) (h : qNe b y w pl) (hA : qAd b d y kk w pl L) (h7 : qA7 b d y) (hK : b 87 8 = mk) (hG : qMG mk co gr ga gm (zmk us s) nr b) (hc : qCo mk co s) : qMG mk co gr ga gm us nr d := fun z => by
  have h8 : b 87 8 ≠ 0 := by
    rw [hK]
    exact fun e => z (by rw [e]; rfl)
  exact ⟨MQ_ad h hA h7 h8 hN.1.1 (hG z).1 hN.2.2.1 (hc z), MI_ad h hA h7 h8 hN.1 (hG z).2⟩
theorem MS_ad {mk : Int32} {d : Nat → Nat → Int32} (h : qNe b y w pl) (h7 : qA7 b d y) (hK : b 87 8 = mk) : qMS mk d y := fun z _ => Or.inr (zM_in ⟨(Ne_b h).2.1, by
  rw [h7.2.2.1 (by rw [hK]; exact fun e => z (by rw [e]; rfl))]
  decide⟩)
theorem RB_ns {d : Nat → Nat → Int32} {L : Int64} {nu₉ le₉ : Int32} (hN : qNs us nr kr kd ws at₉ ho wd wi ow rt wk wl wm nu ro fo le ra pi b s y kk w pl) (h : qNe b y w pl) (hA : qAd b d y kk w pl L) (hs : s < 3100) (hh : ho s = 0) (hi : wi s = 0) (hz : ∀ j : Nat, (j : Int) < (ws s).toInt → (zrf kr kd wd s j).toInt = -1) (hb : ∀ j : Nat, (j : Int) < w.toInt → (zbit L (Int32.ofNat j) ≠ 0 ↔ qIr kr kd s j)) (e1 : nu₉ = nu + 1) (e2 : le₉ = pl + (w + 1)) : qRB us nr kr kd ws at₉ ho wd wi ow rt wk wl wm nu₉ ro fo le₉ ra pi d := by
  rw [e1, e2]
  exact RB_ad h hA hN.1 hs hN.2.1 hN.2.2.1 hN.2.2.2.2.1 hN.2.2.2.2.2.1 hh hi hN.2.2.2.2.2.2 hz hb
/-- a place that room was found at -/
theorem Ne_of {aa : Nat → Nat → Int32} (hI : qI (aRs aa (w + 1).toInt)) (hR : qEq pl.toInt (aRp aa (w + 1).toInt)) (h0 : 0 ≤ pl.toInt) (hw : 0 ≤ w.toInt) (hw6 : w.toInt ≤ 60) (hy : aRs aa (w + 1).toInt 69 6 = y) (hy5 : y.toInt < 512) : qNe (aRs aa (w + 1).toInt) y w pl := by
  have e1 := i_p1 (i := w) (by omega)
  have q := qE hR
  unfold aRp at q
  have f := Ft_fs hI (z := (w + 1).toInt) (by omega) (by rw [← q]; omega)
  rw [← q] at f
  rw [e1] at f
  exact ⟨hI, hy.symm, hy5, ⟨hw, hw6⟩, by rw [e1]; exact f⟩
end QN2

