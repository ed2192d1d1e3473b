/-! from 95.zu05 -/
/-! the reference: who is used, words (written by wip/tools/gen15u.py) -/
theorem sp_242uw {X : Nat × (Nat → Int32)} {P : Option ma_V → (Nat → Nat → Int32) → Prop} {T : Nat} {m : Nat → Nat → Int32} (s : Int32) (hV : zV m) (hpre0 : 0 ≤ s.toInt) (hpre1 : s.toInt ≤ 3099) (hpre2 : (m 94 10).toInt = 4) (r_GW : zGW T (m 94 55) (m 109)) (r_GU : zGU T (m 94 46) (m 99)) (r_OW : zOw (m 99) (m 103) (m 111)) (r_DX : zDX (m 94 10) (m 99) (m 112) (m 113) (m 114) (m 94 55) (m 98) (m 101) (m 102) (m 108)) (r_GO : zgo (m 94 80) (m 99)) (r_GWD : zgw (m 121) (m 120) (m 102) (m 94 80)) (KZ : ∀ m₉, zV (zov wr_242 m m₉) → (zGW T (m₉ 94 55) (m₉ 109)) → (zGU T (m 94 46) (m₉ 99)) → (zOw (m₉ 99) (m 103) (m₉ 111)) → (zDX (m 94 10) (m₉ 99) (m 112) (m₉ 113) (m₉ 114) (m₉ 94 55) (m 98) (m 101) (m 102) (m 108)) → (zgo (m₉ 94 80) (m₉ 99)) → (zgw (m₉ 121) (m₉ 120) (m 102) (m₉ 94 80)) → (zlm (m₉ 99) (m₉ 121) (m₉ 94 80) ≤ zlm (m 99) (m 121) (m 94 80)) → (zUs (m 99) (m₉ 99)) → P none (zov wr_242 m m₉)) : zm X 2 43 242 0 [(0, .inr (.inr (some 94))), (1, .inl s)] m P := by
  have K : ∀ m₉, zF wr_242 m m₉ → zV m₉ → (zGW T (m₉ 94 55) (m₉ 109)) → (zGU T (m₉ 94 46) (m₉ 99)) → (zOw (m₉ 99) (m₉ 103) (m₉ 111)) → (zDX (m₉ 94 10) (m₉ 99) (m₉ 112) (m₉ 113) (m₉ 114) (m₉ 94 55) (m₉ 98) (m₉ 101) (m₉ 102) (m₉ 108)) → (zgo (m₉ 94 80) (m₉ 99)) → (zgw (m₉ 121) (m₉ 120) (m₉ 102) (m₉ 94 80)) → (zlm (m₉ 99) (m₉ 121) (m₉ 94 80) ≤ zlm (m 99) (m 121) (m 94 80)) → (zUs (m 99) (m₉ 99)) → P none m₉ := by
    intro m₉ hf z q0 q1 q2 q3 q4 q5 q6 q7
    have e := zov_eq hf
    rw [e] at z ⊢
    try rw [e] at q0
    try rw [e] at q1
    try rw [e] at q2
    try rw [e] at q3
    try rw [e] at q4
    try rw [e] at q5
    try rw [e] at q6
    try rw [e] at q7
    exact KZ m₉ z q0 q1 q2 q3 q4 q5 q6 q7
  refine g_242_0 s ?_
  have f1 : 0 ≤ (m 94 10).toInt ∧ (m 94 10).toInt ≤ 6 := rs_94_10 (m := m) hV
  have b2 := i_bd s
  have hg3 : (0 ≤ s ∧ s.toNatClampNeg < 3100) := i_ix (by omega) (by omega)
  refine ⟨hg3, ?_⟩
  have hg4 : (0 ≤ s ∧ s.toNatClampNeg < 3100) := i_ix (by omega) (by omega)
  refine ⟨hg4, ?_⟩
  have hg5 : (0 ≤ s ∧ s.toNatClampNeg < 3100) := i_ix (by omega) (by omega)
  refine ⟨hg5, ?_⟩
  have li6 : (0 : Int32).toInt = 0 := rfl
  have b7 := i_bd (m 105 s.toNatClampNeg)
  first | have e8 : ((m 105 s.toNatClampNeg) - (1 : Int32)).toInt = (m 105 s.toNatClampNeg).toInt - (1) := i_subk rfl (by omega) (by omega) | have b9 := i_bd ((m 105 s.toNatClampNeg) - (1 : Int32))
  have q10 : ((ma_u m 105 s.toNatClampNeg ((m 105 s.toNatClampNeg) - (1 : Int32))) 105 s.toNatClampNeg).toInt = ((m 105 s.toNatClampNeg) - (1 : Int32)).toInt := congrArg Int32.toInt mu_self
  have b11 := i_bd ((ma_u m 105 s.toNatClampNeg ((m 105 s.toNatClampNeg) - (1 : Int32))) 105 s.toNatClampNeg)
  refine zd (fun (h12 : (0 : Int32) < ((ma_u m 105 s.toNatClampNeg ((m 105 s.toNatClampNeg) - (1 : Int32))) 105 s.toNatClampNeg)) => ?_) (fun (h12 : ¬ (0 : Int32) < ((ma_u m 105 s.toNatClampNeg ((m 105 s.toNatClampNeg) - (1 : Int32))) 105 s.toNatClampNeg)) => ?_)
  · skip
    have g13 := i_lt h12
    have hV14 : zV (ma_u m 105 s.toNatClampNeg ((m 105 s.toNatClampNeg) - (1 : Int32))) := ua_105 hV
    exact K _ (zF_u zF_rfl rfl) hV14 r_GW r_GU r_OW r_DX r_GO r_GWD (show zlm (m 99) (m 121) (m 94 80) ≤ zlm (m 99) (m 121) (m 94 80) from by first | (exact Nat.le_refl _) | (exfalso; omega; done) | (exfalso; contradiction; done)) (show zUs (m 99) (m 99) from by first | (exact Us_rfl) | (exact Us_w0 Us_rfl) | (exact Us_rfl) | (exfalso; omega; done) | (exfalso; contradiction; done))
  · skip
    have g15 := i_nlt h12
    have hg16 : (0 ≤ s ∧ s.toNatClampNeg < 3100) := i_ix (by omega) (by omega)
    refine ⟨hg16, ?_⟩
    first | have f17 : 0 ≤ (m 99 s.toNatClampNeg).toInt ∧ (m 99 s.toNatClampNeg).toInt ≤ 1 := ra_99 (m := m) hV (k := s.toNatClampNeg) (i_ix (n := 3100) (by omega) (by omega)).2 | have b18 := i_bd (m 99 s.toNatClampNeg)
    refine zd (fun (h19 : (m 99 s.toNatClampNeg) = (0 : Int32)) => ?_) (fun (h19 : ¬ (m 99 s.toNatClampNeg) = (0 : Int32)) => ?_)
    · skip
      have g20 := i_eq h19
      have hV21 : zV (ma_u m 105 s.toNatClampNeg ((m 105 s.toNatClampNeg) - (1 : Int32))) := ua_105 hV
      exact K _ (zF_u zF_rfl rfl) hV21 r_GW r_GU r_OW r_DX r_GO r_GWD (show zlm (m 99) (m 121) (m 94 80) ≤ zlm (m 99) (m 121) (m 94 80) from by first | (exact Nat.le_refl _) | (exfalso; omega; done) | (exfalso; contradiction; done)) (show zUs (m 99) (m 99) from by first | (exact Us_rfl) | (exact Us_w0 Us_rfl) | (exact Us_rfl) | (exfalso; omega; done) | (exfalso; contradiction; done))
    · skip
      have g22 := i_ne h19
      have hg23 : (0 ≤ s ∧ s.toNatClampNeg < 3100) := i_ix (by omega) (by omega)
      refine ⟨hg23, ?_⟩
      first | have f24 : 0 ≤ (m 109 s.toNatClampNeg).toInt ∧ (m 109 s.toNatClampNeg).toInt ≤ 1 := ra_109 (m := m) hV (k := s.toNatClampNeg) (i_ix (n := 3100) (by omega) (by omega)).2 | have b25 := i_bd (m 109 s.toNatClampNeg)
      refine zd (fun (h26 : (m 109 s.toNatClampNeg) = (0 : Int32)) => ?_) (fun (h26 : ¬ (m 109 s.toNatClampNeg) = (0 : Int32)) => ?_)
      · skip
        have g27 := i_eq h26
        have hV28 : zV (ma_u m 105 s.toNatClampNeg ((m 105 s.toNatClampNeg) - (1 : Int32))) := ua_105 hV
        refine sp_198 (s) hV28  (fun m1 hV_m1 p0_m1 => zmv_n ?_)
        have p0_m1 : zuw (m 113) (m1 113) := p0_m1
        have hg29 : (0 ≤ s ∧ s.toNatClampNeg < 3100) := i_ix (by omega) (by omega)
        refine ⟨hg29, ?_⟩
        have hg30 : (0 ≤ s ∧ s.toNatClampNeg < 3100) := i_ix (by omega) (by omega)
        refine ⟨hg30, ?_⟩
        first | have f31 : 0 ≤ (m 103 s.toNatClampNeg).toInt ∧ (m 103 s.toNatClampNeg).toInt ≤ 4599 := ra_103 (m := m) hV (k := s.toNatClampNeg) (i_ix (n := 3100) (by omega) (by omega)).2 | have b32 := i_bd (m 103 s.toNatClampNeg)
        have hg33 : (0 ≤ (m 103 s.toNatClampNeg) ∧ (m 103 s.toNatClampNeg).toNatClampNeg < 4600) := i_ix (by omega) (by omega)
        refine ⟨hg33, ?_⟩
        have hg34 : (0 ≤ s ∧ s.toNatClampNeg < 3100) := i_ix (by omega) (by omega)
        refine ⟨hg34, ?_⟩
        have hg35 : (0 ≤ s ∧ s.toNatClampNeg < 3100) := i_ix (by omega) (by omega)
        refine ⟨hg35, ?_⟩
        have f36 : 0 ≤ (m 94 80).toInt ∧ (m 94 80).toInt ≤ 3100 := rs_94_80 (m := m) hV
        try have gk := go_room r_GO (by assumption) (by omega)
        have hg37 : (0 ≤ (m 94 80) ∧ (m 94 80).toNatClampNeg < 3100) := i_ix (by omega) (by omega)
        refine ⟨hg37, ?_⟩
        try have gk := go_room r_GO (by assumption) (by omega)
        have hg38 : (0 ≤ (m 94 80) ∧ (m 94 80).toNatClampNeg < 3100) := i_ix (by omega) (by omega)
        refine ⟨hg38, ?_⟩
        have hV39 : zV (ma_u (zov wr_198 (ma_u m 105 s.toNatClampNeg ((m 105 s.toNatClampNeg) - (1 : Int32))) m1) 99 s.toNatClampNeg (0 : Int32)) := ua_99 hV_m1 (by omega) (by omega)
        have li41 : (-1 : Int32).toInt = -1 := rfl
        have hV40 : zV (ma_u (ma_u (zov wr_198 (ma_u m 105 s.toNatClampNeg ((m 105 s.toNatClampNeg) - (1 : Int32))) m1) 99 s.toNatClampNeg (0 : Int32)) 111 (m 103 s.toNatClampNeg).toNatClampNeg (-1 : Int32)) := ua_111 hV39 (by omega) (by omega)
        have hV42 : zV (ma_u (ma_u (ma_u (zov wr_198 (ma_u m 105 s.toNatClampNeg ((m 105 s.toNatClampNeg) - (1 : Int32))) m1) 99 s.toNatClampNeg (0 : Int32)) 111 (m 103 s.toNatClampNeg).toNatClampNeg (-1 : Int32)) 94 44 ((m 94 44) - (1 : Int32))) := uf_94_44 hV40
        have hV43 : zV (ma_u (ma_u (ma_u (ma_u (zov wr_198 (ma_u m 105 s.toNatClampNeg ((m 105 s.toNatClampNeg) - (1 : Int32))) m1) 99 s.toNatClampNeg (0 : Int32)) 111 (m 103 s.toNatClampNeg).toNatClampNeg (-1 : Int32)) 94 44 ((m 94 44) - (1 : Int32))) 94 45 ((m 94 45) - ((m 102 s.toNatClampNeg) + (1 : Int32)))) := uf_94_45 hV42
        have hV44 : zV (ma_u (ma_u (ma_u (ma_u (ma_u (zov wr_198 (ma_u m 105 s.toNatClampNeg ((m 105 s.toNatClampNeg) - (1 : Int32))) m1) 99 s.toNatClampNeg (0 : Int32)) 111 (m 103 s.toNatClampNeg).toNatClampNeg (-1 : Int32)) 94 44 ((m 94 44) - (1 : Int32))) 94 45 ((m 94 45) - ((m 102 s.toNatClampNeg) + (1 : Int32)))) 94 49 ((m 94 49) + ((m 102 s.toNatClampNeg) + (1 : Int32)))) := uf_94_49 hV43
        have hV45 : zV (ma_u (ma_u (ma_u (ma_u (ma_u (ma_u (zov wr_198 (ma_u m 105 s.toNatClampNeg ((m 105 s.toNatClampNeg) - (1 : Int32))) m1) 99 s.toNatClampNeg (0 : Int32)) 111 (m 103 s.toNatClampNeg).toNatClampNeg (-1 : Int32)) 94 44 ((m 94 44) - (1 : Int32))) 94 45 ((m 94 45) - ((m 102 s.toNatClampNeg) + (1 : Int32)))) 94 49 ((m 94 49) + ((m 102 s.toNatClampNeg) + (1 : Int32)))) 120 (m 94 80).toNatClampNeg s) := ua_120 hV44 (by omega) (by omega)
        have hV46 : zV (ma_u (ma_u (ma_u (ma_u (ma_u (ma_u (ma_u (zov wr_198 (ma_u m 105 s.toNatClampNeg ((m 105 s.toNatClampNeg) - (1 : Int32))) m1) 99 s.toNatClampNeg (0 : Int32)) 111 (m 103 s.toNatClampNeg).toNatClampNeg (-1 : Int32)) 94 44 ((m 94 44) - (1 : Int32))) 94 45 ((m 94 45) - ((m 102 s.toNatClampNeg) + (1 : Int32)))) 94 49 ((m 94 49) + ((m 102 s.toNatClampNeg) + (1 : Int32)))) 120 (m 94 80).toNatClampNeg s) 121 (m 94 80).toNatClampNeg (0 : Int32)) := ua_121 hV45 (by omega) (by omega)
        first | have e48 : ((m 94 80) + (1 : Int32)).toInt = (m 94 80).toInt + (1) := i_addk rfl (by omega) (by omega) | have b49 := i_bd ((m 94 80) + (1 : Int32))
        have hV47 : zV (ma_u (ma_u (ma_u (ma_u (ma_u (ma_u (ma_u (ma_u (zov wr_198 (ma_u m 105 s.toNatClampNeg ((m 105 s.toNatClampNeg) - (1 : Int32))) m1) 99 s.toNatClampNeg (0 : Int32)) 111 (m 103 s.toNatClampNeg).toNatClampNeg (-1 : Int32)) 94 44 ((m 94 44) - (1 : Int32))) 94 45 ((m 94 45) - ((m 102 s.toNatClampNeg) + (1 : Int32)))) 94 49 ((m 94 49) + ((m 102 s.toNatClampNeg) + (1 : Int32)))) 120 (m 94 80).toNatClampNeg s) 121 (m 94 80).toNatClampNeg (0 : Int32)) 94 80 ((m 94 80) + (1 : Int32))) := us_94_80 hV46 (by omega) (by omega)
        exact K _ (zF_u (zF_u (zF_u (zF_u (zF_u (zF_u (zF_u (zF_u (zF_zov (zF_u zF_rfl rfl) ws_198_242) rfl) rfl) rfl) rfl) rfl) rfl) rfl) rfl) hV47 r_GW (show zGU T (m 94 46) ((ma_u m 99 s.toNatClampNeg (0 : Int32)) 99) from by first | (exact GU_0 r_GU) | (exfalso; omega; done) | (exfalso; contradiction; done)) (show zOw ((ma_u m 99 s.toNatClampNeg (0 : Int32)) 99) (m 103) ((ma_u m 111 (m 103 s.toNatClampNeg).toNatClampNeg (-1 : Int32)) 111) from by first | (exact Ow_rm r_OW (by decide) (tn_cast (by omega)).symm) | (exfalso; omega; done) | (exfalso; contradiction; done)) (show zDX (m 94 10) ((ma_u m 99 s.toNatClampNeg (0 : Int32)) 99) (m 112) (m1 113) (m 114) (m 94 55) (m 98) (m 101) (m 102) (m 108) from by first | (exact fun hp => absurd hp (by omega)) | (exfalso; omega; done) | (exfalso; contradiction; done)) (show zgo ((m 94 80) + (1 : Int32)) ((ma_u m 99 s.toNatClampNeg (0 : Int32)) 99) from by first | (exact go_push r_GO (by assumption) (by omega) (by omega)) | (exfalso; omega; done) | (exfalso; contradiction; done)) (show zgw ((ma_u m 121 (m 94 80).toNatClampNeg (0 : Int32)) 121) ((ma_u m 120 (m 94 80).toNatClampNeg s) 120) (m 102) ((m 94 80) + (1 : Int32)) from by first | (exact gw_push r_GWD (by omega) (by omega) (by have := ra_102 (m := m) hV (k := s.toNatClampNeg) (by omega); have z : (0 : Int32).toInt = 0 := rfl; omega)) | (exfalso; omega; done) | (exfalso; contradiction; done)) (show zlm ((ma_u m 99 s.toNatClampNeg (0 : Int32)) 99) ((ma_u m 121 (m 94 80).toNatClampNeg (0 : Int32)) 121) ((m 94 80) + (1 : Int32)) ≤ zlm (m 99) (m 121) (m 94 80) from by first | (have zq := lm_push (m := m) (c := 99) (mg := m) (d := 121) (k := s.toNatClampNeg) (gm := m 94 80) (gm₉ := (m 94 80) + (1 : Int32)) (x := (0 : Int32)) (by assumption) (by omega) (by omega) (by omega) (by omega) (by decide); exact zq; done) | (exfalso; omega; done) | (exfalso; contradiction; done)) (show zUs (m 99) ((ma_u m 99 s.toNatClampNeg (0 : Int32)) 99) from by first | (exact Us_rfl) | (exact Us_w0 Us_rfl) | (exact Us_rfl) | (exfalso; omega; done) | (exfalso; contradiction; done))
      · skip
        have g50 := i_ne h26
        have hV51 : zV (ma_u m 105 s.toNatClampNeg ((m 105 s.toNatClampNeg) - (1 : Int32))) := ua_105 hV
        refine sp_197 (s) hV51 (by omega) (by omega) (show (m 109) s.toNatClampNeg ≠ 0 from by first | (assumption; done) | (exfalso; omega; done) | (exfalso; contradiction; done)) r_GW (fun m3 hV_m3 p0_m3 p1_m3 p2_m3 p3_m3 => zmv_n ?_)
        have p0_m3 : zGW T (m3 94 55) (m3 109) := p0_m3
        have p1_m3 : zuw (m 113) (m3 113) := p1_m3
        have p2_m3 : zwx (m 114) (m3 114) (m 94 55) s := p2_m3
        have p3_m3 : (m3 94 55).toInt = (m 94 55).toInt + 1 := p3_m3
        have f52 : 0 ≤ (m3 94 55).toInt ∧ (m3 94 55).toInt ≤ 3100 := rs_94_55 (m := (zov wr_197 (ma_u m 105 s.toNatClampNeg ((m 105 s.toNatClampNeg) - (1 : Int32))) m3)) hV_m3
        have f53 : 0 ≤ (m 94 55).toInt ∧ (m 94 55).toInt ≤ 3100 := rs_94_55 (m := m) hV
        exact K _ (zF_zov (zF_u zF_rfl rfl) ws_197_242) hV_m3 p0_m3 r_GU r_OW (show zDX (m 94 10) (m 99) (m 112) (m3 113) (m3 114) (m3 94 55) (m 98) (m 101) (m 102) (m 108) from by first | (exact fun hp => absurd hp (by omega)) | (exfalso; omega; done) | (exfalso; contradiction; done)) r_GO r_GWD (show zlm (m 99) (m 121) (m 94 80) ≤ zlm (m 99) (m 121) (m 94 80) from by first | (exact Nat.le_refl _) | (exfalso; omega; done) | (exfalso; contradiction; done)) (show zUs (m 99) (m 99) from by first | (exact Us_rfl) | (exact Us_w0 Us_rfl) | (exact Us_rfl) | (exfalso; omega; done) | (exfalso; contradiction; done))
theorem lp_241uw_23 {X : Nat × (Nat → Int32)} {P : Option ma_V → (Nat → Nat → Int32) → Prop} {T : Nat} {s : Int32} {m0 : Nat → Nat → Int32} (h0 : zV m0) (K : ∀ m₉, zF wr_241 m0 m₉ → zV m₉ → (zGW T (m₉ 94 55) (m₉ 109)) → (zGU T (m₉ 94 46) (m₉ 99)) → (zOw (m₉ 99) (m₉ 103) (m₉ 111)) → (zDX (m₉ 94 10) (m₉ 99) (m₉ 112) (m₉ 113) (m₉ 114) (m₉ 94 55) (m₉ 98) (m₉ 101) (m₉ 102) (m₉ 108)) → ((m₉ 94 10).toInt ≠ 4 → ((m₉ 99) = (m0 99) ∧ (m₉ 111) = (m0 111) ∧ (m₉ 113) = (m0 113) ∧ (m₉ 114) = (m0 114) ∧ (m₉ 94 55) = (m0 94 55) ∧ (m₉ 109) = (m0 109))) → (zUs (m0 99) (m₉ 99)) → P none m₉) : ∀ (n : Nat) (m : Nat → Nat → Int32) , ((zlm (m 99) (m 121) (m 94 80) : Int)).toNat = n → zF wr_241 m0 m → zV m → (zW (m 94 7) (m 98) (m 101) (m 102) (m 108)) → (zGW T (m 94 55) (m 109)) → (zGU T (m 94 46) (m 99)) → (zOw (m 99) (m 103) (m 111)) → (zDX (m 94 10) (m 99) (m 112) (m 113) (m 114) (m 94 55) (m 98) (m 101) (m 102) (m 108)) → ((m 94 10).toInt = 4) → (zgo (m 94 80) (m 99)) → (zgw (m 121) (m 120) (m 102) (m 94 80)) → (zUs (m0 99) (m 99)) → zm X 3 64 241 23 [(0, .inr (.inr (some 94)))] m P := by
  intro n
  induction n using Nat.strongRecOn with
  | _ n IH =>
    intro m  hmu hF hV r_W r_GW r_GU r_OW r_DX hi5 r_GO r_GWD r_UQs
    refine g_241_23  ?_
    have f1 : 0 ≤ (m 94 10).toInt ∧ (m 94 10).toInt ≤ 6 := rs_94_10 (m := m) hV
    have f2 : 0 ≤ (m 94 80).toInt ∧ (m 94 80).toInt ≤ 3100 := rs_94_80 (m := m) hV
    have li3 : (0 : Int32).toInt = 0 := rfl
    refine zd (fun (h4 : (m 94 80) ≤ (0 : Int32)) => ?_) (fun (h4 : ¬ (m 94 80) ≤ (0 : Int32)) => ?_)
    · skip
      have g5 := i_le h4
      exact K _ hF hV r_GW r_GU r_OW r_DX (show (m 94 10).toInt ≠ 4 → ((m 99) = (m0 99) ∧ (m 111) = (m0 111) ∧ (m 113) = (m0 113) ∧ (m 114) = (m0 114) ∧ (m 94 55) = (m0 94 55) ∧ (m 109) = (m0 109)) from by first | (exact fun z => absurd (by omega) z) | (exact fun _ => ⟨rfl, rfl, rfl, rfl, rfl, rfl⟩) | (exfalso; omega; done) | (exfalso; contradiction; done)) r_UQs
    · skip
      have g6 := i_nle h4
      first | have e7 : ((m 94 80) - (1 : Int32)).toInt = (m 94 80).toInt - (1) := i_subk rfl (by omega) (by omega) | have b8 := i_bd ((m 94 80) - (1 : Int32))
      have hg9 : (0 ≤ ((m 94 80) - (1 : Int32)) ∧ ((m 94 80) - (1 : Int32)).toNatClampNeg < 3100) := i_ix (by omega) (by omega)
      refine ⟨hg9, ?_⟩
      have hg10 : (0 ≤ ((m 94 80) - (1 : Int32)) ∧ ((m 94 80) - (1 : Int32)).toNatClampNeg < 3100) := i_ix (by omega) (by omega)
      refine ⟨hg10, ?_⟩
      first | have f11 : 0 ≤ (m 120 ((m 94 80) - (1 : Int32)).toNatClampNeg).toInt ∧ (m 120 ((m 94 80) - (1 : Int32)).toNatClampNeg).toInt ≤ 3099 := ra_120 (m := m) hV (k := ((m 94 80) - (1 : Int32)).toNatClampNeg) (i_ix (n := 3100) (by omega) (by omega)).2 | have b12 := i_bd (m 120 ((m 94 80) - (1 : Int32)).toNatClampNeg)
      try have gwd := r_GWD ((m 94 80) - (1 : Int32)).toNatClampNeg (by rw [tn_cast (by omega)]; omega)
      have hg13 : (0 ≤ (m 120 ((m 94 80) - (1 : Int32)).toNatClampNeg) ∧ (m 120 ((m 94 80) - (1 : Int32)).toNatClampNeg).toNatClampNeg < 3100) := i_ix (by omega) (by omega)
      refine ⟨hg13, ?_⟩
      first | have f14 : 0 ≤ (m 121 ((m 94 80) - (1 : Int32)).toNatClampNeg).toInt ∧ (m 121 ((m 94 80) - (1 : Int32)).toNatClampNeg).toInt ≤ 60 := ra_121 (m := m) hV (k := ((m 94 80) - (1 : Int32)).toNatClampNeg) (i_ix (n := 3100) (by omega) (by omega)).2 | have b15 := i_bd (m 121 ((m 94 80) - (1 : Int32)).toNatClampNeg)
      first | have f16 : 0 ≤ (m 102 (m 120 ((m 94 80) - (1 : Int32)).toNatClampNeg).toNatClampNeg).toInt ∧ (m 102 (m 120 ((m 94 80) - (1 : Int32)).toNatClampNeg).toNatClampNeg).toInt ≤ 60 := ra_102 (m := m) hV (k := (m 120 ((m 94 80) - (1 : Int32)).toNatClampNeg).toNatClampNeg) (i_ix (n := 3100) (by omega) (by omega)).2 | have b17 := i_bd (m 102 (m 120 ((m 94 80) - (1 : Int32)).toNatClampNeg).toNatClampNeg)
      refine zd (fun (h18 : (m 121 ((m 94 80) - (1 : Int32)).toNatClampNeg) = (m 102 (m 120 ((m 94 80) - (1 : Int32)).toNatClampNeg).toNatClampNeg)) => ?_) (fun (h18 : ¬ (m 121 ((m 94 80) - (1 : Int32)).toNatClampNeg) = (m 102 (m 120 ((m 94 80) - (1 : Int32)).toNatClampNeg).toNatClampNeg)) => ?_)
      · skip
        have g19 := i_eq h18
        have hV20 : zV (ma_u m 94 80 ((m 94 80) - (1 : Int32))) := us_94_80 hV (by omega) (by omega)
        exact IH ((zlm (m 99) (m 121) ((m 94 80) - (1 : Int32)) : Int)).toNat (by first | (have zq := lm_pop (us := m 99) (gw := m 121) (gm := m 94 80) (gm₉ := (m 94 80) - (1 : Int32)) (by omega) (by omega) (fun j hj => ra_121 hV (by omega)); omega) | (have zq := lm_adv (us := m 99) (m := m) (c := 121) (k := ((m 94 80) - (1 : Int32)).toNatClampNeg) (x := (m 121 ((m 94 80) - (1 : Int32)).toNatClampNeg) + (1 : Int32)) (gm := m 94 80) (by omega) (by rw [tn_cast (by omega)]; omega) (by omega) (by omega); have zm := {ML}; omega) | (have zq := lm_adv (us := m 99) (m := m) (c := 121) (k := ((m 94 80) - (1 : Int32)).toNatClampNeg) (x := (m 121 ((m 94 80) - (1 : Int32)).toNatClampNeg) + (1 : Int32)) (gm := m 94 80) (by omega) (by rw [tn_cast (by omega)]; omega) (by omega) (by omega); omega)) _  rfl (zF_u hF rfl) hV20 r_W r_GW r_GU r_OW r_DX (show (m 94 10).toInt = 4 from by omega) (show zgo ((m 94 80) - (1 : Int32)) (m 99) from by first | (exact go_0 (by decide)) | (exact go_pop r_GO (by omega)) | (exfalso; omega; done) | (exfalso; contradiction; done)) (show zgw (m 121) (m 120) (m 102) ((m 94 80) - (1 : Int32)) from by first | (exact gw_0 (by decide)) | (exact gw_pop r_GWD (by omega)) | (exfalso; omega; done) | (exfalso; contradiction; done)) r_UQs
      · skip
        have g21 := i_ne h18
        have hg22 : (0 ≤ ((m 94 80) - (1 : Int32)) ∧ ((m 94 80) - (1 : Int32)).toNatClampNeg < 3100) := i_ix (by omega) (by omega)
        refine ⟨hg22, ?_⟩
        have hg23 : (0 ≤ ((m 94 80) - (1 : Int32)) ∧ ((m 94 80) - (1 : Int32)).toNatClampNeg < 3100) := i_ix (by omega) (by omega)
        refine ⟨hg23, ?_⟩
        first | have e25 : ((m 121 ((m 94 80) - (1 : Int32)).toNatClampNeg) + (1 : Int32)).toInt = (m 121 ((m 94 80) - (1 : Int32)).toNatClampNeg).toInt + (1) := i_addk rfl (by omega) (by omega) | have b26 := i_bd ((m 121 ((m 94 80) - (1 : Int32)).toNatClampNeg) + (1 : Int32))
        have hV24 : zV (ma_u m 121 ((m 94 80) - (1 : Int32)).toNatClampNeg ((m 121 ((m 94 80) - (1 : Int32)).toNatClampNeg) + (1 : Int32))) := ua_121 hV (by omega) (by omega)
        refine sp_192 ((m 120 ((m 94 80) - (1 : Int32)).toNatClampNeg)) ((m 121 ((m 94 80) - (1 : Int32)).toNatClampNeg)) hV24 (by omega) (by omega) (by omega) (show (m 121 ((m 94 80) - (1 : Int32)).toNatClampNeg).toInt < (m 102 (m 120 ((m 94 80) - (1 : Int32)).toNatClampNeg).toNatClampNeg).toInt from by omega) (fun v2 m1 hV_m1 p0_m1 => zmi_n ?_)
        have p0_m1 : v2 = zrf (m 98) (m 101) (m 108) (m 120 ((m 94 80) - (1 : Int32)).toNatClampNeg).toNatClampNeg (m 121 ((m 94 80) - (1 : Int32)).toNatClampNeg).toNatClampNeg := p0_m1
        try have := W_ref r_W (by omega) (by omega) (by omega) (by omega) p0_m1
        have b27 := i_bd v2
        refine zd (fun (h28 : v2 < (0 : Int32)) => ?_) (fun (h28 : ¬ v2 < (0 : Int32)) => ?_)
        · skip
          have g29 := i_lt h28
          exact IH ((zlm (m 99) ((ma_u m 121 ((m 94 80) - (1 : Int32)).toNatClampNeg ((m 121 ((m 94 80) - (1 : Int32)).toNatClampNeg) + (1 : Int32))) 121) (m 94 80) : Int)).toNat (by first | (have zq := lm_pop (us := m 99) (gw := m 121) (gm := m 94 80) (gm₉ := (m 94 80) - (1 : Int32)) (by omega) (by omega) (fun j hj => ra_121 hV (by omega)); omega) | (have zq := lm_adv (us := m 99) (m := m) (c := 121) (k := ((m 94 80) - (1 : Int32)).toNatClampNeg) (x := (m 121 ((m 94 80) - (1 : Int32)).toNatClampNeg) + (1 : Int32)) (gm := m 94 80) (by omega) (by rw [tn_cast (by omega)]; omega) (by omega) (by omega); have zm := {ML}; omega) | (have zq := lm_adv (us := m 99) (m := m) (c := 121) (k := ((m 94 80) - (1 : Int32)).toNatClampNeg) (x := (m 121 ((m 94 80) - (1 : Int32)).toNatClampNeg) + (1 : Int32)) (gm := m 94 80) (by omega) (by rw [tn_cast (by omega)]; omega) (by omega) (by omega); omega)) _  rfl (zF_zov (zF_u hF rfl) ws_192_241) hV_m1 r_W r_GW r_GU r_OW r_DX (show (m 94 10).toInt = 4 from by omega) r_GO (show zgw ((ma_u m 121 ((m 94 80) - (1 : Int32)).toNatClampNeg ((m 121 ((m 94 80) - (1 : Int32)).toNatClampNeg) + (1 : Int32))) 121) (m 120) (m 102) (m 94 80) from by first | (exact gw_adv r_GWD (by omega)) | (exfalso; omega; done) | (exfalso; contradiction; done)) r_UQs
        · skip
          have g30 := i_nlt h28
          refine sp_242uw (v2) hV_m1 (by omega) (by omega) (show (m 94 10).toInt = 4 from by omega) r_GW r_GU r_OW r_DX r_GO (show zgw ((ma_u m 121 ((m 94 80) - (1 : Int32)).toNatClampNeg ((m 121 ((m 94 80) - (1 : Int32)).toNatClampNeg) + (1 : Int32))) 121) (m 120) (m 102) (m 94 80) from by first | (exact gw_adv r_GWD (by omega)) | (exfalso; omega; done) | (exfalso; contradiction; done)) (fun m3 hV_m3 p0_m3 p1_m3 p2_m3 p3_m3 p4_m3 p5_m3 p6_m3 p7_m3 => zmv_n ?_)
          have p0_m3 : zGW T (m3 94 55) (m3 109) := p0_m3
          have p1_m3 : zGU T (m 94 46) (m3 99) := p1_m3
          have p2_m3 : zOw (m3 99) (m 103) (m3 111) := p2_m3
          have p3_m3 : zDX (m 94 10) (m3 99) (m 112) (m3 113) (m3 114) (m3 94 55) (m 98) (m 101) (m 102) (m 108) := p3_m3
          have p4_m3 : zgo (m3 94 80) (m3 99) := p4_m3
          have p5_m3 : zgw (m3 121) (m3 120) (m 102) (m3 94 80) := p5_m3
          have p6_m3 : zlm (m3 99) (m3 121) (m3 94 80) ≤ zlm (m 99) ((ma_u m 121 ((m 94 80) - (1 : Int32)).toNatClampNeg ((m 121 ((m 94 80) - (1 : Int32)).toNatClampNeg) + (1 : Int32))) 121) (m 94 80) := p6_m3
          have p7_m3 : zUs (m 99) (m3 99) := p7_m3
          exact IH ((zlm (m3 99) (m3 121) (m3 94 80) : Int)).toNat (by first | (have zq := lm_pop (us := m 99) (gw := m 121) (gm := m 94 80) (gm₉ := (m 94 80) - (1 : Int32)) (by omega) (by omega) (fun j hj => ra_121 hV (by omega)); omega) | (have zq := lm_adv (us := m 99) (m := m) (c := 121) (k := ((m 94 80) - (1 : Int32)).toNatClampNeg) (x := (m 121 ((m 94 80) - (1 : Int32)).toNatClampNeg) + (1 : Int32)) (gm := m 94 80) (by omega) (by rw [tn_cast (by omega)]; omega) (by omega) (by omega); have zm := p6_m3; omega) | (have zq := lm_adv (us := m 99) (m := m) (c := 121) (k := ((m 94 80) - (1 : Int32)).toNatClampNeg) (x := (m 121 ((m 94 80) - (1 : Int32)).toNatClampNeg) + (1 : Int32)) (gm := m 94 80) (by omega) (by rw [tn_cast (by omega)]; omega) (by omega) (by omega); omega)) _  rfl (zF_zov (zF_zov (zF_u hF rfl) ws_192_241) ws_242_241) hV_m3 r_W p0_m3 p1_m3 p2_m3 p3_m3 (show (m 94 10).toInt = 4 from by omega) p4_m3 p5_m3 (show zUs (m0 99) (m3 99) from by first | (exact (Us_tr r_UQs p7_m3)) | (exact Us_w0 (Us_tr r_UQs p7_m3)) | (exact Us_rfl) | (exfalso; omega; done) | (exfalso; contradiction; done))
theorem sp_241uw {X : Nat × (Nat → Int32)} {P : Option ma_V → (Nat → Nat → Int32) → Prop} {T : Nat} {m : Nat → Nat → Int32} (s : Int32) (hV : zV m) (hpre0 : s.toInt ≤ 3099) (r_W : zW (m 94 7) (m 98) (m 101) (m 102) (m 108)) (r_GW : zGW T (m 94 55) (m 109)) (r_GU : zGU T (m 94 46) (m 99)) (r_OW : zOw (m 99) (m 103) (m 111)) (r_DX : zDX (m 94 10) (m 99) (m 112) (m 113) (m 114) (m 94 55) (m 98) (m 101) (m 102) (m 108)) (KZ : ∀ m₉, zV (zov wr_241 m m₉) → (zGW T (m₉ 94 55) (m₉ 109)) → (zGU T (m 94 46) (m₉ 99)) → (zOw (m₉ 99) (m 103) (m₉ 111)) → (zDX (m 94 10) (m₉ 99) (m 112) (m₉ 113) (m₉ 114) (m₉ 94 55) (m 98) (m 101) (m 102) (m 108)) → ((m 94 10).toInt ≠ 4 → ((m₉ 99) = (m 99) ∧ (m₉ 111) = (m 111) ∧ (m₉ 113) = (m 113) ∧ (m₉ 114) = (m 114) ∧ (m₉ 94 55) = (m 94 55) ∧ (m₉ 109) = (m 109))) → (zUs (m 99) (m₉ 99)) → P none (zov wr_241 m m₉)) : zm X 3 64 241 0 [(0, .inr (.inr (some 94))), (1, .inl s)] m P := by
  have K : ∀ m₉, zF wr_241 m m₉ → zV m₉ → (zGW T (m₉ 94 55) (m₉ 109)) → (zGU T (m₉ 94 46) (m₉ 99)) → (zOw (m₉ 99) (m₉ 103) (m₉ 111)) → (zDX (m₉ 94 10) (m₉ 99) (m₉ 112) (m₉ 113) (m₉ 114) (m₉ 94 55) (m₉ 98) (m₉ 101) (m₉ 102) (m₉ 108)) → ((m₉ 94 10).toInt ≠ 4 → ((m₉ 99) = (m 99) ∧ (m₉ 111) = (m 111) ∧ (m₉ 113) = (m 113) ∧ (m₉ 114) = (m 114) ∧ (m₉ 94 55) = (m 94 55) ∧ (m₉ 109) = (m 109))) → (zUs (m 99) (m₉ 99)) → P none m₉ := by
    intro m₉ hf z q0 q1 q2 q3 q4 q5
    have e := zov_eq hf
    rw [e] at z ⊢
    try rw [e] at q0
    try rw [e] at q1
    try rw [e] at q2
    try rw [e] at q3
    try rw [e] at q4
    try rw [e] at q5
    exact KZ m₉ z q0 q1 q2 q3 q4 q5
  refine g_241_0 s ?_
  have b1 := i_bd s
  have li2 : (0 : Int32).toInt = 0 := rfl
  refine zd (fun (h3 : s < (0 : Int32)) => ?_) (fun (h3 : ¬ s < (0 : Int32)) => ?_)
  · skip
    have g4 := i_lt h3
    exact K _ zF_rfl hV r_GW r_GU r_OW r_DX (show (m 94 10).toInt ≠ 4 → ((m 99) = (m 99) ∧ (m 111) = (m 111) ∧ (m 113) = (m 113) ∧ (m 114) = (m 114) ∧ (m 94 55) = (m 94 55) ∧ (m 109) = (m 109)) from by first | (exact fun z => absurd (by omega) z) | (exact fun _ => ⟨rfl, rfl, rfl, rfl, rfl, rfl⟩) | (exfalso; omega; done) | (exfalso; contradiction; done)) (show zUs (m 99) (m 99) from by first | (exact Us_rfl) | (exact Us_w0 Us_rfl) | (exact Us_rfl) | (exfalso; omega; done) | (exfalso; contradiction; done))
  · skip
    have g5 := i_nlt h3
    have f6 : 0 ≤ (m 94 10).toInt ∧ (m 94 10).toInt ≤ 6 := rs_94_10 (m := m) hV
    have li7 : (4 : Int32).toInt = 4 := rfl
    refine zd (fun (h8 : (m 94 10) = (4 : Int32)) => ?_) (fun (h8 : ¬ (m 94 10) = (4 : Int32)) => ?_)
    · skip
      have g9 := i_eq h8
      have hV10 : zV (ma_u m 94 80 (0 : Int32)) := us_94_80 hV (by omega) (by omega)
      refine sp_242uw (s) hV10 (by omega) (by omega) (show (m 94 10).toInt = 4 from by omega) r_GW r_GU r_OW r_DX (show zgo (0 : Int32) (m 99) from by first | (exact go_0 (by decide)) | (exfalso; omega; done) | (exfalso; contradiction; done)) (show zgw (m 121) (m 120) (m 102) (0 : Int32) from by first | (exact gw_0 (by decide)) | (exfalso; omega; done) | (exfalso; contradiction; done)) (fun m1 hV_m1 p0_m1 p1_m1 p2_m1 p3_m1 p4_m1 p5_m1 p6_m1 p7_m1 => zmv_n ?_)
      have p0_m1 : zGW T (m1 94 55) (m1 109) := p0_m1
      have p1_m1 : zGU T (m 94 46) (m1 99) := p1_m1
      have p2_m1 : zOw (m1 99) (m 103) (m1 111) := p2_m1
      have p3_m1 : zDX (m 94 10) (m1 99) (m 112) (m1 113) (m1 114) (m1 94 55) (m 98) (m 101) (m 102) (m 108) := p3_m1
      have p4_m1 : zgo (m1 94 80) (m1 99) := p4_m1
      have p5_m1 : zgw (m1 121) (m1 120) (m 102) (m1 94 80) := p5_m1
      have p6_m1 : zlm (m1 99) (m1 121) (m1 94 80) ≤ zlm (m 99) (m 121) (0 : Int32) := p6_m1
      have p7_m1 : zUs (m 99) (m1 99) := p7_m1
      exact lp_241uw_23 (s := s) hV K _ _  rfl (zF_zov (zF_u zF_rfl rfl) ws_242_241) hV_m1 r_W p0_m1 p1_m1 p2_m1 p3_m1 (show (m 94 10).toInt = 4 from by omega) p4_m1 p5_m1 p7_m1
    · skip
      have g11 := i_ne h8
      exact K _ zF_rfl hV r_GW r_GU r_OW r_DX (show (m 94 10).toInt ≠ 4 → ((m 99) = (m 99) ∧ (m 111) = (m 111) ∧ (m 113) = (m 113) ∧ (m 114) = (m 114) ∧ (m 94 55) = (m 94 55) ∧ (m 109) = (m 109)) from by first | (exact fun z => absurd (by omega) z) | (exact fun _ => ⟨rfl, rfl, rfl, rfl, rfl, rfl⟩) | (exfalso; omega; done) | (exfalso; contradiction; done)) (show zUs (m 99) (m 99) from by first | (exact Us_rfl) | (exact Us_w0 Us_rfl) | (exact Us_rfl) | (exfalso; omega; done) | (exfalso; contradiction; done))
theorem sp_238uw {X : Nat × (Nat → Int32)} {P : Option ma_V → (Nat → Nat → Int32) → Prop} {T : Nat} {m : Nat → Nat → Int32} (r1 : Int32) (s : Int32) (hV : zV m) (hpre0 : 0 ≤ r1.toInt) (hpre1 : r1.toInt ≤ 15) (hpre2 : -1 ≤ s.toInt) (hpre3 : s.toInt ≤ 3099) (r_SU : ((m 94 10).toInt = 2 ∨ (m 94 10).toInt = 3) → s.toInt < 0 ∨ (m 99) s.toNatClampNeg ≠ 0) (r_W : zW (m 94 7) (m 98) (m 101) (m 102) (m 108)) (r_GW : zGW T (m 94 55) (m 109)) (r_GU : zGU T (m 94 46) (m 99)) (r_OW : zOw (m 99) (m 103) (m 111)) (r_DX : zDX (m 94 10) (m 99) (m 112) (m 113) (m 114) (m 94 55) (m 98) (m 101) (m 102) (m 108)) (r_GG : zGG (m 94 58) (m 94 56) (m 94 57) (m 106)) (r_HA : zHA (m 94 10) (m 94 11) (m 94 13) (m 94 14) (m 94 16) (m 94 61) (m 94 59) (m 94 60) (m 99) (m 102) (m 103) (m 111) (m 117) (m 98) (m 101) (m 108)) (r_RGc : zRG (m 94 10) (m 94 18) (m 94 64) (m 94 63) (m 99) (m 103) (m 102) (m 116)) (hpre13 : (m 94 58).toInt = 0 ∨ (m 94 10).toInt = 5) (KZ : ∀ m₉, zV (zov wr_238 m m₉) → (zGW T (m₉ 94 55) (m₉ 109)) → (zGU T (m 94 46) (m₉ 99)) → (zOw (m₉ 99) (m 103) (m₉ 111)) → (zDX (m 94 10) (m₉ 99) (m₉ 112) (m₉ 113) (m₉ 114) (m₉ 94 55) (m 98) (m 101) (m 102) (m 108)) → (zGG (m 94 58) (m₉ 94 56) (m 94 57) (m₉ 106)) → (zHA (m 94 10) (m 94 11) (m 94 13) (m 94 14) (m 94 16) (m 94 61) (m 94 59) (m 94 60) (m₉ 99) (m 102) (m 103) (m₉ 111) (m 117) (m 98) (m 101) (m 108)) → (zRG (m 94 10) (m 94 18) (m 94 64) (m 94 63) (m₉ 99) (m 103) (m 102) (m 116)) → ((m 94 58).toInt = 0 ∨ (m 94 10).toInt = 5) → (zUs (m 99) (m₉ 99)) → P none (zov wr_238 m m₉)) : zm X 4 88 238 0 [(0, .inr (.inr (some 94))), (1, .inl r1), (2, .inl s)] m P := by
  have K : ∀ m₉, zF wr_238 m m₉ → zV m₉ → (zGW T (m₉ 94 55) (m₉ 109)) → (zGU T (m₉ 94 46) (m₉ 99)) → (zOw (m₉ 99) (m₉ 103) (m₉ 111)) → (zDX (m₉ 94 10) (m₉ 99) (m₉ 112) (m₉ 113) (m₉ 114) (m₉ 94 55) (m₉ 98) (m₉ 101) (m₉ 102) (m₉ 108)) → (zGG (m₉ 94 58) (m₉ 94 56) (m₉ 94 57) (m₉ 106)) → (zHA (m₉ 94 10) (m₉ 94 11) (m₉ 94 13) (m₉ 94 14) (m₉ 94 16) (m₉ 94 61) (m₉ 94 59) (m₉ 94 60) (m₉ 99) (m₉ 102) (m₉ 103) (m₉ 111) (m₉ 117) (m₉ 98) (m₉ 101) (m₉ 108)) → (zRG (m₉ 94 10) (m₉ 94 18) (m₉ 94 64) (m₉ 94 63) (m₉ 99) (m₉ 103) (m₉ 102) (m₉ 116)) → ((m₉ 94 58).toInt = 0 ∨ (m₉ 94 10).toInt = 5) → (zUs (m 99) (m₉ 99)) → P none m₉ := by
    intro m₉ hf z q0 q1 q2 q3 q4 q5 q6 q7 q8
    have e := zov_eq hf
    rw [e] at z ⊢
    try rw [e] at q0
    try rw [e] at q1
    try rw [e] at q2
    try rw [e] at q3
    try rw [e] at q4
    try rw [e] at q5
    try rw [e] at q6
    try rw [e] at q7
    try rw [e] at q8
    exact KZ m₉ z q0 q1 q2 q3 q4 q5 q6 q7 q8
  refine g_238_0 r1 s ?_
  have f1 : 0 ≤ (m 94 58).toInt ∧ (m 94 58).toInt ≤ 1 := rs_94_58 (m := m) hV
  have f2 : 0 ≤ (m 94 10).toInt ∧ (m 94 10).toInt ≤ 6 := rs_94_10 (m := m) hV
  have b3 := i_bd r1
  have hg4 : (0 ≤ r1 ∧ r1.toNatClampNeg < 16) := i_ix (by omega) (by omega)
  refine ⟨hg4, ?_⟩
  have b5 := i_bd s
  have li6 : (0 : Int32).toInt = 0 := rfl
  refine zd (fun (h7 : s < (0 : Int32)) => ?_) (fun (h7 : ¬ s < (0 : Int32)) => ?_)
  · skip
    have g8 := i_lt h7
    have hg9 : (0 ≤ r1 ∧ r1.toNatClampNeg < 16) := i_ix (by omega) (by omega)
    refine ⟨hg9, ?_⟩
    first | have f10 : -1 ≤ (m 112 r1.toNatClampNeg).toInt ∧ (m 112 r1.toNatClampNeg).toInt ≤ 3099 := ra_112 (m := m) hV (k := r1.toNatClampNeg) (i_ix (n := 16) (by omega) (by omega)).2 | have b11 := i_bd (m 112 r1.toNatClampNeg)
    have hV12 : zV (ma_u m 112 r1.toNatClampNeg s) := ua_112 hV (by omega) (by omega)
    refine sp_240 ((m 112 r1.toNatClampNeg)) (s) hV12 (by omega) (by omega) r_GG (show (m 94 58).toInt = 0 ∨ (m 94 10).toInt = 5 from by omega) (fun m1 hV_m1 p0_m1 => zmv_n ?_)
    have p0_m1 : zGG (m 94 58) (m1 94 56) (m 94 57) (m1 106) := p0_m1
    refine sp_241uw ((m 112 r1.toNatClampNeg)) hV_m1 (by omega) r_W r_GW r_GU r_OW (show zDX (m 94 10) (m 99) ((ma_u m 112 r1.toNatClampNeg s) 112) (m 113) (m 114) (m 94 55) (m 98) (m 101) (m 102) (m 108) from by first | (exact DX_root r_DX r_SU) | (exfalso; omega; done) | (exfalso; contradiction; done)) (fun m3 hV_m3 p0_m3 p1_m3 p2_m3 p3_m3 p4_m3 p5_m3 => zmv_n ?_)
    have p0_m3 : zGW T (m3 94 55) (m3 109) := p0_m3
    have p1_m3 : zGU T (m 94 46) (m3 99) := p1_m3
    have p2_m3 : zOw (m3 99) (m 103) (m3 111) := p2_m3
    have p3_m3 : zDX (m 94 10) (m3 99) ((ma_u m 112 r1.toNatClampNeg s) 112) (m3 113) (m3 114) (m3 94 55) (m 98) (m 101) (m 102) (m 108) := p3_m3
    have p4_m3 : (m 94 10).toInt ≠ 4 → ((m3 99) = (m 99) ∧ (m3 111) = (m 111) ∧ (m3 113) = (m 113) ∧ (m3 114) = (m 114) ∧ (m3 94 55) = (m 94 55) ∧ (m3 109) = (m 109)) := p4_m3
    have p5_m3 : zUs (m 99) (m3 99) := p5_m3
    exact K _ (zF_zov (zF_zov (zF_u zF_rfl rfl) ws_240_238) ws_241_238) hV_m3 p0_m3 p1_m3 p2_m3 p3_m3 p0_m1 (show zHA (m 94 10) (m 94 11) (m 94 13) (m 94 14) (m 94 16) (m 94 61) (m 94 59) (m 94 60) (m3 99) (m 102) (m 103) (m3 111) (m 117) (m 98) (m 101) (m 108) from by first | (exact HA_lq r_HA (fun z => ⟨(p4_m3 z).1, (p4_m3 z).2.1⟩)) | (exfalso; omega; done) | (exfalso; contradiction; done)) (show zRG (m 94 10) (m 94 18) (m 94 64) (m 94 63) (m3 99) (m 103) (m 102) (m 116) from by first | (exact RG_lq r_RGc (fun z => (p4_m3 z).1)) | (exfalso; omega; done) | (exfalso; contradiction; done)) (show (m 94 58).toInt = 0 ∨ (m 94 10).toInt = 5 from by omega) p5_m3
  · skip
    have g13 := i_nlt h7
    have li14 : (4 : Int32).toInt = 4 := rfl
    refine zd (fun (h15 : (m 94 10) = (4 : Int32)) => ?_) (fun (h15 : ¬ (m 94 10) = (4 : Int32)) => ?_)
    · skip
      have g16 := i_eq h15
      have hg17 : (0 ≤ s ∧ s.toNatClampNeg < 3100) := i_ix (by omega) (by omega)
      refine ⟨hg17, ?_⟩
      have hg18 : (0 ≤ s ∧ s.toNatClampNeg < 3100) := i_ix (by omega) (by omega)
      refine ⟨hg18, ?_⟩
      have hg19 : (0 ≤ r1 ∧ r1.toNatClampNeg < 16) := i_ix (by omega) (by omega)
      refine ⟨hg19, ?_⟩
      first | have f20 : -1 ≤ (m 112 r1.toNatClampNeg).toInt ∧ (m 112 r1.toNatClampNeg).toInt ≤ 3099 := ra_112 (m := m) hV (k := r1.toNatClampNeg) (i_ix (n := 16) (by omega) (by omega)).2 | have b21 := i_bd (m 112 r1.toNatClampNeg)
      have hV22 : zV (ma_u m 105 s.toNatClampNeg ((m 105 s.toNatClampNeg) + (1 : Int32))) := ua_105 hV
      have hV23 : zV (ma_u (ma_u m 105 s.toNatClampNeg ((m 105 s.toNatClampNeg) + (1 : Int32))) 112 r1.toNatClampNeg s) := ua_112 hV22 (by omega) (by omega)
      refine sp_240 ((m 112 r1.toNatClampNeg)) (s) hV23 (by omega) (by omega) r_GG (show (m 94 58).toInt = 0 ∨ (m 94 10).toInt = 5 from by omega) (fun m9 hV_m9 p0_m9 => zmv_n ?_)
      have p0_m9 : zGG (m 94 58) (m9 94 56) (m 94 57) (m9 106) := p0_m9
      refine sp_241uw ((m 112 r1.toNatClampNeg)) hV_m9 (by omega) r_W r_GW r_GU r_OW (show zDX (m 94 10) (m 99) ((ma_u m 112 r1.toNatClampNeg s) 112) (m 113) (m 114) (m 94 55) (m 98) (m 101) (m 102) (m 108) from by first | (exact DX_root r_DX r_SU) | (exfalso; omega; done) | (exfalso; contradiction; done)) (fun m11 hV_m11 p0_m11 p1_m11 p2_m11 p3_m11 p4_m11 p5_m11 => zmv_n ?_)
      have p0_m11 : zGW T (m11 94 55) (m11 109) := p0_m11
      have p1_m11 : zGU T (m 94 46) (m11 99) := p1_m11
      have p2_m11 : zOw (m11 99) (m 103) (m11 111) := p2_m11
      have p3_m11 : zDX (m 94 10) (m11 99) ((ma_u m 112 r1.toNatClampNeg s) 112) (m11 113) (m11 114) (m11 94 55) (m 98) (m 101) (m 102) (m 108) := p3_m11
      have p4_m11 : (m 94 10).toInt ≠ 4 → ((m11 99) = (m 99) ∧ (m11 111) = (m 111) ∧ (m11 113) = (m 113) ∧ (m11 114) = (m 114) ∧ (m11 94 55) = (m 94 55) ∧ (m11 109) = (m 109)) := p4_m11
      have p5_m11 : zUs (m 99) (m11 99) := p5_m11
      exact K _ (zF_zov (zF_zov (zF_u (zF_u zF_rfl rfl) rfl) ws_240_238) ws_241_238) hV_m11 p0_m11 p1_m11 p2_m11 p3_m11 p0_m9 (show zHA (m 94 10) (m 94 11) (m 94 13) (m 94 14) (m 94 16) (m 94 61) (m 94 59) (m 94 60) (m11 99) (m 102) (m 103) (m11 111) (m 117) (m 98) (m 101) (m 108) from by first | (exact HA_lq r_HA (fun z => ⟨(p4_m11 z).1, (p4_m11 z).2.1⟩)) | (exfalso; omega; done) | (exfalso; contradiction; done)) (show zRG (m 94 10) (m 94 18) (m 94 64) (m 94 63) (m11 99) (m 103) (m 102) (m 116) from by first | (exact RG_lq r_RGc (fun z => (p4_m11 z).1)) | (exfalso; omega; done) | (exfalso; contradiction; done)) (show (m 94 58).toInt = 0 ∨ (m 94 10).toInt = 5 from by omega) p5_m11
    · skip
      have g24 := i_ne h15
      have hg25 : (0 ≤ r1 ∧ r1.toNatClampNeg < 16) := i_ix (by omega) (by omega)
      refine ⟨hg25, ?_⟩
      first | have f26 : -1 ≤ (m 112 r1.toNatClampNeg).toInt ∧ (m 112 r1.toNatClampNeg).toInt ≤ 3099 := ra_112 (m := m) hV (k := r1.toNatClampNeg) (i_ix (n := 16) (by omega) (by omega)).2 | have b27 := i_bd (m 112 r1.toNatClampNeg)
      have hV28 : zV (ma_u m 112 r1.toNatClampNeg s) := ua_112 hV (by omega) (by omega)
      refine sp_240 ((m 112 r1.toNatClampNeg)) (s) hV28 (by omega) (by omega) r_GG (show (m 94 58).toInt = 0 ∨ (m 94 10).toInt = 5 from by omega) (fun m5 hV_m5 p0_m5 => zmv_n ?_)
      have p0_m5 : zGG (m 94 58) (m5 94 56) (m 94 57) (m5 106) := p0_m5
      refine sp_241uw ((m 112 r1.toNatClampNeg)) hV_m5 (by omega) r_W r_GW r_GU r_OW (show zDX (m 94 10) (m 99) ((ma_u m 112 r1.toNatClampNeg s) 112) (m 113) (m 114) (m 94 55) (m 98) (m 101) (m 102) (m 108) from by first | (exact DX_root r_DX r_SU) | (exfalso; omega; done) | (exfalso; contradiction; done)) (fun m7 hV_m7 p0_m7 p1_m7 p2_m7 p3_m7 p4_m7 p5_m7 => zmv_n ?_)
      have p0_m7 : zGW T (m7 94 55) (m7 109) := p0_m7
      have p1_m7 : zGU T (m 94 46) (m7 99) := p1_m7
      have p2_m7 : zOw (m7 99) (m 103) (m7 111) := p2_m7
      have p3_m7 : zDX (m 94 10) (m7 99) ((ma_u m 112 r1.toNatClampNeg s) 112) (m7 113) (m7 114) (m7 94 55) (m 98) (m 101) (m 102) (m 108) := p3_m7
      have p4_m7 : (m 94 10).toInt ≠ 4 → ((m7 99) = (m 99) ∧ (m7 111) = (m 111) ∧ (m7 113) = (m 113) ∧ (m7 114) = (m 114) ∧ (m7 94 55) = (m 94 55) ∧ (m7 109) = (m 109)) := p4_m7
      have p5_m7 : zUs (m 99) (m7 99) := p5_m7
      exact K _ (zF_zov (zF_zov (zF_u zF_rfl rfl) ws_240_238) ws_241_238) hV_m7 p0_m7 p1_m7 p2_m7 p3_m7 p0_m5 (show zHA (m 94 10) (m 94 11) (m 94 13) (m 94 14) (m 94 16) (m 94 61) (m 94 59) (m 94 60) (m7 99) (m 102) (m 103) (m7 111) (m 117) (m 98) (m 101) (m 108) from by first | (exact HA_lq r_HA (fun z => ⟨(p4_m7 z).1, (p4_m7 z).2.1⟩)) | (exfalso; omega; done) | (exfalso; contradiction; done)) (show zRG (m 94 10) (m 94 18) (m 94 64) (m 94 63) (m7 99) (m 103) (m 102) (m 116) from by first | (exact RG_lq r_RGc (fun z => (p4_m7 z).1)) | (exfalso; omega; done) | (exfalso; contradiction; done)) (show (m 94 58).toInt = 0 ∨ (m 94 10).toInt = 5 from by omega) p5_m7
theorem sp_237uw {X : Nat × (Nat → Int32)} {P : Option ma_V → (Nat → Nat → Int32) → Prop} {T : Nat} {m : Nat → Nat → Int32} (n : Int32) (hV : zV m) (r_W : zW (m 94 7) (m 98) (m 101) (m 102) (m 108)) (r_GW : zGW T (m 94 55) (m 109)) (r_GU : zGU T (m 94 46) (m 99)) (r_OW : zOw (m 99) (m 103) (m 111)) (r_DX : zDX (m 94 10) (m 99) (m 112) (m 113) (m 114) (m 94 55) (m 98) (m 101) (m 102) (m 108)) (KZ : ∀ v m₉, zV (zov wr_237 m m₉) → (zGW T (m₉ 94 55) (m₉ 109)) → (zGU T (m 94 46) (m₉ 99)) → (zOw (m₉ 99) (m 103) (m₉ 111)) → (zDX (m 94 10) (m₉ 99) (m 112) (m₉ 113) (m₉ 114) (m₉ 94 55) (m 98) (m 101) (m 102) (m 108)) → (-1 ≤ v.toInt ∧ v.toInt ≤ 1500) → (zUs (m 99) (m₉ 99)) → P (some (.inl v)) (zov wr_237 m m₉)) : zm X 5 108 237 0 [(0, .inr (.inr (some 94))), (1, .inl n)] m P := by
  have K : ∀ v m₉, zF wr_237 m m₉ → zV m₉ → (zGW T (m₉ 94 55) (m₉ 109)) → (zGU T (m₉ 94 46) (m₉ 99)) → (zOw (m₉ 99) (m₉ 103) (m₉ 111)) → (zDX (m₉ 94 10) (m₉ 99) (m₉ 112) (m₉ 113) (m₉ 114) (m₉ 94 55) (m₉ 98) (m₉ 101) (m₉ 102) (m₉ 108)) → (-1 ≤ v.toInt ∧ v.toInt ≤ 1500) → (zUs (m 99) (m₉ 99)) → P (some (.inl v)) m₉ := by
    intro v m₉ hf z q0 q1 q2 q3 q4 q5
    have e := zov_eq hf
    rw [e] at z ⊢
    try rw [e] at q0
    try rw [e] at q1
    try rw [e] at q2
    try rw [e] at q3
    try rw [e] at q4
    try rw [e] at q5
    exact KZ v m₉ z q0 q1 q2 q3 q4 q5
  refine g_237_0 n ?_
  have b1 := i_bd n
  refine sp_224 (n) hV  (fun v2 m1 hV_m1 p0_m1 => zmi_n ?_)
  have p0_m1 : -1 ≤ v2.toInt ∧ v2.toInt ≤ 1500 := p0_m1
  have b2 := i_bd v2
  have li3 : (0 : Int32).toInt = 0 := rfl
  refine zd (fun (h4 : v2 < (0 : Int32)) => ?_) (fun (h4 : ¬ v2 < (0 : Int32)) => ?_)
  · skip
    have g5 := i_lt h4
    refine sp_187uw  hV_m1 r_W r_GW r_GU r_OW r_DX (fun v4 m3 hV_m3 p0_m3 p1_m3 p2_m3 p3_m3 p4_m3 p5_m3 => zmi_n ?_)
    have p0_m3 : zGW T (m3 94 55) (m3 109) := p0_m3
    have p1_m3 : zGU T (m 94 46) (m3 99) := p1_m3
    have p2_m3 : zOw (m3 99) (m 103) (m3 111) := p2_m3
    have p3_m3 : zDX (m 94 10) (m3 99) (m 112) (m3 113) (m3 114) (m3 94 55) (m 98) (m 101) (m 102) (m 108) := p3_m3
    have p4_m3 : zsw (m 99) (m3 99) (m 111) (m3 111) (m 103) := p4_m3
    have p5_m3 : zUs (m 99) (m3 99) := p5_m3
    refine sp_224 (n) hV_m3  (fun v6 m5 hV_m5 p0_m5 => zmi_n ?_)
    have p0_m5 : -1 ≤ v6.toInt ∧ v6.toInt ≤ 1500 := p0_m5
    have b6 := i_bd v6
    exact K (v6) _ (zF_zov (zF_zov (zF_zov zF_rfl ws_224_237) ws_187_237) ws_224_237) hV_m5 p0_m3 p1_m3 p2_m3 p3_m3 (show -1 ≤ v6.toInt ∧ v6.toInt ≤ 1500 from by omega) p5_m3
  · skip
    have g7 := i_nlt h4
    exact K (v2) _ (zF_zov zF_rfl ws_224_237) hV_m1 r_GW r_GU r_OW r_DX (show -1 ≤ v2.toInt ∧ v2.toInt ≤ 1500 from by omega) (show zUs (m 99) (m 99) from by first | (exact Us_rfl) | (exact Us_w0 Us_rfl) | (exact Us_rfl) | (exfalso; omega; done) | (exfalso; contradiction; done))

