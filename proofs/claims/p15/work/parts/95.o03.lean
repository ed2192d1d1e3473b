/-! the reference under COUNTS (written by wip/tools/gen20s.py) -/
set_option maxHeartbeats 8000000 in
theorem lp_241r4_23 {X : Nat × (Nat → Int32)} {P : Option ma_V → (Nat → Nat → Int32) → Prop} {T : Nat} {aa : Nat→Nat→Int32} {x : Int32} {B : Int} {s : Int32} {m0 : Nat → Nat → Int32} (h0 : zV m0) (K : ∀ m', zF wr_241 m0 m' → zV m' → (zGW T (m' 94 55) (m' 109)) → (zGU T (m' 94 46) (m' 99)) → (zOw (m' 99) (m' 103) (m' 111)) → ((m' 94 45).toInt = sm (zbU (m' 99)) (m' 102) 3100) → (qRB (m' 99) (m' 100) (m' 98) (m' 101) (m' 102) (m' 103) (m' 107) (m' 108) (m' 109) (m' 111) (m' 112) (m' 113) (m' 114) (m' 94 55) (m' 94 46) (m' 94 11) (m' 94 12) (m' 94 62) (m' 94 17) (m' 94 9) (cLe aa (qNo (m0 100) s))) → (qI (cLe aa (qNo (m0 100) s))) → ((cLe aa (qNo (m0 100) s)) 87 8 = (m' 94 58)) → (cV (cLe aa (qNo (m0 100) s)) [] B) → (qCt (m' 105) (m' 99) (m' 100) (cLe aa (qNo (m0 100) s)) [] x (-1)) → (qXr (cLe aa (qNo (m0 100) s)) x) → P none m') : ∀ (n : Nat) (m : Nat → Nat → Int32) , ((zlm (m 99) (m 121) (m 94 80) : Int)).toNat = n → zF wr_241 m0 m → zV m → (B ≤ 1000000) → (T ≤ 512) → (zW (m 94 7) (m 98) (m 101) (m 102) (m 108)) → (zGW T (m 94 55) (m 109)) → (zGU T (m 94 46) (m 99)) → (zOw (m 99) (m 103) (m 111)) → ((m 94 10).toInt = 4 ∧ (m 94 58).toInt = 0) → (zgo (m 94 80) (m 99)) → (zgw (m 121) (m 120) (m 102) (m 94 80)) → ((m 94 45).toInt = sm (zbU (m 99)) (m 102) 3100) → (qLL (m 99) (m 100) (m 98) (m 101) (m 102) (m 103) (m 107) (m 108) (m 109) (m 111) (m 112) (m 113) (m 114) (m 94 55) (m 94 46) (m 94 11) (m 94 12) (m 94 62) (m 94 17) (m 94 9) (m 105) (m 120) (m 121) (m 94 80) B x (m 94 58) (cLe aa (qNo (m0 100) s))) → zm X 3 64 241 23 [(0, .inr (.inr (some 94)))] m P := by
  intro n
  induction n using Nat.strongRecOn with
  | _ n IH =>
    intro m  hmu hF hV hi0 hi1 r_W r_GW r_GU r_OW hi6 r_GO r_GWD r_WTS r_LL
    refine g_241_23  ?_
    have f1 : 0 ≤ (m 94 10).toInt ∧ (m 94 10).toInt ≤ 6 := rs_94_10 (m := m) hV
    have f2 : 0 ≤ (m 94 58).toInt ∧ (m 94 58).toInt ≤ 1 := rs_94_58 (m := m) hV
    obtain ⟨p, fl, ce⟩ := r_LL
    have f3 : 0 ≤ (m 94 80).toInt ∧ (m 94 80).toInt ≤ 3100 := rs_94_80 (m := m) hV
    have li4 : (0 : Int32).toInt = 0 := rfl
    refine zd (fun (h5 : (m 94 80) ≤ (0 : Int32)) => ?_) (fun (h5 : ¬ (m 94 80) ≤ (0 : Int32)) => ?_)
    · skip
      have g6 := i_le h5
      exact K _ hF hV r_GW r_GU r_OW r_WTS (show qRB (m 99) (m 100) (m 98) (m 101) (m 102) (m 103) (m 107) (m 108) (m 109) (m 111) (m 112) (m 113) (m 114) (m 94 55) (m 94 46) (m 94 11) (m 94 12) (m 94 62) (m 94 17) (m 94 9) (cLe aa (qNo (m0 100) s)) from by first | (exact (LL_e ⟨p, fl, ce⟩ (by omega)).1) | (exfalso; omega; done) | (exfalso; contradiction; done)) (show qI (cLe aa (qNo (m0 100) s)) from by first | (exact (LL_e ⟨p, fl, ce⟩ (by omega)).2.1) | (exfalso; omega; done) | (exfalso; contradiction; done)) (show (cLe aa (qNo (m0 100) s)) 87 8 = (m 94 58) from by first | (exact (LL_e ⟨p, fl, ce⟩ (by omega)).2.2.2.2.2) | (exfalso; omega; done) | (exfalso; contradiction; done)) (show cV (cLe aa (qNo (m0 100) s)) [] B from by first | (exact (LL_e ⟨p, fl, ce⟩ (by omega)).2.2.1) | (exfalso; omega; done) | (exfalso; contradiction; done)) (show qCt (m 105) (m 99) (m 100) (cLe aa (qNo (m0 100) s)) [] x (-1) from by first | (exact (LL_e ⟨p, fl, ce⟩ (by omega)).2.2.2.1) | (exfalso; omega; done) | (exfalso; contradiction; done)) (show qXr (cLe aa (qNo (m0 100) s)) x from by first | (exact (LL_e ⟨p, fl, ce⟩ (by omega)).2.2.2.2.1) | (exfalso; omega; done) | (exfalso; contradiction; done))
    · skip
      have g7 := i_nle h5
      first | have e8 : ((m 94 80) - (1 : Int32)).toInt = (m 94 80).toInt - (1) := i_subk rfl (by omega) (by omega) | have b9 := i_bd ((m 94 80) - (1 : Int32))
      have hg10 : (0 ≤ ((m 94 80) - (1 : Int32)) ∧ ((m 94 80) - (1 : Int32)).toNatClampNeg < 3100) := i_ix (by omega) (by omega)
      refine ⟨hg10, ?_⟩
      have hg11 : (0 ≤ ((m 94 80) - (1 : Int32)) ∧ ((m 94 80) - (1 : Int32)).toNatClampNeg < 3100) := i_ix (by omega) (by omega)
      refine ⟨hg11, ?_⟩
      first | have f12 : 0 ≤ (m 120 ((m 94 80) - (1 : Int32)).toNatClampNeg).toInt ∧ (m 120 ((m 94 80) - (1 : Int32)).toNatClampNeg).toInt ≤ 3099 := ra_120 (m := m) hV (k := ((m 94 80) - (1 : Int32)).toNatClampNeg) (i_ix (n := 3100) (by omega) (by omega)).2 | have b13 := i_bd (m 120 ((m 94 80) - (1 : Int32)).toNatClampNeg)
      try have gwd := r_GWD ((m 94 80) - (1 : Int32)).toNatClampNeg (by rw [tn_cast (by omega)]; omega)
      have hg14 : (0 ≤ (m 120 ((m 94 80) - (1 : Int32)).toNatClampNeg) ∧ (m 120 ((m 94 80) - (1 : Int32)).toNatClampNeg).toNatClampNeg < 3100) := i_ix (by omega) (by omega)
      refine ⟨hg14, ?_⟩
      first | have f15 : 0 ≤ (m 121 ((m 94 80) - (1 : Int32)).toNatClampNeg).toInt ∧ (m 121 ((m 94 80) - (1 : Int32)).toNatClampNeg).toInt ≤ 60 := ra_121 (m := m) hV (k := ((m 94 80) - (1 : Int32)).toNatClampNeg) (i_ix (n := 3100) (by omega) (by omega)).2 | have b16 := i_bd (m 121 ((m 94 80) - (1 : Int32)).toNatClampNeg)
      first | have f17 : 0 ≤ (m 102 (m 120 ((m 94 80) - (1 : Int32)).toNatClampNeg).toNatClampNeg).toInt ∧ (m 102 (m 120 ((m 94 80) - (1 : Int32)).toNatClampNeg).toNatClampNeg).toInt ≤ 60 := ra_102 (m := m) hV (k := (m 120 ((m 94 80) - (1 : Int32)).toNatClampNeg).toNatClampNeg) (i_ix (n := 3100) (by omega) (by omega)).2 | have b18 := i_bd (m 102 (m 120 ((m 94 80) - (1 : Int32)).toNatClampNeg).toNatClampNeg)
      refine zd (fun (h19 : (m 121 ((m 94 80) - (1 : Int32)).toNatClampNeg) = (m 102 (m 120 ((m 94 80) - (1 : Int32)).toNatClampNeg).toNatClampNeg)) => ?_) (fun (h19 : ¬ (m 121 ((m 94 80) - (1 : Int32)).toNatClampNeg) = (m 102 (m 120 ((m 94 80) - (1 : Int32)).toNatClampNeg).toNatClampNeg)) => ?_)
      · skip
        have g20 := i_eq h19
        have hV21 : zV (ma_u m 94 80 ((m 94 80) - (1 : Int32))) := us_94_80 hV (by omega) (by omega)
        exact IH ((zlm (m 99) (m 121) ((m 94 80) - (1 : Int32)) : Int)).toNat (by first | (have zq := lm_pop (us := m 99) (gw := m 121) (gm := m 94 80) (gm' := (m 94 80) - (1 : Int32)) (by omega) (by omega) (fun j hj => ra_121 hV (by omega)); omega) | (have zq := lm_adv (us := m 99) (m := m) (c := 121) (k := ((m 94 80) - (1 : Int32)).toNatClampNeg) (x := (m 121 ((m 94 80) - (1 : Int32)).toNatClampNeg) + (1 : Int32)) (gm := m 94 80) (by omega) (by rw [tn_cast (by omega)]; omega) (by omega) (by omega); have zm := {ML}; omega) | (have zq := lm_adv (us := m 99) (m := m) (c := 121) (k := ((m 94 80) - (1 : Int32)).toNatClampNeg) (x := (m 121 ((m 94 80) - (1 : Int32)).toNatClampNeg) + (1 : Int32)) (gm := m 94 80) (by omega) (by rw [tn_cast (by omega)]; omega) (by omega) (by omega); omega)) _  rfl (zF_u hF rfl) hV21 (by omega) (by omega) r_W r_GW r_GU r_OW (show (m 94 10).toInt = 4 ∧ (m 94 58).toInt = 0 from by omega) (show zgo ((m 94 80) - (1 : Int32)) (m 99) from by first | (exact go_0 (by decide)) | (exact go_pop r_GO (by omega)) | (exfalso; omega; done) | (exfalso; contradiction; done)) (show zgw (m 121) (m 120) (m 102) ((m 94 80) - (1 : Int32)) from by first | (exact gw_0 (by decide)) | (exact gw_pop r_GWD (by omega)) | (exfalso; omega; done) | (exfalso; contradiction; done)) r_WTS (show qLL (m 99) (m 100) (m 98) (m 101) (m 102) (m 103) (m 107) (m 108) (m 109) (m 111) (m 112) (m 113) (m 114) (m 94 55) (m 94 46) (m 94 11) (m 94 12) (m 94 62) (m 94 17) (m 94 9) (m 105) (m 120) (m 121) ((m 94 80) - (1 : Int32)) B x (m 94 58) (cLe aa (qNo (m0 100) s)) from by first | (exact LL_p fl (k := ((m 94 80) - (1 : Int32)).toNatClampNeg) (by omega) (by rw [tn_eq]; omega) (by omega) (by omega) ce) | (exfalso; omega; done) | (exfalso; contradiction; done))
      · skip
        have g22 := i_ne h19
        have hg23 : (0 ≤ ((m 94 80) - (1 : Int32)) ∧ ((m 94 80) - (1 : Int32)).toNatClampNeg < 3100) := i_ix (by omega) (by omega)
        refine ⟨hg23, ?_⟩
        have hg24 : (0 ≤ ((m 94 80) - (1 : Int32)) ∧ ((m 94 80) - (1 : Int32)).toNatClampNeg < 3100) := i_ix (by omega) (by omega)
        refine ⟨hg24, ?_⟩
        first | have e26 : ((m 121 ((m 94 80) - (1 : Int32)).toNatClampNeg) + (1 : Int32)).toInt = (m 121 ((m 94 80) - (1 : Int32)).toNatClampNeg).toInt + (1) := i_addk rfl (by omega) (by omega) | have b27 := i_bd ((m 121 ((m 94 80) - (1 : Int32)).toNatClampNeg) + (1 : Int32))
        have hV25 : zV (ma_u m 121 ((m 94 80) - (1 : Int32)).toNatClampNeg ((m 121 ((m 94 80) - (1 : Int32)).toNatClampNeg) + (1 : Int32))) := ua_121 hV (by omega) (by omega)
        refine sp_192 ((m 120 ((m 94 80) - (1 : Int32)).toNatClampNeg)) ((m 121 ((m 94 80) - (1 : Int32)).toNatClampNeg)) hV25 (by omega) (by omega) (by omega) (show (m 121 ((m 94 80) - (1 : Int32)).toNatClampNeg).toInt < (m 102 (m 120 ((m 94 80) - (1 : Int32)).toNatClampNeg).toNatClampNeg).toInt from by omega) (fun v2 m1 hV_m1 p0_m1 => zmi_n ?_)
        have p0_m1 : v2 = zrf (m 98) (m 101) (m 108) (m 120 ((m 94 80) - (1 : Int32)).toNatClampNeg).toNatClampNeg (m 121 ((m 94 80) - (1 : Int32)).toNatClampNeg).toNatClampNeg := p0_m1
        try have := W_ref r_W (by omega) (by omega) (by omega) (by omega) p0_m1
        have b28 := i_bd v2
        refine zd (fun (h29 : v2 < (0 : Int32)) => ?_) (fun (h29 : ¬ v2 < (0 : Int32)) => ?_)
        · skip
          have g30 := i_lt h29
          exact IH ((zlm (m 99) ((ma_u m 121 ((m 94 80) - (1 : Int32)).toNatClampNeg ((m 121 ((m 94 80) - (1 : Int32)).toNatClampNeg) + (1 : Int32))) 121) (m 94 80) : Int)).toNat (by first | (have zq := lm_pop (us := m 99) (gw := m 121) (gm := m 94 80) (gm' := (m 94 80) - (1 : Int32)) (by omega) (by omega) (fun j hj => ra_121 hV (by omega)); omega) | (have zq := lm_adv (us := m 99) (m := m) (c := 121) (k := ((m 94 80) - (1 : Int32)).toNatClampNeg) (x := (m 121 ((m 94 80) - (1 : Int32)).toNatClampNeg) + (1 : Int32)) (gm := m 94 80) (by omega) (by rw [tn_cast (by omega)]; omega) (by omega) (by omega); have zm := {ML}; omega) | (have zq := lm_adv (us := m 99) (m := m) (c := 121) (k := ((m 94 80) - (1 : Int32)).toNatClampNeg) (x := (m 121 ((m 94 80) - (1 : Int32)).toNatClampNeg) + (1 : Int32)) (gm := m 94 80) (by omega) (by rw [tn_cast (by omega)]; omega) (by omega) (by omega); omega)) _  rfl (zF_zov (zF_u hF rfl) ws_192_241) hV_m1 (by omega) (by omega) r_W r_GW r_GU r_OW (show (m 94 10).toInt = 4 ∧ (m 94 58).toInt = 0 from by omega) r_GO (show zgw ((ma_u m 121 ((m 94 80) - (1 : Int32)).toNatClampNeg ((m 121 ((m 94 80) - (1 : Int32)).toNatClampNeg) + (1 : Int32))) 121) (m 120) (m 102) (m 94 80) from by first | (exact gw_adv r_GWD (by omega)) | (exfalso; omega; done) | (exfalso; contradiction; done)) r_WTS (show qLL (m 99) (m 100) (m 98) (m 101) (m 102) (m 103) (m 107) (m 108) (m 109) (m 111) (m 112) (m 113) (m 114) (m 94 55) (m 94 46) (m 94 11) (m 94 12) (m 94 62) (m 94 17) (m 94 9) (m 105) (m 120) ((ma_u m 121 ((m 94 80) - (1 : Int32)).toNatClampNeg ((m 121 ((m 94 80) - (1 : Int32)).toNatClampNeg) + (1 : Int32))) 121) (m 94 80) B x (m 94 58) (cLe aa (qNo (m0 100) s)) from by first | (have la := LA fl (k := ((m 94 80) - (1 : Int32)).toNatClampNeg) (r := v2) (by omega) (by rw [tn_eq]; omega) (by omega) mu_up (by omega) p0_m1; exact LL_n fl la (by omega) ce; done) | (exfalso; omega; done) | (exfalso; contradiction; done))
        · skip
          have g31 := i_nlt h29
          refine sp_242r4 (aa := p.1) (st := (qT p.2)) (v2) hV_m1 (by omega) (by omega) (by omega) (by omega) (show (m 94 10).toInt = 4 ∧ (m 94 58).toInt = 0 from by omega) r_GW r_GU r_OW r_GO (show zgw ((ma_u m 121 ((m 94 80) - (1 : Int32)).toNatClampNeg ((m 121 ((m 94 80) - (1 : Int32)).toNatClampNeg) + (1 : Int32))) 121) (m 120) (m 102) (m 94 80) from by first | (exact gw_adv r_GWD (by omega)) | (exfalso; omega; done) | (exfalso; contradiction; done)) (show (m 99) v2.toNatClampNeg ≠ 0 from by first | (have la := LA fl (k := ((m 94 80) - (1 : Int32)).toNatClampNeg) (r := v2) (by omega) (by rw [tn_eq]; omega) (by omega) mu_up (by omega) p0_m1; exact (U_y la.2.1 (by omega)).2; done) | (assumption; done) | (exact ws3) | (exfalso; omega; done) | (exfalso; contradiction; done)) (show qRB (m 99) (m 100) (m 98) (m 101) (m 102) (m 103) (m 107) (m 108) (m 109) (m 111) (m 112) (m 113) (m 114) (m 94 55) (m 94 46) (m 94 11) (m 94 12) (m 94 62) (m 94 17) (m 94 9) p.1 from by first | (have la := LA fl (k := ((m 94 80) - (1 : Int32)).toNatClampNeg) (r := v2) (by omega) (by rw [tn_eq]; omega) (by omega) mu_up (by omega) p0_m1; exact fl.1; done) | (exfalso; omega; done) | (exfalso; contradiction; done)) (show qI p.1 from by first | (have la := LA fl (k := ((m 94 80) - (1 : Int32)).toNatClampNeg) (r := v2) (by omega) (by rw [tn_eq]; omega) (by omega) mu_up (by omega) p0_m1; exact fl.2.1; done) | (exfalso; omega; done) | (exfalso; contradiction; done)) (show p.1 87 8 = (m 94 58) from by first | (have la := LA fl (k := ((m 94 80) - (1 : Int32)).toNatClampNeg) (r := v2) (by omega) (by rw [tn_eq]; omega) (by omega) mu_up (by omega) p0_m1; exact fl.2.2.2.2.2.2; done) | (exfalso; omega; done) | (exfalso; contradiction; done)) r_WTS (show cV p.1 (qT p.2) B from by first | (have la := LA fl (k := ((m 94 80) - (1 : Int32)).toNatClampNeg) (r := v2) (by omega) (by rw [tn_eq]; omega) (by omega) mu_up (by omega) p0_m1; exact la.2.2.1; done) | (exfalso; omega; done) | (exfalso; contradiction; done)) (show qCt (m 105) (m 99) (m 100) p.1 (qT p.2) x ((m 100) v2.toNatClampNeg) from by first | (have la := LA fl (k := ((m 94 80) - (1 : Int32)).toNatClampNeg) (r := v2) (by omega) (by rw [tn_eq]; omega) (by omega) mu_up (by omega) p0_m1; have q := la.2.2.2.1; rw [No_y (by omega)] at q; exact q; done) | (exfalso; omega; done) | (exfalso; contradiction; done)) (show qGo (m 99) (m 100) (m 98) (m 101) (m 102) (m 108) (m 120) ((ma_u m 121 ((m 94 80) - (1 : Int32)).toNatClampNeg ((m 121 ((m 94 80) - (1 : Int32)).toNatClampNeg) + (1 : Int32))) 121) (m 94 80) (qT p.2) from by first | (have la := LA fl (k := ((m 94 80) - (1 : Int32)).toNatClampNeg) (r := v2) (by omega) (by rw [tn_eq]; omega) (by omega) mu_up (by omega) p0_m1; exact la.1; done) | (exfalso; omega; done) | (exfalso; contradiction; done)) (show qXr p.1 x from by first | (have la := LA fl (k := ((m 94 80) - (1 : Int32)).toNatClampNeg) (r := v2) (by omega) (by rw [tn_eq]; omega) (by omega) mu_up (by omega) p0_m1; exact fl.2.2.2.2.2.1; done) | (exfalso; omega; done) | (exfalso; contradiction; done)) (fun m3 hV_m3 p0_m3 p1_m3 p2_m3 p3_m3 p4_m3 p5_m3 p6_m3 p7_m3 => zmv_n ?_)
          have p0_m3 : zGW T (m3 94 55) (m3 109) := p0_m3
          have p1_m3 : zGU T (m 94 46) (m3 99) := p1_m3
          have p2_m3 : zOw (m3 99) (m 103) (m3 111) := p2_m3
          have p3_m3 : zgo (m3 94 80) (m3 99) := p3_m3
          have p4_m3 : zgw (m3 121) (m3 120) (m 102) (m3 94 80) := p4_m3
          have p5_m3 : zlm (m3 99) (m3 121) (m3 94 80) ≤ zlm (m 99) ((ma_u m 121 ((m 94 80) - (1 : Int32)).toNatClampNeg ((m 121 ((m 94 80) - (1 : Int32)).toNatClampNeg) + (1 : Int32))) 121) (m 94 80) := p5_m3
          have p6_m3 : (m3 94 45).toInt = sm (zbU (m3 99)) (m 102) 3100 := p6_m3
          have p7_m3 : qFl (m3 99) (m 100) (m 98) (m 101) (m 102) (m 103) (m 107) (m 108) (m3 109) (m3 111) (m 112) (m3 113) (m3 114) (m3 94 55) (m 94 46) (m 94 11) (m 94 12) (m 94 62) (m 94 17) (m 94 9) (m3 105) (m3 120) (m3 121) (m3 94 80) B x (m 94 58) (cFa p.1 (qT p.2) ((m 100) v2.toNatClampNeg)) := p7_m3
          exact IH ((zlm (m3 99) (m3 121) (m3 94 80) : Int)).toNat (by first | (have zq := lm_pop (us := m 99) (gw := m 121) (gm := m 94 80) (gm' := (m 94 80) - (1 : Int32)) (by omega) (by omega) (fun j hj => ra_121 hV (by omega)); omega) | (have zq := lm_adv (us := m 99) (m := m) (c := 121) (k := ((m 94 80) - (1 : Int32)).toNatClampNeg) (x := (m 121 ((m 94 80) - (1 : Int32)).toNatClampNeg) + (1 : Int32)) (gm := m 94 80) (by omega) (by rw [tn_cast (by omega)]; omega) (by omega) (by omega); have zm := p5_m3; omega) | (have zq := lm_adv (us := m 99) (m := m) (c := 121) (k := ((m 94 80) - (1 : Int32)).toNatClampNeg) (x := (m 121 ((m 94 80) - (1 : Int32)).toNatClampNeg) + (1 : Int32)) (gm := m 94 80) (by omega) (by rw [tn_cast (by omega)]; omega) (by omega) (by omega); omega)) _  rfl (zF_zov (zF_zov (zF_u hF rfl) ws_192_241) ws_242_241) hV_m3 (by omega) (by omega) r_W p0_m3 p1_m3 p2_m3 (show (m 94 10).toInt = 4 ∧ (m 94 58).toInt = 0 from by omega) p3_m3 p4_m3 p6_m3 (show qLL (m3 99) (m 100) (m 98) (m 101) (m 102) (m 103) (m 107) (m 108) (m3 109) (m3 111) (m 112) (m3 113) (m3 114) (m3 94 55) (m 94 46) (m 94 11) (m 94 12) (m 94 62) (m 94 17) (m 94 9) (m3 105) (m3 120) (m3 121) (m3 94 80) B x (m 94 58) (cLe aa (qNo (m0 100) s)) from by first | (have la := LA fl (k := ((m 94 80) - (1 : Int32)).toNatClampNeg) (r := v2) (by omega) (by rw [tn_eq]; omega) (by omega) mu_up (by omega) p0_m1; exact LL_s p7_m3 (la.2.2.2.2.1 (by omega)) ce; done) | (exfalso; omega; done) | (exfalso; contradiction; done))
set_option maxHeartbeats 8000000 in
theorem sp_241r4 {X : Nat × (Nat → Int32)} {P : Option ma_V → (Nat → Nat → Int32) → Prop} {T : Nat} {aa : Nat→Nat→Int32} {x : Int32} {B : Int} {m : Nat → Nat → Int32} (s : Int32) (hV : zV m) (hpre0 : -1 ≤ s.toInt) (hpre1 : s.toInt ≤ 3099) (hpre2 : B ≤ 1000000) (hpre3 : T ≤ 512) (hpre4 : (m 94 10).toInt = 4 ∧ (m 94 58).toInt = 0) (r_W : zW (m 94 7) (m 98) (m 101) (m 102) (m 108)) (r_GW : zGW T (m 94 55) (m 109)) (r_GU : zGU T (m 94 46) (m 99)) (r_OW : zOw (m 99) (m 103) (m 111)) (r_RB : qRB (m 99) (m 100) (m 98) (m 101) (m 102) (m 103) (m 107) (m 108) (m 109) (m 111) (m 112) (m 113) (m 114) (m 94 55) (m 94 46) (m 94 11) (m 94 12) (m 94 62) (m 94 17) (m 94 9) aa) (r_QI : qI aa) (r_MK : aa 87 8 = (m 94 58)) (r_WTS : (m 94 45).toInt = sm (zbU (m 99)) (m 102) 3100) (r_VV : cV aa [] B) (r_CT : qCt (m 105) (m 99) (m 100) aa [] x (qNo (m 100) s)) (r_US : qU (m 99) s) (r_XR : qXr aa x) (KZ : ∀ m', zV (zov wr_241 m m') → (zGW T (m' 94 55) (m' 109)) → (zGU T (m 94 46) (m' 99)) → (zOw (m' 99) (m 103) (m' 111)) → ((m' 94 45).toInt = sm (zbU (m' 99)) (m 102) 3100) → (qRB (m' 99) (m 100) (m 98) (m 101) (m 102) (m 103) (m 107) (m 108) (m' 109) (m' 111) (m 112) (m' 113) (m' 114) (m' 94 55) (m 94 46) (m 94 11) (m 94 12) (m 94 62) (m 94 17) (m 94 9) (cLe aa (qNo (m 100) s))) → (qI (cLe aa (qNo (m 100) s))) → ((cLe aa (qNo (m 100) s)) 87 8 = (m 94 58)) → (cV (cLe aa (qNo (m 100) s)) [] B) → (qCt (m' 105) (m' 99) (m 100) (cLe aa (qNo (m 100) s)) [] x (-1)) → (qXr (cLe aa (qNo (m 100) s)) x) → P none (zov wr_241 m m')) : zm X 3 64 241 0 [(0, .inr (.inr (some 94))), (1, .inl s)] m P := by
  have K : ∀ m', zF wr_241 m m' → zV m' → (zGW T (m' 94 55) (m' 109)) → (zGU T (m' 94 46) (m' 99)) → (zOw (m' 99) (m' 103) (m' 111)) → ((m' 94 45).toInt = sm (zbU (m' 99)) (m' 102) 3100) → (qRB (m' 99) (m' 100) (m' 98) (m' 101) (m' 102) (m' 103) (m' 107) (m' 108) (m' 109) (m' 111) (m' 112) (m' 113) (m' 114) (m' 94 55) (m' 94 46) (m' 94 11) (m' 94 12) (m' 94 62) (m' 94 17) (m' 94 9) (cLe aa (qNo (m 100) s))) → (qI (cLe aa (qNo (m 100) s))) → ((cLe aa (qNo (m 100) s)) 87 8 = (m' 94 58)) → (cV (cLe aa (qNo (m 100) s)) [] B) → (qCt (m' 105) (m' 99) (m' 100) (cLe aa (qNo (m 100) s)) [] x (-1)) → (qXr (cLe aa (qNo (m 100) s)) x) → P none m' := by
    intro m' hf z q0 q1 q2 q3 q4 q5 q6 q7 q8 q9
    have e := zov_eq hf
    rw [e] at z ⊢
    try rw [e] at q0
    try rw [e] at q1
    try rw [e] at q2
    try rw [e] at q3
    try rw [e] at q4
    try rw [e] at q5
    try rw [e] at q6
    try rw [e] at q7
    try rw [e] at q8
    try rw [e] at q9
    exact KZ m' z q0 q1 q2 q3 q4 q5 q6 q7 q8 q9
  refine g_241_0 s ?_
  have f1 : 0 ≤ (m 94 10).toInt ∧ (m 94 10).toInt ≤ 6 := rs_94_10 (m := m) hV
  have f2 : 0 ≤ (m 94 58).toInt ∧ (m 94 58).toInt ≤ 1 := rs_94_58 (m := m) hV
  have b3 := i_bd s
  have li4 : (0 : Int32).toInt = 0 := rfl
  refine zd (fun (h5 : s < (0 : Int32)) => ?_) (fun (h5 : ¬ s < (0 : Int32)) => ?_)
  · skip
    have g6 := i_lt h5
    exact K _ zF_rfl hV r_GW r_GU r_OW r_WTS (show qRB (m 99) (m 100) (m 98) (m 101) (m 102) (m 103) (m 107) (m 108) (m 109) (m 111) (m 112) (m 113) (m 114) (m 94 55) (m 94 46) (m 94 11) (m 94 12) (m 94 62) (m 94 17) (m 94 9) (cLe aa (qNo (m 100) s)) from by first | (rw [No_n (by omega), Le_m1]; exact r_RB; done) | (exfalso; omega; done) | (exfalso; contradiction; done)) (show qI (cLe aa (qNo (m 100) s)) from by first | (rw [No_n (by omega), Le_m1]; exact r_QI; done) | (exfalso; omega; done) | (exfalso; contradiction; done)) (show (cLe aa (qNo (m 100) s)) 87 8 = (m 94 58) from by first | (rw [No_n (by omega), Le_m1]; exact r_MK; done) | (exfalso; omega; done) | (exfalso; contradiction; done)) (show cV (cLe aa (qNo (m 100) s)) [] B from by first | (rw [No_n (by omega), Le_m1]; exact r_VV; done) | (exfalso; omega; done) | (exfalso; contradiction; done)) (show qCt (m 105) (m 99) (m 100) (cLe aa (qNo (m 100) s)) [] x (-1) from by first | (have q := r_CT; rw [No_n (by omega)] at q; rw [No_n (by omega), Le_m1]; exact q; done) | (exfalso; omega; done) | (exfalso; contradiction; done)) (show qXr (cLe aa (qNo (m 100) s)) x from by first | (rw [No_n (by omega), Le_m1]; exact r_XR; done) | (exfalso; omega; done) | (exfalso; contradiction; done))
  · skip
    have g7 := i_nlt h5
    have li8 : (4 : Int32).toInt = 4 := rfl
    refine zd (fun (h9 : (m 94 10) = (4 : Int32)) => ?_) (fun (h9 : ¬ (m 94 10) = (4 : Int32)) => ?_)
    · skip
      have g10 := i_eq h9
      have hV11 : zV (ma_u m 94 80 (0 : Int32)) := us_94_80 hV (by omega) (by omega)
      refine sp_242r4 (aa := aa) (st := []) (s) hV11 (by omega) (by omega) (by omega) (by omega) (show (m 94 10).toInt = 4 ∧ (m 94 58).toInt = 0 from by omega) r_GW r_GU r_OW (show zgo (0 : Int32) (m 99) from by first | (exact go_0 (by decide)) | (exfalso; omega; done) | (exfalso; contradiction; done)) (show zgw (m 121) (m 120) (m 102) (0 : Int32) from by first | (exact gw_0 (by decide)) | (exfalso; omega; done) | (exfalso; contradiction; done)) (show (m 99) s.toNatClampNeg ≠ 0 from by first | (exact (U_y r_US (by omega)).2) | (assumption; done) | (exact ws3) | (exfalso; omega; done) | (exfalso; contradiction; done)) r_RB r_QI r_MK r_WTS r_VV (show qCt (m 105) (m 99) (m 100) aa [] x ((m 100) s.toNatClampNeg) from by first | (have q := r_CT; rw [No_y (by omega)] at q; exact q; done) | (exfalso; omega; done) | (exfalso; contradiction; done)) (show qGo (m 99) (m 100) (m 98) (m 101) (m 102) (m 108) (m 120) (m 121) (0 : Int32) [] from by first | (exact Gk_0 (by decide)) | (exfalso; omega; done) | (exfalso; contradiction; done)) r_XR (fun m1 hV_m1 p0_m1 p1_m1 p2_m1 p3_m1 p4_m1 p5_m1 p6_m1 p7_m1 => zmv_n ?_)
      have p0_m1 : zGW T (m1 94 55) (m1 109) := p0_m1
      have p1_m1 : zGU T (m 94 46) (m1 99) := p1_m1
      have p2_m1 : zOw (m1 99) (m 103) (m1 111) := p2_m1
      have p3_m1 : zgo (m1 94 80) (m1 99) := p3_m1
      have p4_m1 : zgw (m1 121) (m1 120) (m 102) (m1 94 80) := p4_m1
      have p5_m1 : zlm (m1 99) (m1 121) (m1 94 80) ≤ zlm (m 99) (m 121) (0 : Int32) := p5_m1
      have p6_m1 : (m1 94 45).toInt = sm (zbU (m1 99)) (m 102) 3100 := p6_m1
      have p7_m1 : qFl (m1 99) (m 100) (m 98) (m 101) (m 102) (m 103) (m 107) (m 108) (m1 109) (m1 111) (m 112) (m1 113) (m1 114) (m1 94 55) (m 94 46) (m 94 11) (m 94 12) (m 94 62) (m 94 17) (m 94 9) (m1 105) (m1 120) (m1 121) (m1 94 80) B x (m 94 58) (cFa aa [] ((m 100) s.toNatClampNeg)) := p7_m1
      exact lp_241r4_23 (s := s) hV K _ _  rfl (zF_zov (zF_u zF_rfl rfl) ws_242_241) hV_m1 (by omega) (by omega) r_W p0_m1 p1_m1 p2_m1 (show (m 94 10).toInt = 4 ∧ (m 94 58).toInt = 0 from by omega) p3_m1 p4_m1 p6_m1 (show qLL (m1 99) (m 100) (m 98) (m 101) (m 102) (m 103) (m 107) (m 108) (m1 109) (m1 111) (m 112) (m1 113) (m1 114) (m1 94 55) (m 94 46) (m 94 11) (m 94 12) (m 94 62) (m 94 17) (m 94 9) (m1 105) (m1 120) (m1 121) (m1 94 80) B x (m 94 58) (cLe aa (qNo (m 100) s)) from by first | (exact LL_0 p7_m1 (tn_lt (by omega) (by omega)) r_RB.1 (U_y r_US (by omega)).2 (by rw [No_y (by omega)])) | (exfalso; omega; done) | (exfalso; contradiction; done))
    · skip
      have g12 := i_ne h9
      exfalso; omega
theorem sp_240r4 {X : Nat × (Nat → Int32)} {P : Option ma_V → (Nat → Nat → Int32) → Prop} {m : Nat → Nat → Int32} (wa : Int32) (is : Int32) (hV : zV m) (hpre0 : (m 94 10).toInt = 4 ∧ (m 94 58).toInt = 0) (KZ : ∀ m', zV (zov wr_240 m m') → P none (zov wr_240 m m')) : zm X 1 21 240 0 [(0, .inr (.inr (some 94))), (1, .inl wa), (2, .inl is)] m P := by
  have K : ∀ m', zF wr_240 m m' → zV m' → P none m' := by
    intro m' hf z 
    have e := zov_eq hf
    rw [e] at z ⊢
    exact KZ m' z 
  refine g_240_0 wa is ?_
  have f1 : 0 ≤ (m 94 10).toInt ∧ (m 94 10).toInt ≤ 6 := rs_94_10 (m := m) hV
  have f2 : 0 ≤ (m 94 58).toInt ∧ (m 94 58).toInt ≤ 1 := rs_94_58 (m := m) hV
  have li3 : (5 : Int32).toInt = 5 := rfl
  refine zd (fun (h4 : (m 94 10) = (5 : Int32)) => ?_) (fun (h4 : ¬ (m 94 10) = (5 : Int32)) => ?_)
  · skip
    have g5 := i_eq h4
    exfalso; omega
  · skip
    have g6 := i_ne h4
    exact K _ zF_rfl hV 
