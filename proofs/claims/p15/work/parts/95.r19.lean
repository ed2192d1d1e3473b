/-! the reference where it moves (written by wip/tools/gen15r.py) -/
set_option maxHeartbeats 8000000 in
theorem lp_206rv_73 {X : Nat × (Nat → Int32)} {P : Option ma_V → (Nat → Nat → Int32) → Prop} {T : Nat} {aa : Nat→Nat→Int32} {ro : Int32} {m0 : Nat → Nat → Int32} (h0 : zV m0) (K : ∀ v m', zF wr_206 m0 m' → zV m' → (zGW T (m' 94 55) (m' 109)) → (zGU T (m' 94 46) (m' 99)) → (zOw (m' 99) (m' 103) (m' 111)) → (qRB (m' 99) (m' 100) (m' 98) (m' 101) (m' 102) (m' 103) (m' 107) (m' 108) (m' 109) (m' 111) (m' 112) (m' 113) (m' 114) (m' 94 55) (m' 94 46) ro 0 0 0 1 (hCl aa)) → (qHv (hCl aa)) → (qHL (hCl aa) (m' 94 11) (m' 94 61) (m' 94 59)) → ((m' 94 45).toInt = sm (zbU (m' 99)) (m' 102) 3100) → P (some (.inl v)) m') : ∀ (n : Nat) (m : Nat → Nat → Int32) (l1 : Int32), (3100 - l1.toInt).toNat = n → zF wr_206 m0 m → zV m → (0 ≤ l1.toInt) → (T ≤ 512) → (zW (m 94 7) (m 98) (m 101) (m 102) (m 108)) → (zGW T (m 94 55) (m 109)) → (zGU T (m 94 46) (m 99)) → (zOw (m 99) (m 103) (m 111)) → ((m 94 10).toInt = 2) → (qHv aa) → (qHL aa (m 94 11) (m0 94 61) (aa 87 4)) → (∀ s, s < 3100 → (m 99) s ≠ 0 → (m 107) s = 0) → ((m 94 45).toInt = sm (zbU (m 99)) (m 102) 3100) → ((m 94 61).toInt = 1 - (m0 94 61).toInt) → (qHX (m 99) (m 100) (m 98) (m 101) (m 102) (m0 103) (m 107) (m 108) (m 109) (m0 111) (m 112) (m 113) (m 114) (m 94 55) (m 94 46) ro 0 0 0 1 (m 110) (m 119) (m 94 76) (m 94 75) (m 103) (m 111) (m 94 77) (aa 87 5 - aa 87 3).toInt (aa 87 3).toInt (aa 87 5).toInt l1 (aRo (aWh aa 0) 0)) → zm X 5 109 206 73 [(0, .inr (.inr (some 94))), (1, .inl l1)] m P := by
  intro n
  induction n using Nat.strongRecOn with
  | _ n IH =>
    intro m l1 hmu hF hV hi0 hi1 r_W r_GW r_GU r_OW hi6 r_HV r_HLo r_HOo r_WTS hi11 r_HX
    refine g_206_73 l1 ?_
    have f1 : 0 ≤ (m 94 10).toInt ∧ (m 94 10).toInt ≤ 6 := rs_94_10 (m := m) hV
    have f2 : 0 ≤ (m 94 61).toInt ∧ (m 94 61).toInt ≤ 1 := rs_94_61 (m := m) hV
    have f3 : 0 ≤ (m0 94 61).toInt ∧ (m0 94 61).toInt ≤ 1 := rs_94_61 (m := m0) h0
    obtain ⟨c, hB, hT⟩ := r_HX
    have f4 : 0 ≤ (m 94 55).toInt ∧ (m 94 55).toInt ≤ 3100 := rs_94_55 (m := m) hV
    have b5 := i_bd l1
    refine zd (fun (h6 : (m 94 55) ≤ l1) => ?_) (fun (h6 : ¬ (m 94 55) ≤ l1) => ?_)
    · skip
      have g7 := i_le h6
      refine sp_208rv (aa := (aRo (aWh aa 0) 0)) (AT := (m0 103)) (OW := (m0 111)) (st := (aa 87 5 - aa 87 3).toInt) (ot := (aa 87 3).toInt) (rr := (aa 87 5).toInt)  hV (show (m 94 10).toInt = 2 from by omega) r_W r_OW (show qHB (m 99) (m 100) (m 98) (m 101) (m 102) (m0 103) (m 107) (m 108) (m 109) (m0 111) (m 112) (m 113) (m 114) (m 94 55) (m 94 46) ro 0 0 0 1 (m 110) (m 119) (m 94 76) (m 94 75) (m 103) (m 111) (m 94 77) (aa 87 5 - aa 87 3).toInt (aa 87 3).toInt (aa 87 5).toInt (aRo (aWh aa 0) 0) from by first | (exact HX_end ⟨c, hB, hT⟩ (by omega) r_HOo) | (exact hB) | (exact hB) | (exfalso; omega; done) | (exfalso; contradiction; done)) (fun m1 hV_m1 p0_m1 p1_m1 p2_m1 => zmv_n ?_)
      have p0_m1 : zOw (m 99) (m1 103) (m1 111) := p0_m1
      have p1_m1 : qHB (m 99) (m 100) (m 98) (m 101) (m 102) (m0 103) (m 107) (m 108) (m 109) (m0 111) (m 112) (m 113) (m 114) (m 94 55) (m 94 46) ro 0 0 0 1 (m1 110) (m1 119) (m1 94 76) (m1 94 75) (m1 103) (m1 111) (m1 94 77) (aa 87 5 - aa 87 3).toInt (aa 87 3).toInt (aa 87 5).toInt (aSp 512 (aRo (aWh aa 0) 0)) := p1_m1
      have p2_m1 : (m1 94 75).toInt ≤ (m1 94 76).toInt := p2_m1
      have f8 : 0 ≤ (m1 94 75).toInt ∧ (m1 94 75).toInt ≤ 3100 := rs_94_75 (m := (zov wr_208 m m1)) hV_m1
      have f9 : 0 ≤ (m1 94 76).toInt ∧ (m1 94 76).toInt ≤ 3100 := rs_94_76 (m := (zov wr_208 m m1)) hV_m1
      have li10 : (0 : Int32).toInt = 0 := rfl
      refine sp_209rv (aa := (aRA aa)) (AT := (m0 103)) (OW := (m0 111)) (st := (aa 87 5 - aa 87 3).toInt) (ot := (aa 87 3).toInt) (rr := (aa 87 5).toInt) ((0 : Int32)) hV_m1 (by omega) (by omega) (show (m 94 10).toInt = 2 from by omega) r_W r_GW p0_m1 (show qHB (m 99) (m 100) (m 98) (m 101) (m 102) (m0 103) (m 107) (m 108) (m 109) (m0 111) (m 112) (m 113) (m 114) (m 94 55) (m 94 46) ro 0 0 0 1 (m1 110) (m1 119) (m1 94 76) (m1 94 75) (m1 103) (m1 111) (m1 94 77) (aa 87 5 - aa 87 3).toInt (aa 87 3).toInt (aa 87 5).toInt (aRA aa) from by first | (exact p1_m1) | (exact p1_m1) | (exfalso; omega; done) | (exfalso; contradiction; done)) (show qE0 (aRA aa) from by first | (exact E0_ra r_HV.1) | (exfalso; omega; done) | (exfalso; contradiction; done)) (show qCl (aRA aa) from by first | (exact Cl_ra r_HV.1) | (exfalso; omega; done) | (exfalso; contradiction; done)) (fun m3 hV_m3 p0_m3 p1_m3 p2_m3 p3_m3 p4_m3 p5_m3 => zmv_n ?_)
      have p0_m3 : zGW T (m3 94 55) (m3 109) := p0_m3
      have p1_m3 : zuw (m 113) (m3 113) := p1_m3
      have p2_m3 : zOw (m 99) (m3 103) (m3 111) := p2_m3
      have p3_m3 : qHB (m 99) (m 100) (m 98) (m 101) (m 102) (m0 103) (m 107) (m 108) (m3 109) (m0 111) (m 112) (m3 113) (m3 114) (m3 94 55) (m 94 46) ro 0 0 0 1 (m3 110) (m3 119) (m3 94 76) (m3 94 75) (m3 103) (m3 111) (m3 94 77) (aa 87 5 - aa 87 3).toInt (aa 87 3).toInt (aa 87 5).toInt (aGw (aRA aa) 0) := p3_m3
      have p4_m3 : qE0 (aGw (aRA aa) 0) := p4_m3
      have p5_m3 : qCl (aGw (aRA aa) 0) := p5_m3
      refine sp_199r  hV_m3  (fun m5 hV_m5 p0_m5 p1_m5 => zmv_n ?_)
      have p0_m5 : zuw (m3 113) (m5 113) := p0_m5
      have p1_m5 : qUr (m3 113) (m5 113) (m3 110) 16 := p1_m5
      have f12 : 0 ≤ (m3 94 77).toInt ∧ (m3 94 77).toInt ≤ 4600 := rs_94_77 (m := (zov wr_209 (zov wr_208 m m1) m3)) hV_m3
      have hV11 : zV (ma_u (zov wr_199 (zov wr_209 (zov wr_208 m m1) m3) m5) 94 59 (m3 94 77)) := us_94_59 hV_m5 (by omega) (by omega)
      refine sp_200rn  hV11 (show (m 94 10).toInt ≠ 4 from by omega) r_W r_GU p2_m3 r_WTS (fun v8 m7 hV_m7 p0_m7 p1_m7 p2_m7 p3_m7 p4_m7 => zmi_n ?_)
      have p0_m7 : zrm (m 99) (m7 99) (m3 110) 3100 := p0_m7
      have p1_m7 : zowr (m3 111) (m7 111) (m 99) (m3 110) (m3 103) := p1_m7
      have p2_m7 : zGU T (m 94 46) (m7 99) := p2_m7
      have p3_m7 : zOw (m7 99) (m3 103) (m7 111) := p3_m7
      have p4_m7 : (m7 94 45).toInt = sm (zbU (m7 99)) (m 102) 3100 := p4_m7
      try have gw := GW_room p0_m3
      have b13 := i_bd v8
      exact K (v8) _ (zF_zov (zF_u (zF_zov (zF_zov (zF_zov hF ws_208_206) ws_209_206) ws_199_206) rfl) ws_200_206) hV_m7 p0_m3 p2_m7 p3_m7 (show qRB (m7 99) (m 100) (m 98) (m 101) (m 102) (m3 103) (m 107) (m 108) (m3 109) (m7 111) (m 112) (m5 113) (m3 114) (m3 94 55) (m 94 46) ro 0 0 0 1 (hCl aa) from by first | (exact RB_hcl (HB_fin p3_m3 p4_m3 p5_m3 r_HV p1_m5 p0_m7 p1_m7)) | (exfalso; omega; done) | (exfalso; contradiction; done)) (show qHv (hCl aa) from by first | (exact Hv_cl r_HV) | (exact r_HV) | (exfalso; omega; done) | (exfalso; contradiction; done)) (show qHL (hCl aa) (m 94 11) (m 94 61) (m3 94 77) from by first | (exact HL_cl r_HLo r_HV (HB_fin p3_m3 p4_m3 p5_m3 r_HV p1_m5 p0_m7 p1_m7).2 (by omega)) | (exfalso; omega; done) | (exfalso; contradiction; done)) p4_m7
    · skip
      have g14 := i_nle h6
      have hg15 : (0 ≤ l1 ∧ l1.toNatClampNeg < 3100) := i_ix (by omega) (by omega)
      refine ⟨hg15, ?_⟩
      first | have f16 : 0 ≤ (m 114 l1.toNatClampNeg).toInt ∧ (m 114 l1.toNatClampNeg).toInt ≤ 3099 := ra_114 (m := m) hV (k := l1.toNatClampNeg) (i_ix (n := 3100) (by omega) (by omega)).2 | have b17 := i_bd (m 114 l1.toNatClampNeg)
      refine sp_207rv (aa := c) (AT := (m0 103)) (OW := (m0 111)) (st := (aa 87 5 - aa 87 3).toInt) (ot := (aa 87 3).toInt) (rr := (aa 87 5).toInt) ((m 114 l1.toNatClampNeg)) hV (by omega) (by omega) (show (m 94 10).toInt = 2 from by omega) (show qU (m 99) (m 114 l1.toNatClampNeg) from by first | (exact (HX_wl hB (by omega) (by omega) rfl).1.2) | (exfalso; omega; done) | (exfalso; contradiction; done)) r_OW hB (fun m9 hV_m9 p0_m9 p1_m9 => zmv_n ?_)
      have p0_m9 : zOw (m 99) (m9 103) (m9 111) := p0_m9
      have p1_m9 : qHB (m 99) (m 100) (m 98) (m 101) (m 102) (m0 103) (m 107) (m 108) (m 109) (m0 111) (m 112) (m 113) (m 114) (m 94 55) (m 94 46) ro 0 0 0 1 (m9 110) (m9 119) (m 94 76) (m9 94 75) (m9 103) (m9 111) (m9 94 77) (aa 87 5 - aa 87 3).toInt (aa 87 3).toInt (aa 87 5).toInt (aCm c (qNo (m 100) (m 114 l1.toNatClampNeg))) := p1_m9
      try have gw := GW_room r_GW
      first | have e18 : (l1 + (1 : Int32)).toInt = l1.toInt + (1) := i_addk rfl (by omega) (by omega) | have b19 := i_bd (l1 + (1 : Int32))
      exact IH (3100 - (l1 + (1 : Int32)).toInt).toNat (by omega) _ ((l1 + (1 : Int32))) rfl (zF_zov hF ws_207_206) hV_m9 (by omega) (by omega) r_W r_GW r_GU p0_m9 (show (m 94 10).toInt = 2 from by omega) r_HV r_HLo r_HOo r_WTS (show (m 94 61).toInt = 1 - (m0 94 61).toInt from by omega) (show qHX (m 99) (m 100) (m 98) (m 101) (m 102) (m0 103) (m 107) (m 108) (m 109) (m0 111) (m 112) (m 113) (m 114) (m 94 55) (m 94 46) ro 0 0 0 1 (m9 110) (m9 119) (m 94 76) (m9 94 75) (m9 103) (m9 111) (m9 94 77) (aa 87 5 - aa 87 3).toInt (aa 87 3).toInt (aa 87 5).toInt (l1 + (1 : Int32)) (aRo (aWh aa 0) 0) from by first | (exact ⟨_, p1_m9, (HX_wl hB (by omega) (by omega) rfl).2.symm.trans hT⟩) | (exfalso; omega; done) | (exfalso; contradiction; done))
set_option maxHeartbeats 8000000 in
theorem lp_206rv_49 {X : Nat × (Nat → Int32)} {P : Option ma_V → (Nat → Nat → Int32) → Prop} {T : Nat} {aa : Nat→Nat→Int32} {ro : Int32} {m0 : Nat → Nat → Int32} (h0 : zV m0) (K : ∀ v m', zF wr_206 m0 m' → zV m' → (zGW T (m' 94 55) (m' 109)) → (zGU T (m' 94 46) (m' 99)) → (zOw (m' 99) (m' 103) (m' 111)) → (qRB (m' 99) (m' 100) (m' 98) (m' 101) (m' 102) (m' 103) (m' 107) (m' 108) (m' 109) (m' 111) (m' 112) (m' 113) (m' 114) (m' 94 55) (m' 94 46) ro 0 0 0 1 (hCl aa)) → (qHv (hCl aa)) → (qHL (hCl aa) (m' 94 11) (m' 94 61) (m' 94 59)) → ((m' 94 45).toInt = sm (zbU (m' 99)) (m' 102) 3100) → P (some (.inl v)) m') : ∀ (n : Nat) (m : Nat → Nat → Int32) (l1 : Int32), (16 - l1.toInt).toNat = n → zF wr_206 m0 m → zV m → (0 ≤ l1.toInt) → (T ≤ 512) → (zW (m 94 7) (m 98) (m 101) (m 102) (m 108)) → (zGW T (m 94 55) (m 109)) → (zGU T (m 94 46) (m 99)) → (zOw (m 99) (m 103) (m 111)) → ((m 94 10).toInt = 2) → (qHv aa) → (qHL aa (m 94 11) (m0 94 61) (aa 87 4)) → (∀ s, s < 3100 → (m 99) s ≠ 0 → (m 107) s = 0) → ((m 94 45).toInt = sm (zbU (m 99)) (m 102) 3100) → ((m 94 61).toInt = 1 - (m0 94 61).toInt) → (qHR (m 99) (m 100) (m 98) (m 101) (m 102) (m0 103) (m 107) (m 108) (m 109) (m0 111) (m 112) (m 113) (m 114) (m 94 55) (m 94 46) ro 0 0 0 1 (m 110) (m 119) (m 94 76) (m 94 75) (m 103) (m 111) (m 94 77) (aa 87 5 - aa 87 3).toInt (aa 87 3).toInt (aa 87 5).toInt l1 (aRo (aWh aa 0) 0)) → zm X 5 109 206 49 [(0, .inr (.inr (some 94))), (1, .inl l1)] m P := by
  intro n
  induction n using Nat.strongRecOn with
  | _ n IH =>
    intro m l1 hmu hF hV hi0 hi1 r_W r_GW r_GU r_OW hi6 r_HV r_HLo r_HOo r_WTS hi11 r_HR
    refine g_206_49 l1 ?_
    have f1 : 0 ≤ (m 94 10).toInt ∧ (m 94 10).toInt ≤ 6 := rs_94_10 (m := m) hV
    have f2 : 0 ≤ (m 94 61).toInt ∧ (m 94 61).toInt ≤ 1 := rs_94_61 (m := m) hV
    have f3 : 0 ≤ (m0 94 61).toInt ∧ (m0 94 61).toInt ≤ 1 := rs_94_61 (m := m0) h0
    obtain ⟨c, hB, hT⟩ := r_HR
    have li4 : (16 : Int32).toInt = 16 := rfl
    have b5 := i_bd l1
    refine zd (fun (h6 : (16 : Int32) ≤ l1) => ?_) (fun (h6 : ¬ (16 : Int32) ≤ l1) => ?_)
    · skip
      have g7 := i_le h6
      try have gw := GW_room r_GW
      have li8 : (0 : Int32).toInt = 0 := rfl
      exact lp_206rv_73 h0 K _ _ ((0 : Int32)) rfl hF hV (by omega) (by omega) r_W r_GW r_GU r_OW (show (m 94 10).toInt = 2 from by omega) r_HV r_HLo r_HOo r_WTS (show (m 94 61).toInt = 1 - (m0 94 61).toInt from by omega) (show qHX (m 99) (m 100) (m 98) (m 101) (m 102) (m0 103) (m 107) (m 108) (m 109) (m0 111) (m 112) (m 113) (m 114) (m 94 55) (m 94 46) ro 0 0 0 1 (m 110) (m 119) (m 94 76) (m 94 75) (m 103) (m 111) (m 94 77) (aa 87 5 - aa 87 3).toInt (aa 87 3).toInt (aa 87 5).toInt (0 : Int32) (aRo (aWh aa 0) 0) from by first | (exact HR_end ⟨c, hB, hT⟩ (by omega) (by omega)) | (exfalso; omega; done) | (exfalso; contradiction; done))
    · skip
      have g9 := i_nle h6
      have hg10 : (0 ≤ l1 ∧ l1.toNatClampNeg < 16) := i_ix (by omega) (by omega)
      refine ⟨hg10, ?_⟩
      first | have f11 : -1 ≤ (m 112 l1.toNatClampNeg).toInt ∧ (m 112 l1.toNatClampNeg).toInt ≤ 3099 := ra_112 (m := m) hV (k := l1.toNatClampNeg) (i_ix (n := 16) (by omega) (by omega)).2 | have b12 := i_bd (m 112 l1.toNatClampNeg)
      refine sp_207rv (aa := c) (AT := (m0 103)) (OW := (m0 111)) (st := (aa 87 5 - aa 87 3).toInt) (ot := (aa 87 3).toInt) (rr := (aa 87 5).toInt) ((m 112 l1.toNatClampNeg)) hV (by omega) (by omega) (show (m 94 10).toInt = 2 from by omega) (show qU (m 99) (m 112 l1.toNatClampNeg) from by first | (exact (HR_rt hB (by omega) (by omega) rfl).1) | (exfalso; omega; done) | (exfalso; contradiction; done)) r_OW hB (fun m1 hV_m1 p0_m1 p1_m1 => zmv_n ?_)
      have p0_m1 : zOw (m 99) (m1 103) (m1 111) := p0_m1
      have p1_m1 : qHB (m 99) (m 100) (m 98) (m 101) (m 102) (m0 103) (m 107) (m 108) (m 109) (m0 111) (m 112) (m 113) (m 114) (m 94 55) (m 94 46) ro 0 0 0 1 (m1 110) (m1 119) (m 94 76) (m1 94 75) (m1 103) (m1 111) (m1 94 77) (aa 87 5 - aa 87 3).toInt (aa 87 3).toInt (aa 87 5).toInt (aCm c (qNo (m 100) (m 112 l1.toNatClampNeg))) := p1_m1
      try have gw := GW_room r_GW
      first | have e13 : (l1 + (1 : Int32)).toInt = l1.toInt + (1) := i_addk rfl (by omega) (by omega) | have b14 := i_bd (l1 + (1 : Int32))
      exact IH (16 - (l1 + (1 : Int32)).toInt).toNat (by omega) _ ((l1 + (1 : Int32))) rfl (zF_zov hF ws_207_206) hV_m1 (by omega) (by omega) r_W r_GW r_GU p0_m1 (show (m 94 10).toInt = 2 from by omega) r_HV r_HLo r_HOo r_WTS (show (m 94 61).toInt = 1 - (m0 94 61).toInt from by omega) (show qHR (m 99) (m 100) (m 98) (m 101) (m 102) (m0 103) (m 107) (m 108) (m 109) (m0 111) (m 112) (m 113) (m 114) (m 94 55) (m 94 46) ro 0 0 0 1 (m1 110) (m1 119) (m 94 76) (m1 94 75) (m1 103) (m1 111) (m1 94 77) (aa 87 5 - aa 87 3).toInt (aa 87 3).toInt (aa 87 5).toInt (l1 + (1 : Int32)) (aRo (aWh aa 0) 0) from by first | (exact ⟨_, p1_m1, (HR_rt hB (by omega) (by omega) rfl).2.symm.trans hT⟩) | (exfalso; omega; done) | (exfalso; contradiction; done))
set_option maxHeartbeats 8000000 in
theorem sp_206rv {X : Nat × (Nat → Int32)} {P : Option ma_V → (Nat → Nat → Int32) → Prop} {T : Nat} {aa : Nat→Nat→Int32} {ro : Int32} {m : Nat → Nat → Int32}  (hV : zV m) (hpre0 : T ≤ 512) (r_W : zW (m 94 7) (m 98) (m 101) (m 102) (m 108)) (r_GW : zGW T (m 94 55) (m 109)) (r_GU : zGU T (m 94 46) (m 99)) (r_OW : zOw (m 99) (m 103) (m 111)) (hpre5 : (m 94 10).toInt = 2) (r_RB : qRB (m 99) (m 100) (m 98) (m 101) (m 102) (m 103) (m 107) (m 108) (m 109) (m 111) (m 112) (m 113) (m 114) (m 94 55) (m 94 46) ro 0 0 0 1 aa) (r_HV : qHv aa) (r_HL : qHL aa (m 94 11) (m 94 61) (m 94 59)) (r_WTS : (m 94 45).toInt = sm (zbU (m 99)) (m 102) 3100) (KZ : ∀ v m', zV (zov wr_206 m m') → (zGW T (m' 94 55) (m' 109)) → (zGU T (m 94 46) (m' 99)) → (zOw (m' 99) (m' 103) (m' 111)) → (qRB (m' 99) (m 100) (m 98) (m 101) (m 102) (m' 103) (m 107) (m 108) (m' 109) (m' 111) (m 112) (m' 113) (m' 114) (m' 94 55) (m 94 46) ro 0 0 0 1 (hCl aa)) → (qHv (hCl aa)) → (qHL (hCl aa) (m 94 11) (m' 94 61) (m' 94 59)) → ((m' 94 45).toInt = sm (zbU (m' 99)) (m 102) 3100) → P (some (.inl v)) (zov wr_206 m m')) : zm X 5 109 206 0 [(0, .inr (.inr (some 94)))] m P := by
  have K : ∀ v m', zF wr_206 m m' → zV m' → (zGW T (m' 94 55) (m' 109)) → (zGU T (m' 94 46) (m' 99)) → (zOw (m' 99) (m' 103) (m' 111)) → (qRB (m' 99) (m' 100) (m' 98) (m' 101) (m' 102) (m' 103) (m' 107) (m' 108) (m' 109) (m' 111) (m' 112) (m' 113) (m' 114) (m' 94 55) (m' 94 46) ro 0 0 0 1 (hCl aa)) → (qHv (hCl aa)) → (qHL (hCl aa) (m' 94 11) (m' 94 61) (m' 94 59)) → ((m' 94 45).toInt = sm (zbU (m' 99)) (m' 102) 3100) → P (some (.inl v)) m' := by
    intro v m' hf z q0 q1 q2 q3 q4 q5 q6
    have e := zov_eq hf
    rw [e] at z ⊢
    try rw [e] at q0
    try rw [e] at q1
    try rw [e] at q2
    try rw [e] at q3
    try rw [e] at q4
    try rw [e] at q5
    try rw [e] at q6
    exact KZ v m' z q0 q1 q2 q3 q4 q5 q6
  refine g_206_0  ?_
  have f1 : 0 ≤ (m 94 10).toInt ∧ (m 94 10).toInt ≤ 6 := rs_94_10 (m := m) hV
  have hV2 : zV (ma_u m 94 47 ((m 94 47) + (1 : Int32))) := uf_94_47 hV
  refine sp_189  hV2  (fun m1 hV_m1 p0_m1 => zmv_n ?_)
  have p0_m1 : ∀ s : Nat, s < 3100 → (m1 110) s = 0 := p0_m1
  try have gw := GW_room r_GW
  have li4 : (0 : Int32).toInt = 0 := rfl
  have hV3 : zV (ma_u (zov wr_189 (ma_u m 94 47 ((m 94 47) + (1 : Int32))) m1) 94 75 (0 : Int32)) := us_94_75 hV_m1 (by omega) (by omega)
  have hV5 : zV (ma_u (ma_u (zov wr_189 (ma_u m 94 47 ((m 94 47) + (1 : Int32))) m1) 94 75 (0 : Int32)) 94 76 (0 : Int32)) := us_94_76 hV3 (by omega) (by omega)
  have li7 : (1 : Int32).toInt = 1 := rfl
  have f8 : 0 ≤ (m 94 61).toInt ∧ (m 94 61).toInt ≤ 1 := rs_94_61 (m := m) hV
  first | have e9 : ((1 : Int32) - (m 94 61)).toInt = (1 : Int32).toInt - (m 94 61).toInt := i_sub (by omega) (by omega) | have b10 := i_bd ((1 : Int32) - (m 94 61))
  have hV6 : zV (ma_u (ma_u (ma_u (zov wr_189 (ma_u m 94 47 ((m 94 47) + (1 : Int32))) m1) 94 75 (0 : Int32)) 94 76 (0 : Int32)) 94 61 ((1 : Int32) - (m 94 61))) := us_94_61 hV5 (by omega) (by omega)
  have f12 : 0 ≤ (m 94 11).toInt ∧ (m 94 11).toInt ≤ 1500 := rs_94_11 (m := m) hV
  first | have f13 := i_mul01 (x := ((1 : Int32) - (m 94 61))) (y := (m 94 11)) (by omega) (by omega) (by omega) (by omega) | have b14 := i_bd (((1 : Int32) - (m 94 61)) * (m 94 11))
  have hV11 : zV (ma_u (ma_u (ma_u (ma_u (zov wr_189 (ma_u m 94 47 ((m 94 47) + (1 : Int32))) m1) 94 75 (0 : Int32)) 94 76 (0 : Int32)) 94 61 ((1 : Int32) - (m 94 61))) 94 77 (((1 : Int32) - (m 94 61)) * (m 94 11))) := us_94_77 hV6 (by omega) (by omega)
  exact lp_206rv_49 hV K _ _ ((0 : Int32)) rfl (zF_u (zF_u (zF_u (zF_u (zF_zov (zF_u zF_rfl rfl) ws_189_206) rfl) rfl) rfl) rfl) hV11 (by omega) (by omega) r_W r_GW r_GU r_OW (show (m 94 10).toInt = 2 from by omega) r_HV (show qHL aa (m 94 11) (m 94 61) (aa 87 4) from by first | (exact HL_tp r_HL) | (exfalso; omega; done) | (exfalso; contradiction; done)) (show ∀ s, s < 3100 → (m 99) s ≠ 0 → (m 107) s = 0 from by first | (exact HV_ho r_HV r_RB) | (exfalso; omega; done) | (exfalso; contradiction; done)) r_WTS (show ((1 : Int32) - (m 94 61)).toInt = 1 - (m 94 61).toInt from by omega) (show qHR (m 99) (m 100) (m 98) (m 101) (m 102) (m 103) (m 107) (m 108) (m 109) (m 111) (m 112) (m 113) (m 114) (m 94 55) (m 94 46) ro 0 0 0 1 (m1 110) (m 119) (0 : Int32) (0 : Int32) (m 103) (m 111) (((1 : Int32) - (m 94 61)) * (m 94 11)) (aa 87 5 - aa 87 3).toInt (aa 87 3).toInt (aa 87 5).toInt (0 : Int32) (aRo (aWh aa 0) 0) from by first | (exact HR_0 (HB_wh r_RB r_HV p0_m1 (by omega) (by omega) (HL_to r_HL r_HV ⟨fun _ => by omega, fun _ => by omega⟩)) (by omega)) | (exfalso; omega; done) | (exfalso; contradiction; done))
