/-! from 95.zu02 -/
/-! the reference: who is used, words (written by wip/tools/gen15u.py) -/
theorem lp_223uw_49 {X : Nat × (Nat → Int32)} {P : Option ma_V → (Nat → Nat → Int32) → Prop} {T : Nat} {m0 : Nat → Nat → Int32} (h0 : zV m0) (K : ∀ v m₉, zF wr_223 m0 m₉ → zV m₉ → (zGW T (m₉ 94 55) (m₉ 109)) → (zGU T (m₉ 94 46) (m₉ 99)) → (zOw (m₉ 99) (m₉ 103) (m₉ 111)) → (zDX (m₉ 94 10) (m₉ 99) (m₉ 112) (m₉ 113) (m₉ 114) (m₉ 94 55) (m₉ 98) (m₉ 101) (m₉ 102) (m₉ 108)) → (zGG (m₉ 94 58) (m₉ 94 56) (m₉ 94 57) (m₉ 106)) → ((m₉ 94 58).toInt = 0 ∨ ((m₉ 94 58).toInt = 1 ∧ (m₉ 94 57).toInt < (m₉ 94 56).toInt ∧ (m₉ 94 57).toInt = (m0 94 57).toInt)) → (zUs (m0 99) (m₉ 99)) → P (some (.inl v)) m₉) : ∀ (n : Nat) (m : Nat → Nat → Int32) (l1 : Int32), (3100 - l1.toInt).toNat = n → zF wr_223 m0 m → zV m → (0 ≤ l1.toInt) → (zW (m 94 7) (m 98) (m 101) (m 102) (m 108)) → (zGW T (m 94 55) (m 109)) → (zGU T (m 94 46) (m 99)) → (zOw (m 99) (m 103) (m 111)) → (zDX (m 94 10) (m 99) (m 112) (m 113) (m 114) (m 94 55) (m 98) (m 101) (m 102) (m 108)) → ((m 94 10).toInt = 5) → ((m 94 57).toInt = (m0 94 57).toInt) → (zUs (m0 99) (m 99)) → zm X 4 88 223 49 [(0, .inr (.inr (some 94))), (1, .inl l1)] m P := by
  intro n
  induction n using Nat.strongRecOn with
  | _ n IH =>
    intro m l1 hmu hF hV hi0 r_W r_GW r_GU r_OW r_DX hi6 hi7 r_UQs
    refine g_223_49 l1 ?_
    have f1 : 0 ≤ (m 94 10).toInt ∧ (m 94 10).toInt ≤ 6 := rs_94_10 (m := m) hV
    have f2 : 0 ≤ (m 94 57).toInt ∧ (m 94 57).toInt ≤ 3100 := rs_94_57 (m := m) hV
    have f3 : 0 ≤ (m0 94 57).toInt ∧ (m0 94 57).toInt ≤ 3100 := rs_94_57 (m := m0) h0
    have li4 : (3100 : Int32).toInt = 3100 := rfl
    have b5 := i_bd l1
    refine zd (fun (h6 : (3100 : Int32) ≤ l1) => ?_) (fun (h6 : ¬ (3100 : Int32) ≤ l1) => ?_)
    · skip
      have g7 := i_le h6
      have li9 : (0 : Int32).toInt = 0 := rfl
      have hV8 : zV (ma_u m 94 73 (0 : Int32)) := us_94_73 hV (by omega) (by omega)
      refine sp_194  hV8 (show (0 : Int32).toInt = 0 from by omega) r_W r_GW (show ((m 94 10).toInt = 2 ∨ (m 94 10).toInt = 3) → zCL (m 110) (m 98) (m 101) (m 102) (m 108) (m 118) (0 : Int32) 3100 0 from by first | (exact fun hp => absurd hp (by omega)) | (exfalso; omega; done) | (exfalso; contradiction; done)) (show zKU (m 94 10) (m 99) (m 110) from by first | (exact fun hp => absurd hp (by omega)) | (exfalso; omega; done) | (exfalso; contradiction; done)) r_DX (show ((m 94 10).toInt = 2 ∨ (m 94 10).toInt = 3) → zcov (m 110) (m 112) 16 from by first | (exact fun hp => absurd hp (by omega)) | (exact fun hp => cov_0 (by decide)) | (exfalso; omega; done) | (exfalso; contradiction; done)) (show ((m 94 10).toInt = 2 ∨ (m 94 10).toInt = 3) → zcov (m 110) (m 114) (m 94 55).toInt from by first | (exact fun hp => absurd hp (by omega)) | (exact fun hp => cov_0 (by decide)) | (exfalso; omega; done) | (exfalso; contradiction; done)) (fun m1 hV_m1 p0_m1 p1_m1 p2_m1 p3_m1 p4_m1 p5_m1 p6_m1 p7_m1 => zmv_n ?_)
      have p0_m1 : (m1 94 73).toInt = 0 := p0_m1
      have p1_m1 : zGW T (m1 94 55) (m1 109) := p1_m1
      have p2_m1 : ((m 94 10).toInt = 2 ∨ (m 94 10).toInt = 3) → zCL (m1 110) (m 98) (m 101) (m 102) (m 108) (m1 118) (m1 94 73) 3100 0 := p2_m1
      have p3_m1 : zKU (m 94 10) (m 99) (m1 110) := p3_m1
      have p4_m1 : zDX (m 94 10) (m 99) (m 112) (m1 113) (m1 114) (m1 94 55) (m 98) (m 101) (m 102) (m 108) := p4_m1
      have p5_m1 : ((m 94 10).toInt = 2 ∨ (m 94 10).toInt = 3) → zcov (m1 110) (m 112) 16 := p5_m1
      have p6_m1 : ((m 94 10).toInt = 2 ∨ (m 94 10).toInt = 3) → zcov (m1 110) (m1 114) (m1 94 55).toInt := p6_m1
      have p7_m1 : zuw (m 113) (m1 113) := p7_m1
      have f10 : 0 ≤ (m1 94 73).toInt ∧ (m1 94 73).toInt ≤ 3100 := rs_94_73 (m := (zov wr_194 (ma_u m 94 73 (0 : Int32)) m1)) hV_m1
      refine sp_199  hV_m1  (fun m3 hV_m3 p0_m3 p1_m3 => zmv_n ?_)
      have p0_m3 : zuw (m1 113) (m3 113) := p0_m3
      have p1_m3 : zcov (m1 110) (m3 113) 16 := p1_m3
      have hV11 : zV (ma_u (zov wr_199 (zov wr_194 (ma_u m 94 73 (0 : Int32)) m1) m3) 94 58 (0 : Int32)) := us_94_58 hV_m3 (by omega) (by omega)
      refine sp_200uw  hV11 r_W r_GU r_OW (fun v6 m5 hV_m5 p0_m5 p1_m5 p2_m5 p3_m5 p4_m5 => zmi_n ?_)
      have p0_m5 : zrm (m 99) (m5 99) (m1 110) 3100 := p0_m5
      have p1_m5 : zowr (m 111) (m5 111) (m 99) (m1 110) (m 103) := p1_m5
      have p2_m5 : zGU T (m 94 46) (m5 99) := p2_m5
      have p3_m5 : zOw (m5 99) (m 103) (m5 111) := p3_m5
      have p4_m5 : zUs (m 99) (m5 99) := p4_m5
      have b12 := i_bd v6
      have f13 : 0 ≤ (m 94 56).toInt ∧ (m 94 56).toInt ≤ 3100 := rs_94_56 (m := m) hV
      exact K (v6) _ (zF_zov (zF_u (zF_zov (zF_zov (zF_u hF rfl) ws_194_223) ws_199_223) rfl) ws_200_223) hV_m5 p1_m1 p2_m5 p3_m5 (show zDX (m 94 10) (m5 99) (m 112) (m3 113) (m1 114) (m1 94 55) (m 98) (m 101) (m 102) (m 108) from by first | (exact fun hp => absurd hp (by omega)) | (exfalso; omega; done) | (exfalso; contradiction; done)) (show zGG (0 : Int32) (m 94 56) (m 94 57) (m 106) from by first | (exact fun z => absurd z (by decide)) | (exact fun z => absurd z (by omega)) | (exfalso; omega; done) | (exfalso; contradiction; done)) (show (0 : Int32).toInt = 0 ∨ ((0 : Int32).toInt = 1 ∧ (m 94 57).toInt < (m 94 56).toInt ∧ (m 94 57).toInt = (m0 94 57).toInt) from by omega) (show zUs (m0 99) (m5 99) from by first | (exact (Us_tr r_UQs p4_m5)) | (exact Us_w0 (Us_tr r_UQs p4_m5)) | (exact Us_rfl) | (exact Us_rm p0_m5) | (exfalso; omega; done) | (exfalso; contradiction; done))
    · skip
      have g14 := i_nle h6
      have hg15 : (0 ≤ l1 ∧ l1.toNatClampNeg < 3100) := i_ix (by omega) (by omega)
      refine ⟨hg15, ?_⟩
      first | have f16 : 0 ≤ (m 99 l1.toNatClampNeg).toInt ∧ (m 99 l1.toNatClampNeg).toInt ≤ 1 := ra_99 (m := m) hV (k := l1.toNatClampNeg) (i_ix (n := 3100) (by omega) (by omega)).2 | have b17 := i_bd (m 99 l1.toNatClampNeg)
      have li18 : (0 : Int32).toInt = 0 := rfl
      refine zd (fun (h19 : (m 99 l1.toNatClampNeg) = (0 : Int32)) => ?_) (fun (h19 : ¬ (m 99 l1.toNatClampNeg) = (0 : Int32)) => ?_)
      · skip
        have g20 := i_eq h19
        have hg21 : (0 ≤ l1 ∧ l1.toNatClampNeg < 3100) := i_ix (by omega) (by omega)
        refine ⟨hg21, ?_⟩
        have hV22 : zV (ma_u m 110 l1.toNatClampNeg (0 : Int32)) := ua_110 hV (by omega) (by omega)
        first | have e23 : (l1 + (1 : Int32)).toInt = l1.toInt + (1) := i_addk rfl (by omega) (by omega) | have b24 := i_bd (l1 + (1 : Int32))
        exact IH (3100 - (l1 + (1 : Int32)).toInt).toNat (by omega) _ ((l1 + (1 : Int32))) rfl (zF_u hF rfl) hV22 (by omega) r_W r_GW r_GU r_OW r_DX (show (m 94 10).toInt = 5 from by omega) (show (m 94 57).toInt = (m0 94 57).toInt from by omega) r_UQs
      · skip
        have g25 := i_ne h19
        have hg26 : (0 ≤ l1 ∧ l1.toNatClampNeg < 3100) := i_ix (by omega) (by omega)
        refine ⟨hg26, ?_⟩
        have b27 := i_bd (m 106 l1.toNatClampNeg)
        refine zd (fun (h28 : (m 106 l1.toNatClampNeg) = (0 : Int32)) => ?_) (fun (h28 : ¬ (m 106 l1.toNatClampNeg) = (0 : Int32)) => ?_)
        · skip
          have g29 := i_eq h28
          have hg30 : (0 ≤ l1 ∧ l1.toNatClampNeg < 3100) := i_ix (by omega) (by omega)
          refine ⟨hg30, ?_⟩
          have hV31 : zV (ma_u m 110 l1.toNatClampNeg (0 : Int32)) := ua_110 hV (by omega) (by omega)
          first | have e32 : (l1 + (1 : Int32)).toInt = l1.toInt + (1) := i_addk rfl (by omega) (by omega) | have b33 := i_bd (l1 + (1 : Int32))
          exact IH (3100 - (l1 + (1 : Int32)).toInt).toNat (by omega) _ ((l1 + (1 : Int32))) rfl (zF_u hF rfl) hV31 (by omega) r_W r_GW r_GU r_OW r_DX (show (m 94 10).toInt = 5 from by omega) (show (m 94 57).toInt = (m0 94 57).toInt from by omega) r_UQs
        · skip
          have g34 := i_ne h28
          have hg35 : (0 ≤ l1 ∧ l1.toNatClampNeg < 3100) := i_ix (by omega) (by omega)
          refine ⟨hg35, ?_⟩
          have li37 : (1 : Int32).toInt = 1 := rfl
          have hV36 : zV (ma_u m 110 l1.toNatClampNeg (1 : Int32)) := ua_110 hV (by omega) (by omega)
          first | have e38 : (l1 + (1 : Int32)).toInt = l1.toInt + (1) := i_addk rfl (by omega) (by omega) | have b39 := i_bd (l1 + (1 : Int32))
          exact IH (3100 - (l1 + (1 : Int32)).toInt).toNat (by omega) _ ((l1 + (1 : Int32))) rfl (zF_u hF rfl) hV36 (by omega) r_W r_GW r_GU r_OW r_DX (show (m 94 10).toInt = 5 from by omega) (show (m 94 57).toInt = (m0 94 57).toInt from by omega) r_UQs
theorem sp_223uw {X : Nat × (Nat → Int32)} {P : Option ma_V → (Nat → Nat → Int32) → Prop} {T : Nat} {m : Nat → Nat → Int32}  (hV : zV m) (r_W : zW (m 94 7) (m 98) (m 101) (m 102) (m 108)) (r_GW : zGW T (m 94 55) (m 109)) (r_GU : zGU T (m 94 46) (m 99)) (r_OW : zOw (m 99) (m 103) (m 111)) (r_DX : zDX (m 94 10) (m 99) (m 112) (m 113) (m 114) (m 94 55) (m 98) (m 101) (m 102) (m 108)) (r_G1 : zG1 (m 94 56) (m 94 57) (m 106)) (hpre6 : (m 94 10).toInt = 5) (hpre7 : (m 94 58).toInt = 1) (KZ : ∀ v m₉, zV (zov wr_223 m m₉) → (zGW T (m₉ 94 55) (m₉ 109)) → (zGU T (m 94 46) (m₉ 99)) → (zOw (m₉ 99) (m 103) (m₉ 111)) → (zDX (m 94 10) (m₉ 99) (m 112) (m₉ 113) (m₉ 114) (m₉ 94 55) (m 98) (m 101) (m 102) (m 108)) → (zGG (m₉ 94 58) (m₉ 94 56) (m 94 57) (m₉ 106)) → ((m₉ 94 58).toInt = 0 ∨ ((m₉ 94 58).toInt = 1 ∧ (m 94 57).toInt < (m₉ 94 56).toInt ∧ (m 94 57).toInt = (m 94 57).toInt)) → (zUs (m 99) (m₉ 99)) → P (some (.inl v)) (zov wr_223 m m₉)) : zm X 4 88 223 0 [(0, .inr (.inr (some 94)))] m P := by
  have K : ∀ v m₉, zF wr_223 m m₉ → zV m₉ → (zGW T (m₉ 94 55) (m₉ 109)) → (zGU T (m₉ 94 46) (m₉ 99)) → (zOw (m₉ 99) (m₉ 103) (m₉ 111)) → (zDX (m₉ 94 10) (m₉ 99) (m₉ 112) (m₉ 113) (m₉ 114) (m₉ 94 55) (m₉ 98) (m₉ 101) (m₉ 102) (m₉ 108)) → (zGG (m₉ 94 58) (m₉ 94 56) (m₉ 94 57) (m₉ 106)) → ((m₉ 94 58).toInt = 0 ∨ ((m₉ 94 58).toInt = 1 ∧ (m₉ 94 57).toInt < (m₉ 94 56).toInt ∧ (m₉ 94 57).toInt = (m 94 57).toInt)) → (zUs (m 99) (m₉ 99)) → P (some (.inl v)) m₉ := by
    intro v m₉ hf z q0 q1 q2 q3 q4 q5 q6
    have e := zov_eq hf
    rw [e] at z ⊢
    try rw [e] at q0
    try rw [e] at q1
    try rw [e] at q2
    try rw [e] at q3
    try rw [e] at q4
    try rw [e] at q5
    try rw [e] at q6
    exact KZ v m₉ z q0 q1 q2 q3 q4 q5 q6
  refine g_223_0  ?_
  have f1 : 0 ≤ (m 94 10).toInt ∧ (m 94 10).toInt ≤ 6 := rs_94_10 (m := m) hV
  have f2 : 0 ≤ (m 94 58).toInt ∧ (m 94 58).toInt ≤ 1 := rs_94_58 (m := m) hV
  have f3 : 0 ≤ (m 94 56).toInt ∧ (m 94 56).toInt ≤ 3100 := rs_94_56 (m := m) hV
  have f4 : 0 ≤ (m 94 57).toInt ∧ (m 94 57).toInt ≤ 3100 := rs_94_57 (m := m) hV
  refine zd (fun (h5 : (m 94 56) ≤ (m 94 57)) => ?_) (fun (h5 : ¬ (m 94 56) ≤ (m 94 57)) => ?_)
  · skip
    have g6 := i_le h5
    have f7 : 0 ≤ (m 94 9).toInt ∧ (m 94 9).toInt ≤ 1 := rs_94_9 (m := m) hV
    have li8 : (0 : Int32).toInt = 0 := rfl
    refine zd (fun (h9 : (m 94 9) = (0 : Int32)) => ?_) (fun (h9 : ¬ (m 94 9) = (0 : Int32)) => ?_)
    · skip
      have g10 := i_eq h9
      refine sp_220  hV r_G1 (fun m1 hV_m1 p0_m1 p1_m1 => zmv_n ?_)
      have p0_m1 : zG1 (m1 94 56) (m 94 57) (m1 106) := p0_m1
      have p1_m1 : (m 94 56).toInt ≤ (m1 94 56).toInt := p1_m1
      have f11 : 0 ≤ (m1 94 56).toInt ∧ (m1 94 56).toInt ≤ 3100 := rs_94_56 (m := (zov wr_220 m m1)) hV_m1
      refine zd (fun (h12 : (m1 94 56) ≤ (m 94 57)) => ?_) (fun (h12 : ¬ (m1 94 56) ≤ (m 94 57)) => ?_)
      · skip
        have g13 := i_le h12
        have hV14 : zV (ma_u (zov wr_220 m m1) 94 47 ((m 94 47) + (1 : Int32))) := uf_94_47 hV_m1
        exact lp_223uw_49 hV K _ _ ((0 : Int32)) rfl (zF_u (zF_zov zF_rfl ws_220_223) rfl) hV14 (by omega) r_W r_GW r_GU r_OW r_DX (show (m 94 10).toInt = 5 from by omega) (show (m 94 57).toInt = (m 94 57).toInt from by omega) (show zUs (m 99) (m 99) from by first | (exact Us_rfl) | (exact Us_w0 Us_rfl) | (exact Us_rfl) | (exfalso; omega; done) | (exfalso; contradiction; done))
      · skip
        have g15 := i_nle h12
        exact K ((0 : Int32)) _ (zF_zov zF_rfl ws_220_223) hV_m1 r_GW r_GU r_OW r_DX (show zGG (m 94 58) (m1 94 56) (m 94 57) (m1 106) from by first | (exact fun _ => p0_m1) | (exact fun z => absurd z (by decide)) | (exact fun z => absurd z (by omega)) | (exfalso; omega; done) | (exfalso; contradiction; done)) (show (m 94 58).toInt = 0 ∨ ((m 94 58).toInt = 1 ∧ (m 94 57).toInt < (m1 94 56).toInt ∧ (m 94 57).toInt = (m 94 57).toInt) from by omega) (show zUs (m 99) (m 99) from by first | (exact Us_rfl) | (exact Us_w0 Us_rfl) | (exact Us_rfl) | (exfalso; omega; done) | (exfalso; contradiction; done))
    · skip
      have g16 := i_ne h9
      refine zd (fun (h17 : (m 94 56) ≤ (m 94 57)) => ?_) (fun (h17 : ¬ (m 94 56) ≤ (m 94 57)) => ?_)
      · skip
        have g18 := i_le h17
        have hV19 : zV (ma_u m 94 47 ((m 94 47) + (1 : Int32))) := uf_94_47 hV
        exact lp_223uw_49 hV K _ _ ((0 : Int32)) rfl (zF_u zF_rfl rfl) hV19 (by omega) r_W r_GW r_GU r_OW r_DX (show (m 94 10).toInt = 5 from by omega) (show (m 94 57).toInt = (m 94 57).toInt from by omega) (show zUs (m 99) (m 99) from by first | (exact Us_rfl) | (exact Us_w0 Us_rfl) | (exact Us_rfl) | (exfalso; omega; done) | (exfalso; contradiction; done))
      · skip
        have g20 := i_nle h17
        exact K ((0 : Int32)) _ zF_rfl hV r_GW r_GU r_OW r_DX (show zGG (m 94 58) (m 94 56) (m 94 57) (m 106) from by first | (exact fun _ => r_G1) | (exact fun z => absurd z (by decide)) | (exact fun z => absurd z (by omega)) | (exfalso; omega; done) | (exfalso; contradiction; done)) (show (m 94 58).toInt = 0 ∨ ((m 94 58).toInt = 1 ∧ (m 94 57).toInt < (m 94 56).toInt ∧ (m 94 57).toInt = (m 94 57).toInt) from by omega) (show zUs (m 99) (m 99) from by first | (exact Us_rfl) | (exact Us_w0 Us_rfl) | (exact Us_rfl) | (exfalso; omega; done) | (exfalso; contradiction; done))
  · skip
    have g21 := i_nle h5
    have li22 : (0 : Int32).toInt = 0 := rfl
    exact K ((0 : Int32)) _ zF_rfl hV r_GW r_GU r_OW r_DX (show zGG (m 94 58) (m 94 56) (m 94 57) (m 106) from by first | (exact fun _ => r_G1) | (exact fun z => absurd z (by decide)) | (exact fun z => absurd z (by omega)) | (exfalso; omega; done) | (exfalso; contradiction; done)) (show (m 94 58).toInt = 0 ∨ ((m 94 58).toInt = 1 ∧ (m 94 57).toInt < (m 94 56).toInt ∧ (m 94 57).toInt = (m 94 57).toInt) from by omega) (show zUs (m 99) (m 99) from by first | (exact Us_rfl) | (exact Us_w0 Us_rfl) | (exact Us_rfl) | (exfalso; omega; done) | (exfalso; contradiction; done))
theorem lp_230uw_2 {X : Nat × (Nat → Int32)} {P : Option ma_V → (Nat → Nat → Int32) → Prop} {T : Nat} {m0 : Nat → Nat → Int32} (h0 : zV m0) (K : ∀ v m₉, zF wr_230 m0 m₉ → zV m₉ → (zGW T (m₉ 94 55) (m₉ 109)) → (zGU T (m₉ 94 46) (m₉ 99)) → (zOw (m₉ 99) (m₉ 103) (m₉ 111)) → (zDX (m₉ 94 10) (m₉ 99) (m₉ 112) (m₉ 113) (m₉ 114) (m₉ 94 55) (m₉ 98) (m₉ 101) (m₉ 102) (m₉ 108)) → (zGG (m₉ 94 58) (m₉ 94 56) (m₉ 94 57) (m₉ 106)) → ((m₉ 94 58).toInt = 0) → (zUs (m0 99) (m₉ 99)) → P (some (.inl v)) m₉) : ∀ (n : Nat) (m : Nat → Nat → Int32) (l1 : Int32), ((zfm (m 94 58) (m 94 57) (m 94 56) : Int)).toNat = n → zF wr_230 m0 m → zV m → (zW (m 94 7) (m 98) (m 101) (m 102) (m 108)) → (zGW T (m 94 55) (m 109)) → (zGU T (m 94 46) (m 99)) → (zOw (m 99) (m 103) (m 111)) → (zDX (m 94 10) (m 99) (m 112) (m 113) (m 114) (m 94 55) (m 98) (m 101) (m 102) (m 108)) → (zGG (m 94 58) (m 94 56) (m 94 57) (m 106)) → ((m 94 10).toInt = 5) → (zUs (m0 99) (m 99)) → zm X 5 109 230 2 [(0, .inr (.inr (some 94))), (1, .inl l1)] m P := by
  intro n
  induction n using Nat.strongRecOn with
  | _ n IH =>
    intro m l1 hmu hF hV r_W r_GW r_GU r_OW r_DX r_GG hi6 r_UQs
    refine g_230_2 l1 ?_
    have f1 : 0 ≤ (m 94 10).toInt ∧ (m 94 10).toInt ≤ 6 := rs_94_10 (m := m) hV
    have f2 : 0 ≤ (m 94 58).toInt ∧ (m 94 58).toInt ≤ 1 := rs_94_58 (m := m) hV
    have li3 : (0 : Int32).toInt = 0 := rfl
    refine zd (fun (h4 : (m 94 58) = (0 : Int32)) => ?_) (fun (h4 : ¬ (m 94 58) = (0 : Int32)) => ?_)
    · skip
      have g5 := i_eq h4
      try have g0 := (r_GG (by omega)).1
      have b6 := i_bd l1
      exact K (l1) _ hF hV r_GW r_GU r_OW r_DX r_GG (show (m 94 58).toInt = 0 from by omega) r_UQs
    · skip
      have g7 := i_ne h4
      have li8 : (3100 : Int32).toInt = 3100 := rfl
      refine sp_222 ((3100 : Int32)) hV r_W (show zG1 (m 94 56) (m 94 57) (m 106) from by first | (exact G1_0 (by omega) (by omega)) | (exact r_GG (by omega)) | (exfalso; omega; done) | (exfalso; contradiction; done)) (fun v2 m1 hV_m1 p0_m1 p1_m1 p2_m1 => zmi_n ?_)
      have p0_m1 : zG1 (m1 94 56) (m1 94 57) (m1 106) := p0_m1
      have p1_m1 : (m 94 56).toInt ≤ (m1 94 56).toInt := p1_m1
      have p2_m1 : (m 94 57).toInt ≤ (m1 94 57).toInt ∧ ((m1 94 56).toInt ≤ (m1 94 57).toInt ∨ (m 94 57).toInt + (3100 : Int32).toInt ≤ (m1 94 57).toInt) := p2_m1
      have f9 : 0 ≤ (m 94 56).toInt ∧ (m 94 56).toInt ≤ 3100 := rs_94_56 (m := m) hV
      have f10 : 0 ≤ (m1 94 56).toInt ∧ (m1 94 56).toInt ≤ 3100 := rs_94_56 (m := (zov wr_222 m m1)) hV_m1
      have f11 : 0 ≤ (m 94 57).toInt ∧ (m 94 57).toInt ≤ 3100 := rs_94_57 (m := m) hV
      have f12 : 0 ≤ (m1 94 57).toInt ∧ (m1 94 57).toInt ≤ 3100 := rs_94_57 (m := (zov wr_222 m m1)) hV_m1
      refine sp_223uw  hV_m1 r_W r_GW r_GU r_OW r_DX p0_m1 (show (m 94 10).toInt = 5 from by omega) (show (m 94 58).toInt = 1 from by omega) (fun v4 m3 hV_m3 p0_m3 p1_m3 p2_m3 p3_m3 p4_m3 p5_m3 p6_m3 => zmi_n ?_)
      have p0_m3 : zGW T (m3 94 55) (m3 109) := p0_m3
      have p1_m3 : zGU T (m 94 46) (m3 99) := p1_m3
      have p2_m3 : zOw (m3 99) (m 103) (m3 111) := p2_m3
      have p3_m3 : zDX (m 94 10) (m3 99) (m 112) (m3 113) (m3 114) (m3 94 55) (m 98) (m 101) (m 102) (m 108) := p3_m3
      have p4_m3 : zGG (m3 94 58) (m3 94 56) (m1 94 57) (m3 106) := p4_m3
      have p5_m3 : (m3 94 58).toInt = 0 ∨ ((m3 94 58).toInt = 1 ∧ (m1 94 57).toInt < (m3 94 56).toInt ∧ (m1 94 57).toInt = (m1 94 57).toInt) := p5_m3
      have p6_m3 : zUs (m 99) (m3 99) := p6_m3
      have f13 : 0 ≤ (m3 94 58).toInt ∧ (m3 94 58).toInt ≤ 1 := rs_94_58 (m := (zov wr_223 (zov wr_222 m m1) m3)) hV_m3
      have f14 : 0 ≤ (m3 94 56).toInt ∧ (m3 94 56).toInt ≤ 3100 := rs_94_56 (m := (zov wr_223 (zov wr_222 m m1) m3)) hV_m3
      try have g1 := p0_m1.1
      try have g0 := (r_GG (by omega)).1
      have b15 := i_bd l1
      have b16 := i_bd v4
      first | have e17 : (l1 + v4).toInt = l1.toInt + v4.toInt := i_add (by omega) (by omega) | have b18 := i_bd (l1 + v4)
      exact IH ((zfm (m3 94 58) (m1 94 57) (m3 94 56) : Int)).toNat (by have zq := zfm_lt (im := m 94 58) (ga := m 94 57) (gm := m 94 56) (im₉ := (m3 94 58)) (ga₉ := (m1 94 57)) (gm₉ := (m3 94 56)) (by omega) (by omega) (by omega) (by omega); omega) _ ((l1 + v4)) rfl (zF_zov (zF_zov hF ws_222_230) ws_223_230) hV_m3 r_W p0_m3 p1_m3 p2_m3 p3_m3 p4_m3 (show (m 94 10).toInt = 5 from by omega) (show zUs (m0 99) (m3 99) from by first | (exact (Us_tr r_UQs p6_m3)) | (exact Us_w0 (Us_tr r_UQs p6_m3)) | (exact Us_rfl) | (exfalso; omega; done) | (exfalso; contradiction; done))
theorem sp_230uw {X : Nat × (Nat → Int32)} {P : Option ma_V → (Nat → Nat → Int32) → Prop} {T : Nat} {m : Nat → Nat → Int32}  (hV : zV m) (r_W : zW (m 94 7) (m 98) (m 101) (m 102) (m 108)) (r_GW : zGW T (m 94 55) (m 109)) (r_GU : zGU T (m 94 46) (m 99)) (r_OW : zOw (m 99) (m 103) (m 111)) (r_DX : zDX (m 94 10) (m 99) (m 112) (m 113) (m 114) (m 94 55) (m 98) (m 101) (m 102) (m 108)) (r_GG : zGG (m 94 58) (m 94 56) (m 94 57) (m 106)) (hpre6 : (m 94 10).toInt = 5) (KZ : ∀ v m₉, zV (zov wr_230 m m₉) → (zGW T (m₉ 94 55) (m₉ 109)) → (zGU T (m 94 46) (m₉ 99)) → (zOw (m₉ 99) (m 103) (m₉ 111)) → (zDX (m 94 10) (m₉ 99) (m 112) (m₉ 113) (m₉ 114) (m₉ 94 55) (m 98) (m 101) (m 102) (m 108)) → (zGG (m₉ 94 58) (m₉ 94 56) (m₉ 94 57) (m₉ 106)) → ((m₉ 94 58).toInt = 0) → (zUs (m 99) (m₉ 99)) → P (some (.inl v)) (zov wr_230 m m₉)) : zm X 5 109 230 0 [(0, .inr (.inr (some 94)))] m P := by
  have K : ∀ v m₉, zF wr_230 m m₉ → zV m₉ → (zGW T (m₉ 94 55) (m₉ 109)) → (zGU T (m₉ 94 46) (m₉ 99)) → (zOw (m₉ 99) (m₉ 103) (m₉ 111)) → (zDX (m₉ 94 10) (m₉ 99) (m₉ 112) (m₉ 113) (m₉ 114) (m₉ 94 55) (m₉ 98) (m₉ 101) (m₉ 102) (m₉ 108)) → (zGG (m₉ 94 58) (m₉ 94 56) (m₉ 94 57) (m₉ 106)) → ((m₉ 94 58).toInt = 0) → (zUs (m 99) (m₉ 99)) → P (some (.inl v)) m₉ := by
    intro v m₉ hf z q0 q1 q2 q3 q4 q5 q6
    have e := zov_eq hf
    rw [e] at z ⊢
    try rw [e] at q0
    try rw [e] at q1
    try rw [e] at q2
    try rw [e] at q3
    try rw [e] at q4
    try rw [e] at q5
    try rw [e] at q6
    exact KZ v m₉ z q0 q1 q2 q3 q4 q5 q6
  refine g_230_0  ?_
  have f1 : 0 ≤ (m 94 10).toInt ∧ (m 94 10).toInt ≤ 6 := rs_94_10 (m := m) hV
  try have g0 := (r_GG (by omega)).1
  have li2 : (0 : Int32).toInt = 0 := rfl
  have f3 : 0 ≤ (m 94 58).toInt ∧ (m 94 58).toInt ≤ 1 := rs_94_58 (m := m) hV
  have f4 : 0 ≤ (m 94 57).toInt ∧ (m 94 57).toInt ≤ 3100 := rs_94_57 (m := m) hV
  have f5 : 0 ≤ (m 94 56).toInt ∧ (m 94 56).toInt ≤ 3100 := rs_94_56 (m := m) hV
  exact lp_230uw_2 hV K _ _ ((0 : Int32)) rfl zF_rfl hV r_W r_GW r_GU r_OW r_DX r_GG (show (m 94 10).toInt = 5 from by omega) (show zUs (m 99) (m 99) from by first | (exact Us_rfl) | (exact Us_w0 Us_rfl) | (exact Us_rfl) | (exfalso; omega; done) | (exfalso; contradiction; done))
theorem sp_229uw {X : Nat × (Nat → Int32)} {P : Option ma_V → (Nat → Nat → Int32) → Prop} {T : Nat} {m : Nat → Nat → Int32}  (hV : zV m) (r_W : zW (m 94 7) (m 98) (m 101) (m 102) (m 108)) (r_GW : zGW T (m 94 55) (m 109)) (r_GU : zGU T (m 94 46) (m 99)) (r_OW : zOw (m 99) (m 103) (m 111)) (r_DX : zDX (m 94 10) (m 99) (m 112) (m 113) (m 114) (m 94 55) (m 98) (m 101) (m 102) (m 108)) (hpre5 : (m 94 10).toInt = 5) (KZ : ∀ v m₉, zV (zov wr_229 m m₉) → (zGW T (m₉ 94 55) (m₉ 109)) → (zGU T (m 94 46) (m₉ 99)) → (zOw (m₉ 99) (m 103) (m₉ 111)) → (zDX (m 94 10) (m₉ 99) (m 112) (m₉ 113) (m₉ 114) (m₉ 94 55) (m 98) (m 101) (m 102) (m 108)) → (zGG (m₉ 94 58) (m₉ 94 56) (m₉ 94 57) (m₉ 106)) → ((m₉ 94 58).toInt = 0) → (zUs (m 99) (m₉ 99)) → P (some (.inl v)) (zov wr_229 m m₉)) : zm X 6 131 229 0 [(0, .inr (.inr (some 94)))] m P := by
  have K : ∀ v m₉, zF wr_229 m m₉ → zV m₉ → (zGW T (m₉ 94 55) (m₉ 109)) → (zGU T (m₉ 94 46) (m₉ 99)) → (zOw (m₉ 99) (m₉ 103) (m₉ 111)) → (zDX (m₉ 94 10) (m₉ 99) (m₉ 112) (m₉ 113) (m₉ 114) (m₉ 94 55) (m₉ 98) (m₉ 101) (m₉ 102) (m₉ 108)) → (zGG (m₉ 94 58) (m₉ 94 56) (m₉ 94 57) (m₉ 106)) → ((m₉ 94 58).toInt = 0) → (zUs (m 99) (m₉ 99)) → P (some (.inl v)) m₉ := by
    intro v m₉ hf z q0 q1 q2 q3 q4 q5 q6
    have e := zov_eq hf
    rw [e] at z ⊢
    try rw [e] at q0
    try rw [e] at q1
    try rw [e] at q2
    try rw [e] at q3
    try rw [e] at q4
    try rw [e] at q5
    try rw [e] at q6
    exact KZ v m₉ z q0 q1 q2 q3 q4 q5 q6
  refine g_229_0  ?_
  have f1 : 0 ≤ (m 94 10).toInt ∧ (m 94 10).toInt ≤ 6 := rs_94_10 (m := m) hV
  refine sp_219  hV  (fun m1 hV_m1 p0_m1 p1_m1 => zmv_n ?_)
  have p0_m1 : zG1 (m1 94 56) (m1 94 57) (m1 106) := p0_m1
  have p1_m1 : (m1 94 58).toInt = 1 := p1_m1
  have f2 : 0 ≤ (m1 94 58).toInt ∧ (m1 94 58).toInt ≤ 1 := rs_94_58 (m := (zov wr_219 m m1)) hV_m1
  refine sp_230uw  hV_m1 r_W r_GW r_GU r_OW r_DX (show zGG (m1 94 58) (m1 94 56) (m1 94 57) (m1 106) from by first | (exact fun _ => p0_m1) | (exact fun z => absurd z (by decide)) | (exact fun z => absurd z (by omega)) | (exfalso; omega; done) | (exfalso; contradiction; done)) (show (m 94 10).toInt = 5 from by omega) (fun v4 m3 hV_m3 p0_m3 p1_m3 p2_m3 p3_m3 p4_m3 p5_m3 p6_m3 => zmi_n ?_)
  have p0_m3 : zGW T (m3 94 55) (m3 109) := p0_m3
  have p1_m3 : zGU T (m 94 46) (m3 99) := p1_m3
  have p2_m3 : zOw (m3 99) (m 103) (m3 111) := p2_m3
  have p3_m3 : zDX (m 94 10) (m3 99) (m 112) (m3 113) (m3 114) (m3 94 55) (m 98) (m 101) (m 102) (m 108) := p3_m3
  have p4_m3 : zGG (m3 94 58) (m3 94 56) (m3 94 57) (m3 106) := p4_m3
  have p5_m3 : (m3 94 58).toInt = 0 := p5_m3
  have p6_m3 : zUs (m 99) (m3 99) := p6_m3
  have f3 : 0 ≤ (m3 94 58).toInt ∧ (m3 94 58).toInt ≤ 1 := rs_94_58 (m := (zov wr_230 (zov wr_219 m m1) m3)) hV_m3
  have b4 := i_bd v4
  exact K (v4) _ (zF_zov (zF_zov zF_rfl ws_219_229) ws_230_229) hV_m3 p0_m3 p1_m3 p2_m3 p3_m3 p4_m3 (show (m3 94 58).toInt = 0 from by omega) p6_m3

