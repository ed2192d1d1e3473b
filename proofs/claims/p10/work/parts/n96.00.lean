/-! the reference before the first heap -/
theorem sp_181z {X : Nat × (Nat → Int32)} {P : Option ma_V → (Nat → Nat → Int32) → Prop} {T : Nat} {m : Nat → Nat → Int32} (kk : Int32) (r1 : Int32) (hV : zV m) (hpre0 : (m 94 8).toInt = 0) (r_W : zW (m 94 7) (m 98) (m 101) (m 102) (m 108)) (r_GW : zGW T (m 94 55) (m 109)) (KZ : ∀ v m₉, zV (zov wr_181 m m₉) → ((m 94 8).toInt = 0) → (zW (m 94 7) (m 98) (m₉ 101) (m₉ 102) (m₉ 108)) → (zGW T (m₉ 94 55) (m₉ 109)) → P (some (.inl v)) (zov wr_181 m m₉)) : zm X 10 224 181 0 [(0, .inr (.inr (some 94))), (1, .inl kk), (2, .inl r1)] m P := by
  have K : ∀ v m₉, zF wr_181 m m₉ → zV m₉ → ((m₉ 94 8).toInt = 0) → (zW (m₉ 94 7) (m₉ 98) (m₉ 101) (m₉ 102) (m₉ 108)) → (zGW T (m₉ 94 55) (m₉ 109)) → P (some (.inl v)) m₉ := by
    intro v m₉ hf z q0 q1 q2
    have e := zov_eq hf
    rw [e] at z ⊢
    try rw [e] at q0
    try rw [e] at q1
    try rw [e] at q2
    exact KZ v m₉ z q0 q1 q2
  refine g_181_0 kk r1 ?_
  have f1 : 0 ≤ (m 94 8).toInt ∧ (m 94 8).toInt ≤ 1 := rs_94_8 (m := m) hV
  have b2 := i_bd kk
  have li3 : (0 : Int32).toInt = 0 := rfl
  refine zd (fun (h4 : kk < (0 : Int32)) => ?_) (fun (h4 : ¬ kk < (0 : Int32)) => ?_)
  · skip
    have g5 := i_lt h4
    have hV6 : zV (ma_u m 94 0 (1 : Int32)) := uf_94_0 hV
    exact K ((0 : Int32)) _ (zF_u zF_rfl rfl) hV6 (show (m 94 8).toInt = 0 from by omega) r_W r_GW
  · skip
    have g7 := i_nlt h4
    have f8 : 0 ≤ (m 94 7).toInt ∧ (m 94 7).toInt ≤ 16 := rs_94_7 (m := m) hV
    refine zd (fun (h9 : (m 94 7) ≤ kk) => ?_) (fun (h9 : ¬ (m 94 7) ≤ kk) => ?_)
    · skip
      have g10 := i_le h9
      have hV11 : zV (ma_u m 94 0 (1 : Int32)) := uf_94_0 hV
      exact K ((0 : Int32)) _ (zF_u zF_rfl rfl) hV11 (show (m 94 8).toInt = 0 from by omega) r_W r_GW
    · skip
      have g12 := i_nle h9
      have b13 := i_bd r1
      refine zd (fun (h14 : r1 < (0 : Int32)) => ?_) (fun (h14 : ¬ r1 < (0 : Int32)) => ?_)
      · skip
        have g15 := i_lt h14
        have hV16 : zV (ma_u m 94 0 (1 : Int32)) := uf_94_0 hV
        exact K ((0 : Int32)) _ (zF_u zF_rfl rfl) hV16 (show (m 94 8).toInt = 0 from by omega) r_W r_GW
      · skip
        have g17 := i_nlt h14
        have li18 : (16 : Int32).toInt = 16 := rfl
        refine zd (fun (h19 : (16 : Int32) ≤ r1) => ?_) (fun (h19 : ¬ (16 : Int32) ≤ r1) => ?_)
        · skip
          have g20 := i_le h19
          have hV21 : zV (ma_u m 94 0 (1 : Int32)) := uf_94_0 hV
          exact K ((0 : Int32)) _ (zF_u zF_rfl rfl) hV21 (show (m 94 8).toInt = 0 from by omega) r_W r_GW
        · skip
          have g22 := i_nle h19
          refine zd (fun (h23 : (m 94 8) = (0 : Int32)) => ?_) (fun (h23 : ¬ (m 94 8) = (0 : Int32)) => ?_)
          · skip
            have g24 := i_eq h23
            have hV25 : zV (ma_u m 94 0 (2 : Int32)) := uf_94_0 hV
            exact K ((0 : Int32)) _ (zF_u zF_rfl rfl) hV25 (show (m 94 8).toInt = 0 from by omega) r_W r_GW
          · skip
            have g26 := i_ne h23
            have hg27 : (0 ≤ kk ∧ kk.toNatClampNeg < 16) := i_ix (by omega) (by omega)
            refine ⟨hg27, ?_⟩
            first | have f28 : 0 ≤ (m 97 kk.toNatClampNeg).toInt ∧ (m 97 kk.toNatClampNeg).toInt ≤ 8 := ra_97 (m := m) hV (k := kk.toNatClampNeg) (i_ix (n := 16) (by omega) (by omega)).2 | have b29 := i_bd (m 97 kk.toNatClampNeg)
            have hV30 : zV (ma_u m 94 0 (0 : Int32)) := uf_94_0 hV
            have f31 : 0 ≤ (m 94 58).toInt ∧ (m 94 58).toInt ≤ 1 := rs_94_58 (m := m) hV
            have f32 : 0 ≤ (m 94 10).toInt ∧ (m 94 10).toInt ≤ 6 := rs_94_10 (m := m) hV
            refine sp_183 (kk) ((m 97 kk.toNatClampNeg)) (r1) hV30 (by omega) (by omega) (by omega) (by omega) (by omega) (by omega) (by omega) (show 16 ≤ kk.toInt ∨ kk.toInt < (m 94 7).toInt from by omega) r_W r_GW (show zGU T (m 94 46) (m 99) from by first | (exfalso; omega; done) | (exfalso; contradiction; done)) (show zOw (m 99) (m 103) (m 111) from by first | (exfalso; omega; done) | (exfalso; contradiction; done)) (show zDX (m 94 10) (m 99) (m 112) (m 113) (m 114) (m 94 55) (m 98) (m 101) (m 102) (m 108) from by first | (exfalso; omega; done) | (exfalso; contradiction; done)) (show zGG (m 94 58) (m 94 56) (m 94 57) (m 106) from by first | (exact fun z => absurd z (by decide)) | (exact fun z => absurd z (by omega)) | (exfalso; omega; done) | (exfalso; contradiction; done)) (show zHA (m 94 10) (m 94 11) (m 94 13) (m 94 14) (m 94 16) (m 94 61) (m 94 59) (m 94 60) (m 99) (m 102) (m 103) (m 111) (m 117) (m 98) (m 101) (m 108) from by first | (exfalso; omega; done) | (exfalso; contradiction; done)) (show zRG (m 94 10) (m 94 18) (m 94 64) (m 94 63) (m 99) (m 103) (m 102) (m 116) from by first | (exfalso; omega; done) | (exfalso; contradiction; done)) (show (m 94 58).toInt = 0 ∨ (m 94 10).toInt = 5 from by omega) (fun v2 m1 hV_m1 p0_m1 p1_m1 p2_m1 p3_m1 p4_m1 p5_m1 p6_m1 p7_m1 p8_m1 => zmi_n ?_)
            have p0_m1 : zW (m 94 7) (m 98) (m1 101) (m1 102) (m1 108) := p0_m1
            have p1_m1 : zGW (T + 1) (m1 94 55) (m1 109) := p1_m1
            have p2_m1 : zGU (T + 1) (m1 94 46) (m1 99) := p2_m1
            have p3_m1 : zOw (m1 99) (m1 103) (m1 111) := p3_m1
            have p4_m1 : zDX (m 94 10) (m1 99) (m1 112) (m1 113) (m1 114) (m1 94 55) (m 98) (m1 101) (m1 102) (m1 108) := p4_m1
            have p5_m1 : zGG (m1 94 58) (m1 94 56) (m1 94 57) (m1 106) := p5_m1
            have p6_m1 : zHA (m 94 10) (m 94 11) (m 94 13) (m 94 14) (m 94 16) (m1 94 61) (m1 94 59) (m1 94 60) (m1 99) (m1 102) (m1 103) (m1 111) (m1 117) (m 98) (m1 101) (m1 108) := p6_m1
            have p7_m1 : zRG (m 94 10) (m 94 18) (m 94 64) (m1 94 63) (m1 99) (m1 103) (m1 102) (m1 116) := p7_m1
            have p8_m1 : (m1 94 58).toInt = 0 ∨ (m 94 10).toInt = 5 := p8_m1
            have f33 : 0 ≤ (m1 94 58).toInt ∧ (m1 94 58).toInt ≤ 1 := rs_94_58 (m := (zov wr_183 (ma_u m 94 0 (0 : Int32)) m1)) hV_m1
            have b34 := i_bd v2
            exact K (v2) _ (zF_zov (zF_u zF_rfl rfl) ws_183_181) hV_m1 (show (m 94 8).toInt = 0 from by omega) p0_m1 (show zGW T (m1 94 55) (m1 109) from by first | (exfalso; omega; done) | (exfalso; contradiction; done))
theorem sp_243z {X : Nat × (Nat → Int32)} {P : Option ma_V → (Nat → Nat → Int32) → Prop} {T : Nat} {m : Nat → Nat → Int32} (rf : Int32) (nn : Int32) (r1 : Int32) (hV : zV m) (hpre0 : (m 94 8).toInt = 0) (r_W : zW (m 94 7) (m 98) (m 101) (m 102) (m 108)) (r_GW : zGW T (m 94 55) (m 109)) (hpre3 : 0 ≤ rf.toInt) (hpre4 : rf.toInt ≤ 1) (KZ : ∀ v m₉, zV (zov wr_243 m m₉) → ((m 94 8).toInt = 0) → (zW (m 94 7) (m 98) (m₉ 101) (m₉ 102) (m₉ 108)) → (zGW T (m₉ 94 55) (m₉ 109)) → P (some (.inl v)) (zov wr_243 m m₉)) : zm X 10 224 243 0 [(0, .inr (.inr (some 94))), (1, .inl rf), (2, .inl nn), (3, .inl r1)] m P := by
  have K : ∀ v m₉, zF wr_243 m m₉ → zV m₉ → ((m₉ 94 8).toInt = 0) → (zW (m₉ 94 7) (m₉ 98) (m₉ 101) (m₉ 102) (m₉ 108)) → (zGW T (m₉ 94 55) (m₉ 109)) → P (some (.inl v)) m₉ := by
    intro v m₉ hf z q0 q1 q2
    have e := zov_eq hf
    rw [e] at z ⊢
    try rw [e] at q0
    try rw [e] at q1
    try rw [e] at q2
    exact KZ v m₉ z q0 q1 q2
  refine g_243_0 rf nn r1 ?_
  have f1 : 0 ≤ (m 94 8).toInt ∧ (m 94 8).toInt ≤ 1 := rs_94_8 (m := m) hV
  have b2 := i_bd nn
  have li3 : (0 : Int32).toInt = 0 := rfl
  refine zd (fun (h4 : nn < (0 : Int32)) => ?_) (fun (h4 : ¬ nn < (0 : Int32)) => ?_)
  · skip
    have g5 := i_lt h4
    have hV6 : zV (ma_u m 94 0 (1 : Int32)) := uf_94_0 hV
    exact K ((0 : Int32)) _ (zF_u zF_rfl rfl) hV6 (show (m 94 8).toInt = 0 from by omega) r_W r_GW
  · skip
    have g7 := i_nlt h4
    have li8 : (60 : Int32).toInt = 60 := rfl
    refine zd (fun (h9 : (60 : Int32) < nn) => ?_) (fun (h9 : ¬ (60 : Int32) < nn) => ?_)
    · skip
      have g10 := i_lt h9
      have hV11 : zV (ma_u m 94 0 (1 : Int32)) := uf_94_0 hV
      exact K ((0 : Int32)) _ (zF_u zF_rfl rfl) hV11 (show (m 94 8).toInt = 0 from by omega) r_W r_GW
    · skip
      have g12 := i_nlt h9
      have b13 := i_bd r1
      refine zd (fun (h14 : r1 < (0 : Int32)) => ?_) (fun (h14 : ¬ r1 < (0 : Int32)) => ?_)
      · skip
        have g15 := i_lt h14
        have hV16 : zV (ma_u m 94 0 (1 : Int32)) := uf_94_0 hV
        exact K ((0 : Int32)) _ (zF_u zF_rfl rfl) hV16 (show (m 94 8).toInt = 0 from by omega) r_W r_GW
      · skip
        have g17 := i_nlt h14
        have li18 : (16 : Int32).toInt = 16 := rfl
        refine zd (fun (h19 : (16 : Int32) ≤ r1) => ?_) (fun (h19 : ¬ (16 : Int32) ≤ r1) => ?_)
        · skip
          have g20 := i_le h19
          have hV21 : zV (ma_u m 94 0 (1 : Int32)) := uf_94_0 hV
          exact K ((0 : Int32)) _ (zF_u zF_rfl rfl) hV21 (show (m 94 8).toInt = 0 from by omega) r_W r_GW
        · skip
          have g22 := i_nle h19
          refine zd (fun (h23 : (m 94 8) = (0 : Int32)) => ?_) (fun (h23 : ¬ (m 94 8) = (0 : Int32)) => ?_)
          · skip
            have g24 := i_eq h23
            have hV25 : zV (ma_u m 94 0 (2 : Int32)) := uf_94_0 hV
            exact K ((0 : Int32)) _ (zF_u zF_rfl rfl) hV25 (show (m 94 8).toInt = 0 from by omega) r_W r_GW
          · skip
            have g26 := i_ne h23
            have b27 := i_bd rf
            refine zd (fun (h28 : rf = (0 : Int32)) => ?_) (fun (h28 : ¬ rf = (0 : Int32)) => ?_)
            · skip
              have g29 := i_eq h28
              have li30 : (17 : Int32).toInt = 17 := rfl
              have hV31 : zV (ma_u m 94 0 (0 : Int32)) := uf_94_0 hV
              have f32 : 0 ≤ (m 94 7).toInt ∧ (m 94 7).toInt ≤ 16 := rs_94_7 (m := m) hV
              have f33 : 0 ≤ (m 94 58).toInt ∧ (m 94 58).toInt ≤ 1 := rs_94_58 (m := m) hV
              have f34 : 0 ≤ (m 94 10).toInt ∧ (m 94 10).toInt ≤ 6 := rs_94_10 (m := m) hV
              refine sp_183 ((17 : Int32)) (nn) (r1) hV31 (by omega) (by omega) (by omega) (by omega) (by omega) (by omega) (by omega) (show 16 ≤ (17 : Int32).toInt ∨ (17 : Int32).toInt < (m 94 7).toInt from by omega) r_W r_GW (show zGU T (m 94 46) (m 99) from by first | (exfalso; omega; done) | (exfalso; contradiction; done)) (show zOw (m 99) (m 103) (m 111) from by first | (exfalso; omega; done) | (exfalso; contradiction; done)) (show zDX (m 94 10) (m 99) (m 112) (m 113) (m 114) (m 94 55) (m 98) (m 101) (m 102) (m 108) from by first | (exfalso; omega; done) | (exfalso; contradiction; done)) (show zGG (m 94 58) (m 94 56) (m 94 57) (m 106) from by first | (exact fun z => absurd z (by decide)) | (exact fun z => absurd z (by omega)) | (exfalso; omega; done) | (exfalso; contradiction; done)) (show zHA (m 94 10) (m 94 11) (m 94 13) (m 94 14) (m 94 16) (m 94 61) (m 94 59) (m 94 60) (m 99) (m 102) (m 103) (m 111) (m 117) (m 98) (m 101) (m 108) from by first | (exfalso; omega; done) | (exfalso; contradiction; done)) (show zRG (m 94 10) (m 94 18) (m 94 64) (m 94 63) (m 99) (m 103) (m 102) (m 116) from by first | (exfalso; omega; done) | (exfalso; contradiction; done)) (show (m 94 58).toInt = 0 ∨ (m 94 10).toInt = 5 from by omega) (fun v2 m1 hV_m1 p0_m1 p1_m1 p2_m1 p3_m1 p4_m1 p5_m1 p6_m1 p7_m1 p8_m1 => zmi_n ?_)
              have p0_m1 : zW (m 94 7) (m 98) (m1 101) (m1 102) (m1 108) := p0_m1
              have p1_m1 : zGW (T + 1) (m1 94 55) (m1 109) := p1_m1
              have p2_m1 : zGU (T + 1) (m1 94 46) (m1 99) := p2_m1
              have p3_m1 : zOw (m1 99) (m1 103) (m1 111) := p3_m1
              have p4_m1 : zDX (m 94 10) (m1 99) (m1 112) (m1 113) (m1 114) (m1 94 55) (m 98) (m1 101) (m1 102) (m1 108) := p4_m1
              have p5_m1 : zGG (m1 94 58) (m1 94 56) (m1 94 57) (m1 106) := p5_m1
              have p6_m1 : zHA (m 94 10) (m 94 11) (m 94 13) (m 94 14) (m 94 16) (m1 94 61) (m1 94 59) (m1 94 60) (m1 99) (m1 102) (m1 103) (m1 111) (m1 117) (m 98) (m1 101) (m1 108) := p6_m1
              have p7_m1 : zRG (m 94 10) (m 94 18) (m 94 64) (m1 94 63) (m1 99) (m1 103) (m1 102) (m1 116) := p7_m1
              have p8_m1 : (m1 94 58).toInt = 0 ∨ (m 94 10).toInt = 5 := p8_m1
              have f35 : 0 ≤ (m1 94 58).toInt ∧ (m1 94 58).toInt ≤ 1 := rs_94_58 (m := (zov wr_183 (ma_u m 94 0 (0 : Int32)) m1)) hV_m1
              have b36 := i_bd v2
              exact K (v2) _ (zF_zov (zF_u zF_rfl rfl) ws_183_243) hV_m1 (show (m 94 8).toInt = 0 from by omega) p0_m1 (show zGW T (m1 94 55) (m1 109) from by first | (exfalso; omega; done) | (exfalso; contradiction; done))
            · skip
              have g37 := i_ne h28
              have hV38 : zV (ma_u m 94 0 (0 : Int32)) := uf_94_0 hV
              have f39 : 0 ≤ (m 94 7).toInt ∧ (m 94 7).toInt ≤ 16 := rs_94_7 (m := m) hV
              have f40 : 0 ≤ (m 94 58).toInt ∧ (m 94 58).toInt ≤ 1 := rs_94_58 (m := m) hV
              have f41 : 0 ≤ (m 94 10).toInt ∧ (m 94 10).toInt ≤ 6 := rs_94_10 (m := m) hV
              refine sp_183 ((16 : Int32)) (nn) (r1) hV38 (by omega) (by omega) (by omega) (by omega) (by omega) (by omega) (by omega) (show 16 ≤ (16 : Int32).toInt ∨ (16 : Int32).toInt < (m 94 7).toInt from by omega) r_W r_GW (show zGU T (m 94 46) (m 99) from by first | (exfalso; omega; done) | (exfalso; contradiction; done)) (show zOw (m 99) (m 103) (m 111) from by first | (exfalso; omega; done) | (exfalso; contradiction; done)) (show zDX (m 94 10) (m 99) (m 112) (m 113) (m 114) (m 94 55) (m 98) (m 101) (m 102) (m 108) from by first | (exfalso; omega; done) | (exfalso; contradiction; done)) (show zGG (m 94 58) (m 94 56) (m 94 57) (m 106) from by first | (exact fun z => absurd z (by decide)) | (exact fun z => absurd z (by omega)) | (exfalso; omega; done) | (exfalso; contradiction; done)) (show zHA (m 94 10) (m 94 11) (m 94 13) (m 94 14) (m 94 16) (m 94 61) (m 94 59) (m 94 60) (m 99) (m 102) (m 103) (m 111) (m 117) (m 98) (m 101) (m 108) from by first | (exfalso; omega; done) | (exfalso; contradiction; done)) (show zRG (m 94 10) (m 94 18) (m 94 64) (m 94 63) (m 99) (m 103) (m 102) (m 116) from by first | (exfalso; omega; done) | (exfalso; contradiction; done)) (show (m 94 58).toInt = 0 ∨ (m 94 10).toInt = 5 from by omega) (fun v4 m3 hV_m3 p0_m3 p1_m3 p2_m3 p3_m3 p4_m3 p5_m3 p6_m3 p7_m3 p8_m3 => zmi_n ?_)
              have p0_m3 : zW (m 94 7) (m 98) (m3 101) (m3 102) (m3 108) := p0_m3
              have p1_m3 : zGW (T + 1) (m3 94 55) (m3 109) := p1_m3
              have p2_m3 : zGU (T + 1) (m3 94 46) (m3 99) := p2_m3
              have p3_m3 : zOw (m3 99) (m3 103) (m3 111) := p3_m3
              have p4_m3 : zDX (m 94 10) (m3 99) (m3 112) (m3 113) (m3 114) (m3 94 55) (m 98) (m3 101) (m3 102) (m3 108) := p4_m3
              have p5_m3 : zGG (m3 94 58) (m3 94 56) (m3 94 57) (m3 106) := p5_m3
              have p6_m3 : zHA (m 94 10) (m 94 11) (m 94 13) (m 94 14) (m 94 16) (m3 94 61) (m3 94 59) (m3 94 60) (m3 99) (m3 102) (m3 103) (m3 111) (m3 117) (m 98) (m3 101) (m3 108) := p6_m3
              have p7_m3 : zRG (m 94 10) (m 94 18) (m 94 64) (m3 94 63) (m3 99) (m3 103) (m3 102) (m3 116) := p7_m3
              have p8_m3 : (m3 94 58).toInt = 0 ∨ (m 94 10).toInt = 5 := p8_m3
              have f42 : 0 ≤ (m3 94 58).toInt ∧ (m3 94 58).toInt ≤ 1 := rs_94_58 (m := (zov wr_183 (ma_u m 94 0 (0 : Int32)) m3)) hV_m3
              have b43 := i_bd v4
              exact K (v4) _ (zF_zov (zF_u zF_rfl rfl) ws_183_243) hV_m3 (show (m 94 8).toInt = 0 from by omega) p0_m3 (show zGW T (m3 94 55) (m3 109) from by first | (exfalso; omega; done) | (exfalso; contradiction; done))
theorem sp_244z {X : Nat × (Nat → Int32)} {P : Option ma_V → (Nat → Nat → Int32) → Prop} {T : Nat} {m : Nat → Nat → Int32} (ob : Int32) (ix : Int32) (va : Int32) (hV : zV m) (hpre0 : (m 94 8).toInt = 0) (r_W : zW (m 94 7) (m 98) (m 101) (m 102) (m 108)) (r_GW : zGW T (m 94 55) (m 109)) (KZ : ∀ v m₉, zV (zov wr_244 m m₉) → ((m 94 8).toInt = 0) → (zW (m 94 7) (m 98) (m 101) (m 102) (m₉ 108)) → (zGW T (m 94 55) (m 109)) → P (some (.inl v)) (zov wr_244 m m₉)) : zm X 5 109 244 0 [(0, .inr (.inr (some 94))), (1, .inl ob), (2, .inl ix), (3, .inl va)] m P := by
  have K : ∀ v m₉, zF wr_244 m m₉ → zV m₉ → ((m₉ 94 8).toInt = 0) → (zW (m₉ 94 7) (m₉ 98) (m₉ 101) (m₉ 102) (m₉ 108)) → (zGW T (m₉ 94 55) (m₉ 109)) → P (some (.inl v)) m₉ := by
    intro v m₉ hf z q0 q1 q2
    have e := zov_eq hf
    rw [e] at z ⊢
    try rw [e] at q0
    try rw [e] at q1
    try rw [e] at q2
    exact KZ v m₉ z q0 q1 q2
  refine g_244_0 ob ix va ?_
  have f1 : 0 ≤ (m 94 8).toInt ∧ (m 94 8).toInt ≤ 1 := rs_94_8 (m := m) hV
  have li2 : (0 : Int32).toInt = 0 := rfl
  refine zd (fun (h3 : (m 94 8) = (0 : Int32)) => ?_) (fun (h3 : ¬ (m 94 8) = (0 : Int32)) => ?_)
  · skip
    have g4 := i_eq h3
    have hV5 : zV (ma_u m 94 0 (1 : Int32)) := uf_94_0 hV
    exact K ((0 : Int32)) _ (zF_u zF_rfl rfl) hV5 (show (m 94 8).toInt = 0 from by omega) r_W r_GW
  · skip
    have g6 := i_ne h3
    have b7 := i_bd ob
    have hV8 : zV (ma_u m 94 0 (0 : Int32)) := uf_94_0 hV
    refine sp_245 (ob) hV8 r_W (show zDX (m 94 10) (m 99) (m 112) (m 113) (m 114) (m 94 55) (m 98) (m 101) (m 102) (m 108) from by first | (exfalso; omega; done) | (exfalso; contradiction; done)) (fun v2 m1 hV_m1 p0_m1 p1_m1 => zmi_n ?_)
    have p0_m1 : -1 ≤ v2.toInt ∧ v2.toInt ≤ 3099 := p0_m1
    have p1_m1 : v2.toInt < 0 ∨ (m 99) v2.toNatClampNeg ≠ 0 := p1_m1
    have b9 := i_bd v2
    refine zd (fun (h10 : (0 : Int32) ≤ v2) => ?_) (fun (h10 : ¬ (0 : Int32) ≤ v2) => ?_)
    · skip
      have g11 := i_le h10
      have b12 := i_bd ix
      refine zd (fun (h13 : ix < (0 : Int32)) => ?_) (fun (h13 : ¬ ix < (0 : Int32)) => ?_)
      · skip
        have g14 := i_lt h13
        have hV15 : zV (ma_u (zov wr_245 (ma_u m 94 0 (0 : Int32)) m1) 94 0 (3 : Int32)) := uf_94_0 hV_m1
        exact K ((0 : Int32)) _ (zF_u (zF_zov (zF_u zF_rfl rfl) ws_245_244) rfl) hV15 (show (m 94 8).toInt = 0 from by omega) r_W r_GW
      · skip
        have g16 := i_nlt h13
        have hg17 : (0 ≤ v2 ∧ v2.toNatClampNeg < 3100) := i_ix (by omega) (by omega)
        refine ⟨hg17, ?_⟩
        first | have f18 : 0 ≤ (m 102 v2.toNatClampNeg).toInt ∧ (m 102 v2.toNatClampNeg).toInt ≤ 60 := ra_102 (m := m) hV (k := v2.toNatClampNeg) (i_ix (n := 3100) (by omega) (by omega)).2 | have b19 := i_bd (m 102 v2.toNatClampNeg)
        refine zd (fun (h20 : ix < (m 102 v2.toNatClampNeg)) => ?_) (fun (h20 : ¬ ix < (m 102 v2.toNatClampNeg)) => ?_)
        · skip
          have g21 := i_lt h20
          have hg22 : (0 ≤ v2 ∧ v2.toNatClampNeg < 3100) := i_ix (by omega) (by omega)
          refine ⟨hg22, ?_⟩
          first | have f23 : 0 ≤ (m 101 v2.toNatClampNeg).toInt ∧ (m 101 v2.toNatClampNeg).toInt ≤ 17 := ra_101 (m := m) hV (k := v2.toNatClampNeg) (i_ix (n := 3100) (by omega) (by omega)).2 | have b24 := i_bd (m 101 v2.toNatClampNeg)
          have li25 : (16 : Int32).toInt = 16 := rfl
          refine zd (fun (h26 : (m 101 v2.toNatClampNeg) = (16 : Int32)) => ?_) (fun (h26 : ¬ (m 101 v2.toNatClampNeg) = (16 : Int32)) => ?_)
          · skip
            have g27 := i_eq h26
            have hV28 : zV (ma_u (zov wr_245 (ma_u m 94 0 (0 : Int32)) m1) 94 0 (4 : Int32)) := uf_94_0 hV_m1
            exact K ((0 : Int32)) _ (zF_u (zF_zov (zF_u zF_rfl rfl) ws_245_244) rfl) hV28 (show (m 94 8).toInt = 0 from by omega) r_W r_GW
          · skip
            have g29 := i_ne h26
            have hg30 : (0 ≤ v2 ∧ v2.toNatClampNeg < 3100) := i_ix (by omega) (by omega)
            refine ⟨hg30, ?_⟩
            refine zd (fun (h31 : (16 : Int32) ≤ (m 101 v2.toNatClampNeg)) => ?_) (fun (h31 : ¬ (16 : Int32) ≤ (m 101 v2.toNatClampNeg)) => ?_)
            · skip
              have g32 := i_le h31
              have li33 : (60 : Int32).toInt = 60 := rfl
              first | have e34 : (v2 * (60 : Int32)).toInt = v2.toInt * 60 := i_mulk rfl (by omega) (by omega) | have b35 := i_bd (v2 * (60 : Int32))
              first | have e36 : ((v2 * (60 : Int32)) + ix).toInt = (v2 * (60 : Int32)).toInt + ix.toInt := i_add (by omega) (by omega) | have b37 := i_bd ((v2 * (60 : Int32)) + ix)
              have hg38 : (0 ≤ ((v2 * (60 : Int32)) + ix) ∧ ((v2 * (60 : Int32)) + ix).toNatClampNeg < 186000) := i_ix (by omega) (by omega)
              refine ⟨hg38, ?_⟩
              have hg39 : (0 ≤ ((v2 * (60 : Int32)) + ix) ∧ ((v2 * (60 : Int32)) + ix).toNatClampNeg < 186000) := i_ix (by omega) (by omega)
              refine ⟨hg39, ?_⟩
              have hV40 : zV (ma_u (zov wr_245 (ma_u m 94 0 (0 : Int32)) m1) 94 0 (0 : Int32)) := uf_94_0 hV_m1
              have hV41 : zV (ma_u (ma_u (zov wr_245 (ma_u m 94 0 (0 : Int32)) m1) 94 0 (0 : Int32)) 108 ((v2 * (60 : Int32)) + ix).toNatClampNeg va) := ua_108 hV40
              have b42 := i_bd (m 108 ((v2 * (60 : Int32)) + ix).toNatClampNeg)
              exact K ((m 108 ((v2 * (60 : Int32)) + ix).toNatClampNeg)) _ (zF_u (zF_u (zF_zov (zF_u zF_rfl rfl) ws_245_244) rfl) rfl) hV41 (show (m 94 8).toInt = 0 from by omega) (show zW (m 94 7) (m 98) (m 101) (m 102) ((ma_u m 108 ((v2 * (60 : Int32)) + ix).toNatClampNeg va) 108) from by first | (exfalso; omega; done) | (exfalso; contradiction; done)) r_GW
            · skip
              have g43 := i_nle h31
              have hg44 : (0 ≤ v2 ∧ v2.toNatClampNeg < 3100) := i_ix (by omega) (by omega)
              refine ⟨hg44, ?_⟩
              have hg45 : (0 ≤ (m 101 v2.toNatClampNeg) ∧ (m 101 v2.toNatClampNeg).toNatClampNeg < 16) := i_ix (by omega) (by omega)
              refine ⟨hg45, ?_⟩
              have b46 := i_bd (((m 98 (m 101 v2.toNatClampNeg).toNatClampNeg) >>> (ix &&& 31)) &&& (1 : Int32))
              have li47 : (1 : Int32).toInt = 1 := rfl
              refine zd (fun (h48 : (((m 98 (m 101 v2.toNatClampNeg).toNatClampNeg) >>> (ix &&& 31)) &&& (1 : Int32)) = (1 : Int32)) => ?_) (fun (h48 : ¬ (((m 98 (m 101 v2.toNatClampNeg).toNatClampNeg) >>> (ix &&& 31)) &&& (1 : Int32)) = (1 : Int32)) => ?_)
              · skip
                have g49 := i_eq h48
                have hV50 : zV (ma_u (zov wr_245 (ma_u m 94 0 (0 : Int32)) m1) 94 0 (4 : Int32)) := uf_94_0 hV_m1
                exact K ((0 : Int32)) _ (zF_u (zF_zov (zF_u zF_rfl rfl) ws_245_244) rfl) hV50 (show (m 94 8).toInt = 0 from by omega) r_W r_GW
              · skip
                have g51 := i_ne h48
                have li52 : (60 : Int32).toInt = 60 := rfl
                first | have e53 : (v2 * (60 : Int32)).toInt = v2.toInt * 60 := i_mulk rfl (by omega) (by omega) | have b54 := i_bd (v2 * (60 : Int32))
                first | have e55 : ((v2 * (60 : Int32)) + ix).toInt = (v2 * (60 : Int32)).toInt + ix.toInt := i_add (by omega) (by omega) | have b56 := i_bd ((v2 * (60 : Int32)) + ix)
                have hg57 : (0 ≤ ((v2 * (60 : Int32)) + ix) ∧ ((v2 * (60 : Int32)) + ix).toNatClampNeg < 186000) := i_ix (by omega) (by omega)
                refine ⟨hg57, ?_⟩
                have hg58 : (0 ≤ ((v2 * (60 : Int32)) + ix) ∧ ((v2 * (60 : Int32)) + ix).toNatClampNeg < 186000) := i_ix (by omega) (by omega)
                refine ⟨hg58, ?_⟩
                have hV59 : zV (ma_u (zov wr_245 (ma_u m 94 0 (0 : Int32)) m1) 94 0 (0 : Int32)) := uf_94_0 hV_m1
                have hV60 : zV (ma_u (ma_u (zov wr_245 (ma_u m 94 0 (0 : Int32)) m1) 94 0 (0 : Int32)) 108 ((v2 * (60 : Int32)) + ix).toNatClampNeg va) := ua_108 hV59
                have b61 := i_bd (m 108 ((v2 * (60 : Int32)) + ix).toNatClampNeg)
                exact K ((m 108 ((v2 * (60 : Int32)) + ix).toNatClampNeg)) _ (zF_u (zF_u (zF_zov (zF_u zF_rfl rfl) ws_245_244) rfl) rfl) hV60 (show (m 94 8).toInt = 0 from by omega) (show zW (m 94 7) (m 98) (m 101) (m 102) ((ma_u m 108 ((v2 * (60 : Int32)) + ix).toNatClampNeg va) 108) from by first | (exfalso; omega; done) | (exfalso; contradiction; done)) r_GW
        · skip
          have g62 := i_nlt h20
          have hV63 : zV (ma_u (zov wr_245 (ma_u m 94 0 (0 : Int32)) m1) 94 0 (3 : Int32)) := uf_94_0 hV_m1
          exact K ((0 : Int32)) _ (zF_u (zF_zov (zF_u zF_rfl rfl) ws_245_244) rfl) hV63 (show (m 94 8).toInt = 0 from by omega) r_W r_GW
    · skip
      have g64 := i_nle h10
      have hV65 : zV (ma_u (zov wr_245 (ma_u m 94 0 (0 : Int32)) m1) 94 0 (2 : Int32)) := uf_94_0 hV_m1
      exact K ((0 : Int32)) _ (zF_u (zF_zov (zF_u zF_rfl rfl) ws_245_244) rfl) hV65 (show (m 94 8).toInt = 0 from by omega) r_W r_GW
