/-! from 95.zu13 -/
/-! the reference: who is used, words (written by wip/tools/gen15u.py) -/
set_option maxHeartbeats 8000000 in
theorem sp_256uw {X : Nat × (Nat → Int32)} {P : Option ma_V → (Nat → Nat → Int32) → Prop} {T : Nat} {m : Nat → Nat → Int32}  (hV : zV m) (r_W : zW (m 94 7) (m 98) (m 101) (m 102) (m 108)) (r_GW : zGW T (m 94 55) (m 109)) (r_GU : zGU T (m 94 46) (m 99)) (r_OW : zOw (m 99) (m 103) (m 111)) (r_DX : zDX (m 94 10) (m 99) (m 112) (m 113) (m 114) (m 94 55) (m 98) (m 101) (m 102) (m 108)) (r_GG : zGG (m 94 58) (m 94 56) (m 94 57) (m 106)) (r_HA : zHA (m 94 10) (m 94 11) (m 94 13) (m 94 14) (m 94 16) (m 94 61) (m 94 59) (m 94 60) (m 99) (m 102) (m 103) (m 111) (m 117) (m 98) (m 101) (m 108)) (r_RGc : zRG (m 94 10) (m 94 18) (m 94 64) (m 94 63) (m 99) (m 103) (m 102) (m 116)) (hpre8 : (m 94 58).toInt = 0 ∨ (m 94 10).toInt = 5) (KZ : ∀ v m₉, zV (zov wr_256 m m₉) → (zW (m 94 7) (m 98) (m 101) (m 102) (m 108)) → (zGW T (m₉ 94 55) (m₉ 109)) → (zGU T (m 94 46) (m₉ 99)) → (zOw (m₉ 99) (m₉ 103) (m₉ 111)) → (zDX (m 94 10) (m₉ 99) (m 112) (m₉ 113) (m₉ 114) (m₉ 94 55) (m 98) (m 101) (m 102) (m 108)) → (zGG (m₉ 94 58) (m₉ 94 56) (m₉ 94 57) (m₉ 106)) → (zHA (m 94 10) (m 94 11) (m 94 13) (m 94 14) (m 94 16) (m₉ 94 61) (m₉ 94 59) (m₉ 94 60) (m₉ 99) (m 102) (m₉ 103) (m₉ 111) (m₉ 117) (m 98) (m 101) (m 108)) → (zRG (m 94 10) (m 94 18) (m 94 64) (m₉ 94 63) (m₉ 99) (m₉ 103) (m 102) (m₉ 116)) → ((m₉ 94 58).toInt = 0 ∨ (m 94 10).toInt = 5) → (zUs (m 99) (m₉ 99)) → P (some (.inl v)) (zov wr_256 m m₉)) : zm X 7 152 256 0 [(0, .inr (.inr (some 94)))] m P := by
  have K : ∀ v m₉, zF wr_256 m m₉ → zV m₉ → (zW (m₉ 94 7) (m₉ 98) (m₉ 101) (m₉ 102) (m₉ 108)) → (zGW T (m₉ 94 55) (m₉ 109)) → (zGU T (m₉ 94 46) (m₉ 99)) → (zOw (m₉ 99) (m₉ 103) (m₉ 111)) → (zDX (m₉ 94 10) (m₉ 99) (m₉ 112) (m₉ 113) (m₉ 114) (m₉ 94 55) (m₉ 98) (m₉ 101) (m₉ 102) (m₉ 108)) → (zGG (m₉ 94 58) (m₉ 94 56) (m₉ 94 57) (m₉ 106)) → (zHA (m₉ 94 10) (m₉ 94 11) (m₉ 94 13) (m₉ 94 14) (m₉ 94 16) (m₉ 94 61) (m₉ 94 59) (m₉ 94 60) (m₉ 99) (m₉ 102) (m₉ 103) (m₉ 111) (m₉ 117) (m₉ 98) (m₉ 101) (m₉ 108)) → (zRG (m₉ 94 10) (m₉ 94 18) (m₉ 94 64) (m₉ 94 63) (m₉ 99) (m₉ 103) (m₉ 102) (m₉ 116)) → ((m₉ 94 58).toInt = 0 ∨ (m₉ 94 10).toInt = 5) → (zUs (m 99) (m₉ 99)) → P (some (.inl v)) m₉ := by
    intro v m₉ hf z q0 q1 q2 q3 q4 q5 q6 q7 q8 q9
    have e := zov_eq hf
    rw [e] at z ⊢
    try rw [e] at q0
    try rw [e] at q1
    try rw [e] at q2
    try rw [e] at q3
    try rw [e] at q4
    try rw [e] at q5
    try rw [e] at q6
    try rw [e] at q7
    try rw [e] at q8
    try rw [e] at q9
    exact KZ v m₉ z q0 q1 q2 q3 q4 q5 q6 q7 q8 q9
  refine g_256_0  ?_
  have f1 : 0 ≤ (m 94 58).toInt ∧ (m 94 58).toInt ≤ 1 := rs_94_58 (m := m) hV
  have f2 : 0 ≤ (m 94 10).toInt ∧ (m 94 10).toInt ≤ 6 := rs_94_10 (m := m) hV
  have f3 : 0 ≤ (m 94 8).toInt ∧ (m 94 8).toInt ≤ 1 := rs_94_8 (m := m) hV
  have li4 : (0 : Int32).toInt = 0 := rfl
  refine zd (fun (h5 : (m 94 8) = (0 : Int32)) => ?_) (fun (h5 : ¬ (m 94 8) = (0 : Int32)) => ?_)
  · skip
    have g6 := i_eq h5
    have hV7 : zV (ma_u m 94 0 (1 : Int32)) := uf_94_0 hV
    exact K ((0 : Int32)) _ (zF_u zF_rfl rfl) hV7 r_W r_GW r_GU r_OW r_DX r_GG r_HA r_RGc (show (m 94 58).toInt = 0 ∨ (m 94 10).toInt = 5 from by omega) (show zUs (m 99) (m 99) from by first | (exact Us_rfl) | (exact Us_w0 Us_rfl) | (exact Us_rfl) | (exfalso; omega; done) | (exfalso; contradiction; done))
  · skip
    have g8 := i_ne h5
    have li9 : (1 : Int32).toInt = 1 := rfl
    refine zd (fun (h10 : (m 94 10) = (1 : Int32)) => ?_) (fun (h10 : ¬ (m 94 10) = (1 : Int32)) => ?_)
    · skip
      have g11 := i_eq h10
      have hV12 : zV (ma_u m 94 0 (0 : Int32)) := uf_94_0 hV
      refine sp_186uw  hV12 r_W r_GW r_GU r_OW r_DX (fun v2 m1 hV_m1 p0_m1 p1_m1 p2_m1 p3_m1 p4_m1 => zmi_n ?_)
      have p0_m1 : zGW T (m1 94 55) (m1 109) := p0_m1
      have p1_m1 : zGU T (m 94 46) (m1 99) := p1_m1
      have p2_m1 : zOw (m1 99) (m1 103) (m1 111) := p2_m1
      have p3_m1 : zDX (m 94 10) (m1 99) (m 112) (m1 113) (m1 114) (m1 94 55) (m 98) (m 101) (m 102) (m 108) := p3_m1
      have p4_m1 : zUs (m 99) (m1 99) := p4_m1
      have b13 := i_bd v2
      exact K (v2) _ (zF_zov (zF_u zF_rfl rfl) ws_186_256) hV_m1 r_W p0_m1 p1_m1 p2_m1 p3_m1 r_GG (show zHA (m 94 10) (m 94 11) (m 94 13) (m 94 14) (m 94 16) (m 94 61) (m1 94 59) (m 94 60) (m1 99) (m 102) (m1 103) (m1 111) (m 117) (m 98) (m 101) (m 108) from by first | (exact ⟨fun z => absurd z (by omega), fun z => absurd z (by omega)⟩) | (exfalso; omega; done) | (exfalso; contradiction; done)) (show zRG (m 94 10) (m 94 18) (m 94 64) (m 94 63) (m1 99) (m1 103) (m 102) (m 116) from by first | (exact fun z => absurd z (by omega)) | (exfalso; omega; done) | (exfalso; contradiction; done)) (show (m 94 58).toInt = 0 ∨ (m 94 10).toInt = 5 from by omega) p4_m1
    · skip
      have g14 := i_ne h10
      have li15 : (2 : Int32).toInt = 2 := rfl
      refine zd (fun (h16 : (m 94 10) = (2 : Int32)) => ?_) (fun (h16 : ¬ (m 94 10) = (2 : Int32)) => ?_)
      · skip
        have g17 := i_eq h16
        have hV18 : zV (ma_u m 94 0 (0 : Int32)) := uf_94_0 hV
        refine sp_206uw  hV18 r_W r_GW r_GU r_OW r_DX r_HA (show (m 94 10).toInt = 2 from by omega) (fun v4 m3 hV_m3 p0_m3 p1_m3 p2_m3 p3_m3 p4_m3 p5_m3 => zmi_n ?_)
        have p0_m3 : zGW T (m3 94 55) (m3 109) := p0_m3
        have p1_m3 : zGU T (m 94 46) (m3 99) := p1_m3
        have p2_m3 : zOw (m3 99) (m3 103) (m3 111) := p2_m3
        have p3_m3 : zDX (m 94 10) (m3 99) (m 112) (m3 113) (m3 114) (m3 94 55) (m 98) (m 101) (m 102) (m 108) := p3_m3
        have p4_m3 : zHA (m 94 10) (m 94 11) (m 94 13) (m 94 14) (m 94 16) (m3 94 61) (m3 94 59) (m3 94 60) (m3 99) (m 102) (m3 103) (m3 111) (m 117) (m 98) (m 101) (m 108) := p4_m3
        have p5_m3 : zUs (m 99) (m3 99) := p5_m3
        have b19 := i_bd v4
        exact K (v4) _ (zF_zov (zF_u zF_rfl rfl) ws_206_256) hV_m3 r_W p0_m3 p1_m3 p2_m3 p3_m3 r_GG p4_m3 (show zRG (m 94 10) (m 94 18) (m 94 64) (m 94 63) (m3 99) (m3 103) (m 102) (m 116) from by first | (exact fun z => absurd z (by omega)) | (exfalso; omega; done) | (exfalso; contradiction; done)) (show (m 94 58).toInt = 0 ∨ (m 94 10).toInt = 5 from by omega) p5_m3
      · skip
        have g20 := i_ne h16
        have li21 : (3 : Int32).toInt = 3 := rfl
        refine zd (fun (h22 : (m 94 10) = (3 : Int32)) => ?_) (fun (h22 : ¬ (m 94 10) = (3 : Int32)) => ?_)
        · skip
          have g23 := i_eq h22
          have hV24 : zV (ma_u m 94 0 (0 : Int32)) := uf_94_0 hV
          refine sp_211uw  hV24 r_W r_GW r_GU r_OW r_DX r_HA (show (m 94 10).toInt = 3 from by omega) (fun v6 m5 hV_m5 p0_m5 p1_m5 p2_m5 p3_m5 p4_m5 p5_m5 => zmi_n ?_)
          have p0_m5 : zGW T (m5 94 55) (m5 109) := p0_m5
          have p1_m5 : zGU T (m 94 46) (m5 99) := p1_m5
          have p2_m5 : zOw (m5 99) (m5 103) (m5 111) := p2_m5
          have p3_m5 : zDX (m 94 10) (m5 99) (m 112) (m5 113) (m5 114) (m5 94 55) (m 98) (m 101) (m 102) (m 108) := p3_m5
          have p4_m5 : zHA (m 94 10) (m 94 11) (m 94 13) (m 94 14) (m 94 16) (m 94 61) (m 94 59) (m5 94 60) (m5 99) (m 102) (m5 103) (m5 111) (m5 117) (m 98) (m 101) (m 108) := p4_m5
          have p5_m5 : zUs (m 99) (m5 99) := p5_m5
          refine sp_214uw  hV_m5 r_W p0_m5 p1_m5 p2_m5 p3_m5 p4_m5 (show (m 94 10).toInt = 3 from by omega) (fun v8 m7 hV_m7 p0_m7 p1_m7 p2_m7 p3_m7 p4_m7 p5_m7 => zmi_n ?_)
          have p0_m7 : zGW T (m7 94 55) (m7 109) := p0_m7
          have p1_m7 : zGU T (m 94 46) (m7 99) := p1_m7
          have p2_m7 : zOw (m7 99) (m7 103) (m7 111) := p2_m7
          have p3_m7 : zDX (m 94 10) (m7 99) (m 112) (m7 113) (m7 114) (m7 94 55) (m 98) (m 101) (m 102) (m 108) := p3_m7
          have p4_m7 : zHA (m 94 10) (m 94 11) (m 94 13) (m 94 14) (m 94 16) (m7 94 61) (m7 94 59) (m7 94 60) (m7 99) (m 102) (m7 103) (m7 111) (m7 117) (m 98) (m 101) (m 108) := p4_m7
          have p5_m7 : zUs (m5 99) (m7 99) := p5_m7
          have b25 := i_bd v6
          have b26 := i_bd v8
          first | have e27 : (v6 + v8).toInt = v6.toInt + v8.toInt := i_add (by omega) (by omega) | have b28 := i_bd (v6 + v8)
          exact K ((v6 + v8)) _ (zF_zov (zF_zov (zF_u zF_rfl rfl) ws_211_256) ws_214_256) hV_m7 r_W p0_m7 p1_m7 p2_m7 p3_m7 r_GG p4_m7 (show zRG (m 94 10) (m 94 18) (m 94 64) (m 94 63) (m7 99) (m7 103) (m 102) (m 116) from by first | (exact fun z => absurd z (by omega)) | (exfalso; omega; done) | (exfalso; contradiction; done)) (show (m 94 58).toInt = 0 ∨ (m 94 10).toInt = 5 from by omega) (show zUs (m 99) (m7 99) from by first | (exact (Us_tr (Us_tr Us_rfl p5_m5) p5_m7)) | (exact Us_w0 (Us_tr (Us_tr Us_rfl p5_m5) p5_m7)) | (exact Us_rfl) | (exfalso; omega; done) | (exfalso; contradiction; done))
        · skip
          have g29 := i_ne h22
          have li30 : (4 : Int32).toInt = 4 := rfl
          refine zd (fun (h31 : (m 94 10) = (4 : Int32)) => ?_) (fun (h31 : ¬ (m 94 10) = (4 : Int32)) => ?_)
          · skip
            have g32 := i_eq h31
            have hV33 : zV (ma_u m 94 0 (0 : Int32)) := uf_94_0 hV
            refine sp_187uw  hV33 r_W r_GW r_GU r_OW r_DX (fun v10 m9 hV_m9 p0_m9 p1_m9 p2_m9 p3_m9 p4_m9 p5_m9 => zmi_n ?_)
            have p0_m9 : zGW T (m9 94 55) (m9 109) := p0_m9
            have p1_m9 : zGU T (m 94 46) (m9 99) := p1_m9
            have p2_m9 : zOw (m9 99) (m 103) (m9 111) := p2_m9
            have p3_m9 : zDX (m 94 10) (m9 99) (m 112) (m9 113) (m9 114) (m9 94 55) (m 98) (m 101) (m 102) (m 108) := p3_m9
            have p4_m9 : zsw (m 99) (m9 99) (m 111) (m9 111) (m 103) := p4_m9
            have p5_m9 : zUs (m 99) (m9 99) := p5_m9
            have b34 := i_bd v10
            exact K (v10) _ (zF_zov (zF_u zF_rfl rfl) ws_187_256) hV_m9 r_W p0_m9 p1_m9 p2_m9 p3_m9 r_GG (show zHA (m 94 10) (m 94 11) (m 94 13) (m 94 14) (m 94 16) (m 94 61) (m 94 59) (m 94 60) (m9 99) (m 102) (m 103) (m9 111) (m 117) (m 98) (m 101) (m 108) from by first | (exact ⟨fun z => absurd z (by omega), fun z => absurd z (by omega)⟩) | (exfalso; omega; done) | (exfalso; contradiction; done)) (show zRG (m 94 10) (m 94 18) (m 94 64) (m 94 63) (m9 99) (m 103) (m 102) (m 116) from by first | (exact fun z => absurd z (by omega)) | (exfalso; omega; done) | (exfalso; contradiction; done)) (show (m 94 58).toInt = 0 ∨ (m 94 10).toInt = 5 from by omega) p5_m9
          · skip
            have g35 := i_ne h31
            have li36 : (5 : Int32).toInt = 5 := rfl
            refine zd (fun (h37 : (m 94 10) = (5 : Int32)) => ?_) (fun (h37 : ¬ (m 94 10) = (5 : Int32)) => ?_)
            · skip
              have g38 := i_eq h37
              refine zd (fun (h39 : (m 94 58) = (0 : Int32)) => ?_) (fun (h39 : ¬ (m 94 58) = (0 : Int32)) => ?_)
              · skip
                have g40 := i_eq h39
                have hV41 : zV (ma_u m 94 0 (0 : Int32)) := uf_94_0 hV
                refine sp_219  hV41  (fun m13 hV_m13 p0_m13 p1_m13 => zmv_n ?_)
                have p0_m13 : zG1 (m13 94 56) (m13 94 57) (m13 106) := p0_m13
                have p1_m13 : (m13 94 58).toInt = 1 := p1_m13
                have f42 : 0 ≤ (m13 94 58).toInt ∧ (m13 94 58).toInt ≤ 1 := rs_94_58 (m := (zov wr_219 (ma_u m 94 0 (0 : Int32)) m13)) hV_m13
                refine sp_230uw  hV_m13 r_W r_GW r_GU r_OW r_DX (show zGG (m13 94 58) (m13 94 56) (m13 94 57) (m13 106) from by first | (exact fun z => absurd z (by omega)) | (exact fun _ => p0_m13) | (exact fun z => absurd z (by decide)) | (exact fun z => absurd z (by omega)) | (exfalso; omega; done) | (exfalso; contradiction; done)) (show (m 94 10).toInt = 5 from by omega) (fun v16 m15 hV_m15 p0_m15 p1_m15 p2_m15 p3_m15 p4_m15 p5_m15 p6_m15 => zmi_n ?_)
                have p0_m15 : zGW T (m15 94 55) (m15 109) := p0_m15
                have p1_m15 : zGU T (m 94 46) (m15 99) := p1_m15
                have p2_m15 : zOw (m15 99) (m 103) (m15 111) := p2_m15
                have p3_m15 : zDX (m 94 10) (m15 99) (m 112) (m15 113) (m15 114) (m15 94 55) (m 98) (m 101) (m 102) (m 108) := p3_m15
                have p4_m15 : zGG (m15 94 58) (m15 94 56) (m15 94 57) (m15 106) := p4_m15
                have p5_m15 : (m15 94 58).toInt = 0 := p5_m15
                have p6_m15 : zUs (m 99) (m15 99) := p6_m15
                have f43 : 0 ≤ (m15 94 58).toInt ∧ (m15 94 58).toInt ≤ 1 := rs_94_58 (m := (zov wr_230 (zov wr_219 (ma_u m 94 0 (0 : Int32)) m13) m15)) hV_m15
                have b44 := i_bd v16
                exact K (v16) _ (zF_zov (zF_zov (zF_u zF_rfl rfl) ws_219_256) ws_230_256) hV_m15 r_W p0_m15 p1_m15 p2_m15 p3_m15 p4_m15 (show zHA (m 94 10) (m 94 11) (m 94 13) (m 94 14) (m 94 16) (m 94 61) (m 94 59) (m 94 60) (m15 99) (m 102) (m 103) (m15 111) (m 117) (m 98) (m 101) (m 108) from by first | (exact ⟨fun z => absurd z (by omega), fun z => absurd z (by omega)⟩) | (exfalso; omega; done) | (exfalso; contradiction; done)) (show zRG (m 94 10) (m 94 18) (m 94 64) (m 94 63) (m15 99) (m 103) (m 102) (m 116) from by first | (exact fun z => absurd z (by omega)) | (exfalso; omega; done) | (exfalso; contradiction; done)) (show (m15 94 58).toInt = 0 ∨ (m 94 10).toInt = 5 from by omega) p6_m15
              · skip
                have g45 := i_ne h39
                have hV46 : zV (ma_u m 94 0 (0 : Int32)) := uf_94_0 hV
                refine sp_230uw  hV46 r_W r_GW r_GU r_OW r_DX r_GG (show (m 94 10).toInt = 5 from by omega) (fun v12 m11 hV_m11 p0_m11 p1_m11 p2_m11 p3_m11 p4_m11 p5_m11 p6_m11 => zmi_n ?_)
                have p0_m11 : zGW T (m11 94 55) (m11 109) := p0_m11
                have p1_m11 : zGU T (m 94 46) (m11 99) := p1_m11
                have p2_m11 : zOw (m11 99) (m 103) (m11 111) := p2_m11
                have p3_m11 : zDX (m 94 10) (m11 99) (m 112) (m11 113) (m11 114) (m11 94 55) (m 98) (m 101) (m 102) (m 108) := p3_m11
                have p4_m11 : zGG (m11 94 58) (m11 94 56) (m11 94 57) (m11 106) := p4_m11
                have p5_m11 : (m11 94 58).toInt = 0 := p5_m11
                have p6_m11 : zUs (m 99) (m11 99) := p6_m11
                have f47 : 0 ≤ (m11 94 58).toInt ∧ (m11 94 58).toInt ≤ 1 := rs_94_58 (m := (zov wr_230 (ma_u m 94 0 (0 : Int32)) m11)) hV_m11
                have b48 := i_bd v12
                exact K (v12) _ (zF_zov (zF_u zF_rfl rfl) ws_230_256) hV_m11 r_W p0_m11 p1_m11 p2_m11 p3_m11 p4_m11 (show zHA (m 94 10) (m 94 11) (m 94 13) (m 94 14) (m 94 16) (m 94 61) (m 94 59) (m 94 60) (m11 99) (m 102) (m 103) (m11 111) (m 117) (m 98) (m 101) (m 108) from by first | (exact ⟨fun z => absurd z (by omega), fun z => absurd z (by omega)⟩) | (exfalso; omega; done) | (exfalso; contradiction; done)) (show zRG (m 94 10) (m 94 18) (m 94 64) (m 94 63) (m11 99) (m 103) (m 102) (m 116) from by first | (exact fun z => absurd z (by omega)) | (exfalso; omega; done) | (exfalso; contradiction; done)) (show (m11 94 58).toInt = 0 ∨ (m 94 10).toInt = 5 from by omega) p6_m11
            · skip
              have g49 := i_ne h37
              have li50 : (6 : Int32).toInt = 6 := rfl
              refine zd (fun (h51 : (m 94 10) = (6 : Int32)) => ?_) (fun (h51 : ¬ (m 94 10) = (6 : Int32)) => ?_)
              · skip
                have g52 := i_eq h51
                have hV53 : zV (ma_u m 94 0 (0 : Int32)) := uf_94_0 hV
                refine sp_235uw  hV53 r_W r_GW r_GU r_OW r_DX (show zRG1 (m 94 18) (m 94 64) (m 94 63) (m 99) (m 103) (m 102) (m 116) from by first | (exact r_RGc (by omega)) | (exfalso; omega; done) | (exfalso; contradiction; done)) (show (m 94 10).toInt = 6 from by omega) (fun v18 m17 hV_m17 p0_m17 p1_m17 p2_m17 p3_m17 p4_m17 p5_m17 => zmi_n ?_)
                have p0_m17 : zGW T (m17 94 55) (m17 109) := p0_m17
                have p1_m17 : zGU T (m 94 46) (m17 99) := p1_m17
                have p2_m17 : zOw (m17 99) (m17 103) (m17 111) := p2_m17
                have p3_m17 : zDX (m 94 10) (m17 99) (m 112) (m17 113) (m17 114) (m17 94 55) (m 98) (m 101) (m 102) (m 108) := p3_m17
                have p4_m17 : zRG1 (m 94 18) (m 94 64) (m17 94 63) (m17 99) (m17 103) (m 102) (m17 116) := p4_m17
                have p5_m17 : zUs (m 99) (m17 99) := p5_m17
                have b54 := i_bd v18
                exact K (v18) _ (zF_zov (zF_u zF_rfl rfl) ws_235_256) hV_m17 r_W p0_m17 p1_m17 p2_m17 p3_m17 r_GG (show zHA (m 94 10) (m 94 11) (m 94 13) (m 94 14) (m 94 16) (m 94 61) (m 94 59) (m 94 60) (m17 99) (m 102) (m17 103) (m17 111) (m 117) (m 98) (m 101) (m 108) from by first | (exact ⟨fun z => absurd z (by omega), fun z => absurd z (by omega)⟩) | (exfalso; omega; done) | (exfalso; contradiction; done)) (show zRG (m 94 10) (m 94 18) (m 94 64) (m17 94 63) (m17 99) (m17 103) (m 102) (m17 116) from by first | (exact fun z => absurd z (by omega)) | (exact fun _ => p4_m17) | (exfalso; omega; done) | (exfalso; contradiction; done)) (show (m 94 58).toInt = 0 ∨ (m 94 10).toInt = 5 from by omega) p5_m17
              · skip
                have g55 := i_ne h51
                have hV56 : zV (ma_u m 94 0 (0 : Int32)) := uf_94_0 hV
                refine sp_187uw  hV56 r_W r_GW r_GU r_OW r_DX (fun v20 m19 hV_m19 p0_m19 p1_m19 p2_m19 p3_m19 p4_m19 p5_m19 => zmi_n ?_)
                have p0_m19 : zGW T (m19 94 55) (m19 109) := p0_m19
                have p1_m19 : zGU T (m 94 46) (m19 99) := p1_m19
                have p2_m19 : zOw (m19 99) (m 103) (m19 111) := p2_m19
                have p3_m19 : zDX (m 94 10) (m19 99) (m 112) (m19 113) (m19 114) (m19 94 55) (m 98) (m 101) (m 102) (m 108) := p3_m19
                have p4_m19 : zsw (m 99) (m19 99) (m 111) (m19 111) (m 103) := p4_m19
                have p5_m19 : zUs (m 99) (m19 99) := p5_m19
                have b57 := i_bd v20
                exact K (v20) _ (zF_zov (zF_u zF_rfl rfl) ws_187_256) hV_m19 r_W p0_m19 p1_m19 p2_m19 p3_m19 r_GG (show zHA (m 94 10) (m 94 11) (m 94 13) (m 94 14) (m 94 16) (m 94 61) (m 94 59) (m 94 60) (m19 99) (m 102) (m 103) (m19 111) (m 117) (m 98) (m 101) (m 108) from by first | (exact ⟨fun z => absurd z (by omega), fun z => absurd z (by omega)⟩) | (exfalso; omega; done) | (exfalso; contradiction; done)) (show zRG (m 94 10) (m 94 18) (m 94 64) (m 94 63) (m19 99) (m 103) (m 102) (m 116) from by first | (exact fun z => absurd z (by omega)) | (exfalso; omega; done) | (exfalso; contradiction; done)) (show (m 94 58).toInt = 0 ∨ (m 94 10).toInt = 5 from by omega) p5_m19
theorem sp_257uw {X : Nat × (Nat → Int32)} {P : Option ma_V → (Nat → Nat → Int32) → Prop} {T : Nat} {m : Nat → Nat → Int32} (nn : Int32) (hV : zV m) (r_W : zW (m 94 7) (m 98) (m 101) (m 102) (m 108)) (r_GW : zGW T (m 94 55) (m 109)) (r_GU : zGU T (m 94 46) (m 99)) (r_OW : zOw (m 99) (m 103) (m 111)) (r_DX : zDX (m 94 10) (m 99) (m 112) (m 113) (m 114) (m 94 55) (m 98) (m 101) (m 102) (m 108)) (r_GG : zGG (m 94 58) (m 94 56) (m 94 57) (m 106)) (r_HA : zHA (m 94 10) (m 94 11) (m 94 13) (m 94 14) (m 94 16) (m 94 61) (m 94 59) (m 94 60) (m 99) (m 102) (m 103) (m 111) (m 117) (m 98) (m 101) (m 108)) (r_RGc : zRG (m 94 10) (m 94 18) (m 94 64) (m 94 63) (m 99) (m 103) (m 102) (m 116)) (hpre8 : (m 94 58).toInt = 0 ∨ (m 94 10).toInt = 5) (KZ : ∀ v m₉, zV (zov wr_257 m m₉) → (zW (m 94 7) (m 98) (m 101) (m 102) (m 108)) → (zGW T (m₉ 94 55) (m₉ 109)) → (zGU T (m 94 46) (m₉ 99)) → (zOw (m₉ 99) (m 103) (m₉ 111)) → (zDX (m 94 10) (m₉ 99) (m 112) (m₉ 113) (m₉ 114) (m₉ 94 55) (m 98) (m 101) (m 102) (m 108)) → (zGG (m₉ 94 58) (m₉ 94 56) (m₉ 94 57) (m₉ 106)) → (zHA (m 94 10) (m 94 11) (m 94 13) (m 94 14) (m 94 16) (m 94 61) (m 94 59) (m 94 60) (m₉ 99) (m 102) (m 103) (m₉ 111) (m 117) (m 98) (m 101) (m 108)) → (zRG (m 94 10) (m 94 18) (m 94 64) (m 94 63) (m₉ 99) (m 103) (m 102) (m 116)) → ((m₉ 94 58).toInt = 0 ∨ (m 94 10).toInt = 5) → (zUs (m 99) (m₉ 99)) → P (some (.inl v)) (zov wr_257 m m₉)) : zm X 5 109 257 0 [(0, .inr (.inr (some 94))), (1, .inl nn)] m P := by
  have K : ∀ v m₉, zF wr_257 m m₉ → zV m₉ → (zW (m₉ 94 7) (m₉ 98) (m₉ 101) (m₉ 102) (m₉ 108)) → (zGW T (m₉ 94 55) (m₉ 109)) → (zGU T (m₉ 94 46) (m₉ 99)) → (zOw (m₉ 99) (m₉ 103) (m₉ 111)) → (zDX (m₉ 94 10) (m₉ 99) (m₉ 112) (m₉ 113) (m₉ 114) (m₉ 94 55) (m₉ 98) (m₉ 101) (m₉ 102) (m₉ 108)) → (zGG (m₉ 94 58) (m₉ 94 56) (m₉ 94 57) (m₉ 106)) → (zHA (m₉ 94 10) (m₉ 94 11) (m₉ 94 13) (m₉ 94 14) (m₉ 94 16) (m₉ 94 61) (m₉ 94 59) (m₉ 94 60) (m₉ 99) (m₉ 102) (m₉ 103) (m₉ 111) (m₉ 117) (m₉ 98) (m₉ 101) (m₉ 108)) → (zRG (m₉ 94 10) (m₉ 94 18) (m₉ 94 64) (m₉ 94 63) (m₉ 99) (m₉ 103) (m₉ 102) (m₉ 116)) → ((m₉ 94 58).toInt = 0 ∨ (m₉ 94 10).toInt = 5) → (zUs (m 99) (m₉ 99)) → P (some (.inl v)) m₉ := by
    intro v m₉ hf z q0 q1 q2 q3 q4 q5 q6 q7 q8 q9
    have e := zov_eq hf
    rw [e] at z ⊢
    try rw [e] at q0
    try rw [e] at q1
    try rw [e] at q2
    try rw [e] at q3
    try rw [e] at q4
    try rw [e] at q5
    try rw [e] at q6
    try rw [e] at q7
    try rw [e] at q8
    try rw [e] at q9
    exact KZ v m₉ z q0 q1 q2 q3 q4 q5 q6 q7 q8 q9
  refine g_257_0 nn ?_
  have f1 : 0 ≤ (m 94 58).toInt ∧ (m 94 58).toInt ≤ 1 := rs_94_58 (m := m) hV
  have f2 : 0 ≤ (m 94 10).toInt ∧ (m 94 10).toInt ≤ 6 := rs_94_10 (m := m) hV
  have b3 := i_bd nn
  have li4 : (0 : Int32).toInt = 0 := rfl
  refine zd (fun (h5 : nn < (0 : Int32)) => ?_) (fun (h5 : ¬ nn < (0 : Int32)) => ?_)
  · skip
    have g6 := i_lt h5
    have hV7 : zV (ma_u m 94 0 (1 : Int32)) := uf_94_0 hV
    exact K ((0 : Int32)) _ (zF_u zF_rfl rfl) hV7 r_W r_GW r_GU r_OW r_DX r_GG r_HA r_RGc (show (m 94 58).toInt = 0 ∨ (m 94 10).toInt = 5 from by omega) (show zUs (m 99) (m 99) from by first | (exact Us_rfl) | (exact Us_w0 Us_rfl) | (exact Us_rfl) | (exfalso; omega; done) | (exfalso; contradiction; done))
  · skip
    have g8 := i_nlt h5
    have li9 : (1000 : Int32).toInt = 1000 := rfl
    refine zd (fun (h10 : nn ≤ (1000 : Int32)) => ?_) (fun (h10 : ¬ nn ≤ (1000 : Int32)) => ?_)
    · skip
      have g11 := i_le h10
      have f12 : 0 ≤ (m 94 8).toInt ∧ (m 94 8).toInt ≤ 1 := rs_94_8 (m := m) hV
      refine zd (fun (h13 : (m 94 8) = (0 : Int32)) => ?_) (fun (h13 : ¬ (m 94 8) = (0 : Int32)) => ?_)
      · skip
        have g14 := i_eq h13
        have hV15 : zV (ma_u m 94 0 (2 : Int32)) := uf_94_0 hV
        exact K ((0 : Int32)) _ (zF_u zF_rfl rfl) hV15 r_W r_GW r_GU r_OW r_DX r_GG r_HA r_RGc (show (m 94 58).toInt = 0 ∨ (m 94 10).toInt = 5 from by omega) (show zUs (m 99) (m 99) from by first | (exact Us_rfl) | (exact Us_w0 Us_rfl) | (exact Us_rfl) | (exfalso; omega; done) | (exfalso; contradiction; done))
      · skip
        have g16 := i_ne h13
        have li17 : (5 : Int32).toInt = 5 := rfl
        refine zd (fun (h18 : (m 94 10) = (5 : Int32)) => ?_) (fun (h18 : ¬ (m 94 10) = (5 : Int32)) => ?_)
        · skip
          have g19 := i_eq h18
          refine zd (fun (h20 : (m 94 58) = (0 : Int32)) => ?_) (fun (h20 : ¬ (m 94 58) = (0 : Int32)) => ?_)
          · skip
            have g21 := i_eq h20
            have hV22 : zV (ma_u m 94 0 (0 : Int32)) := uf_94_0 hV
            exact K ((0 : Int32)) _ (zF_u zF_rfl rfl) hV22 r_W r_GW r_GU r_OW r_DX r_GG r_HA r_RGc (show (m 94 58).toInt = 0 ∨ (m 94 10).toInt = 5 from by omega) (show zUs (m 99) (m 99) from by first | (exact Us_rfl) | (exact Us_w0 Us_rfl) | (exact Us_rfl) | (exfalso; omega; done) | (exfalso; contradiction; done))
          · skip
            have g23 := i_ne h20
            have hV24 : zV (ma_u m 94 0 (0 : Int32)) := uf_94_0 hV
            refine sp_222 (nn) hV24 r_W (show zG1 (m 94 56) (m 94 57) (m 106) from by first | (exact G1_0 (by omega) (by omega)) | (exact r_GG (by omega)) | (exfalso; omega; done) | (exfalso; contradiction; done)) (fun v2 m1 hV_m1 p0_m1 p1_m1 p2_m1 => zmi_n ?_)
            have p0_m1 : zG1 (m1 94 56) (m1 94 57) (m1 106) := p0_m1
            have p1_m1 : (m 94 56).toInt ≤ (m1 94 56).toInt := p1_m1
            have p2_m1 : (m 94 57).toInt ≤ (m1 94 57).toInt ∧ ((m1 94 56).toInt ≤ (m1 94 57).toInt ∨ (m 94 57).toInt + nn.toInt ≤ (m1 94 57).toInt) := p2_m1
            have f25 : 0 ≤ (m 94 56).toInt ∧ (m 94 56).toInt ≤ 3100 := rs_94_56 (m := m) hV
            have f26 : 0 ≤ (m1 94 56).toInt ∧ (m1 94 56).toInt ≤ 3100 := rs_94_56 (m := (zov wr_222 (ma_u m 94 0 (0 : Int32)) m1)) hV_m1
            have f27 : 0 ≤ (m 94 57).toInt ∧ (m 94 57).toInt ≤ 3100 := rs_94_57 (m := m) hV
            have f28 : 0 ≤ (m1 94 57).toInt ∧ (m1 94 57).toInt ≤ 3100 := rs_94_57 (m := (zov wr_222 (ma_u m 94 0 (0 : Int32)) m1)) hV_m1
            refine sp_223uw  hV_m1 r_W r_GW r_GU r_OW r_DX p0_m1 (show (m 94 10).toInt = 5 from by omega) (show (m 94 58).toInt = 1 from by omega) (fun v4 m3 hV_m3 p0_m3 p1_m3 p2_m3 p3_m3 p4_m3 p5_m3 p6_m3 => zmi_n ?_)
            have p0_m3 : zGW T (m3 94 55) (m3 109) := p0_m3
            have p1_m3 : zGU T (m 94 46) (m3 99) := p1_m3
            have p2_m3 : zOw (m3 99) (m 103) (m3 111) := p2_m3
            have p3_m3 : zDX (m 94 10) (m3 99) (m 112) (m3 113) (m3 114) (m3 94 55) (m 98) (m 101) (m 102) (m 108) := p3_m3
            have p4_m3 : zGG (m3 94 58) (m3 94 56) (m1 94 57) (m3 106) := p4_m3
            have p5_m3 : (m3 94 58).toInt = 0 ∨ ((m3 94 58).toInt = 1 ∧ (m1 94 57).toInt < (m3 94 56).toInt ∧ (m1 94 57).toInt = (m1 94 57).toInt) := p5_m3
            have p6_m3 : zUs (m 99) (m3 99) := p6_m3
            have f29 : 0 ≤ (m3 94 58).toInt ∧ (m3 94 58).toInt ≤ 1 := rs_94_58 (m := (zov wr_223 (zov wr_222 (ma_u m 94 0 (0 : Int32)) m1) m3)) hV_m3
            have f30 : 0 ≤ (m3 94 56).toInt ∧ (m3 94 56).toInt ≤ 3100 := rs_94_56 (m := (zov wr_223 (zov wr_222 (ma_u m 94 0 (0 : Int32)) m1) m3)) hV_m3
            have b31 := i_bd v2
            exact K (v2) _ (zF_zov (zF_zov (zF_u zF_rfl rfl) ws_222_257) ws_223_257) hV_m3 r_W p0_m3 p1_m3 p2_m3 p3_m3 p4_m3 (show zHA (m 94 10) (m 94 11) (m 94 13) (m 94 14) (m 94 16) (m 94 61) (m 94 59) (m 94 60) (m3 99) (m 102) (m 103) (m3 111) (m 117) (m 98) (m 101) (m 108) from by first | (exact ⟨fun z => absurd z (by omega), fun z => absurd z (by omega)⟩) | (exfalso; omega; done) | (exfalso; contradiction; done)) (show zRG (m 94 10) (m 94 18) (m 94 64) (m 94 63) (m3 99) (m 103) (m 102) (m 116) from by first | (exact fun z => absurd z (by omega)) | (exfalso; omega; done) | (exfalso; contradiction; done)) (show (m3 94 58).toInt = 0 ∨ (m 94 10).toInt = 5 from by omega) p6_m3
        · skip
          have g32 := i_ne h18
          have hV33 : zV (ma_u m 94 0 (3 : Int32)) := uf_94_0 hV
          exact K ((0 : Int32)) _ (zF_u zF_rfl rfl) hV33 r_W r_GW r_GU r_OW r_DX r_GG r_HA r_RGc (show (m 94 58).toInt = 0 ∨ (m 94 10).toInt = 5 from by omega) (show zUs (m 99) (m 99) from by first | (exact Us_rfl) | (exact Us_w0 Us_rfl) | (exact Us_rfl) | (exfalso; omega; done) | (exfalso; contradiction; done))
    · skip
      have g34 := i_nle h10
      have hV35 : zV (ma_u m 94 0 (1 : Int32)) := uf_94_0 hV
      exact K ((0 : Int32)) _ (zF_u zF_rfl rfl) hV35 r_W r_GW r_GU r_OW r_DX r_GG r_HA r_RGc (show (m 94 58).toInt = 0 ∨ (m 94 10).toInt = 5 from by omega) (show zUs (m 99) (m 99) from by first | (exact Us_rfl) | (exact Us_w0 Us_rfl) | (exact Us_rfl) | (exfalso; omega; done) | (exfalso; contradiction; done))

