/-! from 95.zu11 -/
/-! the reference: who is used, words (written by wip/tools/gen15u.py) -/
theorem sp_252uw {X : Nat × (Nat → Int32)} {P : Option ma_V → (Nat → Nat → Int32) → Prop} {T : Nat} {m : Nat → Nat → Int32} (ix : Int32) (r1 : Int32) (hV : zV m) (r_W : zW (m 94 7) (m 98) (m 101) (m 102) (m 108)) (r_GW : zGW T (m 94 55) (m 109)) (r_GU : zGU T (m 94 46) (m 99)) (r_OW : zOw (m 99) (m 103) (m 111)) (r_DX : zDX (m 94 10) (m 99) (m 112) (m 113) (m 114) (m 94 55) (m 98) (m 101) (m 102) (m 108)) (r_GG : zGG (m 94 58) (m 94 56) (m 94 57) (m 106)) (r_HA : zHA (m 94 10) (m 94 11) (m 94 13) (m 94 14) (m 94 16) (m 94 61) (m 94 59) (m 94 60) (m 99) (m 102) (m 103) (m 111) (m 117) (m 98) (m 101) (m 108)) (r_RGc : zRG (m 94 10) (m 94 18) (m 94 64) (m 94 63) (m 99) (m 103) (m 102) (m 116)) (hpre8 : (m 94 58).toInt = 0 ∨ (m 94 10).toInt = 5) (KZ : ∀ v m₉, zV (zov wr_252 m m₉) → (zW (m 94 7) (m 98) (m 101) (m 102) (m 108)) → (zGW T (m₉ 94 55) (m₉ 109)) → (zGU T (m 94 46) (m₉ 99)) → (zOw (m₉ 99) (m 103) (m₉ 111)) → (zDX (m 94 10) (m₉ 99) (m₉ 112) (m₉ 113) (m₉ 114) (m₉ 94 55) (m 98) (m 101) (m 102) (m 108)) → (zGG (m 94 58) (m₉ 94 56) (m 94 57) (m₉ 106)) → (zHA (m 94 10) (m 94 11) (m 94 13) (m 94 14) (m 94 16) (m 94 61) (m 94 59) (m 94 60) (m₉ 99) (m 102) (m 103) (m₉ 111) (m 117) (m 98) (m 101) (m 108)) → (zRG (m 94 10) (m 94 18) (m 94 64) (m 94 63) (m₉ 99) (m 103) (m 102) (m 116)) → ((m 94 58).toInt = 0 ∨ (m 94 10).toInt = 5) → (zUs (m 99) (m₉ 99)) → P (some (.inl v)) (zov wr_252 m m₉)) : zm X 5 111 252 0 [(0, .inr (.inr (some 94))), (1, .inl ix), (2, .inl r1)] m P := by
  have K : ∀ v m₉, zF wr_252 m m₉ → zV m₉ → (zW (m₉ 94 7) (m₉ 98) (m₉ 101) (m₉ 102) (m₉ 108)) → (zGW T (m₉ 94 55) (m₉ 109)) → (zGU T (m₉ 94 46) (m₉ 99)) → (zOw (m₉ 99) (m₉ 103) (m₉ 111)) → (zDX (m₉ 94 10) (m₉ 99) (m₉ 112) (m₉ 113) (m₉ 114) (m₉ 94 55) (m₉ 98) (m₉ 101) (m₉ 102) (m₉ 108)) → (zGG (m₉ 94 58) (m₉ 94 56) (m₉ 94 57) (m₉ 106)) → (zHA (m₉ 94 10) (m₉ 94 11) (m₉ 94 13) (m₉ 94 14) (m₉ 94 16) (m₉ 94 61) (m₉ 94 59) (m₉ 94 60) (m₉ 99) (m₉ 102) (m₉ 103) (m₉ 111) (m₉ 117) (m₉ 98) (m₉ 101) (m₉ 108)) → (zRG (m₉ 94 10) (m₉ 94 18) (m₉ 94 64) (m₉ 94 63) (m₉ 99) (m₉ 103) (m₉ 102) (m₉ 116)) → ((m₉ 94 58).toInt = 0 ∨ (m₉ 94 10).toInt = 5) → (zUs (m 99) (m₉ 99)) → P (some (.inl v)) m₉ := by
    intro v m₉ hf z q0 q1 q2 q3 q4 q5 q6 q7 q8 q9
    have e := zov_eq hf
    rw [e] at z ⊢
    try rw [e] at q0
    try rw [e] at q1
    try rw [e] at q2
    try rw [e] at q3
    try rw [e] at q4
    try rw [e] at q5
    try rw [e] at q6
    try rw [e] at q7
    try rw [e] at q8
    try rw [e] at q9
    exact KZ v m₉ z q0 q1 q2 q3 q4 q5 q6 q7 q8 q9
  refine g_252_0 ix r1 ?_
  have f1 : 0 ≤ (m 94 58).toInt ∧ (m 94 58).toInt ≤ 1 := rs_94_58 (m := m) hV
  have f2 : 0 ≤ (m 94 10).toInt ∧ (m 94 10).toInt ≤ 6 := rs_94_10 (m := m) hV
  have b3 := i_bd ix
  have li4 : (0 : Int32).toInt = 0 := rfl
  refine zd (fun (h5 : ix < (0 : Int32)) => ?_) (fun (h5 : ¬ ix < (0 : Int32)) => ?_)
  · skip
    have g6 := i_lt h5
    have hV7 : zV (ma_u m 94 0 (1 : Int32)) := uf_94_0 hV
    exact K ((0 : Int32)) _ (zF_u zF_rfl rfl) hV7 r_W r_GW r_GU r_OW r_DX r_GG r_HA r_RGc (show (m 94 58).toInt = 0 ∨ (m 94 10).toInt = 5 from by omega) (show zUs (m 99) (m 99) from by first | (exact Us_rfl) | (exact Us_w0 Us_rfl) | (exact Us_rfl) | (exfalso; omega; done) | (exfalso; contradiction; done))
  · skip
    have g8 := i_nlt h5
    have li9 : (16 : Int32).toInt = 16 := rfl
    refine zd (fun (h10 : (16 : Int32) ≤ ix) => ?_) (fun (h10 : ¬ (16 : Int32) ≤ ix) => ?_)
    · skip
      have g11 := i_le h10
      have hV12 : zV (ma_u m 94 0 (1 : Int32)) := uf_94_0 hV
      exact K ((0 : Int32)) _ (zF_u zF_rfl rfl) hV12 r_W r_GW r_GU r_OW r_DX r_GG r_HA r_RGc (show (m 94 58).toInt = 0 ∨ (m 94 10).toInt = 5 from by omega) (show zUs (m 99) (m 99) from by first | (exact Us_rfl) | (exact Us_w0 Us_rfl) | (exact Us_rfl) | (exfalso; omega; done) | (exfalso; contradiction; done))
    · skip
      have g13 := i_nle h10
      have b14 := i_bd r1
      refine zd (fun (h15 : r1 < (0 : Int32)) => ?_) (fun (h15 : ¬ r1 < (0 : Int32)) => ?_)
      · skip
        have g16 := i_lt h15
        have hV17 : zV (ma_u m 94 0 (1 : Int32)) := uf_94_0 hV
        exact K ((0 : Int32)) _ (zF_u zF_rfl rfl) hV17 r_W r_GW r_GU r_OW r_DX r_GG r_HA r_RGc (show (m 94 58).toInt = 0 ∨ (m 94 10).toInt = 5 from by omega) (show zUs (m 99) (m 99) from by first | (exact Us_rfl) | (exact Us_w0 Us_rfl) | (exact Us_rfl) | (exfalso; omega; done) | (exfalso; contradiction; done))
      · skip
        have g18 := i_nlt h15
        refine zd (fun (h19 : (16 : Int32) ≤ r1) => ?_) (fun (h19 : ¬ (16 : Int32) ≤ r1) => ?_)
        · skip
          have g20 := i_le h19
          have hV21 : zV (ma_u m 94 0 (1 : Int32)) := uf_94_0 hV
          exact K ((0 : Int32)) _ (zF_u zF_rfl rfl) hV21 r_W r_GW r_GU r_OW r_DX r_GG r_HA r_RGc (show (m 94 58).toInt = 0 ∨ (m 94 10).toInt = 5 from by omega) (show zUs (m 99) (m 99) from by first | (exact Us_rfl) | (exact Us_w0 Us_rfl) | (exact Us_rfl) | (exfalso; omega; done) | (exfalso; contradiction; done))
        · skip
          have g22 := i_nle h19
          have f23 : 0 ≤ (m 94 8).toInt ∧ (m 94 8).toInt ≤ 1 := rs_94_8 (m := m) hV
          refine zd (fun (h24 : (m 94 8) = (0 : Int32)) => ?_) (fun (h24 : ¬ (m 94 8) = (0 : Int32)) => ?_)
          · skip
            have g25 := i_eq h24
            have hV26 : zV (ma_u m 94 0 (2 : Int32)) := uf_94_0 hV
            exact K ((0 : Int32)) _ (zF_u zF_rfl rfl) hV26 r_W r_GW r_GU r_OW r_DX r_GG r_HA r_RGc (show (m 94 58).toInt = 0 ∨ (m 94 10).toInt = 5 from by omega) (show zUs (m 99) (m 99) from by first | (exact Us_rfl) | (exact Us_w0 Us_rfl) | (exact Us_rfl) | (exfalso; omega; done) | (exfalso; contradiction; done))
          · skip
            have g27 := i_ne h24
            have hg28 : (0 ≤ ix ∧ ix.toNatClampNeg < 16) := i_ix (by omega) (by omega)
            refine ⟨hg28, ?_⟩
            first | have f29 : -1 ≤ (m 113 ix.toNatClampNeg).toInt ∧ (m 113 ix.toNatClampNeg).toInt ≤ 3099 := ra_113 (m := m) hV (k := ix.toNatClampNeg) (i_ix (n := 16) (by omega) (by omega)).2 | have b30 := i_bd (m 113 ix.toNatClampNeg)
            refine zd (fun (h31 : (0 : Int32) ≤ (m 113 ix.toNatClampNeg)) => ?_) (fun (h31 : ¬ (0 : Int32) ≤ (m 113 ix.toNatClampNeg)) => ?_)
            · skip
              have g32 := i_le h31
              refine zd (fun (h33 : (m 94 58) = (0 : Int32)) => ?_) (fun (h33 : ¬ (m 94 58) = (0 : Int32)) => ?_)
              · skip
                have g34 := i_eq h33
                have hV35 : zV (ma_u m 94 0 (0 : Int32)) := uf_94_0 hV
                refine sp_238uw (r1) ((m 113 ix.toNatClampNeg)) hV35 (by omega) (by omega) (by omega) (by omega) (show ((m 94 10).toInt = 2 ∨ (m 94 10).toInt = 3) → (m 113 ix.toNatClampNeg).toInt < 0 ∨ (m 99) (m 113 ix.toNatClampNeg).toNatClampNeg ≠ 0 from by first | (exact fun hp => (r_DX hp).2.1 ix.toNatClampNeg (by rw [tn_cast (by omega)]; omega)) | (exfalso; omega; done) | (exfalso; contradiction; done)) r_W r_GW r_GU r_OW r_DX r_GG r_HA r_RGc (show (m 94 58).toInt = 0 ∨ (m 94 10).toInt = 5 from by omega) (fun m1 hV_m1 p0_m1 p1_m1 p2_m1 p3_m1 p4_m1 p5_m1 p6_m1 p7_m1 p8_m1 => zmv_n ?_)
                have p0_m1 : zGW T (m1 94 55) (m1 109) := p0_m1
                have p1_m1 : zGU T (m 94 46) (m1 99) := p1_m1
                have p2_m1 : zOw (m1 99) (m 103) (m1 111) := p2_m1
                have p3_m1 : zDX (m 94 10) (m1 99) (m1 112) (m1 113) (m1 114) (m1 94 55) (m 98) (m 101) (m 102) (m 108) := p3_m1
                have p4_m1 : zGG (m 94 58) (m1 94 56) (m 94 57) (m1 106) := p4_m1
                have p5_m1 : zHA (m 94 10) (m 94 11) (m 94 13) (m 94 14) (m 94 16) (m 94 61) (m 94 59) (m 94 60) (m1 99) (m 102) (m 103) (m1 111) (m 117) (m 98) (m 101) (m 108) := p5_m1
                have p6_m1 : zRG (m 94 10) (m 94 18) (m 94 64) (m 94 63) (m1 99) (m 103) (m 102) (m 116) := p6_m1
                have p7_m1 : (m 94 58).toInt = 0 ∨ (m 94 10).toInt = 5 := p7_m1
                have p8_m1 : zUs (m 99) (m1 99) := p8_m1
                have hg36 : (0 ≤ (m 113 ix.toNatClampNeg) ∧ (m 113 ix.toNatClampNeg).toNatClampNeg < 3100) := i_ix (by omega) (by omega)
                refine ⟨hg36, ?_⟩
                first | have f37 : 0 ≤ (m 100 (m 113 ix.toNatClampNeg).toNatClampNeg).toInt ∧ (m 100 (m 113 ix.toNatClampNeg).toNatClampNeg).toInt ≤ 100000 := ra_100 (m := m) hV (k := (m 113 ix.toNatClampNeg).toNatClampNeg) (i_ix (n := 3100) (by omega) (by omega)).2 | have b38 := i_bd (m 100 (m 113 ix.toNatClampNeg).toNatClampNeg)
                exact K ((m 100 (m 113 ix.toNatClampNeg).toNatClampNeg)) _ (zF_zov (zF_u zF_rfl rfl) ws_238_252) hV_m1 r_W p0_m1 p1_m1 p2_m1 p3_m1 p4_m1 p5_m1 p6_m1 (show (m 94 58).toInt = 0 ∨ (m 94 10).toInt = 5 from by omega) p8_m1
              · skip
                have g39 := i_ne h33
                refine zd (fun (h40 : (m 113 ix.toNatClampNeg) < (0 : Int32)) => ?_) (fun (h40 : ¬ (m 113 ix.toNatClampNeg) < (0 : Int32)) => ?_)
                · skip
                  have g41 := i_lt h40
                  have hV42 : zV (ma_u m 94 0 (0 : Int32)) := uf_94_0 hV
                  refine sp_238uw (r1) ((m 113 ix.toNatClampNeg)) hV42 (by omega) (by omega) (by omega) (by omega) (show ((m 94 10).toInt = 2 ∨ (m 94 10).toInt = 3) → (m 113 ix.toNatClampNeg).toInt < 0 ∨ (m 99) (m 113 ix.toNatClampNeg).toNatClampNeg ≠ 0 from by first | (exact fun hp => (r_DX hp).2.1 ix.toNatClampNeg (by rw [tn_cast (by omega)]; omega)) | (exfalso; omega; done) | (exfalso; contradiction; done)) r_W r_GW r_GU r_OW r_DX r_GG r_HA r_RGc (show (m 94 58).toInt = 0 ∨ (m 94 10).toInt = 5 from by omega) (fun m3 hV_m3 p0_m3 p1_m3 p2_m3 p3_m3 p4_m3 p5_m3 p6_m3 p7_m3 p8_m3 => zmv_n ?_)
                  have p0_m3 : zGW T (m3 94 55) (m3 109) := p0_m3
                  have p1_m3 : zGU T (m 94 46) (m3 99) := p1_m3
                  have p2_m3 : zOw (m3 99) (m 103) (m3 111) := p2_m3
                  have p3_m3 : zDX (m 94 10) (m3 99) (m3 112) (m3 113) (m3 114) (m3 94 55) (m 98) (m 101) (m 102) (m 108) := p3_m3
                  have p4_m3 : zGG (m 94 58) (m3 94 56) (m 94 57) (m3 106) := p4_m3
                  have p5_m3 : zHA (m 94 10) (m 94 11) (m 94 13) (m 94 14) (m 94 16) (m 94 61) (m 94 59) (m 94 60) (m3 99) (m 102) (m 103) (m3 111) (m 117) (m 98) (m 101) (m 108) := p5_m3
                  have p6_m3 : zRG (m 94 10) (m 94 18) (m 94 64) (m 94 63) (m3 99) (m 103) (m 102) (m 116) := p6_m3
                  have p7_m3 : (m 94 58).toInt = 0 ∨ (m 94 10).toInt = 5 := p7_m3
                  have p8_m3 : zUs (m 99) (m3 99) := p8_m3
                  have hg43 : (0 ≤ (m 113 ix.toNatClampNeg) ∧ (m 113 ix.toNatClampNeg).toNatClampNeg < 3100) := i_ix (by omega) (by omega)
                  refine ⟨hg43, ?_⟩
                  first | have f44 : 0 ≤ (m 100 (m 113 ix.toNatClampNeg).toNatClampNeg).toInt ∧ (m 100 (m 113 ix.toNatClampNeg).toNatClampNeg).toInt ≤ 100000 := ra_100 (m := m) hV (k := (m 113 ix.toNatClampNeg).toNatClampNeg) (i_ix (n := 3100) (by omega) (by omega)).2 | have b45 := i_bd (m 100 (m 113 ix.toNatClampNeg).toNatClampNeg)
                  exact K ((m 100 (m 113 ix.toNatClampNeg).toNatClampNeg)) _ (zF_zov (zF_u zF_rfl rfl) ws_238_252) hV_m3 r_W p0_m3 p1_m3 p2_m3 p3_m3 p4_m3 p5_m3 p6_m3 (show (m 94 58).toInt = 0 ∨ (m 94 10).toInt = 5 from by omega) p8_m3
                · skip
                  have g46 := i_nlt h40
                  have hg47 : (0 ≤ (m 113 ix.toNatClampNeg) ∧ (m 113 ix.toNatClampNeg).toNatClampNeg < 3100) := i_ix (by omega) (by omega)
                  refine ⟨hg47, ?_⟩
                  have b48 := i_bd (m 106 (m 113 ix.toNatClampNeg).toNatClampNeg)
                  refine zd (fun (h49 : (m 106 (m 113 ix.toNatClampNeg).toNatClampNeg) = (0 : Int32)) => ?_) (fun (h49 : ¬ (m 106 (m 113 ix.toNatClampNeg).toNatClampNeg) = (0 : Int32)) => ?_)
                  · skip
                    have g50 := i_eq h49
                    have hg51 : (0 ≤ (m 113 ix.toNatClampNeg) ∧ (m 113 ix.toNatClampNeg).toNatClampNeg < 3100) := i_ix (by omega) (by omega)
                    refine ⟨hg51, ?_⟩
                    have f52 : 0 ≤ (m 94 56).toInt ∧ (m 94 56).toInt ≤ 3100 := rs_94_56 (m := m) hV
                    try have gk := G1_room (r_GG (by omega)) (by assumption) (by omega)
                    have hg53 : (0 ≤ (m 94 56) ∧ (m 94 56).toNatClampNeg < 3100) := i_ix (by omega) (by omega)
                    refine ⟨hg53, ?_⟩
                    have hV54 : zV (ma_u m 94 0 (0 : Int32)) := uf_94_0 hV
                    have hV55 : zV (ma_u (ma_u m 94 0 (0 : Int32)) 106 (m 113 ix.toNatClampNeg).toNatClampNeg (1 : Int32)) := ua_106 hV54
                    have hV56 : zV (ma_u (ma_u (ma_u m 94 0 (0 : Int32)) 106 (m 113 ix.toNatClampNeg).toNatClampNeg (1 : Int32)) 115 (m 94 56).toNatClampNeg (m 113 ix.toNatClampNeg)) := ua_115 hV55 (by omega) (by omega)
                    first | have e58 : ((m 94 56) + (1 : Int32)).toInt = (m 94 56).toInt + (1) := i_addk rfl (by omega) (by omega) | have b59 := i_bd ((m 94 56) + (1 : Int32))
                    have hV57 : zV (ma_u (ma_u (ma_u (ma_u m 94 0 (0 : Int32)) 106 (m 113 ix.toNatClampNeg).toNatClampNeg (1 : Int32)) 115 (m 94 56).toNatClampNeg (m 113 ix.toNatClampNeg)) 94 56 ((m 94 56) + (1 : Int32))) := us_94_56 hV56 (by omega) (by omega)
                    refine sp_238uw (r1) ((m 113 ix.toNatClampNeg)) hV57 (by omega) (by omega) (by omega) (by omega) (show ((m 94 10).toInt = 2 ∨ (m 94 10).toInt = 3) → (m 113 ix.toNatClampNeg).toInt < 0 ∨ (m 99) (m 113 ix.toNatClampNeg).toNatClampNeg ≠ 0 from by first | (exact fun hp => (r_DX hp).2.1 ix.toNatClampNeg (by rw [tn_cast (by omega)]; omega)) | (exfalso; omega; done) | (exfalso; contradiction; done)) r_W r_GW r_GU r_OW r_DX (show zGG (m 94 58) ((m 94 56) + (1 : Int32)) (m 94 57) ((ma_u m 106 (m 113 ix.toNatClampNeg).toNatClampNeg (1 : Int32)) 106) from by first | (exact fun z => G1_push (r_GG z) (by assumption) (by omega) (by decide) (by assumption)) | (exact fun z => absurd z (by decide)) | (exact fun z => absurd z (by omega)) | (exfalso; omega; done) | (exfalso; contradiction; done)) r_HA r_RGc (show (m 94 58).toInt = 0 ∨ (m 94 10).toInt = 5 from by omega) (fun m5 hV_m5 p0_m5 p1_m5 p2_m5 p3_m5 p4_m5 p5_m5 p6_m5 p7_m5 p8_m5 => zmv_n ?_)
                    have p0_m5 : zGW T (m5 94 55) (m5 109) := p0_m5
                    have p1_m5 : zGU T (m 94 46) (m5 99) := p1_m5
                    have p2_m5 : zOw (m5 99) (m 103) (m5 111) := p2_m5
                    have p3_m5 : zDX (m 94 10) (m5 99) (m5 112) (m5 113) (m5 114) (m5 94 55) (m 98) (m 101) (m 102) (m 108) := p3_m5
                    have p4_m5 : zGG (m 94 58) (m5 94 56) (m 94 57) (m5 106) := p4_m5
                    have p5_m5 : zHA (m 94 10) (m 94 11) (m 94 13) (m 94 14) (m 94 16) (m 94 61) (m 94 59) (m 94 60) (m5 99) (m 102) (m 103) (m5 111) (m 117) (m 98) (m 101) (m 108) := p5_m5
                    have p6_m5 : zRG (m 94 10) (m 94 18) (m 94 64) (m 94 63) (m5 99) (m 103) (m 102) (m 116) := p6_m5
                    have p7_m5 : (m 94 58).toInt = 0 ∨ (m 94 10).toInt = 5 := p7_m5
                    have p8_m5 : zUs (m 99) (m5 99) := p8_m5
                    have hg60 : (0 ≤ (m 113 ix.toNatClampNeg) ∧ (m 113 ix.toNatClampNeg).toNatClampNeg < 3100) := i_ix (by omega) (by omega)
                    refine ⟨hg60, ?_⟩
                    first | have f61 : 0 ≤ (m 100 (m 113 ix.toNatClampNeg).toNatClampNeg).toInt ∧ (m 100 (m 113 ix.toNatClampNeg).toNatClampNeg).toInt ≤ 100000 := ra_100 (m := m) hV (k := (m 113 ix.toNatClampNeg).toNatClampNeg) (i_ix (n := 3100) (by omega) (by omega)).2 | have b62 := i_bd (m 100 (m 113 ix.toNatClampNeg).toNatClampNeg)
                    exact K ((m 100 (m 113 ix.toNatClampNeg).toNatClampNeg)) _ (zF_zov (zF_u (zF_u (zF_u (zF_u zF_rfl rfl) rfl) rfl) rfl) ws_238_252) hV_m5 r_W p0_m5 p1_m5 p2_m5 p3_m5 p4_m5 p5_m5 p6_m5 (show (m 94 58).toInt = 0 ∨ (m 94 10).toInt = 5 from by omega) p8_m5
                  · skip
                    have g63 := i_ne h49
                    have hV64 : zV (ma_u m 94 0 (0 : Int32)) := uf_94_0 hV
                    refine sp_238uw (r1) ((m 113 ix.toNatClampNeg)) hV64 (by omega) (by omega) (by omega) (by omega) (show ((m 94 10).toInt = 2 ∨ (m 94 10).toInt = 3) → (m 113 ix.toNatClampNeg).toInt < 0 ∨ (m 99) (m 113 ix.toNatClampNeg).toNatClampNeg ≠ 0 from by first | (exact fun hp => (r_DX hp).2.1 ix.toNatClampNeg (by rw [tn_cast (by omega)]; omega)) | (exfalso; omega; done) | (exfalso; contradiction; done)) r_W r_GW r_GU r_OW r_DX r_GG r_HA r_RGc (show (m 94 58).toInt = 0 ∨ (m 94 10).toInt = 5 from by omega) (fun m7 hV_m7 p0_m7 p1_m7 p2_m7 p3_m7 p4_m7 p5_m7 p6_m7 p7_m7 p8_m7 => zmv_n ?_)
                    have p0_m7 : zGW T (m7 94 55) (m7 109) := p0_m7
                    have p1_m7 : zGU T (m 94 46) (m7 99) := p1_m7
                    have p2_m7 : zOw (m7 99) (m 103) (m7 111) := p2_m7
                    have p3_m7 : zDX (m 94 10) (m7 99) (m7 112) (m7 113) (m7 114) (m7 94 55) (m 98) (m 101) (m 102) (m 108) := p3_m7
                    have p4_m7 : zGG (m 94 58) (m7 94 56) (m 94 57) (m7 106) := p4_m7
                    have p5_m7 : zHA (m 94 10) (m 94 11) (m 94 13) (m 94 14) (m 94 16) (m 94 61) (m 94 59) (m 94 60) (m7 99) (m 102) (m 103) (m7 111) (m 117) (m 98) (m 101) (m 108) := p5_m7
                    have p6_m7 : zRG (m 94 10) (m 94 18) (m 94 64) (m 94 63) (m7 99) (m 103) (m 102) (m 116) := p6_m7
                    have p7_m7 : (m 94 58).toInt = 0 ∨ (m 94 10).toInt = 5 := p7_m7
                    have p8_m7 : zUs (m 99) (m7 99) := p8_m7
                    have hg65 : (0 ≤ (m 113 ix.toNatClampNeg) ∧ (m 113 ix.toNatClampNeg).toNatClampNeg < 3100) := i_ix (by omega) (by omega)
                    refine ⟨hg65, ?_⟩
                    first | have f66 : 0 ≤ (m 100 (m 113 ix.toNatClampNeg).toNatClampNeg).toInt ∧ (m 100 (m 113 ix.toNatClampNeg).toNatClampNeg).toInt ≤ 100000 := ra_100 (m := m) hV (k := (m 113 ix.toNatClampNeg).toNatClampNeg) (i_ix (n := 3100) (by omega) (by omega)).2 | have b67 := i_bd (m 100 (m 113 ix.toNatClampNeg).toNatClampNeg)
                    exact K ((m 100 (m 113 ix.toNatClampNeg).toNatClampNeg)) _ (zF_zov (zF_u zF_rfl rfl) ws_238_252) hV_m7 r_W p0_m7 p1_m7 p2_m7 p3_m7 p4_m7 p5_m7 p6_m7 (show (m 94 58).toInt = 0 ∨ (m 94 10).toInt = 5 from by omega) p8_m7
            · skip
              have g68 := i_nle h31
              have hV69 : zV (ma_u m 94 0 (0 : Int32)) := uf_94_0 hV
              have li70 : (-1 : Int32).toInt = -1 := rfl
              exact K ((-1 : Int32)) _ (zF_u zF_rfl rfl) hV69 r_W r_GW r_GU r_OW r_DX r_GG r_HA r_RGc (show (m 94 58).toInt = 0 ∨ (m 94 10).toInt = 5 from by omega) (show zUs (m 99) (m 99) from by first | (exact Us_rfl) | (exact Us_w0 Us_rfl) | (exact Us_rfl) | (exfalso; omega; done) | (exfalso; contradiction; done))
theorem lp_255uw_61 {X : Nat × (Nat → Int32)} {P : Option ma_V → (Nat → Nat → Int32) → Prop} {T : Nat} {r1 : Int32} {m0 : Nat → Nat → Int32} (h0 : zV m0) (K : ∀ v m₉, zF wr_255 m0 m₉ → zV m₉ → (zW (m₉ 94 7) (m₉ 98) (m₉ 101) (m₉ 102) (m₉ 108)) → (zGW T (m₉ 94 55) (m₉ 109)) → (zGU T (m₉ 94 46) (m₉ 99)) → (zOw (m₉ 99) (m₉ 103) (m₉ 111)) → (zDX (m₉ 94 10) (m₉ 99) (m₉ 112) (m₉ 113) (m₉ 114) (m₉ 94 55) (m₉ 98) (m₉ 101) (m₉ 102) (m₉ 108)) → (zGG (m₉ 94 58) (m₉ 94 56) (m₉ 94 57) (m₉ 106)) → (zHA (m₉ 94 10) (m₉ 94 11) (m₉ 94 13) (m₉ 94 14) (m₉ 94 16) (m₉ 94 61) (m₉ 94 59) (m₉ 94 60) (m₉ 99) (m₉ 102) (m₉ 103) (m₉ 111) (m₉ 117) (m₉ 98) (m₉ 101) (m₉ 108)) → (zRG (m₉ 94 10) (m₉ 94 18) (m₉ 94 64) (m₉ 94 63) (m₉ 99) (m₉ 103) (m₉ 102) (m₉ 116)) → ((m₉ 94 58).toInt = 0 ∨ (m₉ 94 10).toInt = 5) → (zUs (m0 99) (m₉ 99)) → P (some (.inl v)) m₉) : ∀ (n : Nat) (m : Nat → Nat → Int32) (l1 : Int32) (l2 : Int32) (l3 : Int32), (3100 - l3.toInt).toNat = n → zF wr_255 m0 m → zV m → (0 ≤ l3.toInt) → (0 ≤ l1.toInt) → (l1.toInt ≤ 15) → (l1.toInt = r1.toInt) → (0 ≤ l2.toInt) → (l2.toInt ≤ 3099) → ((m 94 55).toInt ≤ 3099) → (zW (m 94 7) (m 98) (m 101) (m 102) (m 108)) → (zGW T (m 94 55) (m 109)) → (zGU T (m 94 46) (m 99)) → (zOw (m 99) (m 103) (m 111)) → (zDX (m 94 10) (m 99) (m 112) (m 113) (m 114) (m 94 55) (m 98) (m 101) (m 102) (m 108)) → (zGG (m 94 58) (m 94 56) (m 94 57) (m 106)) → (zHA (m 94 10) (m 94 11) (m 94 13) (m 94 14) (m 94 16) (m 94 61) (m 94 59) (m 94 60) (m 99) (m 102) (m 103) (m 111) (m 117) (m 98) (m 101) (m 108)) → (zRG (m 94 10) (m 94 18) (m 94 64) (m 94 63) (m 99) (m 103) (m 102) (m 116)) → ((m 94 58).toInt = 0 ∨ (m 94 10).toInt = 5) → (((m 94 10).toInt = 2 ∨ (m 94 10).toInt = 3) → zcov (m 99) (m 114) ((m 94 55).toInt + 1)) → (((m 94 10).toInt = 2 ∨ (m 94 10).toInt = 3) → l2.toInt < 0 ∨ (m 99) l2.toNatClampNeg ≠ 0) → (zUs (m0 99) (m 99)) → zm X 5 111 255 61 [(0, .inr (.inr (some 94))), (1, .inl l1), (2, .inl l2), (3, .inl l3)] m P := by
  intro n
  induction n using Nat.strongRecOn with
  | _ n IH =>
    intro m l1 l2 l3 hmu hF hV hi0 hi1 hi2 hi3 hi4 hi5 hi6 r_W r_GW r_GU r_OW r_DX r_GG r_HA r_RGc hi15 r_SHc r_S1g r_UQs
    refine g_255_61 l1 l2 l3 ?_
    have f1 : 0 ≤ (m 94 55).toInt ∧ (m 94 55).toInt ≤ 3100 := rs_94_55 (m := m) hV
    have f2 : 0 ≤ (m 94 58).toInt ∧ (m 94 58).toInt ≤ 1 := rs_94_58 (m := m) hV
    have f3 : 0 ≤ (m 94 10).toInt ∧ (m 94 10).toInt ≤ 6 := rs_94_10 (m := m) hV
    have b4 := i_bd l3
    refine zd (fun (h5 : (m 94 55) ≤ l3) => ?_) (fun (h5 : ¬ (m 94 55) ≤ l3) => ?_)
    · skip
      have g6 := i_le h5
      have b7 := i_bd l2
      have hg8 : (0 ≤ l2 ∧ l2.toNatClampNeg < 3100) := i_ix (by omega) (by omega)
      refine ⟨hg8, ?_⟩
      have b9 := i_bd l1
      refine sp_238uw (l1) (l2) hV (by omega) (by omega) (by omega) (by omega) (show ((m 94 10).toInt = 2 ∨ (m 94 10).toInt = 3) → l2.toInt < 0 ∨ (m 99) l2.toNatClampNeg ≠ 0 from by first | (exact r_S1g) | (exfalso; omega; done) | (exfalso; contradiction; done)) r_W r_GW r_GU r_OW r_DX r_GG r_HA r_RGc (show (m 94 58).toInt = 0 ∨ (m 94 10).toInt = 5 from by omega) (fun m1 hV_m1 p0_m1 p1_m1 p2_m1 p3_m1 p4_m1 p5_m1 p6_m1 p7_m1 p8_m1 => zmv_n ?_)
      have p0_m1 : zGW T (m1 94 55) (m1 109) := p0_m1
      have p1_m1 : zGU T (m 94 46) (m1 99) := p1_m1
      have p2_m1 : zOw (m1 99) (m 103) (m1 111) := p2_m1
      have p3_m1 : zDX (m 94 10) (m1 99) (m1 112) (m1 113) (m1 114) (m1 94 55) (m 98) (m 101) (m 102) (m 108) := p3_m1
      have p4_m1 : zGG (m 94 58) (m1 94 56) (m 94 57) (m1 106) := p4_m1
      have p5_m1 : zHA (m 94 10) (m 94 11) (m 94 13) (m 94 14) (m 94 16) (m 94 61) (m 94 59) (m 94 60) (m1 99) (m 102) (m 103) (m1 111) (m 117) (m 98) (m 101) (m 108) := p5_m1
      have p6_m1 : zRG (m 94 10) (m 94 18) (m 94 64) (m 94 63) (m1 99) (m 103) (m 102) (m 116) := p6_m1
      have p7_m1 : (m 94 58).toInt = 0 ∨ (m 94 10).toInt = 5 := p7_m1
      have p8_m1 : zUs (m 99) (m1 99) := p8_m1
      refine sp_241uw (l2) hV_m1 (by omega) r_W p0_m1 p1_m1 p2_m1 p3_m1 (fun m3 hV_m3 p0_m3 p1_m3 p2_m3 p3_m3 p4_m3 p5_m3 => zmv_n ?_)
      have p0_m3 : zGW T (m3 94 55) (m3 109) := p0_m3
      have p1_m3 : zGU T (m 94 46) (m3 99) := p1_m3
      have p2_m3 : zOw (m3 99) (m 103) (m3 111) := p2_m3
      have p3_m3 : zDX (m 94 10) (m3 99) (m1 112) (m3 113) (m3 114) (m3 94 55) (m 98) (m 101) (m 102) (m 108) := p3_m3
      have p4_m3 : (m 94 10).toInt ≠ 4 → ((m3 99) = (m1 99) ∧ (m3 111) = (m1 111) ∧ (m3 113) = (m1 113) ∧ (m3 114) = (m1 114) ∧ (m3 94 55) = (m1 94 55) ∧ (m3 109) = (m1 109)) := p4_m3
      have p5_m3 : zUs (m1 99) (m3 99) := p5_m3
      first | have f10 : 0 ≤ (m 100 l2.toNatClampNeg).toInt ∧ (m 100 l2.toNatClampNeg).toInt ≤ 100000 := ra_100 (m := m) hV (k := l2.toNatClampNeg) (i_ix (n := 3100) (by omega) (by omega)).2 | have b11 := i_bd (m 100 l2.toNatClampNeg)
      exact K ((m 100 l2.toNatClampNeg)) _ (zF_zov (zF_zov hF ws_238_255) ws_241_255) hV_m3 r_W p0_m3 p1_m3 p2_m3 p3_m3 p4_m1 (show zHA (m 94 10) (m 94 11) (m 94 13) (m 94 14) (m 94 16) (m 94 61) (m 94 59) (m 94 60) (m3 99) (m 102) (m 103) (m3 111) (m 117) (m 98) (m 101) (m 108) from by first | (exact HA_lq p5_m1 (fun z => ⟨(p4_m3 z).1, (p4_m3 z).2.1⟩)) | (exfalso; omega; done) | (exfalso; contradiction; done)) (show zRG (m 94 10) (m 94 18) (m 94 64) (m 94 63) (m3 99) (m 103) (m 102) (m 116) from by first | (exact RG_lq p6_m1 (fun z => (p4_m3 z).1)) | (exfalso; omega; done) | (exfalso; contradiction; done)) (show (m 94 58).toInt = 0 ∨ (m 94 10).toInt = 5 from by omega) (show zUs (m0 99) (m3 99) from by first | (exact (Us_tr (Us_tr r_UQs p8_m1) p5_m3)) | (exact Us_w0 (Us_tr (Us_tr r_UQs p8_m1) p5_m3)) | (exact Us_rfl) | (exfalso; omega; done) | (exfalso; contradiction; done))
    · skip
      have g12 := i_nle h5
      first | have e13 : (l3 + (1 : Int32)).toInt = l3.toInt + (1) := i_addk rfl (by omega) (by omega) | have b14 := i_bd (l3 + (1 : Int32))
      have hg15 : (0 ≤ (l3 + (1 : Int32)) ∧ (l3 + (1 : Int32)).toNatClampNeg < 3100) := i_ix (by omega) (by omega)
      refine ⟨hg15, ?_⟩
      have hg16 : (0 ≤ l3 ∧ l3.toNatClampNeg < 3100) := i_ix (by omega) (by omega)
      refine ⟨hg16, ?_⟩
      first | have f18 : 0 ≤ (m 114 (l3 + (1 : Int32)).toNatClampNeg).toInt ∧ (m 114 (l3 + (1 : Int32)).toNatClampNeg).toInt ≤ 3099 := ra_114 (m := m) hV (k := (l3 + (1 : Int32)).toNatClampNeg) (i_ix (n := 3100) (by omega) (by omega)).2 | have b19 := i_bd (m 114 (l3 + (1 : Int32)).toNatClampNeg)
      have hV17 : zV (ma_u m 114 l3.toNatClampNeg (m 114 (l3 + (1 : Int32)).toNatClampNeg)) := ua_114 hV (by omega) (by omega)
      have b20 := i_bd l1
      have b21 := i_bd l2
      exact IH (3100 - (l3 + (1 : Int32)).toInt).toNat (by omega) _ (l1) (l2) ((l3 + (1 : Int32))) rfl (zF_u hF rfl) hV17 (by omega) (by omega) (by omega) (by omega) (by omega) (by omega) (show (m 94 55).toInt ≤ 3099 from by omega) r_W r_GW r_GU r_OW (show zDX (m 94 10) (m 99) (m 112) (m 113) ((ma_u m 114 l3.toNatClampNeg (m 114 (l3 + (1 : Int32)).toNatClampNeg)) 114) (m 94 55) (m 98) (m 101) (m 102) (m 108) from by first | (exact fun hp => ⟨(r_DX hp).1, (r_DX hp).2.1, cov_cut (cov_set (r_SHc hp) ((r_SHc hp) _ (by rw [tn_cast (by omega)]; omega))) (by omega), (r_DX hp).2.2.2⟩) | (exfalso; omega; done) | (exfalso; contradiction; done)) r_GG r_HA r_RGc (show (m 94 58).toInt = 0 ∨ (m 94 10).toInt = 5 from by omega) (show ((m 94 10).toInt = 2 ∨ (m 94 10).toInt = 3) → zcov (m 99) ((ma_u m 114 l3.toNatClampNeg (m 114 (l3 + (1 : Int32)).toNatClampNeg)) 114) ((m 94 55).toInt + 1) from by first | (exact fun hp => cov_set (r_SHc hp) ((r_SHc hp) _ (by rw [tn_cast (by omega)]; omega))) | (exfalso; omega; done) | (exfalso; contradiction; done)) r_S1g r_UQs
theorem sp_255uw {X : Nat × (Nat → Int32)} {P : Option ma_V → (Nat → Nat → Int32) → Prop} {T : Nat} {m : Nat → Nat → Int32} (r1 : Int32) (hV : zV m) (r_W : zW (m 94 7) (m 98) (m 101) (m 102) (m 108)) (r_GW : zGW T (m 94 55) (m 109)) (r_GU : zGU T (m 94 46) (m 99)) (r_OW : zOw (m 99) (m 103) (m 111)) (r_DX : zDX (m 94 10) (m 99) (m 112) (m 113) (m 114) (m 94 55) (m 98) (m 101) (m 102) (m 108)) (r_GG : zGG (m 94 58) (m 94 56) (m 94 57) (m 106)) (r_HA : zHA (m 94 10) (m 94 11) (m 94 13) (m 94 14) (m 94 16) (m 94 61) (m 94 59) (m 94 60) (m 99) (m 102) (m 103) (m 111) (m 117) (m 98) (m 101) (m 108)) (r_RGc : zRG (m 94 10) (m 94 18) (m 94 64) (m 94 63) (m 99) (m 103) (m 102) (m 116)) (hpre8 : (m 94 58).toInt = 0 ∨ (m 94 10).toInt = 5) (KZ : ∀ v m₉, zV (zov wr_255 m m₉) → (zW (m 94 7) (m 98) (m 101) (m 102) (m 108)) → (zGW T (m₉ 94 55) (m₉ 109)) → (zGU T (m 94 46) (m₉ 99)) → (zOw (m₉ 99) (m 103) (m₉ 111)) → (zDX (m 94 10) (m₉ 99) (m₉ 112) (m₉ 113) (m₉ 114) (m₉ 94 55) (m 98) (m 101) (m 102) (m 108)) → (zGG (m 94 58) (m₉ 94 56) (m 94 57) (m₉ 106)) → (zHA (m 94 10) (m 94 11) (m 94 13) (m 94 14) (m 94 16) (m 94 61) (m 94 59) (m 94 60) (m₉ 99) (m 102) (m 103) (m₉ 111) (m 117) (m 98) (m 101) (m 108)) → (zRG (m 94 10) (m 94 18) (m 94 64) (m 94 63) (m₉ 99) (m 103) (m 102) (m 116)) → ((m 94 58).toInt = 0 ∨ (m 94 10).toInt = 5) → (zUs (m 99) (m₉ 99)) → P (some (.inl v)) (zov wr_255 m m₉)) : zm X 5 111 255 0 [(0, .inr (.inr (some 94))), (1, .inl r1)] m P := by
  have K : ∀ v m₉, zF wr_255 m m₉ → zV m₉ → (zW (m₉ 94 7) (m₉ 98) (m₉ 101) (m₉ 102) (m₉ 108)) → (zGW T (m₉ 94 55) (m₉ 109)) → (zGU T (m₉ 94 46) (m₉ 99)) → (zOw (m₉ 99) (m₉ 103) (m₉ 111)) → (zDX (m₉ 94 10) (m₉ 99) (m₉ 112) (m₉ 113) (m₉ 114) (m₉ 94 55) (m₉ 98) (m₉ 101) (m₉ 102) (m₉ 108)) → (zGG (m₉ 94 58) (m₉ 94 56) (m₉ 94 57) (m₉ 106)) → (zHA (m₉ 94 10) (m₉ 94 11) (m₉ 94 13) (m₉ 94 14) (m₉ 94 16) (m₉ 94 61) (m₉ 94 59) (m₉ 94 60) (m₉ 99) (m₉ 102) (m₉ 103) (m₉ 111) (m₉ 117) (m₉ 98) (m₉ 101) (m₉ 108)) → (zRG (m₉ 94 10) (m₉ 94 18) (m₉ 94 64) (m₉ 94 63) (m₉ 99) (m₉ 103) (m₉ 102) (m₉ 116)) → ((m₉ 94 58).toInt = 0 ∨ (m₉ 94 10).toInt = 5) → (zUs (m 99) (m₉ 99)) → P (some (.inl v)) m₉ := by
    intro v m₉ hf z q0 q1 q2 q3 q4 q5 q6 q7 q8 q9
    have e := zov_eq hf
    rw [e] at z ⊢
    try rw [e] at q0
    try rw [e] at q1
    try rw [e] at q2
    try rw [e] at q3
    try rw [e] at q4
    try rw [e] at q5
    try rw [e] at q6
    try rw [e] at q7
    try rw [e] at q8
    try rw [e] at q9
    exact KZ v m₉ z q0 q1 q2 q3 q4 q5 q6 q7 q8 q9
  refine g_255_0 r1 ?_
  have f1 : 0 ≤ (m 94 58).toInt ∧ (m 94 58).toInt ≤ 1 := rs_94_58 (m := m) hV
  have f2 : 0 ≤ (m 94 10).toInt ∧ (m 94 10).toInt ≤ 6 := rs_94_10 (m := m) hV
  have b3 := i_bd r1
  have li4 : (0 : Int32).toInt = 0 := rfl
  refine zd (fun (h5 : r1 < (0 : Int32)) => ?_) (fun (h5 : ¬ r1 < (0 : Int32)) => ?_)
  · skip
    have g6 := i_lt h5
    have hV7 : zV (ma_u m 94 0 (1 : Int32)) := uf_94_0 hV
    exact K ((0 : Int32)) _ (zF_u zF_rfl rfl) hV7 r_W r_GW r_GU r_OW r_DX r_GG r_HA r_RGc (show (m 94 58).toInt = 0 ∨ (m 94 10).toInt = 5 from by omega) (show zUs (m 99) (m 99) from by first | (exact Us_rfl) | (exact Us_w0 Us_rfl) | (exact Us_rfl) | (exfalso; omega; done) | (exfalso; contradiction; done))
  · skip
    have g8 := i_nlt h5
    have li9 : (16 : Int32).toInt = 16 := rfl
    refine zd (fun (h10 : (16 : Int32) ≤ r1) => ?_) (fun (h10 : ¬ (16 : Int32) ≤ r1) => ?_)
    · skip
      have g11 := i_le h10
      have hV12 : zV (ma_u m 94 0 (1 : Int32)) := uf_94_0 hV
      exact K ((0 : Int32)) _ (zF_u zF_rfl rfl) hV12 r_W r_GW r_GU r_OW r_DX r_GG r_HA r_RGc (show (m 94 58).toInt = 0 ∨ (m 94 10).toInt = 5 from by omega) (show zUs (m 99) (m 99) from by first | (exact Us_rfl) | (exact Us_w0 Us_rfl) | (exact Us_rfl) | (exfalso; omega; done) | (exfalso; contradiction; done))
    · skip
      have g13 := i_nle h10
      have f14 : 0 ≤ (m 94 8).toInt ∧ (m 94 8).toInt ≤ 1 := rs_94_8 (m := m) hV
      refine zd (fun (h15 : (m 94 8) = (0 : Int32)) => ?_) (fun (h15 : ¬ (m 94 8) = (0 : Int32)) => ?_)
      · skip
        have g16 := i_eq h15
        have hV17 : zV (ma_u m 94 0 (2 : Int32)) := uf_94_0 hV
        exact K ((0 : Int32)) _ (zF_u zF_rfl rfl) hV17 r_W r_GW r_GU r_OW r_DX r_GG r_HA r_RGc (show (m 94 58).toInt = 0 ∨ (m 94 10).toInt = 5 from by omega) (show zUs (m 99) (m 99) from by first | (exact Us_rfl) | (exact Us_w0 Us_rfl) | (exact Us_rfl) | (exfalso; omega; done) | (exfalso; contradiction; done))
      · skip
        have g18 := i_ne h15
        have f19 : 0 ≤ (m 94 55).toInt ∧ (m 94 55).toInt ≤ 3100 := rs_94_55 (m := m) hV
        refine zd (fun (h20 : (m 94 55) = (0 : Int32)) => ?_) (fun (h20 : ¬ (m 94 55) = (0 : Int32)) => ?_)
        · skip
          have g21 := i_eq h20
          have hV22 : zV (ma_u m 94 0 (0 : Int32)) := uf_94_0 hV
          have li23 : (-1 : Int32).toInt = -1 := rfl
          exact K ((-1 : Int32)) _ (zF_u zF_rfl rfl) hV22 r_W r_GW r_GU r_OW r_DX r_GG r_HA r_RGc (show (m 94 58).toInt = 0 ∨ (m 94 10).toInt = 5 from by omega) (show zUs (m 99) (m 99) from by first | (exact Us_rfl) | (exact Us_w0 Us_rfl) | (exact Us_rfl) | (exfalso; omega; done) | (exfalso; contradiction; done))
        · skip
          have g24 := i_ne h20
          have hV25 : zV (ma_u m 94 0 (0 : Int32)) := uf_94_0 hV
          first | have e27 : ((m 94 55) - (1 : Int32)).toInt = (m 94 55).toInt - (1) := i_subk rfl (by omega) (by omega) | have b28 := i_bd ((m 94 55) - (1 : Int32))
          have hV26 : zV (ma_u (ma_u m 94 0 (0 : Int32)) 94 55 ((m 94 55) - (1 : Int32))) := us_94_55 hV25 (by omega) (by omega)
          have f29 : 0 ≤ (m 114 0).toInt ∧ (m 114 0).toInt ≤ 3099 := ra_114 (m := m) hV (k := 0) (by decide)
          exact lp_255uw_61 (r1 := r1) hV K _ _ (r1) ((m 114 0)) ((0 : Int32)) rfl (zF_u (zF_u zF_rfl rfl) rfl) hV26 (by omega) (by omega) (by omega) (by omega) (by omega) (by omega) (show ((m 94 55) - (1 : Int32)).toInt ≤ 3099 from by omega) r_W (show zGW T ((m 94 55) - (1 : Int32)) (m 109) from by first | (exact GW_le r_GW (by omega)) | (exfalso; omega; done) | (exfalso; contradiction; done)) r_GU r_OW (show zDX (m 94 10) (m 99) (m 112) (m 113) (m 114) ((m 94 55) - (1 : Int32)) (m 98) (m 101) (m 102) (m 108) from by first | (exact fun hp => ⟨(r_DX hp).1, (r_DX hp).2.1, cov_cut ((r_DX hp).2.2.1) (by omega), (r_DX hp).2.2.2⟩) | (exfalso; omega; done) | (exfalso; contradiction; done)) r_GG r_HA r_RGc (show (m 94 58).toInt = 0 ∨ (m 94 10).toInt = 5 from by omega) (show ((m 94 10).toInt = 2 ∨ (m 94 10).toInt = 3) → zcov (m 99) (m 114) (((m 94 55) - (1 : Int32)).toInt + 1) from by first | (exact fun hp => cov_cut ((r_DX hp).2.2.1) (by omega)) | (exfalso; omega; done) | (exfalso; contradiction; done)) (show ((m 94 10).toInt = 2 ∨ (m 94 10).toInt = 3) → (m 114 0).toInt < 0 ∨ (m 99) (m 114 0).toNatClampNeg ≠ 0 from by first | (exact fun hp => (r_DX hp).2.2.1 0 (by omega)) | (exfalso; omega; done) | (exfalso; contradiction; done)) (show zUs (m 99) (m 99) from by first | (exact Us_rfl) | (exact Us_w0 Us_rfl) | (exact Us_rfl) | (exfalso; omega; done) | (exfalso; contradiction; done))

