/-! the reference before the first heap -/
theorem sp_253z {X : Nat × (Nat → Int32)} {P : Option ma_V → (Nat → Nat → Int32) → Prop} {T : Nat} {m : Nat → Nat → Int32} (ob : Int32) (on : Int32) (hV : zV m) (hpre0 : (m 94 8).toInt = 0) (r_W : zW (m 94 7) (m 98) (m 101) (m 102) (m 108)) (r_GW : zGW T (m 94 55) (m 109)) (KZ : ∀ v m₉, zV (zov wr_253 m m₉) → ((m 94 8).toInt = 0) → (zW (m 94 7) (m 98) (m 101) (m 102) (m 108)) → (zGW T (m₉ 94 55) (m₉ 109)) → P (some (.inl v)) (zov wr_253 m m₉)) : zm X 5 109 253 0 [(0, .inr (.inr (some 94))), (1, .inl ob), (2, .inl on)] m P := by
  have K : ∀ v m₉, zF wr_253 m m₉ → zV m₉ → ((m₉ 94 8).toInt = 0) → (zW (m₉ 94 7) (m₉ 98) (m₉ 101) (m₉ 102) (m₉ 108)) → (zGW T (m₉ 94 55) (m₉ 109)) → P (some (.inl v)) m₉ := by
    intro v m₉ hf z q0 q1 q2
    have e := zov_eq hf
    rw [e] at z ⊢
    try rw [e] at q0
    try rw [e] at q1
    try rw [e] at q2
    exact KZ v m₉ z q0 q1 q2
  refine g_253_0 ob on ?_
  have f1 : 0 ≤ (m 94 8).toInt ∧ (m 94 8).toInt ≤ 1 := rs_94_8 (m := m) hV
  have li2 : (0 : Int32).toInt = 0 := rfl
  refine zd (fun (h3 : (m 94 8) = (0 : Int32)) => ?_) (fun (h3 : ¬ (m 94 8) = (0 : Int32)) => ?_)
  · skip
    have g4 := i_eq h3
    have hV5 : zV (ma_u m 94 0 (1 : Int32)) := uf_94_0 hV
    exact K ((0 : Int32)) _ (zF_u zF_rfl rfl) hV5 (show (m 94 8).toInt = 0 from by omega) r_W r_GW
  · skip
    have g6 := i_ne h3
    have b7 := i_bd ob
    have hV8 : zV (ma_u m 94 0 (0 : Int32)) := uf_94_0 hV
    refine sp_245 (ob) hV8 r_W (show zDX (m 94 10) (m 99) (m 112) (m 113) (m 114) (m 94 55) (m 98) (m 101) (m 102) (m 108) from by first | (exfalso; omega; done) | (exfalso; contradiction; done)) (fun v2 m1 hV_m1 p0_m1 p1_m1 => zmi_n ?_)
    have p0_m1 : -1 ≤ v2.toInt ∧ v2.toInt ≤ 3099 := p0_m1
    have p1_m1 : v2.toInt < 0 ∨ (m 99) v2.toNatClampNeg ≠ 0 := p1_m1
    have b9 := i_bd v2
    refine zd (fun (h10 : (0 : Int32) ≤ v2) => ?_) (fun (h10 : ¬ (0 : Int32) ≤ v2) => ?_)
    · skip
      have g11 := i_le h10
      have f12 : 0 ≤ (m 94 10).toInt ∧ (m 94 10).toInt ≤ 6 := rs_94_10 (m := m) hV
      have li13 : (2 : Int32).toInt = 2 := rfl
      refine zd (fun (h14 : (m 94 10) = (2 : Int32)) => ?_) (fun (h14 : ¬ (m 94 10) = (2 : Int32)) => ?_)
      · skip
        have g15 := i_eq h14
        have hV16 : zV (ma_u (zov wr_245 (ma_u m 94 0 (0 : Int32)) m1) 94 0 (3 : Int32)) := uf_94_0 hV_m1
        exact K ((0 : Int32)) _ (zF_u (zF_zov (zF_u zF_rfl rfl) ws_245_253) rfl) hV16 (show (m 94 8).toInt = 0 from by omega) r_W r_GW
      · skip
        have g17 := i_ne h14
        have li18 : (3 : Int32).toInt = 3 := rfl
        refine zd (fun (h19 : (m 94 10) = (3 : Int32)) => ?_) (fun (h19 : ¬ (m 94 10) = (3 : Int32)) => ?_)
        · skip
          have g20 := i_eq h19
          have hg21 : (0 ≤ v2 ∧ v2.toNatClampNeg < 3100) := i_ix (by omega) (by omega)
          refine ⟨hg21, ?_⟩
          have f22 : 0 ≤ (m 94 14).toInt ∧ (m 94 14).toInt ≤ 1500 := rs_94_14 (m := m) hV
          first | have f23 : 0 ≤ (m 103 v2.toNatClampNeg).toInt ∧ (m 103 v2.toNatClampNeg).toInt ≤ 4599 := ra_103 (m := m) hV (k := v2.toNatClampNeg) (i_ix (n := 3100) (by omega) (by omega)).2 | have b24 := i_bd (m 103 v2.toNatClampNeg)
          refine zd (fun (h25 : (m 94 14) ≤ (m 103 v2.toNatClampNeg)) => ?_) (fun (h25 : ¬ (m 94 14) ≤ (m 103 v2.toNatClampNeg)) => ?_)
          · skip
            have g26 := i_le h25
            have hV27 : zV (ma_u (zov wr_245 (ma_u m 94 0 (0 : Int32)) m1) 94 0 (3 : Int32)) := uf_94_0 hV_m1
            exact K ((0 : Int32)) _ (zF_u (zF_zov (zF_u zF_rfl rfl) ws_245_253) rfl) hV27 (show (m 94 8).toInt = 0 from by omega) r_W r_GW
          · skip
            have g28 := i_nle h25
            have b29 := i_bd on
            refine zd (fun (h30 : on = (0 : Int32)) => ?_) (fun (h30 : ¬ on = (0 : Int32)) => ?_)
            · skip
              have g31 := i_eq h30
              have hg32 : (0 ≤ v2 ∧ v2.toNatClampNeg < 3100) := i_ix (by omega) (by omega)
              refine ⟨hg32, ?_⟩
              have b33 := i_bd (m 107 v2.toNatClampNeg)
              refine zd (fun (h34 : (m 107 v2.toNatClampNeg) = (0 : Int32)) => ?_) (fun (h34 : ¬ (m 107 v2.toNatClampNeg) = (0 : Int32)) => ?_)
              · skip
                have g35 := i_eq h34
                have hV36 : zV (ma_u (zov wr_245 (ma_u m 94 0 (0 : Int32)) m1) 94 0 (3 : Int32)) := uf_94_0 hV_m1
                exact K ((0 : Int32)) _ (zF_u (zF_zov (zF_u zF_rfl rfl) ws_245_253) rfl) hV36 (show (m 94 8).toInt = 0 from by omega) r_W r_GW
              · skip
                have g37 := i_ne h34
                have hg38 : (0 ≤ v2 ∧ v2.toNatClampNeg < 3100) := i_ix (by omega) (by omega)
                refine ⟨hg38, ?_⟩
                refine zd (fun (h39 : on = (0 : Int32)) => ?_) (fun (h39 : ¬ on = (0 : Int32)) => ?_)
                · skip
                  have g40 := i_eq h39
                  have hg41 : (0 ≤ v2 ∧ v2.toNatClampNeg < 3100) := i_ix (by omega) (by omega)
                  refine ⟨hg41, ?_⟩
                  refine zd (fun (h42 : on = (0 : Int32)) => ?_) (fun (h42 : ¬ on = (0 : Int32)) => ?_)
                  · skip
                    have g43 := i_eq h42
                    have hV44 : zV (ma_u (zov wr_245 (ma_u m 94 0 (0 : Int32)) m1) 94 0 (0 : Int32)) := uf_94_0 hV_m1
                    have hV45 : zV (ma_u (ma_u (zov wr_245 (ma_u m 94 0 (0 : Int32)) m1) 94 0 (0 : Int32)) 107 v2.toNatClampNeg ((m 107 v2.toNatClampNeg) + (-1 : Int32))) := ua_107 hV44
                    refine sp_241 (v2) hV45 (by omega) r_W r_GW (show zGU T (m 94 46) (m 99) from by first | (exfalso; omega; done) | (exfalso; contradiction; done)) (show zOw (m 99) (m 103) (m 111) from by first | (exfalso; omega; done) | (exfalso; contradiction; done)) (show zDX (m 94 10) (m 99) (m 112) (m 113) (m 114) (m 94 55) (m 98) (m 101) (m 102) (m 108) from by first | (exfalso; omega; done) | (exfalso; contradiction; done)) (fun m15 hV_m15 p0_m15 p1_m15 p2_m15 p3_m15 p4_m15 => zmv_n ?_)
                    have p0_m15 : zGW T (m15 94 55) (m15 109) := p0_m15
                    have p1_m15 : zGU T (m 94 46) (m15 99) := p1_m15
                    have p2_m15 : zOw (m15 99) (m 103) (m15 111) := p2_m15
                    have p3_m15 : zDX (m 94 10) (m15 99) (m 112) (m15 113) (m15 114) (m15 94 55) (m 98) (m 101) (m 102) (m 108) := p3_m15
                    have p4_m15 : (m 94 10).toInt ≠ 4 → ((m15 99) = (m 99) ∧ (m15 111) = (m 111) ∧ (m15 113) = (m 113) ∧ (m15 114) = (m 114) ∧ (m15 94 55) = (m 94 55) ∧ (m15 109) = (m 109)) := p4_m15
                    first | have e46 : ((m 107 v2.toNatClampNeg) + (-1 : Int32)).toInt = (m 107 v2.toNatClampNeg).toInt + (-1) := i_addk rfl (by omega) (by omega) | have b47 := i_bd ((m 107 v2.toNatClampNeg) + (-1 : Int32))
                    exact K (((m 107 v2.toNatClampNeg) + (-1 : Int32))) _ (zF_zov (zF_u (zF_u (zF_zov (zF_u zF_rfl rfl) ws_245_253) rfl) rfl) ws_241_253) hV_m15 (show (m 94 8).toInt = 0 from by omega) r_W p0_m15
                  · skip
                    have g48 := i_ne h42
                    refine zd (fun (h49 : v2 < (0 : Int32)) => ?_) (fun (h49 : ¬ v2 < (0 : Int32)) => ?_)
                    · skip
                      have g50 := i_lt h49
                      have hV51 : zV (ma_u (zov wr_245 (ma_u m 94 0 (0 : Int32)) m1) 94 0 (0 : Int32)) := uf_94_0 hV_m1
                      have hV52 : zV (ma_u (ma_u (zov wr_245 (ma_u m 94 0 (0 : Int32)) m1) 94 0 (0 : Int32)) 107 v2.toNatClampNeg ((m 107 v2.toNatClampNeg) + (-1 : Int32))) := ua_107 hV51
                      first | have e53 : ((m 107 v2.toNatClampNeg) + (-1 : Int32)).toInt = (m 107 v2.toNatClampNeg).toInt + (-1) := i_addk rfl (by omega) (by omega) | have b54 := i_bd ((m 107 v2.toNatClampNeg) + (-1 : Int32))
                      exact K (((m 107 v2.toNatClampNeg) + (-1 : Int32))) _ (zF_u (zF_u (zF_zov (zF_u zF_rfl rfl) ws_245_253) rfl) rfl) hV52 (show (m 94 8).toInt = 0 from by omega) r_W r_GW
                    · skip
                      have g55 := i_nlt h49
                      have li56 : (4 : Int32).toInt = 4 := rfl
                      refine zd (fun (h57 : (m 94 10) = (4 : Int32)) => ?_) (fun (h57 : ¬ (m 94 10) = (4 : Int32)) => ?_)
                      · skip
                        have g58 := i_eq h57
                        have hg59 : (0 ≤ v2 ∧ v2.toNatClampNeg < 3100) := i_ix (by omega) (by omega)
                        refine ⟨hg59, ?_⟩
                        have hg60 : (0 ≤ v2 ∧ v2.toNatClampNeg < 3100) := i_ix (by omega) (by omega)
                        refine ⟨hg60, ?_⟩
                        have hV61 : zV (ma_u (zov wr_245 (ma_u m 94 0 (0 : Int32)) m1) 94 0 (0 : Int32)) := uf_94_0 hV_m1
                        have hV62 : zV (ma_u (ma_u (zov wr_245 (ma_u m 94 0 (0 : Int32)) m1) 94 0 (0 : Int32)) 107 v2.toNatClampNeg ((m 107 v2.toNatClampNeg) + (-1 : Int32))) := ua_107 hV61
                        have hV63 : zV (ma_u (ma_u (ma_u (zov wr_245 (ma_u m 94 0 (0 : Int32)) m1) 94 0 (0 : Int32)) 107 v2.toNatClampNeg ((m 107 v2.toNatClampNeg) + (-1 : Int32))) 105 v2.toNatClampNeg ((m 105 v2.toNatClampNeg) + (1 : Int32))) := ua_105 hV62
                        first | have e64 : ((m 107 v2.toNatClampNeg) + (-1 : Int32)).toInt = (m 107 v2.toNatClampNeg).toInt + (-1) := i_addk rfl (by omega) (by omega) | have b65 := i_bd ((m 107 v2.toNatClampNeg) + (-1 : Int32))
                        exact K (((m 107 v2.toNatClampNeg) + (-1 : Int32))) _ (zF_u (zF_u (zF_u (zF_zov (zF_u zF_rfl rfl) ws_245_253) rfl) rfl) rfl) hV63 (show (m 94 8).toInt = 0 from by omega) r_W r_GW
                      · skip
                        have g66 := i_ne h57
                        have hV67 : zV (ma_u (zov wr_245 (ma_u m 94 0 (0 : Int32)) m1) 94 0 (0 : Int32)) := uf_94_0 hV_m1
                        have hV68 : zV (ma_u (ma_u (zov wr_245 (ma_u m 94 0 (0 : Int32)) m1) 94 0 (0 : Int32)) 107 v2.toNatClampNeg ((m 107 v2.toNatClampNeg) + (-1 : Int32))) := ua_107 hV67
                        first | have e69 : ((m 107 v2.toNatClampNeg) + (-1 : Int32)).toInt = (m 107 v2.toNatClampNeg).toInt + (-1) := i_addk rfl (by omega) (by omega) | have b70 := i_bd ((m 107 v2.toNatClampNeg) + (-1 : Int32))
                        exact K (((m 107 v2.toNatClampNeg) + (-1 : Int32))) _ (zF_u (zF_u (zF_zov (zF_u zF_rfl rfl) ws_245_253) rfl) rfl) hV68 (show (m 94 8).toInt = 0 from by omega) r_W r_GW
                · skip
                  have g71 := i_ne h39
                  have hg72 : (0 ≤ v2 ∧ v2.toNatClampNeg < 3100) := i_ix (by omega) (by omega)
                  refine ⟨hg72, ?_⟩
                  refine zd (fun (h73 : on = (0 : Int32)) => ?_) (fun (h73 : ¬ on = (0 : Int32)) => ?_)
                  · skip
                    have g74 := i_eq h73
                    have hV75 : zV (ma_u (zov wr_245 (ma_u m 94 0 (0 : Int32)) m1) 94 0 (0 : Int32)) := uf_94_0 hV_m1
                    have hV76 : zV (ma_u (ma_u (zov wr_245 (ma_u m 94 0 (0 : Int32)) m1) 94 0 (0 : Int32)) 107 v2.toNatClampNeg ((m 107 v2.toNatClampNeg) + (1 : Int32))) := ua_107 hV75
                    refine sp_241 (v2) hV76 (by omega) r_W r_GW (show zGU T (m 94 46) (m 99) from by first | (exfalso; omega; done) | (exfalso; contradiction; done)) (show zOw (m 99) (m 103) (m 111) from by first | (exfalso; omega; done) | (exfalso; contradiction; done)) (show zDX (m 94 10) (m 99) (m 112) (m 113) (m 114) (m 94 55) (m 98) (m 101) (m 102) (m 108) from by first | (exfalso; omega; done) | (exfalso; contradiction; done)) (fun m17 hV_m17 p0_m17 p1_m17 p2_m17 p3_m17 p4_m17 => zmv_n ?_)
                    have p0_m17 : zGW T (m17 94 55) (m17 109) := p0_m17
                    have p1_m17 : zGU T (m 94 46) (m17 99) := p1_m17
                    have p2_m17 : zOw (m17 99) (m 103) (m17 111) := p2_m17
                    have p3_m17 : zDX (m 94 10) (m17 99) (m 112) (m17 113) (m17 114) (m17 94 55) (m 98) (m 101) (m 102) (m 108) := p3_m17
                    have p4_m17 : (m 94 10).toInt ≠ 4 → ((m17 99) = (m 99) ∧ (m17 111) = (m 111) ∧ (m17 113) = (m 113) ∧ (m17 114) = (m 114) ∧ (m17 94 55) = (m 94 55) ∧ (m17 109) = (m 109)) := p4_m17
                    first | have e77 : ((m 107 v2.toNatClampNeg) + (1 : Int32)).toInt = (m 107 v2.toNatClampNeg).toInt + (1) := i_addk rfl (by omega) (by omega) | have b78 := i_bd ((m 107 v2.toNatClampNeg) + (1 : Int32))
                    exact K (((m 107 v2.toNatClampNeg) + (1 : Int32))) _ (zF_zov (zF_u (zF_u (zF_zov (zF_u zF_rfl rfl) ws_245_253) rfl) rfl) ws_241_253) hV_m17 (show (m 94 8).toInt = 0 from by omega) r_W p0_m17
                  · skip
                    have g79 := i_ne h73
                    refine zd (fun (h80 : v2 < (0 : Int32)) => ?_) (fun (h80 : ¬ v2 < (0 : Int32)) => ?_)
                    · skip
                      have g81 := i_lt h80
                      have hV82 : zV (ma_u (zov wr_245 (ma_u m 94 0 (0 : Int32)) m1) 94 0 (0 : Int32)) := uf_94_0 hV_m1
                      have hV83 : zV (ma_u (ma_u (zov wr_245 (ma_u m 94 0 (0 : Int32)) m1) 94 0 (0 : Int32)) 107 v2.toNatClampNeg ((m 107 v2.toNatClampNeg) + (1 : Int32))) := ua_107 hV82
                      first | have e84 : ((m 107 v2.toNatClampNeg) + (1 : Int32)).toInt = (m 107 v2.toNatClampNeg).toInt + (1) := i_addk rfl (by omega) (by omega) | have b85 := i_bd ((m 107 v2.toNatClampNeg) + (1 : Int32))
                      exact K (((m 107 v2.toNatClampNeg) + (1 : Int32))) _ (zF_u (zF_u (zF_zov (zF_u zF_rfl rfl) ws_245_253) rfl) rfl) hV83 (show (m 94 8).toInt = 0 from by omega) r_W r_GW
                    · skip
                      have g86 := i_nlt h80
                      have li87 : (4 : Int32).toInt = 4 := rfl
                      refine zd (fun (h88 : (m 94 10) = (4 : Int32)) => ?_) (fun (h88 : ¬ (m 94 10) = (4 : Int32)) => ?_)
                      · skip
                        have g89 := i_eq h88
                        have hg90 : (0 ≤ v2 ∧ v2.toNatClampNeg < 3100) := i_ix (by omega) (by omega)
                        refine ⟨hg90, ?_⟩
                        have hg91 : (0 ≤ v2 ∧ v2.toNatClampNeg < 3100) := i_ix (by omega) (by omega)
                        refine ⟨hg91, ?_⟩
                        have hV92 : zV (ma_u (zov wr_245 (ma_u m 94 0 (0 : Int32)) m1) 94 0 (0 : Int32)) := uf_94_0 hV_m1
                        have hV93 : zV (ma_u (ma_u (zov wr_245 (ma_u m 94 0 (0 : Int32)) m1) 94 0 (0 : Int32)) 107 v2.toNatClampNeg ((m 107 v2.toNatClampNeg) + (1 : Int32))) := ua_107 hV92
                        have hV94 : zV (ma_u (ma_u (ma_u (zov wr_245 (ma_u m 94 0 (0 : Int32)) m1) 94 0 (0 : Int32)) 107 v2.toNatClampNeg ((m 107 v2.toNatClampNeg) + (1 : Int32))) 105 v2.toNatClampNeg ((m 105 v2.toNatClampNeg) + (1 : Int32))) := ua_105 hV93
                        first | have e95 : ((m 107 v2.toNatClampNeg) + (1 : Int32)).toInt = (m 107 v2.toNatClampNeg).toInt + (1) := i_addk rfl (by omega) (by omega) | have b96 := i_bd ((m 107 v2.toNatClampNeg) + (1 : Int32))
                        exact K (((m 107 v2.toNatClampNeg) + (1 : Int32))) _ (zF_u (zF_u (zF_u (zF_zov (zF_u zF_rfl rfl) ws_245_253) rfl) rfl) rfl) hV94 (show (m 94 8).toInt = 0 from by omega) r_W r_GW
                      · skip
                        have g97 := i_ne h88
                        have hV98 : zV (ma_u (zov wr_245 (ma_u m 94 0 (0 : Int32)) m1) 94 0 (0 : Int32)) := uf_94_0 hV_m1
                        have hV99 : zV (ma_u (ma_u (zov wr_245 (ma_u m 94 0 (0 : Int32)) m1) 94 0 (0 : Int32)) 107 v2.toNatClampNeg ((m 107 v2.toNatClampNeg) + (1 : Int32))) := ua_107 hV98
                        first | have e100 : ((m 107 v2.toNatClampNeg) + (1 : Int32)).toInt = (m 107 v2.toNatClampNeg).toInt + (1) := i_addk rfl (by omega) (by omega) | have b101 := i_bd ((m 107 v2.toNatClampNeg) + (1 : Int32))
                        exact K (((m 107 v2.toNatClampNeg) + (1 : Int32))) _ (zF_u (zF_u (zF_zov (zF_u zF_rfl rfl) ws_245_253) rfl) rfl) hV99 (show (m 94 8).toInt = 0 from by omega) r_W r_GW
            · skip
              have g102 := i_ne h30
              have hg103 : (0 ≤ v2 ∧ v2.toNatClampNeg < 3100) := i_ix (by omega) (by omega)
              refine ⟨hg103, ?_⟩
              refine zd (fun (h104 : on = (0 : Int32)) => ?_) (fun (h104 : ¬ on = (0 : Int32)) => ?_)
              · skip
                have g105 := i_eq h104
                have hg106 : (0 ≤ v2 ∧ v2.toNatClampNeg < 3100) := i_ix (by omega) (by omega)
                refine ⟨hg106, ?_⟩
                refine zd (fun (h107 : on = (0 : Int32)) => ?_) (fun (h107 : ¬ on = (0 : Int32)) => ?_)
                · skip
                  have g108 := i_eq h107
                  have hV109 : zV (ma_u (zov wr_245 (ma_u m 94 0 (0 : Int32)) m1) 94 0 (0 : Int32)) := uf_94_0 hV_m1
                  have hV110 : zV (ma_u (ma_u (zov wr_245 (ma_u m 94 0 (0 : Int32)) m1) 94 0 (0 : Int32)) 107 v2.toNatClampNeg ((m 107 v2.toNatClampNeg) + (-1 : Int32))) := ua_107 hV109
                  refine sp_241 (v2) hV110 (by omega) r_W r_GW (show zGU T (m 94 46) (m 99) from by first | (exfalso; omega; done) | (exfalso; contradiction; done)) (show zOw (m 99) (m 103) (m 111) from by first | (exfalso; omega; done) | (exfalso; contradiction; done)) (show zDX (m 94 10) (m 99) (m 112) (m 113) (m 114) (m 94 55) (m 98) (m 101) (m 102) (m 108) from by first | (exfalso; omega; done) | (exfalso; contradiction; done)) (fun m11 hV_m11 p0_m11 p1_m11 p2_m11 p3_m11 p4_m11 => zmv_n ?_)
                  have p0_m11 : zGW T (m11 94 55) (m11 109) := p0_m11
                  have p1_m11 : zGU T (m 94 46) (m11 99) := p1_m11
                  have p2_m11 : zOw (m11 99) (m 103) (m11 111) := p2_m11
                  have p3_m11 : zDX (m 94 10) (m11 99) (m 112) (m11 113) (m11 114) (m11 94 55) (m 98) (m 101) (m 102) (m 108) := p3_m11
                  have p4_m11 : (m 94 10).toInt ≠ 4 → ((m11 99) = (m 99) ∧ (m11 111) = (m 111) ∧ (m11 113) = (m 113) ∧ (m11 114) = (m 114) ∧ (m11 94 55) = (m 94 55) ∧ (m11 109) = (m 109)) := p4_m11
                  have b111 := i_bd (m 107 v2.toNatClampNeg)
                  first | have e112 : ((m 107 v2.toNatClampNeg) + (-1 : Int32)).toInt = (m 107 v2.toNatClampNeg).toInt + (-1) := i_addk rfl (by omega) (by omega) | have b113 := i_bd ((m 107 v2.toNatClampNeg) + (-1 : Int32))
                  exact K (((m 107 v2.toNatClampNeg) + (-1 : Int32))) _ (zF_zov (zF_u (zF_u (zF_zov (zF_u zF_rfl rfl) ws_245_253) rfl) rfl) ws_241_253) hV_m11 (show (m 94 8).toInt = 0 from by omega) r_W p0_m11
                · skip
                  have g114 := i_ne h107
                  refine zd (fun (h115 : v2 < (0 : Int32)) => ?_) (fun (h115 : ¬ v2 < (0 : Int32)) => ?_)
                  · skip
                    have g116 := i_lt h115
                    have hV117 : zV (ma_u (zov wr_245 (ma_u m 94 0 (0 : Int32)) m1) 94 0 (0 : Int32)) := uf_94_0 hV_m1
                    have hV118 : zV (ma_u (ma_u (zov wr_245 (ma_u m 94 0 (0 : Int32)) m1) 94 0 (0 : Int32)) 107 v2.toNatClampNeg ((m 107 v2.toNatClampNeg) + (-1 : Int32))) := ua_107 hV117
                    have b119 := i_bd (m 107 v2.toNatClampNeg)
                    first | have e120 : ((m 107 v2.toNatClampNeg) + (-1 : Int32)).toInt = (m 107 v2.toNatClampNeg).toInt + (-1) := i_addk rfl (by omega) (by omega) | have b121 := i_bd ((m 107 v2.toNatClampNeg) + (-1 : Int32))
                    exact K (((m 107 v2.toNatClampNeg) + (-1 : Int32))) _ (zF_u (zF_u (zF_zov (zF_u zF_rfl rfl) ws_245_253) rfl) rfl) hV118 (show (m 94 8).toInt = 0 from by omega) r_W r_GW
                  · skip
                    have g122 := i_nlt h115
                    have li123 : (4 : Int32).toInt = 4 := rfl
                    refine zd (fun (h124 : (m 94 10) = (4 : Int32)) => ?_) (fun (h124 : ¬ (m 94 10) = (4 : Int32)) => ?_)
                    · skip
                      have g125 := i_eq h124
                      have hg126 : (0 ≤ v2 ∧ v2.toNatClampNeg < 3100) := i_ix (by omega) (by omega)
                      refine ⟨hg126, ?_⟩
                      have hg127 : (0 ≤ v2 ∧ v2.toNatClampNeg < 3100) := i_ix (by omega) (by omega)
                      refine ⟨hg127, ?_⟩
                      have hV128 : zV (ma_u (zov wr_245 (ma_u m 94 0 (0 : Int32)) m1) 94 0 (0 : Int32)) := uf_94_0 hV_m1
                      have hV129 : zV (ma_u (ma_u (zov wr_245 (ma_u m 94 0 (0 : Int32)) m1) 94 0 (0 : Int32)) 107 v2.toNatClampNeg ((m 107 v2.toNatClampNeg) + (-1 : Int32))) := ua_107 hV128
                      have hV130 : zV (ma_u (ma_u (ma_u (zov wr_245 (ma_u m 94 0 (0 : Int32)) m1) 94 0 (0 : Int32)) 107 v2.toNatClampNeg ((m 107 v2.toNatClampNeg) + (-1 : Int32))) 105 v2.toNatClampNeg ((m 105 v2.toNatClampNeg) + (1 : Int32))) := ua_105 hV129
                      have b131 := i_bd (m 107 v2.toNatClampNeg)
                      first | have e132 : ((m 107 v2.toNatClampNeg) + (-1 : Int32)).toInt = (m 107 v2.toNatClampNeg).toInt + (-1) := i_addk rfl (by omega) (by omega) | have b133 := i_bd ((m 107 v2.toNatClampNeg) + (-1 : Int32))
                      exact K (((m 107 v2.toNatClampNeg) + (-1 : Int32))) _ (zF_u (zF_u (zF_u (zF_zov (zF_u zF_rfl rfl) ws_245_253) rfl) rfl) rfl) hV130 (show (m 94 8).toInt = 0 from by omega) r_W r_GW
                    · skip
                      have g134 := i_ne h124
                      have hV135 : zV (ma_u (zov wr_245 (ma_u m 94 0 (0 : Int32)) m1) 94 0 (0 : Int32)) := uf_94_0 hV_m1
                      have hV136 : zV (ma_u (ma_u (zov wr_245 (ma_u m 94 0 (0 : Int32)) m1) 94 0 (0 : Int32)) 107 v2.toNatClampNeg ((m 107 v2.toNatClampNeg) + (-1 : Int32))) := ua_107 hV135
                      have b137 := i_bd (m 107 v2.toNatClampNeg)
                      first | have e138 : ((m 107 v2.toNatClampNeg) + (-1 : Int32)).toInt = (m 107 v2.toNatClampNeg).toInt + (-1) := i_addk rfl (by omega) (by omega) | have b139 := i_bd ((m 107 v2.toNatClampNeg) + (-1 : Int32))
                      exact K (((m 107 v2.toNatClampNeg) + (-1 : Int32))) _ (zF_u (zF_u (zF_zov (zF_u zF_rfl rfl) ws_245_253) rfl) rfl) hV136 (show (m 94 8).toInt = 0 from by omega) r_W r_GW
              · skip
                have g140 := i_ne h104
                have hg141 : (0 ≤ v2 ∧ v2.toNatClampNeg < 3100) := i_ix (by omega) (by omega)
                refine ⟨hg141, ?_⟩
                refine zd (fun (h142 : on = (0 : Int32)) => ?_) (fun (h142 : ¬ on = (0 : Int32)) => ?_)
                · skip
                  have g143 := i_eq h142
                  have hV144 : zV (ma_u (zov wr_245 (ma_u m 94 0 (0 : Int32)) m1) 94 0 (0 : Int32)) := uf_94_0 hV_m1
                  have hV145 : zV (ma_u (ma_u (zov wr_245 (ma_u m 94 0 (0 : Int32)) m1) 94 0 (0 : Int32)) 107 v2.toNatClampNeg ((m 107 v2.toNatClampNeg) + (1 : Int32))) := ua_107 hV144
                  refine sp_241 (v2) hV145 (by omega) r_W r_GW (show zGU T (m 94 46) (m 99) from by first | (exfalso; omega; done) | (exfalso; contradiction; done)) (show zOw (m 99) (m 103) (m 111) from by first | (exfalso; omega; done) | (exfalso; contradiction; done)) (show zDX (m 94 10) (m 99) (m 112) (m 113) (m 114) (m 94 55) (m 98) (m 101) (m 102) (m 108) from by first | (exfalso; omega; done) | (exfalso; contradiction; done)) (fun m13 hV_m13 p0_m13 p1_m13 p2_m13 p3_m13 p4_m13 => zmv_n ?_)
                  have p0_m13 : zGW T (m13 94 55) (m13 109) := p0_m13
                  have p1_m13 : zGU T (m 94 46) (m13 99) := p1_m13
                  have p2_m13 : zOw (m13 99) (m 103) (m13 111) := p2_m13
                  have p3_m13 : zDX (m 94 10) (m13 99) (m 112) (m13 113) (m13 114) (m13 94 55) (m 98) (m 101) (m 102) (m 108) := p3_m13
                  have p4_m13 : (m 94 10).toInt ≠ 4 → ((m13 99) = (m 99) ∧ (m13 111) = (m 111) ∧ (m13 113) = (m 113) ∧ (m13 114) = (m 114) ∧ (m13 94 55) = (m 94 55) ∧ (m13 109) = (m 109)) := p4_m13
                  have b146 := i_bd (m 107 v2.toNatClampNeg)
                  first | have e147 : ((m 107 v2.toNatClampNeg) + (1 : Int32)).toInt = (m 107 v2.toNatClampNeg).toInt + (1) := i_addk rfl (by omega) (by omega) | have b148 := i_bd ((m 107 v2.toNatClampNeg) + (1 : Int32))
                  exact K (((m 107 v2.toNatClampNeg) + (1 : Int32))) _ (zF_zov (zF_u (zF_u (zF_zov (zF_u zF_rfl rfl) ws_245_253) rfl) rfl) ws_241_253) hV_m13 (show (m 94 8).toInt = 0 from by omega) r_W p0_m13
                · skip
                  have g149 := i_ne h142
                  refine zd (fun (h150 : v2 < (0 : Int32)) => ?_) (fun (h150 : ¬ v2 < (0 : Int32)) => ?_)
                  · skip
                    have g151 := i_lt h150
                    have hV152 : zV (ma_u (zov wr_245 (ma_u m 94 0 (0 : Int32)) m1) 94 0 (0 : Int32)) := uf_94_0 hV_m1
                    have hV153 : zV (ma_u (ma_u (zov wr_245 (ma_u m 94 0 (0 : Int32)) m1) 94 0 (0 : Int32)) 107 v2.toNatClampNeg ((m 107 v2.toNatClampNeg) + (1 : Int32))) := ua_107 hV152
                    have b154 := i_bd (m 107 v2.toNatClampNeg)
                    first | have e155 : ((m 107 v2.toNatClampNeg) + (1 : Int32)).toInt = (m 107 v2.toNatClampNeg).toInt + (1) := i_addk rfl (by omega) (by omega) | have b156 := i_bd ((m 107 v2.toNatClampNeg) + (1 : Int32))
                    exact K (((m 107 v2.toNatClampNeg) + (1 : Int32))) _ (zF_u (zF_u (zF_zov (zF_u zF_rfl rfl) ws_245_253) rfl) rfl) hV153 (show (m 94 8).toInt = 0 from by omega) r_W r_GW
                  · skip
                    have g157 := i_nlt h150
                    have li158 : (4 : Int32).toInt = 4 := rfl
                    refine zd (fun (h159 : (m 94 10) = (4 : Int32)) => ?_) (fun (h159 : ¬ (m 94 10) = (4 : Int32)) => ?_)
                    · skip
                      have g160 := i_eq h159
                      have hg161 : (0 ≤ v2 ∧ v2.toNatClampNeg < 3100) := i_ix (by omega) (by omega)
                      refine ⟨hg161, ?_⟩
                      have hg162 : (0 ≤ v2 ∧ v2.toNatClampNeg < 3100) := i_ix (by omega) (by omega)
                      refine ⟨hg162, ?_⟩
                      have hV163 : zV (ma_u (zov wr_245 (ma_u m 94 0 (0 : Int32)) m1) 94 0 (0 : Int32)) := uf_94_0 hV_m1
                      have hV164 : zV (ma_u (ma_u (zov wr_245 (ma_u m 94 0 (0 : Int32)) m1) 94 0 (0 : Int32)) 107 v2.toNatClampNeg ((m 107 v2.toNatClampNeg) + (1 : Int32))) := ua_107 hV163
                      have hV165 : zV (ma_u (ma_u (ma_u (zov wr_245 (ma_u m 94 0 (0 : Int32)) m1) 94 0 (0 : Int32)) 107 v2.toNatClampNeg ((m 107 v2.toNatClampNeg) + (1 : Int32))) 105 v2.toNatClampNeg ((m 105 v2.toNatClampNeg) + (1 : Int32))) := ua_105 hV164
                      have b166 := i_bd (m 107 v2.toNatClampNeg)
                      first | have e167 : ((m 107 v2.toNatClampNeg) + (1 : Int32)).toInt = (m 107 v2.toNatClampNeg).toInt + (1) := i_addk rfl (by omega) (by omega) | have b168 := i_bd ((m 107 v2.toNatClampNeg) + (1 : Int32))
                      exact K (((m 107 v2.toNatClampNeg) + (1 : Int32))) _ (zF_u (zF_u (zF_u (zF_zov (zF_u zF_rfl rfl) ws_245_253) rfl) rfl) rfl) hV165 (show (m 94 8).toInt = 0 from by omega) r_W r_GW
                    · skip
                      have g169 := i_ne h159
                      have hV170 : zV (ma_u (zov wr_245 (ma_u m 94 0 (0 : Int32)) m1) 94 0 (0 : Int32)) := uf_94_0 hV_m1
                      have hV171 : zV (ma_u (ma_u (zov wr_245 (ma_u m 94 0 (0 : Int32)) m1) 94 0 (0 : Int32)) 107 v2.toNatClampNeg ((m 107 v2.toNatClampNeg) + (1 : Int32))) := ua_107 hV170
                      have b172 := i_bd (m 107 v2.toNatClampNeg)
                      first | have e173 : ((m 107 v2.toNatClampNeg) + (1 : Int32)).toInt = (m 107 v2.toNatClampNeg).toInt + (1) := i_addk rfl (by omega) (by omega) | have b174 := i_bd ((m 107 v2.toNatClampNeg) + (1 : Int32))
                      exact K (((m 107 v2.toNatClampNeg) + (1 : Int32))) _ (zF_u (zF_u (zF_zov (zF_u zF_rfl rfl) ws_245_253) rfl) rfl) hV171 (show (m 94 8).toInt = 0 from by omega) r_W r_GW
        · skip
          have g175 := i_ne h19
          have b176 := i_bd on
          refine zd (fun (h177 : on = (0 : Int32)) => ?_) (fun (h177 : ¬ on = (0 : Int32)) => ?_)
          · skip
            have g178 := i_eq h177
            have hg179 : (0 ≤ v2 ∧ v2.toNatClampNeg < 3100) := i_ix (by omega) (by omega)
            refine ⟨hg179, ?_⟩
            have b180 := i_bd (m 107 v2.toNatClampNeg)
            refine zd (fun (h181 : (m 107 v2.toNatClampNeg) = (0 : Int32)) => ?_) (fun (h181 : ¬ (m 107 v2.toNatClampNeg) = (0 : Int32)) => ?_)
            · skip
              have g182 := i_eq h181
              have hV183 : zV (ma_u (zov wr_245 (ma_u m 94 0 (0 : Int32)) m1) 94 0 (3 : Int32)) := uf_94_0 hV_m1
              exact K ((0 : Int32)) _ (zF_u (zF_zov (zF_u zF_rfl rfl) ws_245_253) rfl) hV183 (show (m 94 8).toInt = 0 from by omega) r_W r_GW
            · skip
              have g184 := i_ne h181
              have hg185 : (0 ≤ v2 ∧ v2.toNatClampNeg < 3100) := i_ix (by omega) (by omega)
              refine ⟨hg185, ?_⟩
              refine zd (fun (h186 : on = (0 : Int32)) => ?_) (fun (h186 : ¬ on = (0 : Int32)) => ?_)
              · skip
                have g187 := i_eq h186
                have hg188 : (0 ≤ v2 ∧ v2.toNatClampNeg < 3100) := i_ix (by omega) (by omega)
                refine ⟨hg188, ?_⟩
                refine zd (fun (h189 : on = (0 : Int32)) => ?_) (fun (h189 : ¬ on = (0 : Int32)) => ?_)
                · skip
                  have g190 := i_eq h189
                  have hV191 : zV (ma_u (zov wr_245 (ma_u m 94 0 (0 : Int32)) m1) 94 0 (0 : Int32)) := uf_94_0 hV_m1
                  have hV192 : zV (ma_u (ma_u (zov wr_245 (ma_u m 94 0 (0 : Int32)) m1) 94 0 (0 : Int32)) 107 v2.toNatClampNeg ((m 107 v2.toNatClampNeg) + (-1 : Int32))) := ua_107 hV191
                  refine sp_241 (v2) hV192 (by omega) r_W r_GW (show zGU T (m 94 46) (m 99) from by first | (exfalso; omega; done) | (exfalso; contradiction; done)) (show zOw (m 99) (m 103) (m 111) from by first | (exfalso; omega; done) | (exfalso; contradiction; done)) (show zDX (m 94 10) (m 99) (m 112) (m 113) (m 114) (m 94 55) (m 98) (m 101) (m 102) (m 108) from by first | (exfalso; omega; done) | (exfalso; contradiction; done)) (fun m7 hV_m7 p0_m7 p1_m7 p2_m7 p3_m7 p4_m7 => zmv_n ?_)
                  have p0_m7 : zGW T (m7 94 55) (m7 109) := p0_m7
                  have p1_m7 : zGU T (m 94 46) (m7 99) := p1_m7
                  have p2_m7 : zOw (m7 99) (m 103) (m7 111) := p2_m7
                  have p3_m7 : zDX (m 94 10) (m7 99) (m 112) (m7 113) (m7 114) (m7 94 55) (m 98) (m 101) (m 102) (m 108) := p3_m7
                  have p4_m7 : (m 94 10).toInt ≠ 4 → ((m7 99) = (m 99) ∧ (m7 111) = (m 111) ∧ (m7 113) = (m 113) ∧ (m7 114) = (m 114) ∧ (m7 94 55) = (m 94 55) ∧ (m7 109) = (m 109)) := p4_m7
                  first | have e193 : ((m 107 v2.toNatClampNeg) + (-1 : Int32)).toInt = (m 107 v2.toNatClampNeg).toInt + (-1) := i_addk rfl (by omega) (by omega) | have b194 := i_bd ((m 107 v2.toNatClampNeg) + (-1 : Int32))
                  exact K (((m 107 v2.toNatClampNeg) + (-1 : Int32))) _ (zF_zov (zF_u (zF_u (zF_zov (zF_u zF_rfl rfl) ws_245_253) rfl) rfl) ws_241_253) hV_m7 (show (m 94 8).toInt = 0 from by omega) r_W p0_m7
                · skip
                  have g195 := i_ne h189
                  refine zd (fun (h196 : v2 < (0 : Int32)) => ?_) (fun (h196 : ¬ v2 < (0 : Int32)) => ?_)
                  · skip
                    have g197 := i_lt h196
                    have hV198 : zV (ma_u (zov wr_245 (ma_u m 94 0 (0 : Int32)) m1) 94 0 (0 : Int32)) := uf_94_0 hV_m1
                    have hV199 : zV (ma_u (ma_u (zov wr_245 (ma_u m 94 0 (0 : Int32)) m1) 94 0 (0 : Int32)) 107 v2.toNatClampNeg ((m 107 v2.toNatClampNeg) + (-1 : Int32))) := ua_107 hV198
                    first | have e200 : ((m 107 v2.toNatClampNeg) + (-1 : Int32)).toInt = (m 107 v2.toNatClampNeg).toInt + (-1) := i_addk rfl (by omega) (by omega) | have b201 := i_bd ((m 107 v2.toNatClampNeg) + (-1 : Int32))
                    exact K (((m 107 v2.toNatClampNeg) + (-1 : Int32))) _ (zF_u (zF_u (zF_zov (zF_u zF_rfl rfl) ws_245_253) rfl) rfl) hV199 (show (m 94 8).toInt = 0 from by omega) r_W r_GW
                  · skip
                    have g202 := i_nlt h196
                    have li203 : (4 : Int32).toInt = 4 := rfl
                    refine zd (fun (h204 : (m 94 10) = (4 : Int32)) => ?_) (fun (h204 : ¬ (m 94 10) = (4 : Int32)) => ?_)
                    · skip
                      have g205 := i_eq h204
                      have hg206 : (0 ≤ v2 ∧ v2.toNatClampNeg < 3100) := i_ix (by omega) (by omega)
                      refine ⟨hg206, ?_⟩
                      have hg207 : (0 ≤ v2 ∧ v2.toNatClampNeg < 3100) := i_ix (by omega) (by omega)
                      refine ⟨hg207, ?_⟩
                      have hV208 : zV (ma_u (zov wr_245 (ma_u m 94 0 (0 : Int32)) m1) 94 0 (0 : Int32)) := uf_94_0 hV_m1
                      have hV209 : zV (ma_u (ma_u (zov wr_245 (ma_u m 94 0 (0 : Int32)) m1) 94 0 (0 : Int32)) 107 v2.toNatClampNeg ((m 107 v2.toNatClampNeg) + (-1 : Int32))) := ua_107 hV208
                      have hV210 : zV (ma_u (ma_u (ma_u (zov wr_245 (ma_u m 94 0 (0 : Int32)) m1) 94 0 (0 : Int32)) 107 v2.toNatClampNeg ((m 107 v2.toNatClampNeg) + (-1 : Int32))) 105 v2.toNatClampNeg ((m 105 v2.toNatClampNeg) + (1 : Int32))) := ua_105 hV209
                      first | have e211 : ((m 107 v2.toNatClampNeg) + (-1 : Int32)).toInt = (m 107 v2.toNatClampNeg).toInt + (-1) := i_addk rfl (by omega) (by omega) | have b212 := i_bd ((m 107 v2.toNatClampNeg) + (-1 : Int32))
                      exact K (((m 107 v2.toNatClampNeg) + (-1 : Int32))) _ (zF_u (zF_u (zF_u (zF_zov (zF_u zF_rfl rfl) ws_245_253) rfl) rfl) rfl) hV210 (show (m 94 8).toInt = 0 from by omega) r_W r_GW
                    · skip
                      have g213 := i_ne h204
                      have hV214 : zV (ma_u (zov wr_245 (ma_u m 94 0 (0 : Int32)) m1) 94 0 (0 : Int32)) := uf_94_0 hV_m1
                      have hV215 : zV (ma_u (ma_u (zov wr_245 (ma_u m 94 0 (0 : Int32)) m1) 94 0 (0 : Int32)) 107 v2.toNatClampNeg ((m 107 v2.toNatClampNeg) + (-1 : Int32))) := ua_107 hV214
                      first | have e216 : ((m 107 v2.toNatClampNeg) + (-1 : Int32)).toInt = (m 107 v2.toNatClampNeg).toInt + (-1) := i_addk rfl (by omega) (by omega) | have b217 := i_bd ((m 107 v2.toNatClampNeg) + (-1 : Int32))
                      exact K (((m 107 v2.toNatClampNeg) + (-1 : Int32))) _ (zF_u (zF_u (zF_zov (zF_u zF_rfl rfl) ws_245_253) rfl) rfl) hV215 (show (m 94 8).toInt = 0 from by omega) r_W r_GW
              · skip
                have g218 := i_ne h186
                have hg219 : (0 ≤ v2 ∧ v2.toNatClampNeg < 3100) := i_ix (by omega) (by omega)
                refine ⟨hg219, ?_⟩
                refine zd (fun (h220 : on = (0 : Int32)) => ?_) (fun (h220 : ¬ on = (0 : Int32)) => ?_)
                · skip
                  have g221 := i_eq h220
                  have hV222 : zV (ma_u (zov wr_245 (ma_u m 94 0 (0 : Int32)) m1) 94 0 (0 : Int32)) := uf_94_0 hV_m1
                  have hV223 : zV (ma_u (ma_u (zov wr_245 (ma_u m 94 0 (0 : Int32)) m1) 94 0 (0 : Int32)) 107 v2.toNatClampNeg ((m 107 v2.toNatClampNeg) + (1 : Int32))) := ua_107 hV222
                  refine sp_241 (v2) hV223 (by omega) r_W r_GW (show zGU T (m 94 46) (m 99) from by first | (exfalso; omega; done) | (exfalso; contradiction; done)) (show zOw (m 99) (m 103) (m 111) from by first | (exfalso; omega; done) | (exfalso; contradiction; done)) (show zDX (m 94 10) (m 99) (m 112) (m 113) (m 114) (m 94 55) (m 98) (m 101) (m 102) (m 108) from by first | (exfalso; omega; done) | (exfalso; contradiction; done)) (fun m9 hV_m9 p0_m9 p1_m9 p2_m9 p3_m9 p4_m9 => zmv_n ?_)
                  have p0_m9 : zGW T (m9 94 55) (m9 109) := p0_m9
                  have p1_m9 : zGU T (m 94 46) (m9 99) := p1_m9
                  have p2_m9 : zOw (m9 99) (m 103) (m9 111) := p2_m9
                  have p3_m9 : zDX (m 94 10) (m9 99) (m 112) (m9 113) (m9 114) (m9 94 55) (m 98) (m 101) (m 102) (m 108) := p3_m9
                  have p4_m9 : (m 94 10).toInt ≠ 4 → ((m9 99) = (m 99) ∧ (m9 111) = (m 111) ∧ (m9 113) = (m 113) ∧ (m9 114) = (m 114) ∧ (m9 94 55) = (m 94 55) ∧ (m9 109) = (m 109)) := p4_m9
                  first | have e224 : ((m 107 v2.toNatClampNeg) + (1 : Int32)).toInt = (m 107 v2.toNatClampNeg).toInt + (1) := i_addk rfl (by omega) (by omega) | have b225 := i_bd ((m 107 v2.toNatClampNeg) + (1 : Int32))
                  exact K (((m 107 v2.toNatClampNeg) + (1 : Int32))) _ (zF_zov (zF_u (zF_u (zF_zov (zF_u zF_rfl rfl) ws_245_253) rfl) rfl) ws_241_253) hV_m9 (show (m 94 8).toInt = 0 from by omega) r_W p0_m9
                · skip
                  have g226 := i_ne h220
                  refine zd (fun (h227 : v2 < (0 : Int32)) => ?_) (fun (h227 : ¬ v2 < (0 : Int32)) => ?_)
                  · skip
                    have g228 := i_lt h227
                    have hV229 : zV (ma_u (zov wr_245 (ma_u m 94 0 (0 : Int32)) m1) 94 0 (0 : Int32)) := uf_94_0 hV_m1
                    have hV230 : zV (ma_u (ma_u (zov wr_245 (ma_u m 94 0 (0 : Int32)) m1) 94 0 (0 : Int32)) 107 v2.toNatClampNeg ((m 107 v2.toNatClampNeg) + (1 : Int32))) := ua_107 hV229
                    first | have e231 : ((m 107 v2.toNatClampNeg) + (1 : Int32)).toInt = (m 107 v2.toNatClampNeg).toInt + (1) := i_addk rfl (by omega) (by omega) | have b232 := i_bd ((m 107 v2.toNatClampNeg) + (1 : Int32))
                    exact K (((m 107 v2.toNatClampNeg) + (1 : Int32))) _ (zF_u (zF_u (zF_zov (zF_u zF_rfl rfl) ws_245_253) rfl) rfl) hV230 (show (m 94 8).toInt = 0 from by omega) r_W r_GW
                  · skip
                    have g233 := i_nlt h227
                    have li234 : (4 : Int32).toInt = 4 := rfl
                    refine zd (fun (h235 : (m 94 10) = (4 : Int32)) => ?_) (fun (h235 : ¬ (m 94 10) = (4 : Int32)) => ?_)
                    · skip
                      have g236 := i_eq h235
                      have hg237 : (0 ≤ v2 ∧ v2.toNatClampNeg < 3100) := i_ix (by omega) (by omega)
                      refine ⟨hg237, ?_⟩
                      have hg238 : (0 ≤ v2 ∧ v2.toNatClampNeg < 3100) := i_ix (by omega) (by omega)
                      refine ⟨hg238, ?_⟩
                      have hV239 : zV (ma_u (zov wr_245 (ma_u m 94 0 (0 : Int32)) m1) 94 0 (0 : Int32)) := uf_94_0 hV_m1
                      have hV240 : zV (ma_u (ma_u (zov wr_245 (ma_u m 94 0 (0 : Int32)) m1) 94 0 (0 : Int32)) 107 v2.toNatClampNeg ((m 107 v2.toNatClampNeg) + (1 : Int32))) := ua_107 hV239
                      have hV241 : zV (ma_u (ma_u (ma_u (zov wr_245 (ma_u m 94 0 (0 : Int32)) m1) 94 0 (0 : Int32)) 107 v2.toNatClampNeg ((m 107 v2.toNatClampNeg) + (1 : Int32))) 105 v2.toNatClampNeg ((m 105 v2.toNatClampNeg) + (1 : Int32))) := ua_105 hV240
                      first | have e242 : ((m 107 v2.toNatClampNeg) + (1 : Int32)).toInt = (m 107 v2.toNatClampNeg).toInt + (1) := i_addk rfl (by omega) (by omega) | have b243 := i_bd ((m 107 v2.toNatClampNeg) + (1 : Int32))
                      exact K (((m 107 v2.toNatClampNeg) + (1 : Int32))) _ (zF_u (zF_u (zF_u (zF_zov (zF_u zF_rfl rfl) ws_245_253) rfl) rfl) rfl) hV241 (show (m 94 8).toInt = 0 from by omega) r_W r_GW
                    · skip
                      have g244 := i_ne h235
                      have hV245 : zV (ma_u (zov wr_245 (ma_u m 94 0 (0 : Int32)) m1) 94 0 (0 : Int32)) := uf_94_0 hV_m1
                      have hV246 : zV (ma_u (ma_u (zov wr_245 (ma_u m 94 0 (0 : Int32)) m1) 94 0 (0 : Int32)) 107 v2.toNatClampNeg ((m 107 v2.toNatClampNeg) + (1 : Int32))) := ua_107 hV245
                      first | have e247 : ((m 107 v2.toNatClampNeg) + (1 : Int32)).toInt = (m 107 v2.toNatClampNeg).toInt + (1) := i_addk rfl (by omega) (by omega) | have b248 := i_bd ((m 107 v2.toNatClampNeg) + (1 : Int32))
                      exact K (((m 107 v2.toNatClampNeg) + (1 : Int32))) _ (zF_u (zF_u (zF_zov (zF_u zF_rfl rfl) ws_245_253) rfl) rfl) hV246 (show (m 94 8).toInt = 0 from by omega) r_W r_GW
          · skip
            have g249 := i_ne h177
            have hg250 : (0 ≤ v2 ∧ v2.toNatClampNeg < 3100) := i_ix (by omega) (by omega)
            refine ⟨hg250, ?_⟩
            refine zd (fun (h251 : on = (0 : Int32)) => ?_) (fun (h251 : ¬ on = (0 : Int32)) => ?_)
            · skip
              have g252 := i_eq h251
              have hg253 : (0 ≤ v2 ∧ v2.toNatClampNeg < 3100) := i_ix (by omega) (by omega)
              refine ⟨hg253, ?_⟩
              refine zd (fun (h254 : on = (0 : Int32)) => ?_) (fun (h254 : ¬ on = (0 : Int32)) => ?_)
              · skip
                have g255 := i_eq h254
                have hV256 : zV (ma_u (zov wr_245 (ma_u m 94 0 (0 : Int32)) m1) 94 0 (0 : Int32)) := uf_94_0 hV_m1
                have hV257 : zV (ma_u (ma_u (zov wr_245 (ma_u m 94 0 (0 : Int32)) m1) 94 0 (0 : Int32)) 107 v2.toNatClampNeg ((m 107 v2.toNatClampNeg) + (-1 : Int32))) := ua_107 hV256
                refine sp_241 (v2) hV257 (by omega) r_W r_GW (show zGU T (m 94 46) (m 99) from by first | (exfalso; omega; done) | (exfalso; contradiction; done)) (show zOw (m 99) (m 103) (m 111) from by first | (exfalso; omega; done) | (exfalso; contradiction; done)) (show zDX (m 94 10) (m 99) (m 112) (m 113) (m 114) (m 94 55) (m 98) (m 101) (m 102) (m 108) from by first | (exfalso; omega; done) | (exfalso; contradiction; done)) (fun m3 hV_m3 p0_m3 p1_m3 p2_m3 p3_m3 p4_m3 => zmv_n ?_)
                have p0_m3 : zGW T (m3 94 55) (m3 109) := p0_m3
                have p1_m3 : zGU T (m 94 46) (m3 99) := p1_m3
                have p2_m3 : zOw (m3 99) (m 103) (m3 111) := p2_m3
                have p3_m3 : zDX (m 94 10) (m3 99) (m 112) (m3 113) (m3 114) (m3 94 55) (m 98) (m 101) (m 102) (m 108) := p3_m3
                have p4_m3 : (m 94 10).toInt ≠ 4 → ((m3 99) = (m 99) ∧ (m3 111) = (m 111) ∧ (m3 113) = (m 113) ∧ (m3 114) = (m 114) ∧ (m3 94 55) = (m 94 55) ∧ (m3 109) = (m 109)) := p4_m3
                have b258 := i_bd (m 107 v2.toNatClampNeg)
                first | have e259 : ((m 107 v2.toNatClampNeg) + (-1 : Int32)).toInt = (m 107 v2.toNatClampNeg).toInt + (-1) := i_addk rfl (by omega) (by omega) | have b260 := i_bd ((m 107 v2.toNatClampNeg) + (-1 : Int32))
                exact K (((m 107 v2.toNatClampNeg) + (-1 : Int32))) _ (zF_zov (zF_u (zF_u (zF_zov (zF_u zF_rfl rfl) ws_245_253) rfl) rfl) ws_241_253) hV_m3 (show (m 94 8).toInt = 0 from by omega) r_W p0_m3
              · skip
                have g261 := i_ne h254
                refine zd (fun (h262 : v2 < (0 : Int32)) => ?_) (fun (h262 : ¬ v2 < (0 : Int32)) => ?_)
                · skip
                  have g263 := i_lt h262
                  have hV264 : zV (ma_u (zov wr_245 (ma_u m 94 0 (0 : Int32)) m1) 94 0 (0 : Int32)) := uf_94_0 hV_m1
                  have hV265 : zV (ma_u (ma_u (zov wr_245 (ma_u m 94 0 (0 : Int32)) m1) 94 0 (0 : Int32)) 107 v2.toNatClampNeg ((m 107 v2.toNatClampNeg) + (-1 : Int32))) := ua_107 hV264
                  have b266 := i_bd (m 107 v2.toNatClampNeg)
                  first | have e267 : ((m 107 v2.toNatClampNeg) + (-1 : Int32)).toInt = (m 107 v2.toNatClampNeg).toInt + (-1) := i_addk rfl (by omega) (by omega) | have b268 := i_bd ((m 107 v2.toNatClampNeg) + (-1 : Int32))
                  exact K (((m 107 v2.toNatClampNeg) + (-1 : Int32))) _ (zF_u (zF_u (zF_zov (zF_u zF_rfl rfl) ws_245_253) rfl) rfl) hV265 (show (m 94 8).toInt = 0 from by omega) r_W r_GW
                · skip
                  have g269 := i_nlt h262
                  have li270 : (4 : Int32).toInt = 4 := rfl
                  refine zd (fun (h271 : (m 94 10) = (4 : Int32)) => ?_) (fun (h271 : ¬ (m 94 10) = (4 : Int32)) => ?_)
                  · skip
                    have g272 := i_eq h271
                    have hg273 : (0 ≤ v2 ∧ v2.toNatClampNeg < 3100) := i_ix (by omega) (by omega)
                    refine ⟨hg273, ?_⟩
                    have hg274 : (0 ≤ v2 ∧ v2.toNatClampNeg < 3100) := i_ix (by omega) (by omega)
                    refine ⟨hg274, ?_⟩
                    have hV275 : zV (ma_u (zov wr_245 (ma_u m 94 0 (0 : Int32)) m1) 94 0 (0 : Int32)) := uf_94_0 hV_m1
                    have hV276 : zV (ma_u (ma_u (zov wr_245 (ma_u m 94 0 (0 : Int32)) m1) 94 0 (0 : Int32)) 107 v2.toNatClampNeg ((m 107 v2.toNatClampNeg) + (-1 : Int32))) := ua_107 hV275
                    have hV277 : zV (ma_u (ma_u (ma_u (zov wr_245 (ma_u m 94 0 (0 : Int32)) m1) 94 0 (0 : Int32)) 107 v2.toNatClampNeg ((m 107 v2.toNatClampNeg) + (-1 : Int32))) 105 v2.toNatClampNeg ((m 105 v2.toNatClampNeg) + (1 : Int32))) := ua_105 hV276
                    have b278 := i_bd (m 107 v2.toNatClampNeg)
                    first | have e279 : ((m 107 v2.toNatClampNeg) + (-1 : Int32)).toInt = (m 107 v2.toNatClampNeg).toInt + (-1) := i_addk rfl (by omega) (by omega) | have b280 := i_bd ((m 107 v2.toNatClampNeg) + (-1 : Int32))
                    exact K (((m 107 v2.toNatClampNeg) + (-1 : Int32))) _ (zF_u (zF_u (zF_u (zF_zov (zF_u zF_rfl rfl) ws_245_253) rfl) rfl) rfl) hV277 (show (m 94 8).toInt = 0 from by omega) r_W r_GW
                  · skip
                    have g281 := i_ne h271
                    have hV282 : zV (ma_u (zov wr_245 (ma_u m 94 0 (0 : Int32)) m1) 94 0 (0 : Int32)) := uf_94_0 hV_m1
                    have hV283 : zV (ma_u (ma_u (zov wr_245 (ma_u m 94 0 (0 : Int32)) m1) 94 0 (0 : Int32)) 107 v2.toNatClampNeg ((m 107 v2.toNatClampNeg) + (-1 : Int32))) := ua_107 hV282
                    have b284 := i_bd (m 107 v2.toNatClampNeg)
                    first | have e285 : ((m 107 v2.toNatClampNeg) + (-1 : Int32)).toInt = (m 107 v2.toNatClampNeg).toInt + (-1) := i_addk rfl (by omega) (by omega) | have b286 := i_bd ((m 107 v2.toNatClampNeg) + (-1 : Int32))
                    exact K (((m 107 v2.toNatClampNeg) + (-1 : Int32))) _ (zF_u (zF_u (zF_zov (zF_u zF_rfl rfl) ws_245_253) rfl) rfl) hV283 (show (m 94 8).toInt = 0 from by omega) r_W r_GW
            · skip
              have g287 := i_ne h251
              have hg288 : (0 ≤ v2 ∧ v2.toNatClampNeg < 3100) := i_ix (by omega) (by omega)
              refine ⟨hg288, ?_⟩
              refine zd (fun (h289 : on = (0 : Int32)) => ?_) (fun (h289 : ¬ on = (0 : Int32)) => ?_)
              · skip
                have g290 := i_eq h289
                have hV291 : zV (ma_u (zov wr_245 (ma_u m 94 0 (0 : Int32)) m1) 94 0 (0 : Int32)) := uf_94_0 hV_m1
                have hV292 : zV (ma_u (ma_u (zov wr_245 (ma_u m 94 0 (0 : Int32)) m1) 94 0 (0 : Int32)) 107 v2.toNatClampNeg ((m 107 v2.toNatClampNeg) + (1 : Int32))) := ua_107 hV291
                refine sp_241 (v2) hV292 (by omega) r_W r_GW (show zGU T (m 94 46) (m 99) from by first | (exfalso; omega; done) | (exfalso; contradiction; done)) (show zOw (m 99) (m 103) (m 111) from by first | (exfalso; omega; done) | (exfalso; contradiction; done)) (show zDX (m 94 10) (m 99) (m 112) (m 113) (m 114) (m 94 55) (m 98) (m 101) (m 102) (m 108) from by first | (exfalso; omega; done) | (exfalso; contradiction; done)) (fun m5 hV_m5 p0_m5 p1_m5 p2_m5 p3_m5 p4_m5 => zmv_n ?_)
                have p0_m5 : zGW T (m5 94 55) (m5 109) := p0_m5
                have p1_m5 : zGU T (m 94 46) (m5 99) := p1_m5
                have p2_m5 : zOw (m5 99) (m 103) (m5 111) := p2_m5
                have p3_m5 : zDX (m 94 10) (m5 99) (m 112) (m5 113) (m5 114) (m5 94 55) (m 98) (m 101) (m 102) (m 108) := p3_m5
                have p4_m5 : (m 94 10).toInt ≠ 4 → ((m5 99) = (m 99) ∧ (m5 111) = (m 111) ∧ (m5 113) = (m 113) ∧ (m5 114) = (m 114) ∧ (m5 94 55) = (m 94 55) ∧ (m5 109) = (m 109)) := p4_m5
                have b293 := i_bd (m 107 v2.toNatClampNeg)
                first | have e294 : ((m 107 v2.toNatClampNeg) + (1 : Int32)).toInt = (m 107 v2.toNatClampNeg).toInt + (1) := i_addk rfl (by omega) (by omega) | have b295 := i_bd ((m 107 v2.toNatClampNeg) + (1 : Int32))
                exact K (((m 107 v2.toNatClampNeg) + (1 : Int32))) _ (zF_zov (zF_u (zF_u (zF_zov (zF_u zF_rfl rfl) ws_245_253) rfl) rfl) ws_241_253) hV_m5 (show (m 94 8).toInt = 0 from by omega) r_W p0_m5
              · skip
                have g296 := i_ne h289
                refine zd (fun (h297 : v2 < (0 : Int32)) => ?_) (fun (h297 : ¬ v2 < (0 : Int32)) => ?_)
                · skip
                  have g298 := i_lt h297
                  have hV299 : zV (ma_u (zov wr_245 (ma_u m 94 0 (0 : Int32)) m1) 94 0 (0 : Int32)) := uf_94_0 hV_m1
                  have hV300 : zV (ma_u (ma_u (zov wr_245 (ma_u m 94 0 (0 : Int32)) m1) 94 0 (0 : Int32)) 107 v2.toNatClampNeg ((m 107 v2.toNatClampNeg) + (1 : Int32))) := ua_107 hV299
                  have b301 := i_bd (m 107 v2.toNatClampNeg)
                  first | have e302 : ((m 107 v2.toNatClampNeg) + (1 : Int32)).toInt = (m 107 v2.toNatClampNeg).toInt + (1) := i_addk rfl (by omega) (by omega) | have b303 := i_bd ((m 107 v2.toNatClampNeg) + (1 : Int32))
                  exact K (((m 107 v2.toNatClampNeg) + (1 : Int32))) _ (zF_u (zF_u (zF_zov (zF_u zF_rfl rfl) ws_245_253) rfl) rfl) hV300 (show (m 94 8).toInt = 0 from by omega) r_W r_GW
                · skip
                  have g304 := i_nlt h297
                  have li305 : (4 : Int32).toInt = 4 := rfl
                  refine zd (fun (h306 : (m 94 10) = (4 : Int32)) => ?_) (fun (h306 : ¬ (m 94 10) = (4 : Int32)) => ?_)
                  · skip
                    have g307 := i_eq h306
                    have hg308 : (0 ≤ v2 ∧ v2.toNatClampNeg < 3100) := i_ix (by omega) (by omega)
                    refine ⟨hg308, ?_⟩
                    have hg309 : (0 ≤ v2 ∧ v2.toNatClampNeg < 3100) := i_ix (by omega) (by omega)
                    refine ⟨hg309, ?_⟩
                    have hV310 : zV (ma_u (zov wr_245 (ma_u m 94 0 (0 : Int32)) m1) 94 0 (0 : Int32)) := uf_94_0 hV_m1
                    have hV311 : zV (ma_u (ma_u (zov wr_245 (ma_u m 94 0 (0 : Int32)) m1) 94 0 (0 : Int32)) 107 v2.toNatClampNeg ((m 107 v2.toNatClampNeg) + (1 : Int32))) := ua_107 hV310
                    have hV312 : zV (ma_u (ma_u (ma_u (zov wr_245 (ma_u m 94 0 (0 : Int32)) m1) 94 0 (0 : Int32)) 107 v2.toNatClampNeg ((m 107 v2.toNatClampNeg) + (1 : Int32))) 105 v2.toNatClampNeg ((m 105 v2.toNatClampNeg) + (1 : Int32))) := ua_105 hV311
                    have b313 := i_bd (m 107 v2.toNatClampNeg)
                    first | have e314 : ((m 107 v2.toNatClampNeg) + (1 : Int32)).toInt = (m 107 v2.toNatClampNeg).toInt + (1) := i_addk rfl (by omega) (by omega) | have b315 := i_bd ((m 107 v2.toNatClampNeg) + (1 : Int32))
                    exact K (((m 107 v2.toNatClampNeg) + (1 : Int32))) _ (zF_u (zF_u (zF_u (zF_zov (zF_u zF_rfl rfl) ws_245_253) rfl) rfl) rfl) hV312 (show (m 94 8).toInt = 0 from by omega) r_W r_GW
                  · skip
                    have g316 := i_ne h306
                    have hV317 : zV (ma_u (zov wr_245 (ma_u m 94 0 (0 : Int32)) m1) 94 0 (0 : Int32)) := uf_94_0 hV_m1
                    have hV318 : zV (ma_u (ma_u (zov wr_245 (ma_u m 94 0 (0 : Int32)) m1) 94 0 (0 : Int32)) 107 v2.toNatClampNeg ((m 107 v2.toNatClampNeg) + (1 : Int32))) := ua_107 hV317
                    have b319 := i_bd (m 107 v2.toNatClampNeg)
                    first | have e320 : ((m 107 v2.toNatClampNeg) + (1 : Int32)).toInt = (m 107 v2.toNatClampNeg).toInt + (1) := i_addk rfl (by omega) (by omega) | have b321 := i_bd ((m 107 v2.toNatClampNeg) + (1 : Int32))
                    exact K (((m 107 v2.toNatClampNeg) + (1 : Int32))) _ (zF_u (zF_u (zF_zov (zF_u zF_rfl rfl) ws_245_253) rfl) rfl) hV318 (show (m 94 8).toInt = 0 from by omega) r_W r_GW
    · skip
      have g322 := i_nle h10
      have hV323 : zV (ma_u (zov wr_245 (ma_u m 94 0 (0 : Int32)) m1) 94 0 (2 : Int32)) := uf_94_0 hV_m1
      exact K ((0 : Int32)) _ (zF_u (zF_zov (zF_u zF_rfl rfl) ws_245_253) rfl) hV323 (show (m 94 8).toInt = 0 from by omega) r_W r_GW
