/-! the reference before the first heap -/
theorem sp_260z {X : Nat × (Nat → Int32)} {P : Option ma_V → (Nat → Nat → Int32) → Prop} {T : Nat} {m : Nat → Nat → Int32} (wh : Int32) (hV : zV m) (hpre0 : (m 94 8).toInt = 0) (r_W : zW (m 94 7) (m 98) (m 101) (m 102) (m 108)) (r_GW : zGW T (m 94 55) (m 109)) (KZ : ∀ v m₉, zV (zov wr_260 m m₉) → ((m 94 8).toInt = 0) → (zW (m 94 7) (m 98) (m 101) (m 102) (m 108)) → (zGW T (m 94 55) (m 109)) → P (some (.inl v)) (zov wr_260 m m₉)) : zm X 1 22 260 0 [(0, .inr (.inr (some 94))), (1, .inl wh)] m P := by
  have K : ∀ v m₉, zF wr_260 m m₉ → zV m₉ → ((m₉ 94 8).toInt = 0) → (zW (m₉ 94 7) (m₉ 98) (m₉ 101) (m₉ 102) (m₉ 108)) → (zGW T (m₉ 94 55) (m₉ 109)) → P (some (.inl v)) m₉ := by
    intro v m₉ hf z q0 q1 q2
    have e := zov_eq hf
    rw [e] at z ⊢
    try rw [e] at q0
    try rw [e] at q1
    try rw [e] at q2
    exact KZ v m₉ z q0 q1 q2
  refine g_260_0 wh ?_
  have f1 : 0 ≤ (m 94 8).toInt ∧ (m 94 8).toInt ≤ 1 := rs_94_8 (m := m) hV
  have b2 := i_bd wh
  have li3 : (0 : Int32).toInt = 0 := rfl
  refine zd (fun (h4 : wh < (0 : Int32)) => ?_) (fun (h4 : ¬ wh < (0 : Int32)) => ?_)
  · skip
    have g5 := i_lt h4
    have hV6 : zV (ma_u m 94 0 (1 : Int32)) := uf_94_0 hV
    exact K ((0 : Int32)) _ (zF_u zF_rfl rfl) hV6 (show (m 94 8).toInt = 0 from by omega) r_W r_GW
  · skip
    have g7 := i_nlt h4
    have li8 : (13 : Int32).toInt = 13 := rfl
    refine zd (fun (h9 : wh ≤ (13 : Int32)) => ?_) (fun (h9 : ¬ wh ≤ (13 : Int32)) => ?_)
    · skip
      have g10 := i_le h9
      have li11 : (1 : Int32).toInt = 1 := rfl
      refine zd (fun (h12 : wh ≤ (1 : Int32)) => ?_) (fun (h12 : ¬ wh ≤ (1 : Int32)) => ?_)
      · skip
        have g13 := i_le h12
        refine zd (fun (h14 : wh = (0 : Int32)) => ?_) (fun (h14 : ¬ wh = (0 : Int32)) => ?_)
        · skip
          have g15 := i_eq h14
          have hV16 : zV (ma_u m 94 0 (0 : Int32)) := uf_94_0 hV
          have f17 : 0 ≤ (m 94 3).toInt ∧ (m 94 3).toInt ≤ 100 := rs_94_3 (m := m) hV
          exact K ((m 94 3)) _ (zF_u zF_rfl rfl) hV16 (show (m 94 8).toInt = 0 from by omega) r_W r_GW
        · skip
          have g18 := i_ne h14
          refine zd (fun (h19 : wh = (1 : Int32)) => ?_) (fun (h19 : ¬ wh = (1 : Int32)) => ?_)
          · skip
            have g20 := i_eq h19
            have hV21 : zV (ma_u m 94 0 (0 : Int32)) := uf_94_0 hV
            have f22 : 0 ≤ (m 94 7).toInt ∧ (m 94 7).toInt ≤ 16 := rs_94_7 (m := m) hV
            exact K ((m 94 7)) _ (zF_u zF_rfl rfl) hV21 (show (m 94 8).toInt = 0 from by omega) r_W r_GW
          · skip
            have g23 := i_ne h19
            have li24 : (2 : Int32).toInt = 2 := rfl
            refine zd (fun (h25 : wh = (2 : Int32)) => ?_) (fun (h25 : ¬ wh = (2 : Int32)) => ?_)
            · skip
              have g26 := i_eq h25
              have hV27 : zV (ma_u m 94 0 (0 : Int32)) := uf_94_0 hV
              have b28 := i_bd (m 94 44)
              exact K ((m 94 44)) _ (zF_u zF_rfl rfl) hV27 (show (m 94 8).toInt = 0 from by omega) r_W r_GW
            · skip
              have g29 := i_ne h25
              have li30 : (3 : Int32).toInt = 3 := rfl
              refine zd (fun (h31 : wh = (3 : Int32)) => ?_) (fun (h31 : ¬ wh = (3 : Int32)) => ?_)
              · skip
                have g32 := i_eq h31
                have hV33 : zV (ma_u m 94 0 (0 : Int32)) := uf_94_0 hV
                have b34 := i_bd (m 94 45)
                exact K ((m 94 45)) _ (zF_u zF_rfl rfl) hV33 (show (m 94 8).toInt = 0 from by omega) r_W r_GW
              · skip
                have g35 := i_ne h31
                have li36 : (4 : Int32).toInt = 4 := rfl
                refine zd (fun (h37 : wh = (4 : Int32)) => ?_) (fun (h37 : ¬ wh = (4 : Int32)) => ?_)
                · skip
                  have g38 := i_eq h37
                  have hV39 : zV (ma_u m 94 0 (0 : Int32)) := uf_94_0 hV
                  have f40 : 0 ≤ (m 94 46).toInt ∧ (m 94 46).toInt ≤ 100000 := rs_94_46 (m := m) hV
                  exact K ((m 94 46)) _ (zF_u zF_rfl rfl) hV39 (show (m 94 8).toInt = 0 from by omega) r_W r_GW
                · skip
                  have g41 := i_ne h37
                  have li42 : (5 : Int32).toInt = 5 := rfl
                  refine zd (fun (h43 : wh = (5 : Int32)) => ?_) (fun (h43 : ¬ wh = (5 : Int32)) => ?_)
                  · skip
                    have g44 := i_eq h43
                    have hV45 : zV (ma_u m 94 0 (0 : Int32)) := uf_94_0 hV
                    have b46 := i_bd (m 94 47)
                    exact K ((m 94 47)) _ (zF_u zF_rfl rfl) hV45 (show (m 94 8).toInt = 0 from by omega) r_W r_GW
                  · skip
                    have g47 := i_ne h43
                    have li48 : (6 : Int32).toInt = 6 := rfl
                    refine zd (fun (h49 : wh = (6 : Int32)) => ?_) (fun (h49 : ¬ wh = (6 : Int32)) => ?_)
                    · skip
                      have g50 := i_eq h49
                      have hV51 : zV (ma_u m 94 0 (0 : Int32)) := uf_94_0 hV
                      have b52 := i_bd (m 94 48)
                      exact K ((m 94 48)) _ (zF_u zF_rfl rfl) hV51 (show (m 94 8).toInt = 0 from by omega) r_W r_GW
                    · skip
                      have g53 := i_ne h49
                      have li54 : (7 : Int32).toInt = 7 := rfl
                      refine zd (fun (h55 : wh = (7 : Int32)) => ?_) (fun (h55 : ¬ wh = (7 : Int32)) => ?_)
                      · skip
                        have g56 := i_eq h55
                        have hV57 : zV (ma_u m 94 0 (0 : Int32)) := uf_94_0 hV
                        have b58 := i_bd (m 94 49)
                        exact K ((m 94 49)) _ (zF_u zF_rfl rfl) hV57 (show (m 94 8).toInt = 0 from by omega) r_W r_GW
                      · skip
                        have g59 := i_ne h55
                        have li60 : (8 : Int32).toInt = 8 := rfl
                        refine zd (fun (h61 : wh = (8 : Int32)) => ?_) (fun (h61 : ¬ wh = (8 : Int32)) => ?_)
                        · skip
                          have g62 := i_eq h61
                          have hV63 : zV (ma_u m 94 0 (0 : Int32)) := uf_94_0 hV
                          have b64 := i_bd (m 94 50)
                          exact K ((m 94 50)) _ (zF_u zF_rfl rfl) hV63 (show (m 94 8).toInt = 0 from by omega) r_W r_GW
                        · skip
                          have g65 := i_ne h61
                          have li66 : (9 : Int32).toInt = 9 := rfl
                          refine zd (fun (h67 : wh = (9 : Int32)) => ?_) (fun (h67 : ¬ wh = (9 : Int32)) => ?_)
                          · skip
                            have g68 := i_eq h67
                            have hV69 : zV (ma_u m 94 0 (0 : Int32)) := uf_94_0 hV
                            have f70 : 0 ≤ (m 94 55).toInt ∧ (m 94 55).toInt ≤ 3100 := rs_94_55 (m := m) hV
                            exact K ((m 94 55)) _ (zF_u zF_rfl rfl) hV69 (show (m 94 8).toInt = 0 from by omega) r_W r_GW
                          · skip
                            have g71 := i_ne h67
                            have li72 : (10 : Int32).toInt = 10 := rfl
                            refine zd (fun (h73 : wh = (10 : Int32)) => ?_) (fun (h73 : ¬ wh = (10 : Int32)) => ?_)
                            · skip
                              have g74 := i_eq h73
                              have f75 : 0 ≤ (m 94 10).toInt ∧ (m 94 10).toInt ≤ 6 := rs_94_10 (m := m) hV
                              refine zd (fun (h76 : (m 94 10) = (3 : Int32)) => ?_) (fun (h76 : ¬ (m 94 10) = (3 : Int32)) => ?_)
                              · skip
                                have g77 := i_eq h76
                                have hV78 : zV (ma_u m 94 0 (0 : Int32)) := uf_94_0 hV
                                refine sp_261  hV78  (fun v4 m3 hV_m3  => zmi_n ?_)
                                have b79 := i_bd v4
                                exact K (v4) _ (zF_zov (zF_u zF_rfl rfl) ws_261_260) hV_m3 (show (m 94 8).toInt = 0 from by omega) r_W r_GW
                              · skip
                                have g80 := i_ne h76
                                refine zd (fun (h81 : (m 94 10) = (6 : Int32)) => ?_) (fun (h81 : ¬ (m 94 10) = (6 : Int32)) => ?_)
                                · skip
                                  have g82 := i_eq h81
                                  have hV83 : zV (ma_u m 94 0 (0 : Int32)) := uf_94_0 hV
                                  refine sp_233  hV83  (fun v2 m1 hV_m1 p0_m1 => zmi_n ?_)
                                  have p0_m1 : v2.toInt ≤ 0 ∨ ∃ r : Nat, (r : Int) < (m 94 64).toInt ∧ (m 116) r = 0 := p0_m1
                                  have b84 := i_bd v2
                                  exact K (v2) _ (zF_zov (zF_u zF_rfl rfl) ws_233_260) hV_m1 (show (m 94 8).toInt = 0 from by omega) r_W r_GW
                                · skip
                                  have g85 := i_ne h81
                                  refine zd (fun (h86 : (m 94 10) = (5 : Int32)) => ?_) (fun (h86 : ¬ (m 94 10) = (5 : Int32)) => ?_)
                                  · skip
                                    have g87 := i_eq h86
                                    have f88 : 0 ≤ (m 94 58).toInt ∧ (m 94 58).toInt ≤ 1 := rs_94_58 (m := m) hV
                                    refine zd (fun (h89 : (m 94 58) = (0 : Int32)) => ?_) (fun (h89 : ¬ (m 94 58) = (0 : Int32)) => ?_)
                                    · skip
                                      have g90 := i_eq h89
                                      have hV91 : zV (ma_u m 94 0 (0 : Int32)) := uf_94_0 hV
                                      exact K ((0 : Int32)) _ (zF_u zF_rfl rfl) hV91 (show (m 94 8).toInt = 0 from by omega) r_W r_GW
                                    · skip
                                      have g92 := i_ne h89
                                      have hV93 : zV (ma_u m 94 0 (0 : Int32)) := uf_94_0 hV
                                      have f94 : 0 ≤ (m 94 56).toInt ∧ (m 94 56).toInt ≤ 3100 := rs_94_56 (m := m) hV
                                      have f95 : 0 ≤ (m 94 57).toInt ∧ (m 94 57).toInt ≤ 3100 := rs_94_57 (m := m) hV
                                      first | have e96 : ((m 94 56) - (m 94 57)).toInt = (m 94 56).toInt - (m 94 57).toInt := i_sub (by omega) (by omega) | have b97 := i_bd ((m 94 56) - (m 94 57))
                                      exact K (((m 94 56) - (m 94 57))) _ (zF_u zF_rfl rfl) hV93 (show (m 94 8).toInt = 0 from by omega) r_W r_GW
                                  · skip
                                    have g98 := i_ne h86
                                    have hV99 : zV (ma_u m 94 0 (0 : Int32)) := uf_94_0 hV
                                    exact K ((0 : Int32)) _ (zF_u zF_rfl rfl) hV99 (show (m 94 8).toInt = 0 from by omega) r_W r_GW
                            · skip
                              have g100 := i_ne h73
                              have li101 : (11 : Int32).toInt = 11 := rfl
                              refine zd (fun (h102 : wh = (11 : Int32)) => ?_) (fun (h102 : ¬ wh = (11 : Int32)) => ?_)
                              · skip
                                have g103 := i_eq h102
                                have f104 : 0 ≤ (m 94 10).toInt ∧ (m 94 10).toInt ≤ 6 := rs_94_10 (m := m) hV
                                refine zd (fun (h105 : (m 94 10) = (1 : Int32)) => ?_) (fun (h105 : ¬ (m 94 10) = (1 : Int32)) => ?_)
                                · skip
                                  have g106 := i_eq h105
                                  have hV107 : zV (ma_u m 94 0 (0 : Int32)) := uf_94_0 hV
                                  have f108 : 0 ≤ (m 94 59).toInt ∧ (m 94 59).toInt ≤ 4600 := rs_94_59 (m := m) hV
                                  exact K ((m 94 59)) _ (zF_u zF_rfl rfl) hV107 (show (m 94 8).toInt = 0 from by omega) r_W r_GW
                                · skip
                                  have g109 := i_ne h105
                                  refine zd (fun (h110 : (m 94 10) = (2 : Int32)) => ?_) (fun (h110 : ¬ (m 94 10) = (2 : Int32)) => ?_)
                                  · skip
                                    have g111 := i_eq h110
                                    have hV112 : zV (ma_u m 94 0 (0 : Int32)) := uf_94_0 hV
                                    have f113 : 0 ≤ (m 94 59).toInt ∧ (m 94 59).toInt ≤ 4600 := rs_94_59 (m := m) hV
                                    exact K ((m 94 59)) _ (zF_u zF_rfl rfl) hV112 (show (m 94 8).toInt = 0 from by omega) r_W r_GW
                                  · skip
                                    have g114 := i_ne h110
                                    refine zd (fun (h115 : (m 94 10) = (3 : Int32)) => ?_) (fun (h115 : ¬ (m 94 10) = (3 : Int32)) => ?_)
                                    · skip
                                      have g116 := i_eq h115
                                      have hV117 : zV (ma_u m 94 0 (0 : Int32)) := uf_94_0 hV
                                      have f118 : 0 ≤ (m 94 59).toInt ∧ (m 94 59).toInt ≤ 4600 := rs_94_59 (m := m) hV
                                      exact K ((m 94 59)) _ (zF_u zF_rfl rfl) hV117 (show (m 94 8).toInt = 0 from by omega) r_W r_GW
                                    · skip
                                      have g119 := i_ne h115
                                      refine zd (fun (h120 : (m 94 10) = (6 : Int32)) => ?_) (fun (h120 : ¬ (m 94 10) = (6 : Int32)) => ?_)
                                      · skip
                                        have g121 := i_eq h120
                                        have f122 : 0 ≤ (m 94 63).toInt ∧ (m 94 63).toInt ≤ 127 := rs_94_63 (m := m) hV
                                        have hg123 : (0 ≤ (m 94 63) ∧ (m 94 63).toNatClampNeg < 128) := i_ix (by omega) (by omega)
                                        refine ⟨hg123, ?_⟩
                                        have hV124 : zV (ma_u m 94 0 (0 : Int32)) := uf_94_0 hV
                                        have f125 : 0 ≤ (m 94 18).toInt ∧ (m 94 18).toInt ≤ 256 := rs_94_18 (m := m) hV
                                        first | have f126 := i_muln (x := (m 94 63)) (y := (m 94 18)) (by omega) (by omega) (by omega) (by omega) | have b127 := i_bd ((m 94 63) * (m 94 18))
                                        first | have f128 : 0 ≤ (m 116 (m 94 63).toNatClampNeg).toInt ∧ (m 116 (m 94 63).toNatClampNeg).toInt ≤ 4600 := ra_116 (m := m) hV (k := (m 94 63).toNatClampNeg) (i_ix (n := 128) (by omega) (by omega)).2 | have b129 := i_bd (m 116 (m 94 63).toNatClampNeg)
                                        first | have e130 : (((m 94 63) * (m 94 18)) + (m 116 (m 94 63).toNatClampNeg)).toInt = ((m 94 63) * (m 94 18)).toInt + (m 116 (m 94 63).toNatClampNeg).toInt := i_add (by omega) (by omega) | have b131 := i_bd (((m 94 63) * (m 94 18)) + (m 116 (m 94 63).toNatClampNeg))
                                        exact K ((((m 94 63) * (m 94 18)) + (m 116 (m 94 63).toNatClampNeg))) _ (zF_u zF_rfl rfl) hV124 (show (m 94 8).toInt = 0 from by omega) r_W r_GW
                                      · skip
                                        have g132 := i_ne h120
                                        have hV133 : zV (ma_u m 94 0 (0 : Int32)) := uf_94_0 hV
                                        exact K ((0 : Int32)) _ (zF_u zF_rfl rfl) hV133 (show (m 94 8).toInt = 0 from by omega) r_W r_GW
                              · skip
                                have g134 := i_ne h102
                                have li135 : (12 : Int32).toInt = 12 := rfl
                                refine zd (fun (h136 : wh = (12 : Int32)) => ?_) (fun (h136 : ¬ wh = (12 : Int32)) => ?_)
                                · skip
                                  have g137 := i_eq h136
                                  have f138 : 0 ≤ (m 94 58).toInt ∧ (m 94 58).toInt ≤ 1 := rs_94_58 (m := m) hV
                                  refine zd (fun (h139 : (m 94 58) = (0 : Int32)) => ?_) (fun (h139 : ¬ (m 94 58) = (0 : Int32)) => ?_)
                                  · skip
                                    have g140 := i_eq h139
                                    have hV141 : zV (ma_u m 94 0 (0 : Int32)) := uf_94_0 hV
                                    exact K ((0 : Int32)) _ (zF_u zF_rfl rfl) hV141 (show (m 94 8).toInt = 0 from by omega) r_W r_GW
                                  · skip
                                    have g142 := i_ne h139
                                    have hV143 : zV (ma_u m 94 0 (0 : Int32)) := uf_94_0 hV
                                    exact K ((1 : Int32)) _ (zF_u zF_rfl rfl) hV143 (show (m 94 8).toInt = 0 from by omega) r_W r_GW
                                · skip
                                  have g144 := i_ne h136
                                  have f145 : 0 ≤ (m 94 10).toInt ∧ (m 94 10).toInt ≤ 6 := rs_94_10 (m := m) hV
                                  refine zd (fun (h146 : (m 94 10) = (3 : Int32)) => ?_) (fun (h146 : ¬ (m 94 10) = (3 : Int32)) => ?_)
                                  · skip
                                    have g147 := i_eq h146
                                    have hV148 : zV (ma_u m 94 0 (0 : Int32)) := uf_94_0 hV
                                    have f149 : 0 ≤ (m 94 60).toInt ∧ (m 94 60).toInt ≤ 1600 := rs_94_60 (m := m) hV
                                    exact K ((m 94 60)) _ (zF_u zF_rfl rfl) hV148 (show (m 94 8).toInt = 0 from by omega) r_W r_GW
                                  · skip
                                    have g150 := i_ne h146
                                    refine zd (fun (h151 : (m 94 10) = (6 : Int32)) => ?_) (fun (h151 : ¬ (m 94 10) = (6 : Int32)) => ?_)
                                    · skip
                                      have g152 := i_eq h151
                                      have hV153 : zV (ma_u m 94 0 (0 : Int32)) := uf_94_0 hV
                                      have f154 : 0 ≤ (m 94 63).toInt ∧ (m 94 63).toInt ≤ 127 := rs_94_63 (m := m) hV
                                      exact K ((m 94 63)) _ (zF_u zF_rfl rfl) hV153 (show (m 94 8).toInt = 0 from by omega) r_W r_GW
                                    · skip
                                      have g155 := i_ne h151
                                      have hV156 : zV (ma_u m 94 0 (0 : Int32)) := uf_94_0 hV
                                      exact K ((0 : Int32)) _ (zF_u zF_rfl rfl) hV156 (show (m 94 8).toInt = 0 from by omega) r_W r_GW
      · skip
        have g157 := i_nle h12
        refine zd (fun (h158 : (m 94 8) = (0 : Int32)) => ?_) (fun (h158 : ¬ (m 94 8) = (0 : Int32)) => ?_)
        · skip
          have g159 := i_eq h158
          have hV160 : zV (ma_u m 94 0 (2 : Int32)) := uf_94_0 hV
          exact K ((0 : Int32)) _ (zF_u zF_rfl rfl) hV160 (show (m 94 8).toInt = 0 from by omega) r_W r_GW
        · skip
          have g161 := i_ne h158
          refine zd (fun (h162 : wh = (0 : Int32)) => ?_) (fun (h162 : ¬ wh = (0 : Int32)) => ?_)
          · skip
            have g163 := i_eq h162
            have hV164 : zV (ma_u m 94 0 (0 : Int32)) := uf_94_0 hV
            have f165 : 0 ≤ (m 94 3).toInt ∧ (m 94 3).toInt ≤ 100 := rs_94_3 (m := m) hV
            exact K ((m 94 3)) _ (zF_u zF_rfl rfl) hV164 (show (m 94 8).toInt = 0 from by omega) r_W r_GW
          · skip
            have g166 := i_ne h162
            refine zd (fun (h167 : wh = (1 : Int32)) => ?_) (fun (h167 : ¬ wh = (1 : Int32)) => ?_)
            · skip
              have g168 := i_eq h167
              have hV169 : zV (ma_u m 94 0 (0 : Int32)) := uf_94_0 hV
              have f170 : 0 ≤ (m 94 7).toInt ∧ (m 94 7).toInt ≤ 16 := rs_94_7 (m := m) hV
              exact K ((m 94 7)) _ (zF_u zF_rfl rfl) hV169 (show (m 94 8).toInt = 0 from by omega) r_W r_GW
            · skip
              have g171 := i_ne h167
              have li172 : (2 : Int32).toInt = 2 := rfl
              refine zd (fun (h173 : wh = (2 : Int32)) => ?_) (fun (h173 : ¬ wh = (2 : Int32)) => ?_)
              · skip
                have g174 := i_eq h173
                have hV175 : zV (ma_u m 94 0 (0 : Int32)) := uf_94_0 hV
                have b176 := i_bd (m 94 44)
                exact K ((m 94 44)) _ (zF_u zF_rfl rfl) hV175 (show (m 94 8).toInt = 0 from by omega) r_W r_GW
              · skip
                have g177 := i_ne h173
                have li178 : (3 : Int32).toInt = 3 := rfl
                refine zd (fun (h179 : wh = (3 : Int32)) => ?_) (fun (h179 : ¬ wh = (3 : Int32)) => ?_)
                · skip
                  have g180 := i_eq h179
                  have hV181 : zV (ma_u m 94 0 (0 : Int32)) := uf_94_0 hV
                  have b182 := i_bd (m 94 45)
                  exact K ((m 94 45)) _ (zF_u zF_rfl rfl) hV181 (show (m 94 8).toInt = 0 from by omega) r_W r_GW
                · skip
                  have g183 := i_ne h179
                  have li184 : (4 : Int32).toInt = 4 := rfl
                  refine zd (fun (h185 : wh = (4 : Int32)) => ?_) (fun (h185 : ¬ wh = (4 : Int32)) => ?_)
                  · skip
                    have g186 := i_eq h185
                    have hV187 : zV (ma_u m 94 0 (0 : Int32)) := uf_94_0 hV
                    have f188 : 0 ≤ (m 94 46).toInt ∧ (m 94 46).toInt ≤ 100000 := rs_94_46 (m := m) hV
                    exact K ((m 94 46)) _ (zF_u zF_rfl rfl) hV187 (show (m 94 8).toInt = 0 from by omega) r_W r_GW
                  · skip
                    have g189 := i_ne h185
                    have li190 : (5 : Int32).toInt = 5 := rfl
                    refine zd (fun (h191 : wh = (5 : Int32)) => ?_) (fun (h191 : ¬ wh = (5 : Int32)) => ?_)
                    · skip
                      have g192 := i_eq h191
                      have hV193 : zV (ma_u m 94 0 (0 : Int32)) := uf_94_0 hV
                      have b194 := i_bd (m 94 47)
                      exact K ((m 94 47)) _ (zF_u zF_rfl rfl) hV193 (show (m 94 8).toInt = 0 from by omega) r_W r_GW
                    · skip
                      have g195 := i_ne h191
                      have li196 : (6 : Int32).toInt = 6 := rfl
                      refine zd (fun (h197 : wh = (6 : Int32)) => ?_) (fun (h197 : ¬ wh = (6 : Int32)) => ?_)
                      · skip
                        have g198 := i_eq h197
                        have hV199 : zV (ma_u m 94 0 (0 : Int32)) := uf_94_0 hV
                        have b200 := i_bd (m 94 48)
                        exact K ((m 94 48)) _ (zF_u zF_rfl rfl) hV199 (show (m 94 8).toInt = 0 from by omega) r_W r_GW
                      · skip
                        have g201 := i_ne h197
                        have li202 : (7 : Int32).toInt = 7 := rfl
                        refine zd (fun (h203 : wh = (7 : Int32)) => ?_) (fun (h203 : ¬ wh = (7 : Int32)) => ?_)
                        · skip
                          have g204 := i_eq h203
                          have hV205 : zV (ma_u m 94 0 (0 : Int32)) := uf_94_0 hV
                          have b206 := i_bd (m 94 49)
                          exact K ((m 94 49)) _ (zF_u zF_rfl rfl) hV205 (show (m 94 8).toInt = 0 from by omega) r_W r_GW
                        · skip
                          have g207 := i_ne h203
                          have li208 : (8 : Int32).toInt = 8 := rfl
                          refine zd (fun (h209 : wh = (8 : Int32)) => ?_) (fun (h209 : ¬ wh = (8 : Int32)) => ?_)
                          · skip
                            have g210 := i_eq h209
                            have hV211 : zV (ma_u m 94 0 (0 : Int32)) := uf_94_0 hV
                            have b212 := i_bd (m 94 50)
                            exact K ((m 94 50)) _ (zF_u zF_rfl rfl) hV211 (show (m 94 8).toInt = 0 from by omega) r_W r_GW
                          · skip
                            have g213 := i_ne h209
                            have li214 : (9 : Int32).toInt = 9 := rfl
                            refine zd (fun (h215 : wh = (9 : Int32)) => ?_) (fun (h215 : ¬ wh = (9 : Int32)) => ?_)
                            · skip
                              have g216 := i_eq h215
                              have hV217 : zV (ma_u m 94 0 (0 : Int32)) := uf_94_0 hV
                              have f218 : 0 ≤ (m 94 55).toInt ∧ (m 94 55).toInt ≤ 3100 := rs_94_55 (m := m) hV
                              exact K ((m 94 55)) _ (zF_u zF_rfl rfl) hV217 (show (m 94 8).toInt = 0 from by omega) r_W r_GW
                            · skip
                              have g219 := i_ne h215
                              have li220 : (10 : Int32).toInt = 10 := rfl
                              refine zd (fun (h221 : wh = (10 : Int32)) => ?_) (fun (h221 : ¬ wh = (10 : Int32)) => ?_)
                              · skip
                                have g222 := i_eq h221
                                have f223 : 0 ≤ (m 94 10).toInt ∧ (m 94 10).toInt ≤ 6 := rs_94_10 (m := m) hV
                                refine zd (fun (h224 : (m 94 10) = (3 : Int32)) => ?_) (fun (h224 : ¬ (m 94 10) = (3 : Int32)) => ?_)
                                · skip
                                  have g225 := i_eq h224
                                  have hV226 : zV (ma_u m 94 0 (0 : Int32)) := uf_94_0 hV
                                  refine sp_261  hV226  (fun v8 m7 hV_m7  => zmi_n ?_)
                                  have b227 := i_bd v8
                                  exact K (v8) _ (zF_zov (zF_u zF_rfl rfl) ws_261_260) hV_m7 (show (m 94 8).toInt = 0 from by omega) r_W r_GW
                                · skip
                                  have g228 := i_ne h224
                                  refine zd (fun (h229 : (m 94 10) = (6 : Int32)) => ?_) (fun (h229 : ¬ (m 94 10) = (6 : Int32)) => ?_)
                                  · skip
                                    have g230 := i_eq h229
                                    have hV231 : zV (ma_u m 94 0 (0 : Int32)) := uf_94_0 hV
                                    refine sp_233  hV231  (fun v6 m5 hV_m5 p0_m5 => zmi_n ?_)
                                    have p0_m5 : v6.toInt ≤ 0 ∨ ∃ r : Nat, (r : Int) < (m 94 64).toInt ∧ (m 116) r = 0 := p0_m5
                                    have b232 := i_bd v6
                                    exact K (v6) _ (zF_zov (zF_u zF_rfl rfl) ws_233_260) hV_m5 (show (m 94 8).toInt = 0 from by omega) r_W r_GW
                                  · skip
                                    have g233 := i_ne h229
                                    refine zd (fun (h234 : (m 94 10) = (5 : Int32)) => ?_) (fun (h234 : ¬ (m 94 10) = (5 : Int32)) => ?_)
                                    · skip
                                      have g235 := i_eq h234
                                      have f236 : 0 ≤ (m 94 58).toInt ∧ (m 94 58).toInt ≤ 1 := rs_94_58 (m := m) hV
                                      refine zd (fun (h237 : (m 94 58) = (0 : Int32)) => ?_) (fun (h237 : ¬ (m 94 58) = (0 : Int32)) => ?_)
                                      · skip
                                        have g238 := i_eq h237
                                        have hV239 : zV (ma_u m 94 0 (0 : Int32)) := uf_94_0 hV
                                        exact K ((0 : Int32)) _ (zF_u zF_rfl rfl) hV239 (show (m 94 8).toInt = 0 from by omega) r_W r_GW
                                      · skip
                                        have g240 := i_ne h237
                                        have hV241 : zV (ma_u m 94 0 (0 : Int32)) := uf_94_0 hV
                                        have f242 : 0 ≤ (m 94 56).toInt ∧ (m 94 56).toInt ≤ 3100 := rs_94_56 (m := m) hV
                                        have f243 : 0 ≤ (m 94 57).toInt ∧ (m 94 57).toInt ≤ 3100 := rs_94_57 (m := m) hV
                                        first | have e244 : ((m 94 56) - (m 94 57)).toInt = (m 94 56).toInt - (m 94 57).toInt := i_sub (by omega) (by omega) | have b245 := i_bd ((m 94 56) - (m 94 57))
                                        exact K (((m 94 56) - (m 94 57))) _ (zF_u zF_rfl rfl) hV241 (show (m 94 8).toInt = 0 from by omega) r_W r_GW
                                    · skip
                                      have g246 := i_ne h234
                                      have hV247 : zV (ma_u m 94 0 (0 : Int32)) := uf_94_0 hV
                                      exact K ((0 : Int32)) _ (zF_u zF_rfl rfl) hV247 (show (m 94 8).toInt = 0 from by omega) r_W r_GW
                              · skip
                                have g248 := i_ne h221
                                have li249 : (11 : Int32).toInt = 11 := rfl
                                refine zd (fun (h250 : wh = (11 : Int32)) => ?_) (fun (h250 : ¬ wh = (11 : Int32)) => ?_)
                                · skip
                                  have g251 := i_eq h250
                                  have f252 : 0 ≤ (m 94 10).toInt ∧ (m 94 10).toInt ≤ 6 := rs_94_10 (m := m) hV
                                  refine zd (fun (h253 : (m 94 10) = (1 : Int32)) => ?_) (fun (h253 : ¬ (m 94 10) = (1 : Int32)) => ?_)
                                  · skip
                                    have g254 := i_eq h253
                                    have hV255 : zV (ma_u m 94 0 (0 : Int32)) := uf_94_0 hV
                                    have f256 : 0 ≤ (m 94 59).toInt ∧ (m 94 59).toInt ≤ 4600 := rs_94_59 (m := m) hV
                                    exact K ((m 94 59)) _ (zF_u zF_rfl rfl) hV255 (show (m 94 8).toInt = 0 from by omega) r_W r_GW
                                  · skip
                                    have g257 := i_ne h253
                                    refine zd (fun (h258 : (m 94 10) = (2 : Int32)) => ?_) (fun (h258 : ¬ (m 94 10) = (2 : Int32)) => ?_)
                                    · skip
                                      have g259 := i_eq h258
                                      have hV260 : zV (ma_u m 94 0 (0 : Int32)) := uf_94_0 hV
                                      have f261 : 0 ≤ (m 94 59).toInt ∧ (m 94 59).toInt ≤ 4600 := rs_94_59 (m := m) hV
                                      exact K ((m 94 59)) _ (zF_u zF_rfl rfl) hV260 (show (m 94 8).toInt = 0 from by omega) r_W r_GW
                                    · skip
                                      have g262 := i_ne h258
                                      refine zd (fun (h263 : (m 94 10) = (3 : Int32)) => ?_) (fun (h263 : ¬ (m 94 10) = (3 : Int32)) => ?_)
                                      · skip
                                        have g264 := i_eq h263
                                        have hV265 : zV (ma_u m 94 0 (0 : Int32)) := uf_94_0 hV
                                        have f266 : 0 ≤ (m 94 59).toInt ∧ (m 94 59).toInt ≤ 4600 := rs_94_59 (m := m) hV
                                        exact K ((m 94 59)) _ (zF_u zF_rfl rfl) hV265 (show (m 94 8).toInt = 0 from by omega) r_W r_GW
                                      · skip
                                        have g267 := i_ne h263
                                        refine zd (fun (h268 : (m 94 10) = (6 : Int32)) => ?_) (fun (h268 : ¬ (m 94 10) = (6 : Int32)) => ?_)
                                        · skip
                                          have g269 := i_eq h268
                                          have f270 : 0 ≤ (m 94 63).toInt ∧ (m 94 63).toInt ≤ 127 := rs_94_63 (m := m) hV
                                          have hg271 : (0 ≤ (m 94 63) ∧ (m 94 63).toNatClampNeg < 128) := i_ix (by omega) (by omega)
                                          refine ⟨hg271, ?_⟩
                                          have hV272 : zV (ma_u m 94 0 (0 : Int32)) := uf_94_0 hV
                                          have f273 : 0 ≤ (m 94 18).toInt ∧ (m 94 18).toInt ≤ 256 := rs_94_18 (m := m) hV
                                          first | have f274 := i_muln (x := (m 94 63)) (y := (m 94 18)) (by omega) (by omega) (by omega) (by omega) | have b275 := i_bd ((m 94 63) * (m 94 18))
                                          first | have f276 : 0 ≤ (m 116 (m 94 63).toNatClampNeg).toInt ∧ (m 116 (m 94 63).toNatClampNeg).toInt ≤ 4600 := ra_116 (m := m) hV (k := (m 94 63).toNatClampNeg) (i_ix (n := 128) (by omega) (by omega)).2 | have b277 := i_bd (m 116 (m 94 63).toNatClampNeg)
                                          first | have e278 : (((m 94 63) * (m 94 18)) + (m 116 (m 94 63).toNatClampNeg)).toInt = ((m 94 63) * (m 94 18)).toInt + (m 116 (m 94 63).toNatClampNeg).toInt := i_add (by omega) (by omega) | have b279 := i_bd (((m 94 63) * (m 94 18)) + (m 116 (m 94 63).toNatClampNeg))
                                          exact K ((((m 94 63) * (m 94 18)) + (m 116 (m 94 63).toNatClampNeg))) _ (zF_u zF_rfl rfl) hV272 (show (m 94 8).toInt = 0 from by omega) r_W r_GW
                                        · skip
                                          have g280 := i_ne h268
                                          have hV281 : zV (ma_u m 94 0 (0 : Int32)) := uf_94_0 hV
                                          exact K ((0 : Int32)) _ (zF_u zF_rfl rfl) hV281 (show (m 94 8).toInt = 0 from by omega) r_W r_GW
                                · skip
                                  have g282 := i_ne h250
                                  have li283 : (12 : Int32).toInt = 12 := rfl
                                  refine zd (fun (h284 : wh = (12 : Int32)) => ?_) (fun (h284 : ¬ wh = (12 : Int32)) => ?_)
                                  · skip
                                    have g285 := i_eq h284
                                    have f286 : 0 ≤ (m 94 58).toInt ∧ (m 94 58).toInt ≤ 1 := rs_94_58 (m := m) hV
                                    refine zd (fun (h287 : (m 94 58) = (0 : Int32)) => ?_) (fun (h287 : ¬ (m 94 58) = (0 : Int32)) => ?_)
                                    · skip
                                      have g288 := i_eq h287
                                      have hV289 : zV (ma_u m 94 0 (0 : Int32)) := uf_94_0 hV
                                      exact K ((0 : Int32)) _ (zF_u zF_rfl rfl) hV289 (show (m 94 8).toInt = 0 from by omega) r_W r_GW
                                    · skip
                                      have g290 := i_ne h287
                                      have hV291 : zV (ma_u m 94 0 (0 : Int32)) := uf_94_0 hV
                                      exact K ((1 : Int32)) _ (zF_u zF_rfl rfl) hV291 (show (m 94 8).toInt = 0 from by omega) r_W r_GW
                                  · skip
                                    have g292 := i_ne h284
                                    have f293 : 0 ≤ (m 94 10).toInt ∧ (m 94 10).toInt ≤ 6 := rs_94_10 (m := m) hV
                                    refine zd (fun (h294 : (m 94 10) = (3 : Int32)) => ?_) (fun (h294 : ¬ (m 94 10) = (3 : Int32)) => ?_)
                                    · skip
                                      have g295 := i_eq h294
                                      have hV296 : zV (ma_u m 94 0 (0 : Int32)) := uf_94_0 hV
                                      have f297 : 0 ≤ (m 94 60).toInt ∧ (m 94 60).toInt ≤ 1600 := rs_94_60 (m := m) hV
                                      exact K ((m 94 60)) _ (zF_u zF_rfl rfl) hV296 (show (m 94 8).toInt = 0 from by omega) r_W r_GW
                                    · skip
                                      have g298 := i_ne h294
                                      refine zd (fun (h299 : (m 94 10) = (6 : Int32)) => ?_) (fun (h299 : ¬ (m 94 10) = (6 : Int32)) => ?_)
                                      · skip
                                        have g300 := i_eq h299
                                        have hV301 : zV (ma_u m 94 0 (0 : Int32)) := uf_94_0 hV
                                        have f302 : 0 ≤ (m 94 63).toInt ∧ (m 94 63).toInt ≤ 127 := rs_94_63 (m := m) hV
                                        exact K ((m 94 63)) _ (zF_u zF_rfl rfl) hV301 (show (m 94 8).toInt = 0 from by omega) r_W r_GW
                                      · skip
                                        have g303 := i_ne h299
                                        have hV304 : zV (ma_u m 94 0 (0 : Int32)) := uf_94_0 hV
                                        exact K ((0 : Int32)) _ (zF_u zF_rfl rfl) hV304 (show (m 94 8).toInt = 0 from by omega) r_W r_GW
    · skip
      have g305 := i_nle h9
      have hV306 : zV (ma_u m 94 0 (1 : Int32)) := uf_94_0 hV
      exact K ((0 : Int32)) _ (zF_u zF_rfl rfl) hV306 (show (m 94 8).toInt = 0 from by omega) r_W r_GW
