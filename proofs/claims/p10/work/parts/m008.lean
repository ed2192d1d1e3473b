/-! from 95.zu07 -/
/-! the reference: who is used, words (written by wip/tools/gen15u.py) -/
set_option maxHeartbeats 8000000 in
theorem sp_210uw {X : Nat × (Nat → Int32)} {P : Option ma_V → (Nat → Nat → Int32) → Prop} {T : Nat} {m : Nat → Nat → Int32} (nw : Int32) (hV : zV m) (hpre0 : 1 ≤ nw.toInt) (hpre1 : nw.toInt ≤ 61) (r_W : zW (m 94 7) (m 98) (m 101) (m 102) (m 108)) (r_GW : zGW T (m 94 55) (m 109)) (r_GU : zGU T (m 94 46) (m 99)) (r_OW : zOw (m 99) (m 103) (m 111)) (r_DX : zDX (m 94 10) (m 99) (m 112) (m 113) (m 114) (m 94 55) (m 98) (m 101) (m 102) (m 108)) (r_HA : zHA (m 94 10) (m 94 11) (m 94 13) (m 94 14) (m 94 16) (m 94 61) (m 94 59) (m 94 60) (m 99) (m 102) (m 103) (m 111) (m 117) (m 98) (m 101) (m 108)) (hpre8 : (m 94 10).toInt = 3) (KZ : ∀ v m₉, zV (zov wr_210 m m₉) → (zGW T (m₉ 94 55) (m₉ 109)) → (zGU T (m 94 46) (m₉ 99)) → (zOw (m₉ 99) (m₉ 103) (m₉ 111)) → (zDX (m 94 10) (m₉ 99) (m 112) (m₉ 113) (m₉ 114) (m₉ 94 55) (m 98) (m 101) (m 102) (m 108)) → (zHA (m 94 10) (m 94 11) (m 94 13) (m 94 14) (m 94 16) (m₉ 94 61) (m₉ 94 59) (m₉ 94 60) (m₉ 99) (m 102) (m₉ 103) (m₉ 111) (m₉ 117) (m 98) (m 101) (m 108)) → (zPL (m 94 10) (m 94 11) (m 94 13) (m 94 14) (m₉ 94 61) (m₉ 94 59) (m₉ 94 60) (m 94 18) (m 94 64) (m₉ 99) (m 102) (m₉ 103) (m₉ 111) v nw) → (zUs (m 99) (m₉ 99)) → P (some (.inl v)) (zov wr_210 m m₉)) : zm X 7 152 210 0 [(0, .inr (.inr (some 94))), (1, .inl nw)] m P := by
  have K : ∀ v m₉, zF wr_210 m m₉ → zV m₉ → (zGW T (m₉ 94 55) (m₉ 109)) → (zGU T (m₉ 94 46) (m₉ 99)) → (zOw (m₉ 99) (m₉ 103) (m₉ 111)) → (zDX (m₉ 94 10) (m₉ 99) (m₉ 112) (m₉ 113) (m₉ 114) (m₉ 94 55) (m₉ 98) (m₉ 101) (m₉ 102) (m₉ 108)) → (zHA (m₉ 94 10) (m₉ 94 11) (m₉ 94 13) (m₉ 94 14) (m₉ 94 16) (m₉ 94 61) (m₉ 94 59) (m₉ 94 60) (m₉ 99) (m₉ 102) (m₉ 103) (m₉ 111) (m₉ 117) (m₉ 98) (m₉ 101) (m₉ 108)) → (zPL (m₉ 94 10) (m₉ 94 11) (m₉ 94 13) (m₉ 94 14) (m₉ 94 61) (m₉ 94 59) (m₉ 94 60) (m₉ 94 18) (m₉ 94 64) (m₉ 99) (m₉ 102) (m₉ 103) (m₉ 111) v nw) → (zUs (m 99) (m₉ 99)) → P (some (.inl v)) m₉ := by
    intro v m₉ hf z q0 q1 q2 q3 q4 q5 q6
    have e := zov_eq hf
    rw [e] at z ⊢
    try rw [e] at q0
    try rw [e] at q1
    try rw [e] at q2
    try rw [e] at q3
    try rw [e] at q4
    try rw [e] at q5
    try rw [e] at q6
    exact KZ v m₉ z q0 q1 q2 q3 q4 q5 q6
  refine g_210_0 nw ?_
  have f1 : 0 ≤ (m 94 10).toInt ∧ (m 94 10).toInt ≤ 6 := rs_94_10 (m := m) hV
  have b2 := i_bd nw
  have f3 : 0 ≤ (m 94 13).toInt ∧ (m 94 13).toInt ≤ 1500 := rs_94_13 (m := m) hV
  have li4 : (2 : Int32).toInt = 2 := rfl
  first | have f5 := i_div (x := (m 94 13)) (y := (2 : Int32)) (by omega) (by omega) | have b6 := i_bd ((m 94 13) / (2 : Int32))
  try have f7 : (((m 94 13) / (2 : Int32))).toInt = (m 94 13).toInt / 2 := (i_div (x := (m 94 13)) (y := (2 : Int32)) (by omega) (by omega)).2.2.1
  refine zd (fun (h8 : nw ≤ ((m 94 13) / (2 : Int32))) => ?_) (fun (h8 : ¬ nw ≤ ((m 94 13) / (2 : Int32))) => ?_)
  · skip
    have g9 := i_le h8
    have f10 : 0 ≤ (m 94 59).toInt ∧ (m 94 59).toInt ≤ 4600 := rs_94_59 (m := m) hV
    first | have e11 : ((m 94 59) + nw).toInt = (m 94 59).toInt + nw.toInt := i_add (by omega) (by omega) | have b12 := i_bd ((m 94 59) + nw)
    have f13 : 0 ≤ (m 94 14).toInt ∧ (m 94 14).toInt ≤ 1500 := rs_94_14 (m := m) hV
    have f14 : 0 ≤ (m 94 61).toInt ∧ (m 94 61).toInt ≤ 1 := rs_94_61 (m := m) hV
    first | have e15 : ((m 94 61) + (1 : Int32)).toInt = (m 94 61).toInt + (1) := i_addk rfl (by omega) (by omega) | have b16 := i_bd ((m 94 61) + (1 : Int32))
    first | have f17 := i_mul01 (x := ((m 94 61) + (1 : Int32))) (y := (m 94 13)) (by omega) (by omega) (by omega) (by omega) | have b18 := i_bd (((m 94 61) + (1 : Int32)) * (m 94 13))
    first | have e19 : ((m 94 14) + (((m 94 61) + (1 : Int32)) * (m 94 13))).toInt = (m 94 14).toInt + (((m 94 61) + (1 : Int32)) * (m 94 13)).toInt := i_add (by omega) (by omega) | have b20 := i_bd ((m 94 14) + (((m 94 61) + (1 : Int32)) * (m 94 13)))
    refine zd (fun (h21 : ((m 94 59) + nw) ≤ ((m 94 14) + (((m 94 61) + (1 : Int32)) * (m 94 13)))) => ?_) (fun (h21 : ¬ ((m 94 59) + nw) ≤ ((m 94 14) + (((m 94 61) + (1 : Int32)) * (m 94 13)))) => ?_)
    · skip
      have g22 := i_le h21
      have li23 : (0 : Int32).toInt = 0 := rfl
      refine zd (fun (h24 : (m 94 59) < (0 : Int32)) => ?_) (fun (h24 : ¬ (m 94 59) < (0 : Int32)) => ?_)
      · skip
        have g25 := i_lt h24
        have hV26 : zV (ma_u m 94 59 ((m 94 59) + nw)) := us_94_59 hV (by omega) (by omega)
        refine sp_214uw  hV26 r_W r_GW r_GU r_OW r_DX (show zHA (m 94 10) (m 94 11) (m 94 13) (m 94 14) (m 94 16) (m 94 61) ((m 94 59) + nw) (m 94 60) (m 99) (m 102) (m 103) (m 111) (m 117) (m 98) (m 101) (m 108) from by first | (exact HA_ot r_HA (by omega) (by omega) (by omega)) | (exact HA_up3 r_HA (by omega) (by omega) (by omega) (by omega) (by omega) (by omega) (by omega)) | (exfalso; omega; done) | (exfalso; contradiction; done)) (show (m 94 10).toInt = 3 from by omega) (fun v2 m1 hV_m1 p0_m1 p1_m1 p2_m1 p3_m1 p4_m1 p5_m1 => zmi_n ?_)
        have p0_m1 : zGW T (m1 94 55) (m1 109) := p0_m1
        have p1_m1 : zGU T (m 94 46) (m1 99) := p1_m1
        have p2_m1 : zOw (m1 99) (m1 103) (m1 111) := p2_m1
        have p3_m1 : zDX (m 94 10) (m1 99) (m 112) (m1 113) (m1 114) (m1 94 55) (m 98) (m 101) (m 102) (m 108) := p3_m1
        have p4_m1 : zHA (m 94 10) (m 94 11) (m 94 13) (m 94 14) (m 94 16) (m1 94 61) (m1 94 59) (m1 94 60) (m1 99) (m 102) (m1 103) (m1 111) (m1 117) (m 98) (m 101) (m 108) := p4_m1
        have p5_m1 : zUs (m 99) (m1 99) := p5_m1
        have f27 : 0 ≤ (m1 94 59).toInt ∧ (m1 94 59).toInt ≤ 4600 := rs_94_59 (m := (zov wr_214 (ma_u m 94 59 ((m 94 59) + nw)) m1)) hV_m1
        first | have e28 : ((m1 94 59) + nw).toInt = (m1 94 59).toInt + nw.toInt := i_add (by omega) (by omega) | have b29 := i_bd ((m1 94 59) + nw)
        have f30 : 0 ≤ (m1 94 61).toInt ∧ (m1 94 61).toInt ≤ 1 := rs_94_61 (m := (zov wr_214 (ma_u m 94 59 ((m 94 59) + nw)) m1)) hV_m1
        first | have e31 : ((m1 94 61) + (1 : Int32)).toInt = (m1 94 61).toInt + (1) := i_addk rfl (by omega) (by omega) | have b32 := i_bd ((m1 94 61) + (1 : Int32))
        first | have f33 := i_mul01 (x := ((m1 94 61) + (1 : Int32))) (y := (m 94 13)) (by omega) (by omega) (by omega) (by omega) | have b34 := i_bd (((m1 94 61) + (1 : Int32)) * (m 94 13))
        first | have e35 : ((m 94 14) + (((m1 94 61) + (1 : Int32)) * (m 94 13))).toInt = (m 94 14).toInt + (((m1 94 61) + (1 : Int32)) * (m 94 13)).toInt := i_add (by omega) (by omega) | have b36 := i_bd ((m 94 14) + (((m1 94 61) + (1 : Int32)) * (m 94 13)))
        refine zd (fun (h37 : ((m1 94 59) + nw) ≤ ((m 94 14) + (((m1 94 61) + (1 : Int32)) * (m 94 13)))) => ?_) (fun (h37 : ¬ ((m1 94 59) + nw) ≤ ((m 94 14) + (((m1 94 61) + (1 : Int32)) * (m 94 13)))) => ?_)
        · skip
          have g38 := i_le h37
          refine zd (fun (h39 : (m1 94 59) < (0 : Int32)) => ?_) (fun (h39 : ¬ (m1 94 59) < (0 : Int32)) => ?_)
          · skip
            have g40 := i_lt h39
            have hV41 : zV (ma_u (zov wr_214 (ma_u m 94 59 ((m 94 59) + nw)) m1) 94 59 ((m1 94 59) + nw)) := us_94_59 hV_m1 (by omega) (by omega)
            refine sp_211uw  hV41 r_W p0_m1 p1_m1 p2_m1 p3_m1 (show zHA (m 94 10) (m 94 11) (m 94 13) (m 94 14) (m 94 16) (m1 94 61) ((m1 94 59) + nw) (m1 94 60) (m1 99) (m 102) (m1 103) (m1 111) (m1 117) (m 98) (m 101) (m 108) from by first | (exact HA_ot p4_m1 (by omega) (by omega) (by omega)) | (exact HA_up3 p4_m1 (by omega) (by omega) (by omega) (by omega) (by omega) (by omega) (by omega)) | (exfalso; omega; done) | (exfalso; contradiction; done)) (show (m 94 10).toInt = 3 from by omega) (fun v4 m3 hV_m3 p0_m3 p1_m3 p2_m3 p3_m3 p4_m3 p5_m3 => zmi_n ?_)
            have p0_m3 : zGW T (m3 94 55) (m3 109) := p0_m3
            have p1_m3 : zGU T (m 94 46) (m3 99) := p1_m3
            have p2_m3 : zOw (m3 99) (m3 103) (m3 111) := p2_m3
            have p3_m3 : zDX (m 94 10) (m3 99) (m 112) (m3 113) (m3 114) (m3 94 55) (m 98) (m 101) (m 102) (m 108) := p3_m3
            have p4_m3 : zHA (m 94 10) (m 94 11) (m 94 13) (m 94 14) (m 94 16) (m1 94 61) ((m1 94 59) + nw) (m3 94 60) (m3 99) (m 102) (m3 103) (m3 111) (m3 117) (m 98) (m 101) (m 108) := p4_m3
            have p5_m3 : zUs (m1 99) (m3 99) := p5_m3
            refine sp_214uw  hV_m3 r_W p0_m3 p1_m3 p2_m3 p3_m3 p4_m3 (show (m 94 10).toInt = 3 from by omega) (fun v6 m5 hV_m5 p0_m5 p1_m5 p2_m5 p3_m5 p4_m5 p5_m5 => zmi_n ?_)
            have p0_m5 : zGW T (m5 94 55) (m5 109) := p0_m5
            have p1_m5 : zGU T (m 94 46) (m5 99) := p1_m5
            have p2_m5 : zOw (m5 99) (m5 103) (m5 111) := p2_m5
            have p3_m5 : zDX (m 94 10) (m5 99) (m 112) (m5 113) (m5 114) (m5 94 55) (m 98) (m 101) (m 102) (m 108) := p3_m5
            have p4_m5 : zHA (m 94 10) (m 94 11) (m 94 13) (m 94 14) (m 94 16) (m5 94 61) (m5 94 59) (m5 94 60) (m5 99) (m 102) (m5 103) (m5 111) (m5 117) (m 98) (m 101) (m 108) := p4_m5
            have p5_m5 : zUs (m3 99) (m5 99) := p5_m5
            have f42 : 0 ≤ (m5 94 59).toInt ∧ (m5 94 59).toInt ≤ 4600 := rs_94_59 (m := (zov wr_214 (zov wr_211 (ma_u (zov wr_214 (ma_u m 94 59 ((m 94 59) + nw)) m1) 94 59 ((m1 94 59) + nw)) m3) m5)) hV_m5
            first | have e43 : ((m5 94 59) + nw).toInt = (m5 94 59).toInt + nw.toInt := i_add (by omega) (by omega) | have b44 := i_bd ((m5 94 59) + nw)
            have f45 : 0 ≤ (m5 94 61).toInt ∧ (m5 94 61).toInt ≤ 1 := rs_94_61 (m := (zov wr_214 (zov wr_211 (ma_u (zov wr_214 (ma_u m 94 59 ((m 94 59) + nw)) m1) 94 59 ((m1 94 59) + nw)) m3) m5)) hV_m5
            first | have e46 : ((m5 94 61) + (1 : Int32)).toInt = (m5 94 61).toInt + (1) := i_addk rfl (by omega) (by omega) | have b47 := i_bd ((m5 94 61) + (1 : Int32))
            first | have f48 := i_mul01 (x := ((m5 94 61) + (1 : Int32))) (y := (m 94 13)) (by omega) (by omega) (by omega) (by omega) | have b49 := i_bd (((m5 94 61) + (1 : Int32)) * (m 94 13))
            first | have e50 : ((m 94 14) + (((m5 94 61) + (1 : Int32)) * (m 94 13))).toInt = (m 94 14).toInt + (((m5 94 61) + (1 : Int32)) * (m 94 13)).toInt := i_add (by omega) (by omega) | have b51 := i_bd ((m 94 14) + (((m5 94 61) + (1 : Int32)) * (m 94 13)))
            refine zd (fun (h52 : ((m5 94 59) + nw) ≤ ((m 94 14) + (((m5 94 61) + (1 : Int32)) * (m 94 13)))) => ?_) (fun (h52 : ¬ ((m5 94 59) + nw) ≤ ((m 94 14) + (((m5 94 61) + (1 : Int32)) * (m 94 13)))) => ?_)
            · skip
              have g53 := i_le h52
              have hV54 : zV (ma_u (zov wr_214 (zov wr_211 (ma_u (zov wr_214 (ma_u m 94 59 ((m 94 59) + nw)) m1) 94 59 ((m1 94 59) + nw)) m3) m5) 94 59 ((m5 94 59) + nw)) := us_94_59 hV_m5 (by omega) (by omega)
              exact K ((m5 94 59)) _ (zF_u (zF_zov (zF_zov (zF_u (zF_zov (zF_u zF_rfl rfl) ws_214_210) rfl) ws_211_210) ws_214_210) rfl) hV54 p0_m5 p1_m5 p2_m5 p3_m5 (show zHA (m 94 10) (m 94 11) (m 94 13) (m 94 14) (m 94 16) (m5 94 61) ((m5 94 59) + nw) (m5 94 60) (m5 99) (m 102) (m5 103) (m5 111) (m5 117) (m 98) (m 101) (m 108) from by first | (exact HA_ot p4_m5 (by omega) (by omega) (by omega)) | (exact HA_up3 p4_m5 (by omega) (by omega) (by omega) (by omega) (by omega) (by omega) (by omega)) | (exfalso; omega; done) | (exfalso; contradiction; done)) (show zPL (m 94 10) (m 94 11) (m 94 13) (m 94 14) (m5 94 61) ((m5 94 59) + nw) (m5 94 60) (m 94 18) (m 94 64) (m5 99) (m 102) (m5 103) (m5 111) (m5 94 59) nw from by first | (exact PL_no (by decide)) | (exact PL_3o p4_m5 (by omega) (by omega) (by omega) rfl (by omega)) | (exact PL_3y p4_m5 (by omega) (by omega) (by omega) (by omega) rfl (by omega)) | (exfalso; omega; done) | (exfalso; contradiction; done)) (show zUs (m 99) (m5 99) from by first | (exact (Us_tr (Us_tr (Us_tr Us_rfl p5_m1) p5_m3) p5_m5)) | (exact Us_w0 (Us_tr (Us_tr (Us_tr Us_rfl p5_m1) p5_m3) p5_m5)) | (exact Us_rfl) | (exfalso; omega; done) | (exfalso; contradiction; done))
            · skip
              have g55 := i_nle h52
              have li56 : (-1 : Int32).toInt = -1 := rfl
              exact K ((-1 : Int32)) _ (zF_zov (zF_zov (zF_u (zF_zov (zF_u zF_rfl rfl) ws_214_210) rfl) ws_211_210) ws_214_210) hV_m5 p0_m5 p1_m5 p2_m5 p3_m5 p4_m5 (show zPL (m 94 10) (m 94 11) (m 94 13) (m 94 14) (m5 94 61) (m5 94 59) (m5 94 60) (m 94 18) (m 94 64) (m5 99) (m 102) (m5 103) (m5 111) (-1 : Int32) nw from by first | (exact PL_no (by decide)) | (exact PL_3o p4_m5 (by omega) (by omega) (by omega) rfl (by omega)) | (exact PL_3y p4_m5 (by omega) (by omega) (by omega) (by omega) rfl (by omega)) | (exfalso; omega; done) | (exfalso; contradiction; done)) (show zUs (m 99) (m5 99) from by first | (exact (Us_tr (Us_tr (Us_tr Us_rfl p5_m1) p5_m3) p5_m5)) | (exact Us_w0 (Us_tr (Us_tr (Us_tr Us_rfl p5_m1) p5_m3) p5_m5)) | (exact Us_rfl) | (exfalso; omega; done) | (exfalso; contradiction; done))
          · skip
            have g57 := i_nlt h39
            have hV58 : zV (ma_u (zov wr_214 (ma_u m 94 59 ((m 94 59) + nw)) m1) 94 59 ((m1 94 59) + nw)) := us_94_59 hV_m1 (by omega) (by omega)
            exact K ((m1 94 59)) _ (zF_u (zF_zov (zF_u zF_rfl rfl) ws_214_210) rfl) hV58 p0_m1 p1_m1 p2_m1 p3_m1 (show zHA (m 94 10) (m 94 11) (m 94 13) (m 94 14) (m 94 16) (m1 94 61) ((m1 94 59) + nw) (m1 94 60) (m1 99) (m 102) (m1 103) (m1 111) (m1 117) (m 98) (m 101) (m 108) from by first | (exact HA_ot p4_m1 (by omega) (by omega) (by omega)) | (exact HA_up3 p4_m1 (by omega) (by omega) (by omega) (by omega) (by omega) (by omega) (by omega)) | (exfalso; omega; done) | (exfalso; contradiction; done)) (show zPL (m 94 10) (m 94 11) (m 94 13) (m 94 14) (m1 94 61) ((m1 94 59) + nw) (m1 94 60) (m 94 18) (m 94 64) (m1 99) (m 102) (m1 103) (m1 111) (m1 94 59) nw from by first | (exact PL_no (by decide)) | (exact PL_3o p4_m1 (by omega) (by omega) (by omega) rfl (by omega)) | (exact PL_3y p4_m1 (by omega) (by omega) (by omega) (by omega) rfl (by omega)) | (exfalso; omega; done) | (exfalso; contradiction; done)) p5_m1
        · skip
          have g59 := i_nle h37
          refine sp_211uw  hV_m1 r_W p0_m1 p1_m1 p2_m1 p3_m1 p4_m1 (show (m 94 10).toInt = 3 from by omega) (fun v8 m7 hV_m7 p0_m7 p1_m7 p2_m7 p3_m7 p4_m7 p5_m7 => zmi_n ?_)
          have p0_m7 : zGW T (m7 94 55) (m7 109) := p0_m7
          have p1_m7 : zGU T (m 94 46) (m7 99) := p1_m7
          have p2_m7 : zOw (m7 99) (m7 103) (m7 111) := p2_m7
          have p3_m7 : zDX (m 94 10) (m7 99) (m 112) (m7 113) (m7 114) (m7 94 55) (m 98) (m 101) (m 102) (m 108) := p3_m7
          have p4_m7 : zHA (m 94 10) (m 94 11) (m 94 13) (m 94 14) (m 94 16) (m1 94 61) (m1 94 59) (m7 94 60) (m7 99) (m 102) (m7 103) (m7 111) (m7 117) (m 98) (m 101) (m 108) := p4_m7
          have p5_m7 : zUs (m1 99) (m7 99) := p5_m7
          refine sp_214uw  hV_m7 r_W p0_m7 p1_m7 p2_m7 p3_m7 p4_m7 (show (m 94 10).toInt = 3 from by omega) (fun v10 m9 hV_m9 p0_m9 p1_m9 p2_m9 p3_m9 p4_m9 p5_m9 => zmi_n ?_)
          have p0_m9 : zGW T (m9 94 55) (m9 109) := p0_m9
          have p1_m9 : zGU T (m 94 46) (m9 99) := p1_m9
          have p2_m9 : zOw (m9 99) (m9 103) (m9 111) := p2_m9
          have p3_m9 : zDX (m 94 10) (m9 99) (m 112) (m9 113) (m9 114) (m9 94 55) (m 98) (m 101) (m 102) (m 108) := p3_m9
          have p4_m9 : zHA (m 94 10) (m 94 11) (m 94 13) (m 94 14) (m 94 16) (m9 94 61) (m9 94 59) (m9 94 60) (m9 99) (m 102) (m9 103) (m9 111) (m9 117) (m 98) (m 101) (m 108) := p4_m9
          have p5_m9 : zUs (m7 99) (m9 99) := p5_m9
          have f60 : 0 ≤ (m9 94 59).toInt ∧ (m9 94 59).toInt ≤ 4600 := rs_94_59 (m := (zov wr_214 (zov wr_211 (zov wr_214 (ma_u m 94 59 ((m 94 59) + nw)) m1) m7) m9)) hV_m9
          first | have e61 : ((m9 94 59) + nw).toInt = (m9 94 59).toInt + nw.toInt := i_add (by omega) (by omega) | have b62 := i_bd ((m9 94 59) + nw)
          have f63 : 0 ≤ (m9 94 61).toInt ∧ (m9 94 61).toInt ≤ 1 := rs_94_61 (m := (zov wr_214 (zov wr_211 (zov wr_214 (ma_u m 94 59 ((m 94 59) + nw)) m1) m7) m9)) hV_m9
          first | have e64 : ((m9 94 61) + (1 : Int32)).toInt = (m9 94 61).toInt + (1) := i_addk rfl (by omega) (by omega) | have b65 := i_bd ((m9 94 61) + (1 : Int32))
          first | have f66 := i_mul01 (x := ((m9 94 61) + (1 : Int32))) (y := (m 94 13)) (by omega) (by omega) (by omega) (by omega) | have b67 := i_bd (((m9 94 61) + (1 : Int32)) * (m 94 13))
          first | have e68 : ((m 94 14) + (((m9 94 61) + (1 : Int32)) * (m 94 13))).toInt = (m 94 14).toInt + (((m9 94 61) + (1 : Int32)) * (m 94 13)).toInt := i_add (by omega) (by omega) | have b69 := i_bd ((m 94 14) + (((m9 94 61) + (1 : Int32)) * (m 94 13)))
          refine zd (fun (h70 : ((m9 94 59) + nw) ≤ ((m 94 14) + (((m9 94 61) + (1 : Int32)) * (m 94 13)))) => ?_) (fun (h70 : ¬ ((m9 94 59) + nw) ≤ ((m 94 14) + (((m9 94 61) + (1 : Int32)) * (m 94 13)))) => ?_)
          · skip
            have g71 := i_le h70
            have hV72 : zV (ma_u (zov wr_214 (zov wr_211 (zov wr_214 (ma_u m 94 59 ((m 94 59) + nw)) m1) m7) m9) 94 59 ((m9 94 59) + nw)) := us_94_59 hV_m9 (by omega) (by omega)
            exact K ((m9 94 59)) _ (zF_u (zF_zov (zF_zov (zF_zov (zF_u zF_rfl rfl) ws_214_210) ws_211_210) ws_214_210) rfl) hV72 p0_m9 p1_m9 p2_m9 p3_m9 (show zHA (m 94 10) (m 94 11) (m 94 13) (m 94 14) (m 94 16) (m9 94 61) ((m9 94 59) + nw) (m9 94 60) (m9 99) (m 102) (m9 103) (m9 111) (m9 117) (m 98) (m 101) (m 108) from by first | (exact HA_ot p4_m9 (by omega) (by omega) (by omega)) | (exact HA_up3 p4_m9 (by omega) (by omega) (by omega) (by omega) (by omega) (by omega) (by omega)) | (exfalso; omega; done) | (exfalso; contradiction; done)) (show zPL (m 94 10) (m 94 11) (m 94 13) (m 94 14) (m9 94 61) ((m9 94 59) + nw) (m9 94 60) (m 94 18) (m 94 64) (m9 99) (m 102) (m9 103) (m9 111) (m9 94 59) nw from by first | (exact PL_no (by decide)) | (exact PL_3o p4_m9 (by omega) (by omega) (by omega) rfl (by omega)) | (exact PL_3y p4_m9 (by omega) (by omega) (by omega) (by omega) rfl (by omega)) | (exfalso; omega; done) | (exfalso; contradiction; done)) (show zUs (m 99) (m9 99) from by first | (exact (Us_tr (Us_tr (Us_tr Us_rfl p5_m1) p5_m7) p5_m9)) | (exact Us_w0 (Us_tr (Us_tr (Us_tr Us_rfl p5_m1) p5_m7) p5_m9)) | (exact Us_rfl) | (exfalso; omega; done) | (exfalso; contradiction; done))
          · skip
            have g73 := i_nle h70
            have li74 : (-1 : Int32).toInt = -1 := rfl
            exact K ((-1 : Int32)) _ (zF_zov (zF_zov (zF_zov (zF_u zF_rfl rfl) ws_214_210) ws_211_210) ws_214_210) hV_m9 p0_m9 p1_m9 p2_m9 p3_m9 p4_m9 (show zPL (m 94 10) (m 94 11) (m 94 13) (m 94 14) (m9 94 61) (m9 94 59) (m9 94 60) (m 94 18) (m 94 64) (m9 99) (m 102) (m9 103) (m9 111) (-1 : Int32) nw from by first | (exact PL_no (by decide)) | (exact PL_3o p4_m9 (by omega) (by omega) (by omega) rfl (by omega)) | (exact PL_3y p4_m9 (by omega) (by omega) (by omega) (by omega) rfl (by omega)) | (exfalso; omega; done) | (exfalso; contradiction; done)) (show zUs (m 99) (m9 99) from by first | (exact (Us_tr (Us_tr (Us_tr Us_rfl p5_m1) p5_m7) p5_m9)) | (exact Us_w0 (Us_tr (Us_tr (Us_tr Us_rfl p5_m1) p5_m7) p5_m9)) | (exact Us_rfl) | (exfalso; omega; done) | (exfalso; contradiction; done))
      · skip
        have g75 := i_nlt h24
        have hV76 : zV (ma_u m 94 59 ((m 94 59) + nw)) := us_94_59 hV (by omega) (by omega)
        exact K ((m 94 59)) _ (zF_u zF_rfl rfl) hV76 r_GW r_GU r_OW r_DX (show zHA (m 94 10) (m 94 11) (m 94 13) (m 94 14) (m 94 16) (m 94 61) ((m 94 59) + nw) (m 94 60) (m 99) (m 102) (m 103) (m 111) (m 117) (m 98) (m 101) (m 108) from by first | (exact HA_ot r_HA (by omega) (by omega) (by omega)) | (exact HA_up3 r_HA (by omega) (by omega) (by omega) (by omega) (by omega) (by omega) (by omega)) | (exfalso; omega; done) | (exfalso; contradiction; done)) (show zPL (m 94 10) (m 94 11) (m 94 13) (m 94 14) (m 94 61) ((m 94 59) + nw) (m 94 60) (m 94 18) (m 94 64) (m 99) (m 102) (m 103) (m 111) (m 94 59) nw from by first | (exact PL_no (by decide)) | (exact PL_3o r_HA (by omega) (by omega) (by omega) rfl (by omega)) | (exact PL_3y r_HA (by omega) (by omega) (by omega) (by omega) rfl (by omega)) | (exfalso; omega; done) | (exfalso; contradiction; done)) (show zUs (m 99) (m 99) from by first | (exact Us_rfl) | (exact Us_w0 Us_rfl) | (exact Us_rfl) | (exfalso; omega; done) | (exfalso; contradiction; done))
    · skip
      have g77 := i_nle h21
      refine sp_214uw  hV r_W r_GW r_GU r_OW r_DX r_HA (show (m 94 10).toInt = 3 from by omega) (fun v12 m11 hV_m11 p0_m11 p1_m11 p2_m11 p3_m11 p4_m11 p5_m11 => zmi_n ?_)
      have p0_m11 : zGW T (m11 94 55) (m11 109) := p0_m11
      have p1_m11 : zGU T (m 94 46) (m11 99) := p1_m11
      have p2_m11 : zOw (m11 99) (m11 103) (m11 111) := p2_m11
      have p3_m11 : zDX (m 94 10) (m11 99) (m 112) (m11 113) (m11 114) (m11 94 55) (m 98) (m 101) (m 102) (m 108) := p3_m11
      have p4_m11 : zHA (m 94 10) (m 94 11) (m 94 13) (m 94 14) (m 94 16) (m11 94 61) (m11 94 59) (m11 94 60) (m11 99) (m 102) (m11 103) (m11 111) (m11 117) (m 98) (m 101) (m 108) := p4_m11
      have p5_m11 : zUs (m 99) (m11 99) := p5_m11
      have f78 : 0 ≤ (m11 94 59).toInt ∧ (m11 94 59).toInt ≤ 4600 := rs_94_59 (m := (zov wr_214 m m11)) hV_m11
      first | have e79 : ((m11 94 59) + nw).toInt = (m11 94 59).toInt + nw.toInt := i_add (by omega) (by omega) | have b80 := i_bd ((m11 94 59) + nw)
      have f81 : 0 ≤ (m11 94 61).toInt ∧ (m11 94 61).toInt ≤ 1 := rs_94_61 (m := (zov wr_214 m m11)) hV_m11
      first | have e82 : ((m11 94 61) + (1 : Int32)).toInt = (m11 94 61).toInt + (1) := i_addk rfl (by omega) (by omega) | have b83 := i_bd ((m11 94 61) + (1 : Int32))
      first | have f84 := i_mul01 (x := ((m11 94 61) + (1 : Int32))) (y := (m 94 13)) (by omega) (by omega) (by omega) (by omega) | have b85 := i_bd (((m11 94 61) + (1 : Int32)) * (m 94 13))
      first | have e86 : ((m 94 14) + (((m11 94 61) + (1 : Int32)) * (m 94 13))).toInt = (m 94 14).toInt + (((m11 94 61) + (1 : Int32)) * (m 94 13)).toInt := i_add (by omega) (by omega) | have b87 := i_bd ((m 94 14) + (((m11 94 61) + (1 : Int32)) * (m 94 13)))
      refine zd (fun (h88 : ((m11 94 59) + nw) ≤ ((m 94 14) + (((m11 94 61) + (1 : Int32)) * (m 94 13)))) => ?_) (fun (h88 : ¬ ((m11 94 59) + nw) ≤ ((m 94 14) + (((m11 94 61) + (1 : Int32)) * (m 94 13)))) => ?_)
      · skip
        have g89 := i_le h88
        have li90 : (0 : Int32).toInt = 0 := rfl
        refine zd (fun (h91 : (m11 94 59) < (0 : Int32)) => ?_) (fun (h91 : ¬ (m11 94 59) < (0 : Int32)) => ?_)
        · skip
          have g92 := i_lt h91
          have hV93 : zV (ma_u (zov wr_214 m m11) 94 59 ((m11 94 59) + nw)) := us_94_59 hV_m11 (by omega) (by omega)
          refine sp_211uw  hV93 r_W p0_m11 p1_m11 p2_m11 p3_m11 (show zHA (m 94 10) (m 94 11) (m 94 13) (m 94 14) (m 94 16) (m11 94 61) ((m11 94 59) + nw) (m11 94 60) (m11 99) (m 102) (m11 103) (m11 111) (m11 117) (m 98) (m 101) (m 108) from by first | (exact HA_ot p4_m11 (by omega) (by omega) (by omega)) | (exact HA_up3 p4_m11 (by omega) (by omega) (by omega) (by omega) (by omega) (by omega) (by omega)) | (exfalso; omega; done) | (exfalso; contradiction; done)) (show (m 94 10).toInt = 3 from by omega) (fun v14 m13 hV_m13 p0_m13 p1_m13 p2_m13 p3_m13 p4_m13 p5_m13 => zmi_n ?_)
          have p0_m13 : zGW T (m13 94 55) (m13 109) := p0_m13
          have p1_m13 : zGU T (m 94 46) (m13 99) := p1_m13
          have p2_m13 : zOw (m13 99) (m13 103) (m13 111) := p2_m13
          have p3_m13 : zDX (m 94 10) (m13 99) (m 112) (m13 113) (m13 114) (m13 94 55) (m 98) (m 101) (m 102) (m 108) := p3_m13
          have p4_m13 : zHA (m 94 10) (m 94 11) (m 94 13) (m 94 14) (m 94 16) (m11 94 61) ((m11 94 59) + nw) (m13 94 60) (m13 99) (m 102) (m13 103) (m13 111) (m13 117) (m 98) (m 101) (m 108) := p4_m13
          have p5_m13 : zUs (m11 99) (m13 99) := p5_m13
          refine sp_214uw  hV_m13 r_W p0_m13 p1_m13 p2_m13 p3_m13 p4_m13 (show (m 94 10).toInt = 3 from by omega) (fun v16 m15 hV_m15 p0_m15 p1_m15 p2_m15 p3_m15 p4_m15 p5_m15 => zmi_n ?_)
          have p0_m15 : zGW T (m15 94 55) (m15 109) := p0_m15
          have p1_m15 : zGU T (m 94 46) (m15 99) := p1_m15
          have p2_m15 : zOw (m15 99) (m15 103) (m15 111) := p2_m15
          have p3_m15 : zDX (m 94 10) (m15 99) (m 112) (m15 113) (m15 114) (m15 94 55) (m 98) (m 101) (m 102) (m 108) := p3_m15
          have p4_m15 : zHA (m 94 10) (m 94 11) (m 94 13) (m 94 14) (m 94 16) (m15 94 61) (m15 94 59) (m15 94 60) (m15 99) (m 102) (m15 103) (m15 111) (m15 117) (m 98) (m 101) (m 108) := p4_m15
          have p5_m15 : zUs (m13 99) (m15 99) := p5_m15
          have f94 : 0 ≤ (m15 94 59).toInt ∧ (m15 94 59).toInt ≤ 4600 := rs_94_59 (m := (zov wr_214 (zov wr_211 (ma_u (zov wr_214 m m11) 94 59 ((m11 94 59) + nw)) m13) m15)) hV_m15
          first | have e95 : ((m15 94 59) + nw).toInt = (m15 94 59).toInt + nw.toInt := i_add (by omega) (by omega) | have b96 := i_bd ((m15 94 59) + nw)
          have f97 : 0 ≤ (m15 94 61).toInt ∧ (m15 94 61).toInt ≤ 1 := rs_94_61 (m := (zov wr_214 (zov wr_211 (ma_u (zov wr_214 m m11) 94 59 ((m11 94 59) + nw)) m13) m15)) hV_m15
          first | have e98 : ((m15 94 61) + (1 : Int32)).toInt = (m15 94 61).toInt + (1) := i_addk rfl (by omega) (by omega) | have b99 := i_bd ((m15 94 61) + (1 : Int32))
          first | have f100 := i_mul01 (x := ((m15 94 61) + (1 : Int32))) (y := (m 94 13)) (by omega) (by omega) (by omega) (by omega) | have b101 := i_bd (((m15 94 61) + (1 : Int32)) * (m 94 13))
          first | have e102 : ((m 94 14) + (((m15 94 61) + (1 : Int32)) * (m 94 13))).toInt = (m 94 14).toInt + (((m15 94 61) + (1 : Int32)) * (m 94 13)).toInt := i_add (by omega) (by omega) | have b103 := i_bd ((m 94 14) + (((m15 94 61) + (1 : Int32)) * (m 94 13)))
          refine zd (fun (h104 : ((m15 94 59) + nw) ≤ ((m 94 14) + (((m15 94 61) + (1 : Int32)) * (m 94 13)))) => ?_) (fun (h104 : ¬ ((m15 94 59) + nw) ≤ ((m 94 14) + (((m15 94 61) + (1 : Int32)) * (m 94 13)))) => ?_)
          · skip
            have g105 := i_le h104
            have hV106 : zV (ma_u (zov wr_214 (zov wr_211 (ma_u (zov wr_214 m m11) 94 59 ((m11 94 59) + nw)) m13) m15) 94 59 ((m15 94 59) + nw)) := us_94_59 hV_m15 (by omega) (by omega)
            exact K ((m15 94 59)) _ (zF_u (zF_zov (zF_zov (zF_u (zF_zov zF_rfl ws_214_210) rfl) ws_211_210) ws_214_210) rfl) hV106 p0_m15 p1_m15 p2_m15 p3_m15 (show zHA (m 94 10) (m 94 11) (m 94 13) (m 94 14) (m 94 16) (m15 94 61) ((m15 94 59) + nw) (m15 94 60) (m15 99) (m 102) (m15 103) (m15 111) (m15 117) (m 98) (m 101) (m 108) from by first | (exact HA_ot p4_m15 (by omega) (by omega) (by omega)) | (exact HA_up3 p4_m15 (by omega) (by omega) (by omega) (by omega) (by omega) (by omega) (by omega)) | (exfalso; omega; done) | (exfalso; contradiction; done)) (show zPL (m 94 10) (m 94 11) (m 94 13) (m 94 14) (m15 94 61) ((m15 94 59) + nw) (m15 94 60) (m 94 18) (m 94 64) (m15 99) (m 102) (m15 103) (m15 111) (m15 94 59) nw from by first | (exact PL_no (by decide)) | (exact PL_3o p4_m15 (by omega) (by omega) (by omega) rfl (by omega)) | (exact PL_3y p4_m15 (by omega) (by omega) (by omega) (by omega) rfl (by omega)) | (exfalso; omega; done) | (exfalso; contradiction; done)) (show zUs (m 99) (m15 99) from by first | (exact (Us_tr (Us_tr (Us_tr Us_rfl p5_m11) p5_m13) p5_m15)) | (exact Us_w0 (Us_tr (Us_tr (Us_tr Us_rfl p5_m11) p5_m13) p5_m15)) | (exact Us_rfl) | (exfalso; omega; done) | (exfalso; contradiction; done))
          · skip
            have g107 := i_nle h104
            have li108 : (-1 : Int32).toInt = -1 := rfl
            exact K ((-1 : Int32)) _ (zF_zov (zF_zov (zF_u (zF_zov zF_rfl ws_214_210) rfl) ws_211_210) ws_214_210) hV_m15 p0_m15 p1_m15 p2_m15 p3_m15 p4_m15 (show zPL (m 94 10) (m 94 11) (m 94 13) (m 94 14) (m15 94 61) (m15 94 59) (m15 94 60) (m 94 18) (m 94 64) (m15 99) (m 102) (m15 103) (m15 111) (-1 : Int32) nw from by first | (exact PL_no (by decide)) | (exact PL_3o p4_m15 (by omega) (by omega) (by omega) rfl (by omega)) | (exact PL_3y p4_m15 (by omega) (by omega) (by omega) (by omega) rfl (by omega)) | (exfalso; omega; done) | (exfalso; contradiction; done)) (show zUs (m 99) (m15 99) from by first | (exact (Us_tr (Us_tr (Us_tr Us_rfl p5_m11) p5_m13) p5_m15)) | (exact Us_w0 (Us_tr (Us_tr (Us_tr Us_rfl p5_m11) p5_m13) p5_m15)) | (exact Us_rfl) | (exfalso; omega; done) | (exfalso; contradiction; done))
        · skip
          have g109 := i_nlt h91
          have hV110 : zV (ma_u (zov wr_214 m m11) 94 59 ((m11 94 59) + nw)) := us_94_59 hV_m11 (by omega) (by omega)
          exact K ((m11 94 59)) _ (zF_u (zF_zov zF_rfl ws_214_210) rfl) hV110 p0_m11 p1_m11 p2_m11 p3_m11 (show zHA (m 94 10) (m 94 11) (m 94 13) (m 94 14) (m 94 16) (m11 94 61) ((m11 94 59) + nw) (m11 94 60) (m11 99) (m 102) (m11 103) (m11 111) (m11 117) (m 98) (m 101) (m 108) from by first | (exact HA_ot p4_m11 (by omega) (by omega) (by omega)) | (exact HA_up3 p4_m11 (by omega) (by omega) (by omega) (by omega) (by omega) (by omega) (by omega)) | (exfalso; omega; done) | (exfalso; contradiction; done)) (show zPL (m 94 10) (m 94 11) (m 94 13) (m 94 14) (m11 94 61) ((m11 94 59) + nw) (m11 94 60) (m 94 18) (m 94 64) (m11 99) (m 102) (m11 103) (m11 111) (m11 94 59) nw from by first | (exact PL_no (by decide)) | (exact PL_3o p4_m11 (by omega) (by omega) (by omega) rfl (by omega)) | (exact PL_3y p4_m11 (by omega) (by omega) (by omega) (by omega) rfl (by omega)) | (exfalso; omega; done) | (exfalso; contradiction; done)) p5_m11
      · skip
        have g111 := i_nle h88
        refine sp_211uw  hV_m11 r_W p0_m11 p1_m11 p2_m11 p3_m11 p4_m11 (show (m 94 10).toInt = 3 from by omega) (fun v18 m17 hV_m17 p0_m17 p1_m17 p2_m17 p3_m17 p4_m17 p5_m17 => zmi_n ?_)
        have p0_m17 : zGW T (m17 94 55) (m17 109) := p0_m17
        have p1_m17 : zGU T (m 94 46) (m17 99) := p1_m17
        have p2_m17 : zOw (m17 99) (m17 103) (m17 111) := p2_m17
        have p3_m17 : zDX (m 94 10) (m17 99) (m 112) (m17 113) (m17 114) (m17 94 55) (m 98) (m 101) (m 102) (m 108) := p3_m17
        have p4_m17 : zHA (m 94 10) (m 94 11) (m 94 13) (m 94 14) (m 94 16) (m11 94 61) (m11 94 59) (m17 94 60) (m17 99) (m 102) (m17 103) (m17 111) (m17 117) (m 98) (m 101) (m 108) := p4_m17
        have p5_m17 : zUs (m11 99) (m17 99) := p5_m17
        refine sp_214uw  hV_m17 r_W p0_m17 p1_m17 p2_m17 p3_m17 p4_m17 (show (m 94 10).toInt = 3 from by omega) (fun v20 m19 hV_m19 p0_m19 p1_m19 p2_m19 p3_m19 p4_m19 p5_m19 => zmi_n ?_)
        have p0_m19 : zGW T (m19 94 55) (m19 109) := p0_m19
        have p1_m19 : zGU T (m 94 46) (m19 99) := p1_m19
        have p2_m19 : zOw (m19 99) (m19 103) (m19 111) := p2_m19
        have p3_m19 : zDX (m 94 10) (m19 99) (m 112) (m19 113) (m19 114) (m19 94 55) (m 98) (m 101) (m 102) (m 108) := p3_m19
        have p4_m19 : zHA (m 94 10) (m 94 11) (m 94 13) (m 94 14) (m 94 16) (m19 94 61) (m19 94 59) (m19 94 60) (m19 99) (m 102) (m19 103) (m19 111) (m19 117) (m 98) (m 101) (m 108) := p4_m19
        have p5_m19 : zUs (m17 99) (m19 99) := p5_m19
        have f112 : 0 ≤ (m19 94 59).toInt ∧ (m19 94 59).toInt ≤ 4600 := rs_94_59 (m := (zov wr_214 (zov wr_211 (zov wr_214 m m11) m17) m19)) hV_m19
        first | have e113 : ((m19 94 59) + nw).toInt = (m19 94 59).toInt + nw.toInt := i_add (by omega) (by omega) | have b114 := i_bd ((m19 94 59) + nw)
        have f115 : 0 ≤ (m19 94 61).toInt ∧ (m19 94 61).toInt ≤ 1 := rs_94_61 (m := (zov wr_214 (zov wr_211 (zov wr_214 m m11) m17) m19)) hV_m19
        first | have e116 : ((m19 94 61) + (1 : Int32)).toInt = (m19 94 61).toInt + (1) := i_addk rfl (by omega) (by omega) | have b117 := i_bd ((m19 94 61) + (1 : Int32))
        first | have f118 := i_mul01 (x := ((m19 94 61) + (1 : Int32))) (y := (m 94 13)) (by omega) (by omega) (by omega) (by omega) | have b119 := i_bd (((m19 94 61) + (1 : Int32)) * (m 94 13))
        first | have e120 : ((m 94 14) + (((m19 94 61) + (1 : Int32)) * (m 94 13))).toInt = (m 94 14).toInt + (((m19 94 61) + (1 : Int32)) * (m 94 13)).toInt := i_add (by omega) (by omega) | have b121 := i_bd ((m 94 14) + (((m19 94 61) + (1 : Int32)) * (m 94 13)))
        refine zd (fun (h122 : ((m19 94 59) + nw) ≤ ((m 94 14) + (((m19 94 61) + (1 : Int32)) * (m 94 13)))) => ?_) (fun (h122 : ¬ ((m19 94 59) + nw) ≤ ((m 94 14) + (((m19 94 61) + (1 : Int32)) * (m 94 13)))) => ?_)
        · skip
          have g123 := i_le h122
          have hV124 : zV (ma_u (zov wr_214 (zov wr_211 (zov wr_214 m m11) m17) m19) 94 59 ((m19 94 59) + nw)) := us_94_59 hV_m19 (by omega) (by omega)
          exact K ((m19 94 59)) _ (zF_u (zF_zov (zF_zov (zF_zov zF_rfl ws_214_210) ws_211_210) ws_214_210) rfl) hV124 p0_m19 p1_m19 p2_m19 p3_m19 (show zHA (m 94 10) (m 94 11) (m 94 13) (m 94 14) (m 94 16) (m19 94 61) ((m19 94 59) + nw) (m19 94 60) (m19 99) (m 102) (m19 103) (m19 111) (m19 117) (m 98) (m 101) (m 108) from by first | (exact HA_ot p4_m19 (by omega) (by omega) (by omega)) | (exact HA_up3 p4_m19 (by omega) (by omega) (by omega) (by omega) (by omega) (by omega) (by omega)) | (exfalso; omega; done) | (exfalso; contradiction; done)) (show zPL (m 94 10) (m 94 11) (m 94 13) (m 94 14) (m19 94 61) ((m19 94 59) + nw) (m19 94 60) (m 94 18) (m 94 64) (m19 99) (m 102) (m19 103) (m19 111) (m19 94 59) nw from by first | (exact PL_no (by decide)) | (exact PL_3o p4_m19 (by omega) (by omega) (by omega) rfl (by omega)) | (exact PL_3y p4_m19 (by omega) (by omega) (by omega) (by omega) rfl (by omega)) | (exfalso; omega; done) | (exfalso; contradiction; done)) (show zUs (m 99) (m19 99) from by first | (exact (Us_tr (Us_tr (Us_tr Us_rfl p5_m11) p5_m17) p5_m19)) | (exact Us_w0 (Us_tr (Us_tr (Us_tr Us_rfl p5_m11) p5_m17) p5_m19)) | (exact Us_rfl) | (exfalso; omega; done) | (exfalso; contradiction; done))
        · skip
          have g125 := i_nle h122
          have li126 : (-1 : Int32).toInt = -1 := rfl
          exact K ((-1 : Int32)) _ (zF_zov (zF_zov (zF_zov zF_rfl ws_214_210) ws_211_210) ws_214_210) hV_m19 p0_m19 p1_m19 p2_m19 p3_m19 p4_m19 (show zPL (m 94 10) (m 94 11) (m 94 13) (m 94 14) (m19 94 61) (m19 94 59) (m19 94 60) (m 94 18) (m 94 64) (m19 99) (m 102) (m19 103) (m19 111) (-1 : Int32) nw from by first | (exact PL_no (by decide)) | (exact PL_3o p4_m19 (by omega) (by omega) (by omega) rfl (by omega)) | (exact PL_3y p4_m19 (by omega) (by omega) (by omega) (by omega) rfl (by omega)) | (exfalso; omega; done) | (exfalso; contradiction; done)) (show zUs (m 99) (m19 99) from by first | (exact (Us_tr (Us_tr (Us_tr Us_rfl p5_m11) p5_m17) p5_m19)) | (exact Us_w0 (Us_tr (Us_tr (Us_tr Us_rfl p5_m11) p5_m17) p5_m19)) | (exact Us_rfl) | (exfalso; omega; done) | (exfalso; contradiction; done))
  · skip
    have g127 := i_nle h8
    have f128 : 0 ≤ (m 94 60).toInt ∧ (m 94 60).toInt ≤ 1600 := rs_94_60 (m := m) hV
    first | have e129 : ((m 94 60) + nw).toInt = (m 94 60).toInt + nw.toInt := i_add (by omega) (by omega) | have b130 := i_bd ((m 94 60) + nw)
    have f131 : 0 ≤ (m 94 14).toInt ∧ (m 94 14).toInt ≤ 1500 := rs_94_14 (m := m) hV
    refine zd (fun (h132 : ((m 94 60) + nw) ≤ (m 94 14)) => ?_) (fun (h132 : ¬ ((m 94 60) + nw) ≤ (m 94 14)) => ?_)
    · skip
      have g133 := i_le h132
      refine zd (fun (h134 : ((m 94 60) + nw) ≤ (m 94 14)) => ?_) (fun (h134 : ¬ ((m 94 60) + nw) ≤ (m 94 14)) => ?_)
      · skip
        have g135 := i_le h134
        have hV136 : zV (ma_u m 94 60 ((m 94 60) + nw)) := us_94_60 hV (by omega) (by omega)
        exact K ((m 94 60)) _ (zF_u zF_rfl rfl) hV136 r_GW r_GU r_OW r_DX (show zHA (m 94 10) (m 94 11) (m 94 13) (m 94 14) (m 94 16) (m 94 61) (m 94 59) ((m 94 60) + nw) (m 99) (m 102) (m 103) (m 111) (m 117) (m 98) (m 101) (m 108) from by first | (exact HA_ot r_HA (by omega) (by omega) (by omega)) | (exact HA_up3 r_HA (by omega) (by omega) (by omega) (by omega) (by omega) (by omega) (by omega)) | (exfalso; omega; done) | (exfalso; contradiction; done)) (show zPL (m 94 10) (m 94 11) (m 94 13) (m 94 14) (m 94 61) (m 94 59) ((m 94 60) + nw) (m 94 18) (m 94 64) (m 99) (m 102) (m 103) (m 111) (m 94 60) nw from by first | (exact PL_no (by decide)) | (exact PL_3o r_HA (by omega) (by omega) (by omega) rfl (by omega)) | (exact PL_3y r_HA (by omega) (by omega) (by omega) (by omega) rfl (by omega)) | (exfalso; omega; done) | (exfalso; contradiction; done)) (show zUs (m 99) (m 99) from by first | (exact Us_rfl) | (exact Us_w0 Us_rfl) | (exact Us_rfl) | (exfalso; omega; done) | (exfalso; contradiction; done))
      · skip
        have g137 := i_nle h134
        have li138 : (-1 : Int32).toInt = -1 := rfl
        exact K ((-1 : Int32)) _ zF_rfl hV r_GW r_GU r_OW r_DX r_HA (show zPL (m 94 10) (m 94 11) (m 94 13) (m 94 14) (m 94 61) (m 94 59) (m 94 60) (m 94 18) (m 94 64) (m 99) (m 102) (m 103) (m 111) (-1 : Int32) nw from by first | (exact PL_no (by decide)) | (exact PL_3o r_HA (by omega) (by omega) (by omega) rfl (by omega)) | (exact PL_3y r_HA (by omega) (by omega) (by omega) (by omega) rfl (by omega)) | (exfalso; omega; done) | (exfalso; contradiction; done)) (show zUs (m 99) (m 99) from by first | (exact Us_rfl) | (exact Us_w0 Us_rfl) | (exact Us_rfl) | (exfalso; omega; done) | (exfalso; contradiction; done))
    · skip
      have g139 := i_nle h132
      refine sp_211uw  hV r_W r_GW r_GU r_OW r_DX r_HA (show (m 94 10).toInt = 3 from by omega) (fun v22 m21 hV_m21 p0_m21 p1_m21 p2_m21 p3_m21 p4_m21 p5_m21 => zmi_n ?_)
      have p0_m21 : zGW T (m21 94 55) (m21 109) := p0_m21
      have p1_m21 : zGU T (m 94 46) (m21 99) := p1_m21
      have p2_m21 : zOw (m21 99) (m21 103) (m21 111) := p2_m21
      have p3_m21 : zDX (m 94 10) (m21 99) (m 112) (m21 113) (m21 114) (m21 94 55) (m 98) (m 101) (m 102) (m 108) := p3_m21
      have p4_m21 : zHA (m 94 10) (m 94 11) (m 94 13) (m 94 14) (m 94 16) (m 94 61) (m 94 59) (m21 94 60) (m21 99) (m 102) (m21 103) (m21 111) (m21 117) (m 98) (m 101) (m 108) := p4_m21
      have p5_m21 : zUs (m 99) (m21 99) := p5_m21
      have f140 : 0 ≤ (m21 94 60).toInt ∧ (m21 94 60).toInt ≤ 1600 := rs_94_60 (m := (zov wr_211 m m21)) hV_m21
      first | have e141 : ((m21 94 60) + nw).toInt = (m21 94 60).toInt + nw.toInt := i_add (by omega) (by omega) | have b142 := i_bd ((m21 94 60) + nw)
      refine zd (fun (h143 : ((m21 94 60) + nw) ≤ (m 94 14)) => ?_) (fun (h143 : ¬ ((m21 94 60) + nw) ≤ (m 94 14)) => ?_)
      · skip
        have g144 := i_le h143
        have hV145 : zV (ma_u (zov wr_211 m m21) 94 60 ((m21 94 60) + nw)) := us_94_60 hV_m21 (by omega) (by omega)
        exact K ((m21 94 60)) _ (zF_u (zF_zov zF_rfl ws_211_210) rfl) hV145 p0_m21 p1_m21 p2_m21 p3_m21 (show zHA (m 94 10) (m 94 11) (m 94 13) (m 94 14) (m 94 16) (m 94 61) (m 94 59) ((m21 94 60) + nw) (m21 99) (m 102) (m21 103) (m21 111) (m21 117) (m 98) (m 101) (m 108) from by first | (exact HA_ot p4_m21 (by omega) (by omega) (by omega)) | (exact HA_up3 p4_m21 (by omega) (by omega) (by omega) (by omega) (by omega) (by omega) (by omega)) | (exfalso; omega; done) | (exfalso; contradiction; done)) (show zPL (m 94 10) (m 94 11) (m 94 13) (m 94 14) (m 94 61) (m 94 59) ((m21 94 60) + nw) (m 94 18) (m 94 64) (m21 99) (m 102) (m21 103) (m21 111) (m21 94 60) nw from by first | (exact PL_no (by decide)) | (exact PL_3o p4_m21 (by omega) (by omega) (by omega) rfl (by omega)) | (exact PL_3y p4_m21 (by omega) (by omega) (by omega) (by omega) rfl (by omega)) | (exfalso; omega; done) | (exfalso; contradiction; done)) p5_m21
      · skip
        have g146 := i_nle h143
        have li147 : (-1 : Int32).toInt = -1 := rfl
        exact K ((-1 : Int32)) _ (zF_zov zF_rfl ws_211_210) hV_m21 p0_m21 p1_m21 p2_m21 p3_m21 p4_m21 (show zPL (m 94 10) (m 94 11) (m 94 13) (m 94 14) (m 94 61) (m 94 59) (m21 94 60) (m 94 18) (m 94 64) (m21 99) (m 102) (m21 103) (m21 111) (-1 : Int32) nw from by first | (exact PL_no (by decide)) | (exact PL_3o p4_m21 (by omega) (by omega) (by omega) rfl (by omega)) | (exact PL_3y p4_m21 (by omega) (by omega) (by omega) (by omega) rfl (by omega)) | (exfalso; omega; done) | (exfalso; contradiction; done)) p5_m21
theorem sp_231uw {X : Nat × (Nat → Int32)} {P : Option ma_V → (Nat → Nat → Int32) → Prop} {T : Nat} {m : Nat → Nat → Int32} (nw : Int32) (hV : zV m) (hpre0 : 1 ≤ nw.toInt) (hpre1 : nw.toInt ≤ 61) (r_W : zW (m 94 7) (m 98) (m 101) (m 102) (m 108)) (r_GW : zGW T (m 94 55) (m 109)) (r_GU : zGU T (m 94 46) (m 99)) (r_OW : zOw (m 99) (m 103) (m 111)) (r_DX : zDX (m 94 10) (m 99) (m 112) (m 113) (m 114) (m 94 55) (m 98) (m 101) (m 102) (m 108)) (r_RG : zRG1 (m 94 18) (m 94 64) (m 94 63) (m 99) (m 103) (m 102) (m 116)) (hpre8 : (m 94 10).toInt = 6) (KZ : ∀ v m₉, zV (zov wr_231 m m₉) → (zGW T (m₉ 94 55) (m₉ 109)) → (zGU T (m 94 46) (m₉ 99)) → (zOw (m₉ 99) (m₉ 103) (m₉ 111)) → (zDX (m 94 10) (m₉ 99) (m 112) (m₉ 113) (m₉ 114) (m₉ 94 55) (m 98) (m 101) (m 102) (m 108)) → (zRG1 (m 94 18) (m 94 64) (m₉ 94 63) (m₉ 99) (m₉ 103) (m 102) (m₉ 116)) → (v.toInt = -1 ∨ (0 ≤ v.toInt ∧ v.toInt + nw.toInt ≤ (m 94 64).toInt * (m 94 18).toInt ∧ nw.toInt ≤ (m 94 18).toInt)) → (-1 ≤ v.toInt ∧ v.toInt ≤ 1500) → (zUs (m 99) (m₉ 99)) → P (some (.inl v)) (zov wr_231 m m₉)) : zm X 6 137 231 0 [(0, .inr (.inr (some 94))), (1, .inl nw)] m P := by
  have K : ∀ v m₉, zF wr_231 m m₉ → zV m₉ → (zGW T (m₉ 94 55) (m₉ 109)) → (zGU T (m₉ 94 46) (m₉ 99)) → (zOw (m₉ 99) (m₉ 103) (m₉ 111)) → (zDX (m₉ 94 10) (m₉ 99) (m₉ 112) (m₉ 113) (m₉ 114) (m₉ 94 55) (m₉ 98) (m₉ 101) (m₉ 102) (m₉ 108)) → (zRG1 (m₉ 94 18) (m₉ 94 64) (m₉ 94 63) (m₉ 99) (m₉ 103) (m₉ 102) (m₉ 116)) → (v.toInt = -1 ∨ (0 ≤ v.toInt ∧ v.toInt + nw.toInt ≤ (m₉ 94 64).toInt * (m₉ 94 18).toInt ∧ nw.toInt ≤ (m₉ 94 18).toInt)) → (-1 ≤ v.toInt ∧ v.toInt ≤ 1500) → (zUs (m 99) (m₉ 99)) → P (some (.inl v)) m₉ := by
    intro v m₉ hf z q0 q1 q2 q3 q4 q5 q6 q7
    have e := zov_eq hf
    rw [e] at z ⊢
    try rw [e] at q0
    try rw [e] at q1
    try rw [e] at q2
    try rw [e] at q3
    try rw [e] at q4
    try rw [e] at q5
    try rw [e] at q6
    try rw [e] at q7
    exact KZ v m₉ z q0 q1 q2 q3 q4 q5 q6 q7
  refine g_231_0 nw ?_
  have f1 : 0 ≤ (m 94 10).toInt ∧ (m 94 10).toInt ≤ 6 := rs_94_10 (m := m) hV
  have b2 := i_bd nw
  have f3 : 0 ≤ (m 94 18).toInt ∧ (m 94 18).toInt ≤ 256 := rs_94_18 (m := m) hV
  refine zd (fun (h4 : nw ≤ (m 94 18)) => ?_) (fun (h4 : ¬ nw ≤ (m 94 18)) => ?_)
  · skip
    have g5 := i_le h4
    refine sp_232 (nw) hV (by omega) (by omega) r_RG (fun v2 m1 hV_m1 p0_m1 p1_m1 p2_m1 => zmi_n ?_)
    have p0_m1 : zRG1 (m 94 18) (m 94 64) (m 94 63) (m 99) (m 103) (m 102) (m1 116) := p0_m1
    have p1_m1 : v2.toInt = -1 ∨ (0 ≤ v2.toInt ∧ v2.toInt + nw.toInt ≤ (m 94 64).toInt * (m 94 18).toInt ∧ nw.toInt ≤ (m 94 18).toInt) := p1_m1
    have p2_m1 : -1 ≤ v2.toInt ∧ v2.toInt ≤ 1500 := p2_m1
    have b6 := i_bd v2
    have li7 : (0 : Int32).toInt = 0 := rfl
    refine zd (fun (h8 : v2 < (0 : Int32)) => ?_) (fun (h8 : ¬ v2 < (0 : Int32)) => ?_)
    · skip
      have g9 := i_lt h8
      refine sp_233  hV_m1  (fun v4 m3 hV_m3 p0_m3 => zmi_n ?_)
      have p0_m3 : v4.toInt ≤ 0 ∨ ∃ r : Nat, (r : Int) < (m 94 64).toInt ∧ (m1 116) r = 0 := p0_m3
      have b10 := i_bd v4
      have li11 : (2 : Int32).toInt = 2 := rfl
      refine zd (fun (h12 : v4 < (2 : Int32)) => ?_) (fun (h12 : ¬ v4 < (2 : Int32)) => ?_)
      · skip
        have g13 := i_lt h12
        refine sp_235uw  hV_m3 r_W r_GW r_GU r_OW r_DX p0_m1 (show (m 94 10).toInt = 6 from by omega) (fun v6 m5 hV_m5 p0_m5 p1_m5 p2_m5 p3_m5 p4_m5 p5_m5 => zmi_n ?_)
        have p0_m5 : zGW T (m5 94 55) (m5 109) := p0_m5
        have p1_m5 : zGU T (m 94 46) (m5 99) := p1_m5
        have p2_m5 : zOw (m5 99) (m5 103) (m5 111) := p2_m5
        have p3_m5 : zDX (m 94 10) (m5 99) (m 112) (m5 113) (m5 114) (m5 94 55) (m 98) (m 101) (m 102) (m 108) := p3_m5
        have p4_m5 : zRG1 (m 94 18) (m 94 64) (m5 94 63) (m5 99) (m5 103) (m 102) (m5 116) := p4_m5
        have p5_m5 : zUs (m 99) (m5 99) := p5_m5
        refine sp_232 (nw) hV_m5 (by omega) (by omega) p4_m5 (fun v8 m7 hV_m7 p0_m7 p1_m7 p2_m7 => zmi_n ?_)
        have p0_m7 : zRG1 (m 94 18) (m 94 64) (m5 94 63) (m5 99) (m5 103) (m 102) (m7 116) := p0_m7
        have p1_m7 : v8.toInt = -1 ∨ (0 ≤ v8.toInt ∧ v8.toInt + nw.toInt ≤ (m 94 64).toInt * (m 94 18).toInt ∧ nw.toInt ≤ (m 94 18).toInt) := p1_m7
        have p2_m7 : -1 ≤ v8.toInt ∧ v8.toInt ≤ 1500 := p2_m7
        have b14 := i_bd v8
        refine zd (fun (h15 : v8 < (0 : Int32)) => ?_) (fun (h15 : ¬ v8 < (0 : Int32)) => ?_)
        · skip
          have g16 := i_lt h15
          refine sp_234  hV_m7  (fun v10 m9 hV_m9 p0_m9 => zmi_n ?_)
          have p0_m9 : zLE (m7 116) (m 94 64) v10 := p0_m9
          try have rgb := rs_94_64 hV
          try have lel := LE_lo p0_m9
          try have lex := LE_ex p0_m9 (p0_m3.elim (fun z => by omega) id)
          try have lex3 := LE_ex p0_m9 (lexi (by omega))
          try have lexi := LE_some p0_m9
          have b17 := i_bd v10
          refine zd (fun (h18 : (0 : Int32) ≤ v10) => ?_) (fun (h18 : ¬ (0 : Int32) ≤ v10) => ?_)
          · skip
            have g19 := i_le h18
            refine sp_234  hV_m9  (fun v12 m11 hV_m11 p0_m11 => zmi_n ?_)
            have p0_m11 : zLE (m7 116) (m 94 64) v12 := p0_m11
            try have rgb := rs_94_64 hV
            try have lel := LE_lo p0_m11
            try have lex := LE_ex p0_m11 (p0_m3.elim (fun z => by omega) id)
            try have lex3 := LE_ex p0_m11 (lexi (by omega))
            try have lexi := LE_some p0_m11
            have b21 := i_bd v12
            have hV20 : zV (ma_u (zov wr_234 (zov wr_234 (zov wr_232 (zov wr_235 (zov wr_233 (zov wr_232 m m1) m3) m5) m7) m9) m11) 94 63 v12) := us_94_63 hV_m11 (by omega) (by omega)
            refine sp_232 (nw) hV20 (by omega) (by omega) (show zRG1 (m 94 18) (m 94 64) v12 (m5 99) (m5 103) (m 102) (m7 116) from by first | (exact RG_pr p0_m7 (by omega) (by omega)) | (exact RG_pr p0_m7 (LE_ex p0_m11 (p0_m3.elim (fun z => by omega) id)).1 (LE_ex p0_m11 (p0_m3.elim (fun z => by omega) id)).2) | (exfalso; omega; done) | (exfalso; contradiction; done)) (fun v14 m13 hV_m13 p0_m13 p1_m13 p2_m13 => zmi_n ?_)
            have p0_m13 : zRG1 (m 94 18) (m 94 64) v12 (m5 99) (m5 103) (m 102) (m13 116) := p0_m13
            have p1_m13 : v14.toInt = -1 ∨ (0 ≤ v14.toInt ∧ v14.toInt + nw.toInt ≤ (m 94 64).toInt * (m 94 18).toInt ∧ nw.toInt ≤ (m 94 18).toInt) := p1_m13
            have p2_m13 : -1 ≤ v14.toInt ∧ v14.toInt ≤ 1500 := p2_m13
            have b22 := i_bd v14
            exact K (v14) _ (zF_zov (zF_u (zF_zov (zF_zov (zF_zov (zF_zov (zF_zov (zF_zov zF_rfl ws_232_231) ws_233_231) ws_235_231) ws_232_231) ws_234_231) ws_234_231) rfl) ws_232_231) hV_m13 p0_m5 p1_m5 p2_m5 p3_m5 p0_m13 p1_m13 (show -1 ≤ v14.toInt ∧ v14.toInt ≤ 1500 from by omega) p5_m5
          · skip
            have g23 := i_nle h18
            have li24 : (-1 : Int32).toInt = -1 := rfl
            exact K ((-1 : Int32)) _ (zF_zov (zF_zov (zF_zov (zF_zov (zF_zov zF_rfl ws_232_231) ws_233_231) ws_235_231) ws_232_231) ws_234_231) hV_m9 p0_m5 p1_m5 p2_m5 p3_m5 p0_m7 (show (-1 : Int32).toInt = -1 ∨ (0 ≤ (-1 : Int32).toInt ∧ (-1 : Int32).toInt + nw.toInt ≤ (m 94 64).toInt * (m 94 18).toInt ∧ nw.toInt ≤ (m 94 18).toInt) from by first | (exact Or.inl (by decide)) | (exact Or.inr ⟨by omega, by omega, by omega⟩) | (exact p1_m7) | (exfalso; omega; done) | (exfalso; contradiction; done)) (show -1 ≤ (-1 : Int32).toInt ∧ (-1 : Int32).toInt ≤ 1500 from by omega) p5_m5
        · skip
          have g25 := i_nlt h15
          exact K (v8) _ (zF_zov (zF_zov (zF_zov (zF_zov zF_rfl ws_232_231) ws_233_231) ws_235_231) ws_232_231) hV_m7 p0_m5 p1_m5 p2_m5 p3_m5 p0_m7 p1_m7 (show -1 ≤ v8.toInt ∧ v8.toInt ≤ 1500 from by omega) p5_m5
      · skip
        have g26 := i_nlt h12
        refine sp_234  hV_m3  (fun v16 m15 hV_m15 p0_m15 => zmi_n ?_)
        have p0_m15 : zLE (m1 116) (m 94 64) v16 := p0_m15
        try have rgb := rs_94_64 hV
        try have lel := LE_lo p0_m15
        try have lex := LE_ex p0_m15 (p0_m3.elim (fun z => by omega) id)
        try have lex3 := LE_ex p0_m15 (lexi (by omega))
        try have lexi := LE_some p0_m15
        have b28 := i_bd v16
        have hV27 : zV (ma_u (zov wr_234 (zov wr_233 (zov wr_232 m m1) m3) m15) 94 63 v16) := us_94_63 hV_m15 (by omega) (by omega)
        refine sp_232 (nw) hV27 (by omega) (by omega) (show zRG1 (m 94 18) (m 94 64) v16 (m 99) (m 103) (m 102) (m1 116) from by first | (exact RG_pr p0_m1 (by omega) (by omega)) | (exact RG_pr p0_m1 (LE_ex p0_m15 (p0_m3.elim (fun z => by omega) id)).1 (LE_ex p0_m15 (p0_m3.elim (fun z => by omega) id)).2) | (exfalso; omega; done) | (exfalso; contradiction; done)) (fun v18 m17 hV_m17 p0_m17 p1_m17 p2_m17 => zmi_n ?_)
        have p0_m17 : zRG1 (m 94 18) (m 94 64) v16 (m 99) (m 103) (m 102) (m17 116) := p0_m17
        have p1_m17 : v18.toInt = -1 ∨ (0 ≤ v18.toInt ∧ v18.toInt + nw.toInt ≤ (m 94 64).toInt * (m 94 18).toInt ∧ nw.toInt ≤ (m 94 18).toInt) := p1_m17
        have p2_m17 : -1 ≤ v18.toInt ∧ v18.toInt ≤ 1500 := p2_m17
        have b29 := i_bd v18
        exact K (v18) _ (zF_zov (zF_u (zF_zov (zF_zov (zF_zov zF_rfl ws_232_231) ws_233_231) ws_234_231) rfl) ws_232_231) hV_m17 r_GW r_GU r_OW r_DX p0_m17 p1_m17 (show -1 ≤ v18.toInt ∧ v18.toInt ≤ 1500 from by omega) (show zUs (m 99) (m 99) from by first | (exact Us_rfl) | (exact Us_w0 Us_rfl) | (exact Us_rfl) | (exfalso; omega; done) | (exfalso; contradiction; done))
    · skip
      have g30 := i_nlt h8
      exact K (v2) _ (zF_zov zF_rfl ws_232_231) hV_m1 r_GW r_GU r_OW r_DX p0_m1 p1_m1 (show -1 ≤ v2.toInt ∧ v2.toInt ≤ 1500 from by omega) (show zUs (m 99) (m 99) from by first | (exact Us_rfl) | (exact Us_w0 Us_rfl) | (exact Us_rfl) | (exfalso; omega; done) | (exfalso; contradiction; done))
  · skip
    have g31 := i_nle h4
    have li32 : (-1 : Int32).toInt = -1 := rfl
    exact K ((-1 : Int32)) _ zF_rfl hV r_GW r_GU r_OW r_DX r_RG (show (-1 : Int32).toInt = -1 ∨ (0 ≤ (-1 : Int32).toInt ∧ (-1 : Int32).toInt + nw.toInt ≤ (m 94 64).toInt * (m 94 18).toInt ∧ nw.toInt ≤ (m 94 18).toInt) from by first | (exact Or.inl (by decide)) | (exact Or.inr ⟨by omega, by omega, by omega⟩) | (exfalso; omega; done) | (exfalso; contradiction; done)) (show -1 ≤ (-1 : Int32).toInt ∧ (-1 : Int32).toInt ≤ 1500 from by omega) (show zUs (m 99) (m 99) from by first | (exact Us_rfl) | (exact Us_w0 Us_rfl) | (exact Us_rfl) | (exfalso; omega; done) | (exfalso; contradiction; done))

