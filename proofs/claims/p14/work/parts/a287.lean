/-! from 95.v08 -/
/-! AGES, the reference (written by wip/tools/gen15v.py) -/
set_option maxHeartbeats 8000000 in
theorem lp_214ry_145 {X : Nat × (Nat → Int32)} {P : Option ma_V → (Nat → Nat → Int32) → Prop} {T : Nat} {aa : Nat→Nat→Int32} {ro : Int32} {m0 : Nat → Nat → Int32} (h0 : zV m0) (K : ∀ v m₉, zF wr_214 m0 m₉ → zV m₉ → (zGW T (m₉ 94 55) (m₉ 109)) → (zGU T (m₉ 94 46) (m₉ 99)) → (zOw (m₉ 99) (m₉ 103) (m₉ 111)) → (qRB (m₉ 99) (m₉ 100) (m₉ 98) (m₉ 101) (m₉ 102) (m₉ 103) (m₉ 107) (m₉ 108) (m₉ 109) (m₉ 111) (m₉ 112) (m₉ 113) (m₉ 114) (m₉ 94 55) (m₉ 94 46) ro 0 0 0 1 (gMi aa)) → (qAv (gMi aa)) → (qAL (gMi aa) (m₉ 94 13) (m₉ 94 14) (m₉ 94 15) (m₉ 94 16) (m₉ 94 59) (m₉ 94 60) (m₉ 94 61)) → (qAg (m₉ 99) (m₉ 100) (m₉ 104) (gMi aa)) → (qDt (m₉ 117) (gMi aa)) → ((m₉ 94 45).toInt = sm (zbU (m₉ 99)) (m₉ 102) 3100) → P (some (.inl v)) m₉) : ∀ (n : Nat) (m : Nat → Nat → Int32) (l1 : Int32) (l2 : Int32) (l3 : Int32), (3100 - l3.toInt).toNat = n → zF wr_214 m0 m → zV m → (0 ≤ l3.toInt) → (T ≤ 512) → (zW (m 94 7) (m 98) (m 101) (m 102) (m 108)) → (zGW T (m 94 55) (m 109)) → (zGU T (m 94 46) (m 99)) → (zOw (m 99) (m 103) (m 111)) → ((m 94 10).toInt = 3) → (qAv (gM0 aa)) → (qAL (gM0 aa) (m 94 13) (m 94 14) (m 94 15) (m 94 16) ((gM0 aa) 87 4) ((gM0 aa) 87 10) (m0 94 61)) → (qDt (m 117) (gM0 aa)) → (qAX (gM0 aa) (m 94 13) (m 94 14) (m 94 15) (m 94 16)) → (¬ gFu (gM0 aa)) → (l2.toInt = ((gM0 aa) 87 10).toInt) → ((m 94 45).toInt = sm (zbU (m 99)) (m 102) 3100) → ((m 94 61).toInt = 1 - (m0 94 61).toInt) → (qZX (m 99) (m 100) (m 98) (m 101) (m 102) (m 107) (m 108) (m 109) (m 112) (m 113) (m 114) (m 94 55) (m 94 46) ro 0 0 0 1 (m 110) (m 119) (m 94 76) (m 94 75) (m 103) (m 111) (m 104) (m 94 77) (m 94 60) (2 * ((gM0 aa) 87 9).toInt + ((gM0 aa) 87 5).toInt - ((gM0 aa) 87 3).toInt) ((gM0 aa) 87 10).toInt l3 (aRo (aWh (gM0 aa) ((gM0 aa) 87 9)) 0)) → zm X 6 129 214 145 [(0, .inr (.inr (some 94))), (1, .inl l1), (2, .inl l2), (3, .inl l3)] m P := by
  intro n
  induction n using Nat.strongRecOn with
  | _ n IH =>
    intro m l1 l2 l3 hmu hF hV hi0 hi1 r_W r_GW r_GU r_OW hi6 r_AV r_ALo r_DT r_AX3 r_NF r_ENd r_WTS hi14 r_ZX
    refine g_214_145 l1 l2 l3 ?_
    have f1 : 0 ≤ (m 94 10).toInt ∧ (m 94 10).toInt ≤ 6 := rs_94_10 (m := m) hV
    have f2 : 0 ≤ (m 94 61).toInt ∧ (m 94 61).toInt ≤ 1 := rs_94_61 (m := m) hV
    have f3 : 0 ≤ (m0 94 61).toInt ∧ (m0 94 61).toInt ≤ 1 := rs_94_61 (m := m0) h0
    obtain ⟨AT, OW, AG, c, hB, hT⟩ := r_ZX
    have cAX := AX_wi r_AX3 hT
    have f4 : 0 ≤ (m 94 55).toInt ∧ (m 94 55).toInt ≤ 3100 := rs_94_55 (m := m) hV
    have b5 := i_bd l3
    refine zd (fun (h6 : (m 94 55) ≤ l3) => ?_) (fun (h6 : ¬ (m 94 55) ≤ l3) => ?_)
    · skip
      have g7 := i_le h6
      have b8 := i_bd l2
      try have alb := AL_b r_AL r_AV
      try have ah7 := r_AL.2.2.2.1
      try have gw := GW_room r_GW
      try have alo := AL_b r_ALo r_AV
      try have end2 := r_ENd
      refine sp_216ry (aa := (aRo (aWh (gM0 aa) ((gM0 aa) 87 9)) 0)) (AT := AT) (OW := OW) (AG := AG) (st := (2 * ((gM0 aa) 87 9).toInt + ((gM0 aa) 87 5).toInt - ((gM0 aa) 87 3).toInt)) (oo := ((gM0 aa) 87 10).toInt) (l2) hV (by omega) (by omega) (show (m 94 10).toInt = 3 from by omega) r_W r_OW (show qAX (aRo (aWh (gM0 aa) ((gM0 aa) 87 9)) 0) (m 94 13) (m 94 14) (m 94 15) (m 94 16) from by first | (exact AX_t1 r_AX3) | (exact r_AX3) | (exfalso; omega; done) | (exfalso; contradiction; done)) (show qDt (m 117) (aRo (aWh (gM0 aa) ((gM0 aa) 87 9)) 0) from by first | (exact Dt_t1 r_DT) | (exact r_DT) | (exfalso; omega; done) | (exfalso; contradiction; done)) (show qYB (m 99) (m 100) (m 98) (m 101) (m 102) AT (m 107) (m 108) (m 109) OW (m 112) (m 113) (m 114) (m 94 55) (m 94 46) ro 0 0 0 1 (m 110) (m 119) (m 94 76) (m 94 75) (m 103) (m 111) (m 104) AG (m 94 77) (m 94 60) (2 * ((gM0 aa) 87 9).toInt + ((gM0 aa) 87 5).toInt - ((gM0 aa) 87 3).toInt) ((gM0 aa) 87 10).toInt (aRo (aWh (gM0 aa) ((gM0 aa) 87 9)) 0) from by first | (exact YX_end ⟨c, hB, hT⟩ (by omega)) | (exact hB) | (exfalso; omega; done) | (exfalso; contradiction; done)) (fun m1 hV_m1 p0_m1 p1_m1 => zmv_n ?_)
      have p0_m1 : zOw (m 99) (m1 103) (m1 111) := p0_m1
      have p1_m1 : qYB (m 99) (m 100) (m 98) (m 101) (m 102) AT (m 107) (m 108) (m 109) OW (m 112) (m 113) (m 114) (m 94 55) (m 94 46) ro 0 0 0 1 (m1 110) (m1 119) (m 94 76) (m1 94 75) (m1 103) (m1 111) (m1 104) AG (m1 94 77) (m1 94 60) (2 * ((gM0 aa) 87 9).toInt + ((gM0 aa) 87 5).toInt - ((gM0 aa) 87 3).toInt) ((gM0 aa) 87 10).toInt (gDp (aRo (aWh (gM0 aa) ((gM0 aa) 87 9)) 0) ((gM0 aa) 87 10).toInt 0) := p1_m1
      try have alb := AL_b r_AL r_AV
      try have ah7 := r_AL.2.2.2.1
      try have gw := GW_room r_GW
      try have alo := AL_b r_ALo r_AV
      try have end2 := r_ENd
      refine sp_208ry (aa := (gDp (aRo (aWh (gM0 aa) ((gM0 aa) 87 9)) 0) ((gM0 aa) 87 10).toInt 0)) (AT := AT) (OW := OW) (AG := AG) (st := (2 * ((gM0 aa) 87 9).toInt + ((gM0 aa) 87 5).toInt - ((gM0 aa) 87 3).toInt)) (oo := ((gM0 aa) 87 10).toInt)  hV_m1 (show (m 94 10).toInt = 3 from by omega) r_W p0_m1 (show qAX (gDp (aRo (aWh (gM0 aa) ((gM0 aa) 87 9)) 0) ((gM0 aa) 87 10).toInt 0) (m 94 13) (m 94 14) (m 94 15) (m 94 16) from by first | (exact AX_t2 r_AX3) | (exact r_AX3) | (exfalso; omega; done) | (exfalso; contradiction; done)) p1_m1 (fun m3 hV_m3 p0_m3 p1_m3 p2_m3 => zmv_n ?_)
      have p0_m3 : zOw (m 99) (m3 103) (m3 111) := p0_m3
      have p1_m3 : qYB (m 99) (m 100) (m 98) (m 101) (m 102) AT (m 107) (m 108) (m 109) OW (m 112) (m 113) (m 114) (m 94 55) (m 94 46) ro 0 0 0 1 (m3 110) (m3 119) (m3 94 76) (m3 94 75) (m3 103) (m3 111) (m3 104) AG (m3 94 77) (m3 94 60) (2 * ((gM0 aa) 87 9).toInt + ((gM0 aa) 87 5).toInt - ((gM0 aa) 87 3).toInt) ((gM0 aa) 87 10).toInt (aSp 512 (gDp (aRo (aWh (gM0 aa) ((gM0 aa) 87 9)) 0) ((gM0 aa) 87 10).toInt 0)) := p1_m3
      have p2_m3 : (m3 94 75).toInt ≤ (m3 94 76).toInt := p2_m3
      have f9 : 0 ≤ (m3 94 75).toInt ∧ (m3 94 75).toInt ≤ 3100 := rs_94_75 (m := (zov wr_208 (zov wr_216 m m1) m3)) hV_m3
      have f10 : 0 ≤ (m3 94 76).toInt ∧ (m3 94 76).toInt ≤ 3100 := rs_94_76 (m := (zov wr_208 (zov wr_216 m m1) m3)) hV_m3
      have li11 : (1 : Int32).toInt = 1 := rfl
      try have alb := AL_b r_AL r_AV
      try have ah7 := r_AL.2.2.2.1
      try have gw := GW_room r_GW
      try have alo := AL_b r_ALo r_AV
      try have end2 := r_ENd
      refine sp_209ry (aa := (aSp 512 (gDp (aRo (aWh (gM0 aa) ((gM0 aa) 87 9)) 0) ((gM0 aa) 87 10).toInt 0))) (AT := AT) (OW := OW) (AG := AG) (st := (2 * ((gM0 aa) 87 9).toInt + ((gM0 aa) 87 5).toInt - ((gM0 aa) 87 3).toInt)) (oo := ((gM0 aa) 87 10).toInt) ((1 : Int32)) hV_m3 (by omega) (by omega) (show (m 94 10).toInt = 3 from by omega) r_W r_GW p0_m3 (show qAX (aSp 512 (gDp (aRo (aWh (gM0 aa) ((gM0 aa) 87 9)) 0) ((gM0 aa) 87 10).toInt 0)) (m 94 13) (m 94 14) (m 94 15) (m 94 16) from by first | (exact AX_sp (AX_t2 r_AX3)) | (exact r_AX3) | (exfalso; omega; done) | (exfalso; contradiction; done)) p1_m3 (show qE0 (aPc (aSp 512 (gDp (aRo (aWh (gM0 aa) ((gM0 aa) 87 9)) 0) ((gM0 aa) 87 10).toInt 0))) from by first | (rw [B3_e r_AV]; exact (B3_all r_AV).1; done) | (exfalso; omega; done) | (exfalso; contradiction; done)) (show qCl (aPc (aSp 512 (gDp (aRo (aWh (gM0 aa) ((gM0 aa) 87 9)) 0) ((gM0 aa) 87 10).toInt 0))) from by first | (rw [B3_e r_AV]; exact (B3_all r_AV).2.2.1; done) | (exfalso; omega; done) | (exfalso; contradiction; done)) (fun m5 hV_m5 p0_m5 p1_m5 p2_m5 p3_m5 p4_m5 p5_m5 => zmv_n ?_)
      have p0_m5 : zGW T (m5 94 55) (m5 109) := p0_m5
      have p1_m5 : zuw (m 113) (m5 113) := p1_m5
      have p2_m5 : zOw (m 99) (m5 103) (m5 111) := p2_m5
      have p3_m5 : qYB (m 99) (m 100) (m 98) (m 101) (m 102) AT (m 107) (m 108) (m5 109) OW (m 112) (m5 113) (m5 114) (m5 94 55) (m 94 46) ro 0 0 0 1 (m5 110) (m5 119) (m5 94 76) (m5 94 75) (m5 103) (m5 111) (m5 104) AG (m5 94 77) (m5 94 60) (2 * ((gM0 aa) 87 9).toInt + ((gM0 aa) 87 5).toInt - ((gM0 aa) 87 3).toInt) ((gM0 aa) 87 10).toInt (aGw (aSp 512 (gDp (aRo (aWh (gM0 aa) ((gM0 aa) 87 9)) 0) ((gM0 aa) 87 10).toInt 0)) 0) := p3_m5
      have p4_m5 : qE0 (aPc (aGw (aSp 512 (gDp (aRo (aWh (gM0 aa) ((gM0 aa) 87 9)) 0) ((gM0 aa) 87 10).toInt 0)) 0)) := p4_m5
      have p5_m5 : qCl (aPc (aGw (aSp 512 (gDp (aRo (aWh (gM0 aa) ((gM0 aa) 87 9)) 0) ((gM0 aa) 87 10).toInt 0)) 0)) := p5_m5
      try have alb := AL_b r_AL r_AV
      try have ah7 := r_AL.2.2.2.1
      try have gw := GW_room p0_m5
      try have alo := AL_b r_ALo r_AV
      try have end2 := r_ENd
      refine sp_199r  hV_m5  (fun m7 hV_m7 p0_m7 p1_m7 => zmv_n ?_)
      have p0_m7 : zuw (m5 113) (m7 113) := p0_m7
      have p1_m7 : qUr (m5 113) (m7 113) (m5 110) 16 := p1_m7
      have f13 : 0 ≤ (m5 94 77).toInt ∧ (m5 94 77).toInt ≤ 4600 := rs_94_77 (m := (zov wr_209 (zov wr_208 (zov wr_216 m m1) m3) m5)) hV_m5
      have hV12 : zV (ma_u (zov wr_199 (zov wr_209 (zov wr_208 (zov wr_216 m m1) m3) m5) m7) 94 59 (m5 94 77)) := us_94_59 hV_m7 (by omega) (by omega)
      try have alb := AL_b r_AL r_AV
      try have ah7 := r_AL.2.2.2.1
      try have gw := GW_room p0_m5
      try have alo := AL_b r_ALo r_AV
      try have end2 := r_ENd
      refine sp_200rn  hV12 (show (m 94 10).toInt ≠ 4 from by omega) r_W r_GU p2_m5 r_WTS (fun v10 m9 hV_m9 p0_m9 p1_m9 p2_m9 p3_m9 p4_m9 => zmi_n ?_)
      have p0_m9 : zrm (m 99) (m9 99) (m5 110) 3100 := p0_m9
      have p1_m9 : zowr (m5 111) (m9 111) (m 99) (m5 110) (m5 103) := p1_m9
      have p2_m9 : zGU T (m 94 46) (m9 99) := p2_m9
      have p3_m9 : zOw (m9 99) (m5 103) (m9 111) := p3_m9
      have p4_m9 : (m9 94 45).toInt = sm (zbU (m9 99)) (m 102) 3100 := p4_m9
      try have alb := AL_b r_AL r_AV
      try have ah7 := r_AL.2.2.2.1
      try have gw := GW_room p0_m5
      try have alo := AL_b r_ALo r_AV
      try have end2 := r_ENd
      have f14 : 0 ≤ (m 94 16).toInt ∧ (m 94 16).toInt ≤ 64 := rs_94_16 (m := m) hV
      refine sp_212ry (aa := (gMf (gMk1 (gM0 aa) 75 4).toInt.toNat 0 (gMk1 (gM0 aa))))  hV_m9 r_W (show 4 ≤ (m 94 16).toInt from by omega) (show qRB (m9 99) (m 100) (m 98) (m 101) (m 102) (m5 103) (m 107) (m 108) (m5 109) (m9 111) (m 112) (m7 113) (m5 114) (m5 94 55) (m 94 46) ro 0 0 0 1 (gMf (gMk1 (gM0 aa) 75 4).toInt.toNat 0 (gMk1 (gM0 aa))) from by first | (exact (YB_fin (aa := (gM0 aa)) p3_m5 p5_m5 r_AV r_NF p1_m7 p0_m9 p1_m9).1) | (exfalso; omega; done) | (exfalso; contradiction; done)) (show qAX (gMf (gMk1 (gM0 aa) 75 4).toInt.toNat 0 (gMk1 (gM0 aa))) (m 94 13) (m 94 14) (m 94 15) (m 94 16) from by first | (exact AX_G r_AX3) | (exact r_AX3) | (exfalso; omega; done) | (exfalso; contradiction; done)) (fun m11 hV_m11 p0_m11 => zmv_n ?_)
      have p0_m11 : qDt (m11 117) (gFd (gMf (gMk1 (gM0 aa) 75 4).toInt.toNat 0 (gMk1 (gM0 aa)))) := p0_m11
      try have gw := GW_room p0_m5
      try have alb := AL_b r_AL r_AV
      try have ah7 := r_AL.2.2.2.1
      try have alo := AL_b r_ALo r_AV
      try have h61i := congrArg Int32.toInt r_H61
      have b15 := i_bd l1
      have b16 := i_bd v10
      first | have e17 : (l1 + v10).toInt = l1.toInt + v10.toInt := i_add (by omega) (by omega) | have b18 := i_bd (l1 + v10)
      exact K ((l1 + v10)) _ (zF_zov (zF_zov (zF_u (zF_zov (zF_zov (zF_zov (zF_zov hF ws_216_214) ws_208_214) ws_209_214) ws_199_214) rfl) ws_200_214) ws_212_214) hV_m11 p0_m5 p2_m9 p3_m9 (show qRB (m9 99) (m 100) (m 98) (m 101) (m 102) (m5 103) (m 107) (m 108) (m5 109) (m9 111) (m 112) (m7 113) (m5 114) (m5 94 55) (m 94 46) ro 0 0 0 1 (gMi aa) from by first | (rw [(Mi_n (a := aa) r_NF).1]; exact RB_fd (YB_fin (aa := (gM0 aa)) p3_m5 p5_m5 r_AV r_NF p1_m7 p0_m9 p1_m9).1; done) | (exfalso; omega; done) | (exfalso; contradiction; done)) (show qAv (gMi aa) from by first | (rw [(Mi_n (a := aa) r_NF).1]; exact Av_mv r_AV r_NF; done) | (exact r_AV) | (exfalso; omega; done) | (exfalso; contradiction; done)) (show qAL (gMi aa) (m 94 13) (m 94 14) (m 94 15) (m 94 16) (m5 94 77) (m5 94 60) (m 94 61) from by first | (rw [(Mi_n (a := aa) r_NF).1]; exact AL_mv r_ALo r_AV (YB_fin (aa := (gM0 aa)) p3_m5 p5_m5 r_AV r_NF p1_m7 p0_m9 p1_m9).2.1 (YB_fin (aa := (gM0 aa)) p3_m5 p5_m5 r_AV r_NF p1_m7 p0_m9 p1_m9).2.2.1 (by omega); done) | (exfalso; omega; done) | (exfalso; contradiction; done)) (show qAg (m9 99) (m 100) (m5 104) (gMi aa) from by first | (rw [(Mi_n (a := aa) r_NF).1]; exact Ag_mv (YB_fin (aa := (gM0 aa)) p3_m5 p5_m5 r_AV r_NF p1_m7 p0_m9 p1_m9).2.2.2; done) | (exfalso; omega; done) | (exfalso; contradiction; done)) (show qDt (m11 117) (gMi aa) from by first | (rw [(Mi_n (a := aa) r_NF).1]; exact p0_m11; done) | (exact p0_m11) | (exfalso; omega; done) | (exfalso; contradiction; done)) p4_m9
    · skip
      have g19 := i_nle h6
      have hg20 : (0 ≤ l3 ∧ l3.toNatClampNeg < 3100) := i_ix (by omega) (by omega)
      refine ⟨hg20, ?_⟩
      first | have f21 : 0 ≤ (m 114 l3.toNatClampNeg).toInt ∧ (m 114 l3.toNatClampNeg).toInt ≤ 3099 := ra_114 (m := m) hV (k := l3.toNatClampNeg) (i_ix (n := 3100) (by omega) (by omega)).2 | have b22 := i_bd (m 114 l3.toNatClampNeg)
      try have alb := AL_b r_AL r_AV
      try have ah7 := r_AL.2.2.2.1
      try have gw := GW_room r_GW
      try have alo := AL_b r_ALo r_AV
      try have end2 := r_ENd
      refine sp_207ry (aa := c) (AT := AT) (OW := OW) (AG := AG) (st := (2 * ((gM0 aa) 87 9).toInt + ((gM0 aa) 87 5).toInt - ((gM0 aa) 87 3).toInt)) (oo := ((gM0 aa) 87 10).toInt) ((m 114 l3.toNatClampNeg)) hV (by omega) (by omega) (show (m 94 10).toInt = 3 from by omega) (show qU (m 99) (m 114 l3.toNatClampNeg) from by first | (exact (YX_wl hB (by omega) (by omega) rfl).1.2) | (exfalso; omega; done) | (exfalso; contradiction; done)) r_OW (show qAX c (m 94 13) (m 94 14) (m 94 15) (m 94 16) from by first | (exact cAX) | (exact r_AX3) | (exfalso; omega; done) | (exfalso; contradiction; done)) hB (fun m13 hV_m13 p0_m13 p1_m13 => zmv_n ?_)
      have p0_m13 : zOw (m 99) (m13 103) (m13 111) := p0_m13
      have p1_m13 : qYB (m 99) (m 100) (m 98) (m 101) (m 102) AT (m 107) (m 108) (m 109) OW (m 112) (m 113) (m 114) (m 94 55) (m 94 46) ro 0 0 0 1 (m13 110) (m13 119) (m 94 76) (m13 94 75) (m13 103) (m13 111) (m13 104) AG (m13 94 77) (m13 94 60) (2 * ((gM0 aa) 87 9).toInt + ((gM0 aa) 87 5).toInt - ((gM0 aa) 87 3).toInt) ((gM0 aa) 87 10).toInt (aCm c (qNo (m 100) (m 114 l3.toNatClampNeg))) := p1_m13
      try have gw := GW_room r_GW
      try have alb := AL_b r_AL r_AV
      try have ah7 := r_AL.2.2.2.1
      try have alo := AL_b r_ALo r_AV
      try have h61i := congrArg Int32.toInt r_H61
      have b23 := i_bd l1
      have b24 := i_bd l2
      first | have e25 : (l3 + (1 : Int32)).toInt = l3.toInt + (1) := i_addk rfl (by omega) (by omega) | have b26 := i_bd (l3 + (1 : Int32))
      exact IH (3100 - (l3 + (1 : Int32)).toInt).toNat (by omega) _ (l1) (l2) ((l3 + (1 : Int32))) rfl (zF_zov hF ws_207_214) hV_m13 (by omega) (by omega) r_W r_GW r_GU p0_m13 (show (m 94 10).toInt = 3 from by omega) r_AV r_ALo r_DT r_AX3 r_NF r_ENd r_WTS (show (m 94 61).toInt = 1 - (m0 94 61).toInt from by omega) (show qZX (m 99) (m 100) (m 98) (m 101) (m 102) (m 107) (m 108) (m 109) (m 112) (m 113) (m 114) (m 94 55) (m 94 46) ro 0 0 0 1 (m13 110) (m13 119) (m 94 76) (m13 94 75) (m13 103) (m13 111) (m13 104) (m13 94 77) (m13 94 60) (2 * ((gM0 aa) 87 9).toInt + ((gM0 aa) 87 5).toInt - ((gM0 aa) 87 3).toInt) ((gM0 aa) 87 10).toInt (l3 + (1 : Int32)) (aRo (aWh (gM0 aa) ((gM0 aa) 87 9)) 0) from by first | (exact ⟨_, _, _, _, p1_m13, (YX_wl hB (by omega) (by omega) rfl).2.symm.trans hT⟩) | (exfalso; omega; done) | (exfalso; contradiction; done))
set_option maxHeartbeats 8000000 in
theorem lp_214ry_121 {X : Nat × (Nat → Int32)} {P : Option ma_V → (Nat → Nat → Int32) → Prop} {T : Nat} {aa : Nat→Nat→Int32} {ro : Int32} {m0 : Nat → Nat → Int32} (h0 : zV m0) (K : ∀ v m₉, zF wr_214 m0 m₉ → zV m₉ → (zGW T (m₉ 94 55) (m₉ 109)) → (zGU T (m₉ 94 46) (m₉ 99)) → (zOw (m₉ 99) (m₉ 103) (m₉ 111)) → (qRB (m₉ 99) (m₉ 100) (m₉ 98) (m₉ 101) (m₉ 102) (m₉ 103) (m₉ 107) (m₉ 108) (m₉ 109) (m₉ 111) (m₉ 112) (m₉ 113) (m₉ 114) (m₉ 94 55) (m₉ 94 46) ro 0 0 0 1 (gMi aa)) → (qAv (gMi aa)) → (qAL (gMi aa) (m₉ 94 13) (m₉ 94 14) (m₉ 94 15) (m₉ 94 16) (m₉ 94 59) (m₉ 94 60) (m₉ 94 61)) → (qAg (m₉ 99) (m₉ 100) (m₉ 104) (gMi aa)) → (qDt (m₉ 117) (gMi aa)) → ((m₉ 94 45).toInt = sm (zbU (m₉ 99)) (m₉ 102) 3100) → P (some (.inl v)) m₉) : ∀ (n : Nat) (m : Nat → Nat → Int32) (l1 : Int32) (l2 : Int32) (l3 : Int32), (16 - l3.toInt).toNat = n → zF wr_214 m0 m → zV m → (0 ≤ l3.toInt) → (T ≤ 512) → (zW (m 94 7) (m 98) (m 101) (m 102) (m 108)) → (zGW T (m 94 55) (m 109)) → (zGU T (m 94 46) (m 99)) → (zOw (m 99) (m 103) (m 111)) → ((m 94 10).toInt = 3) → (qAv (gM0 aa)) → (qAL (gM0 aa) (m 94 13) (m 94 14) (m 94 15) (m 94 16) ((gM0 aa) 87 4) ((gM0 aa) 87 10) (m0 94 61)) → (qDt (m 117) (gM0 aa)) → (qAX (gM0 aa) (m 94 13) (m 94 14) (m 94 15) (m 94 16)) → (¬ gFu (gM0 aa)) → (l2.toInt = ((gM0 aa) 87 10).toInt) → ((m 94 45).toInt = sm (zbU (m 99)) (m 102) 3100) → ((m 94 61).toInt = 1 - (m0 94 61).toInt) → (qZR (m 99) (m 100) (m 98) (m 101) (m 102) (m 107) (m 108) (m 109) (m 112) (m 113) (m 114) (m 94 55) (m 94 46) ro 0 0 0 1 (m 110) (m 119) (m 94 76) (m 94 75) (m 103) (m 111) (m 104) (m 94 77) (m 94 60) (2 * ((gM0 aa) 87 9).toInt + ((gM0 aa) 87 5).toInt - ((gM0 aa) 87 3).toInt) ((gM0 aa) 87 10).toInt l3 (aRo (aWh (gM0 aa) ((gM0 aa) 87 9)) 0)) → zm X 6 129 214 121 [(0, .inr (.inr (some 94))), (1, .inl l1), (2, .inl l2), (3, .inl l3)] m P := by
  intro n
  induction n using Nat.strongRecOn with
  | _ n IH =>
    intro m l1 l2 l3 hmu hF hV hi0 hi1 r_W r_GW r_GU r_OW hi6 r_AV r_ALo r_DT r_AX3 r_NF r_ENd r_WTS hi14 r_ZR
    refine g_214_121 l1 l2 l3 ?_
    have f1 : 0 ≤ (m 94 10).toInt ∧ (m 94 10).toInt ≤ 6 := rs_94_10 (m := m) hV
    have f2 : 0 ≤ (m 94 61).toInt ∧ (m 94 61).toInt ≤ 1 := rs_94_61 (m := m) hV
    have f3 : 0 ≤ (m0 94 61).toInt ∧ (m0 94 61).toInt ≤ 1 := rs_94_61 (m := m0) h0
    obtain ⟨AT, OW, AG, c, hB, hT⟩ := r_ZR
    have cAX := AX_ro r_AX3 hT
    have li4 : (16 : Int32).toInt = 16 := rfl
    have b5 := i_bd l3
    refine zd (fun (h6 : (16 : Int32) ≤ l3) => ?_) (fun (h6 : ¬ (16 : Int32) ≤ l3) => ?_)
    · skip
      have g7 := i_le h6
      try have gw := GW_room r_GW
      try have alb := AL_b r_AL r_AV
      try have ah7 := r_AL.2.2.2.1
      try have alo := AL_b r_ALo r_AV
      try have h61i := congrArg Int32.toInt r_H61
      have b8 := i_bd l1
      have b9 := i_bd l2
      have li10 : (0 : Int32).toInt = 0 := rfl
      exact lp_214ry_145 h0 K _ _ (l1) (l2) ((0 : Int32)) rfl hF hV (by omega) (by omega) r_W r_GW r_GU r_OW (show (m 94 10).toInt = 3 from by omega) r_AV r_ALo r_DT r_AX3 r_NF r_ENd r_WTS (show (m 94 61).toInt = 1 - (m0 94 61).toInt from by omega) (show qZX (m 99) (m 100) (m 98) (m 101) (m 102) (m 107) (m 108) (m 109) (m 112) (m 113) (m 114) (m 94 55) (m 94 46) ro 0 0 0 1 (m 110) (m 119) (m 94 76) (m 94 75) (m 103) (m 111) (m 104) (m 94 77) (m 94 60) (2 * ((gM0 aa) 87 9).toInt + ((gM0 aa) 87 5).toInt - ((gM0 aa) 87 3).toInt) ((gM0 aa) 87 10).toInt (0 : Int32) (aRo (aWh (gM0 aa) ((gM0 aa) 87 9)) 0) from by first | (exact ⟨AT, OW, AG, YR_end ⟨c, hB, hT⟩ (by omega) (by omega)⟩) | (exfalso; omega; done) | (exfalso; contradiction; done))
    · skip
      have g11 := i_nle h6
      have hg12 : (0 ≤ l3 ∧ l3.toNatClampNeg < 16) := i_ix (by omega) (by omega)
      refine ⟨hg12, ?_⟩
      first | have f13 : -1 ≤ (m 112 l3.toNatClampNeg).toInt ∧ (m 112 l3.toNatClampNeg).toInt ≤ 3099 := ra_112 (m := m) hV (k := l3.toNatClampNeg) (i_ix (n := 16) (by omega) (by omega)).2 | have b14 := i_bd (m 112 l3.toNatClampNeg)
      try have alb := AL_b r_AL r_AV
      try have ah7 := r_AL.2.2.2.1
      try have gw := GW_room r_GW
      try have alo := AL_b r_ALo r_AV
      try have end2 := r_ENd
      refine sp_207ry (aa := c) (AT := AT) (OW := OW) (AG := AG) (st := (2 * ((gM0 aa) 87 9).toInt + ((gM0 aa) 87 5).toInt - ((gM0 aa) 87 3).toInt)) (oo := ((gM0 aa) 87 10).toInt) ((m 112 l3.toNatClampNeg)) hV (by omega) (by omega) (show (m 94 10).toInt = 3 from by omega) (show qU (m 99) (m 112 l3.toNatClampNeg) from by first | (exact (YR_rt hB (by omega) (by omega) rfl).1) | (exfalso; omega; done) | (exfalso; contradiction; done)) r_OW (show qAX c (m 94 13) (m 94 14) (m 94 15) (m 94 16) from by first | (exact cAX) | (exact r_AX3) | (exfalso; omega; done) | (exfalso; contradiction; done)) hB (fun m1 hV_m1 p0_m1 p1_m1 => zmv_n ?_)
      have p0_m1 : zOw (m 99) (m1 103) (m1 111) := p0_m1
      have p1_m1 : qYB (m 99) (m 100) (m 98) (m 101) (m 102) AT (m 107) (m 108) (m 109) OW (m 112) (m 113) (m 114) (m 94 55) (m 94 46) ro 0 0 0 1 (m1 110) (m1 119) (m 94 76) (m1 94 75) (m1 103) (m1 111) (m1 104) AG (m1 94 77) (m1 94 60) (2 * ((gM0 aa) 87 9).toInt + ((gM0 aa) 87 5).toInt - ((gM0 aa) 87 3).toInt) ((gM0 aa) 87 10).toInt (aCm c (qNo (m 100) (m 112 l3.toNatClampNeg))) := p1_m1
      try have gw := GW_room r_GW
      try have alb := AL_b r_AL r_AV
      try have ah7 := r_AL.2.2.2.1
      try have alo := AL_b r_ALo r_AV
      try have h61i := congrArg Int32.toInt r_H61
      have b15 := i_bd l1
      have b16 := i_bd l2
      first | have e17 : (l3 + (1 : Int32)).toInt = l3.toInt + (1) := i_addk rfl (by omega) (by omega) | have b18 := i_bd (l3 + (1 : Int32))
      exact IH (16 - (l3 + (1 : Int32)).toInt).toNat (by omega) _ (l1) (l2) ((l3 + (1 : Int32))) rfl (zF_zov hF ws_207_214) hV_m1 (by omega) (by omega) r_W r_GW r_GU p0_m1 (show (m 94 10).toInt = 3 from by omega) r_AV r_ALo r_DT r_AX3 r_NF r_ENd r_WTS (show (m 94 61).toInt = 1 - (m0 94 61).toInt from by omega) (show qZR (m 99) (m 100) (m 98) (m 101) (m 102) (m 107) (m 108) (m 109) (m 112) (m 113) (m 114) (m 94 55) (m 94 46) ro 0 0 0 1 (m1 110) (m1 119) (m 94 76) (m1 94 75) (m1 103) (m1 111) (m1 104) (m1 94 77) (m1 94 60) (2 * ((gM0 aa) 87 9).toInt + ((gM0 aa) 87 5).toInt - ((gM0 aa) 87 3).toInt) ((gM0 aa) 87 10).toInt (l3 + (1 : Int32)) (aRo (aWh (gM0 aa) ((gM0 aa) 87 9)) 0) from by first | (exact ⟨_, _, _, _, p1_m1, (YR_rt hB (by omega) (by omega) rfl).2.symm.trans hT⟩) | (exfalso; omega; done) | (exfalso; contradiction; done))
set_option maxHeartbeats 8000000 in
theorem lp_214ry_35 {X : Nat × (Nat → Int32)} {P : Option ma_V → (Nat → Nat → Int32) → Prop} {T : Nat} {aa : Nat→Nat→Int32} {ro : Int32} {m0 : Nat → Nat → Int32} (h0 : zV m0) (K : ∀ v m₉, zF wr_214 m0 m₉ → zV m₉ → (zGW T (m₉ 94 55) (m₉ 109)) → (zGU T (m₉ 94 46) (m₉ 99)) → (zOw (m₉ 99) (m₉ 103) (m₉ 111)) → (qRB (m₉ 99) (m₉ 100) (m₉ 98) (m₉ 101) (m₉ 102) (m₉ 103) (m₉ 107) (m₉ 108) (m₉ 109) (m₉ 111) (m₉ 112) (m₉ 113) (m₉ 114) (m₉ 94 55) (m₉ 94 46) ro 0 0 0 1 (gMi aa)) → (qAv (gMi aa)) → (qAL (gMi aa) (m₉ 94 13) (m₉ 94 14) (m₉ 94 15) (m₉ 94 16) (m₉ 94 59) (m₉ 94 60) (m₉ 94 61)) → (qAg (m₉ 99) (m₉ 100) (m₉ 104) (gMi aa)) → (qDt (m₉ 117) (gMi aa)) → ((m₉ 94 45).toInt = sm (zbU (m₉ 99)) (m₉ 102) 3100) → P (some (.inl v)) m₉) : ∀ (n : Nat) (m : Nat → Nat → Int32) (l1 : Int32) (l2 : Int32), (3100 - l2.toInt).toNat = n → zF wr_214 m0 m → zV m → (0 ≤ l2.toInt) → (l2.toInt ≤ 3100) → (T ≤ 512) → (zW (m 94 7) (m 98) (m 101) (m 102) (m 108)) → (zGW T (m 94 55) (m 109)) → (zGU T (m 94 46) (m 99)) → (zOw (m 99) (m 103) (m 111)) → ((m 94 10).toInt = 3) → (qRB (m 99) (m 100) (m 98) (m 101) (m 102) (m 103) (m 107) (m 108) (m 109) (m 111) (m 112) (m 113) (m 114) (m 94 55) (m 94 46) ro 0 0 0 1 (gM0 aa)) → (qAv (gM0 aa)) → (qAL (gM0 aa) (m 94 13) (m 94 14) (m 94 15) (m 94 16) (m 94 59) (m 94 60) (m 94 61)) → (qAg (m 99) (m 100) (m 104) (gM0 aa)) → (qDt (m 117) (gM0 aa)) → (qAX (gM0 aa) (m 94 13) (m 94 14) (m 94 15) (m 94 16)) → (¬ gFu (gM0 aa)) → ((m 94 61) = (m0 94 61)) → ((m 94 45).toInt = sm (zbU (m 99)) (m 102) 3100) → (∀ s : Nat, (s : Int) < l2.toInt → ((m 110) s ≠ 0 ↔ (m 99) s ≠ 0 ∧ ((m 103) s).toInt < (m 94 14).toInt)) → zm X 6 129 214 35 [(0, .inr (.inr (some 94))), (1, .inl l1), (2, .inl l2)] m P := by
  intro n
  induction n using Nat.strongRecOn with
  | _ n IH =>
    intro m l1 l2 hmu hF hV hi0 hi1 hi2 r_W r_GW r_GU r_OW hi7 r_RB r_AV r_AL r_AGq r_DT r_AX3 r_NF r_H61 r_WTS r_KOl
    refine g_214_35 l1 l2 ?_
    have f1 : 0 ≤ (m 94 10).toInt ∧ (m 94 10).toInt ≤ 6 := rs_94_10 (m := m) hV
    have li2 : (3100 : Int32).toInt = 3100 := rfl
    have b3 := i_bd l2
    refine zd (fun (h4 : (3100 : Int32) ≤ l2) => ?_) (fun (h4 : ¬ (3100 : Int32) ≤ l2) => ?_)
    · skip
      have g5 := i_le h4
      try have gw := GW_room r_GW
      try have alb := AL_b r_AL r_AV
      try have ah7 := r_AL.2.2.2.1
      try have alo := AL_b r_ALo r_AV
      try have h61i := congrArg Int32.toInt r_H61
      have li7 : (0 : Int32).toInt = 0 := rfl
      have hV6 : zV (ma_u m 94 75 (0 : Int32)) := us_94_75 hV (by omega) (by omega)
      have hV8 : zV (ma_u (ma_u m 94 75 (0 : Int32)) 94 76 (0 : Int32)) := us_94_76 hV6 (by omega) (by omega)
      have li10 : (1 : Int32).toInt = 1 := rfl
      have f11 : 0 ≤ (m 94 61).toInt ∧ (m 94 61).toInt ≤ 1 := rs_94_61 (m := m) hV
      first | have e12 : ((1 : Int32) - (m 94 61)).toInt = (1 : Int32).toInt - (m 94 61).toInt := i_sub (by omega) (by omega) | have b13 := i_bd ((1 : Int32) - (m 94 61))
      have hV9 : zV (ma_u (ma_u (ma_u m 94 75 (0 : Int32)) 94 76 (0 : Int32)) 94 61 ((1 : Int32) - (m 94 61))) := us_94_61 hV8 (by omega) (by omega)
      have f15 : 0 ≤ (m 94 14).toInt ∧ (m 94 14).toInt ≤ 1500 := rs_94_14 (m := m) hV
      have f16 : 0 ≤ (m 94 13).toInt ∧ (m 94 13).toInt ≤ 1500 := rs_94_13 (m := m) hV
      first | have f17 := i_mul01 (x := ((1 : Int32) - (m 94 61))) (y := (m 94 13)) (by omega) (by omega) (by omega) (by omega) | have b18 := i_bd (((1 : Int32) - (m 94 61)) * (m 94 13))
      first | have e19 : ((m 94 14) + (((1 : Int32) - (m 94 61)) * (m 94 13))).toInt = (m 94 14).toInt + (((1 : Int32) - (m 94 61)) * (m 94 13)).toInt := i_add (by omega) (by omega) | have b20 := i_bd ((m 94 14) + (((1 : Int32) - (m 94 61)) * (m 94 13)))
      have hV14 : zV (ma_u (ma_u (ma_u (ma_u m 94 75 (0 : Int32)) 94 76 (0 : Int32)) 94 61 ((1 : Int32) - (m 94 61))) 94 77 ((m 94 14) + (((1 : Int32) - (m 94 61)) * (m 94 13)))) := us_94_77 hV9 (by omega) (by omega)
      have b21 := i_bd l1
      have f22 : 0 ≤ (m 94 60).toInt ∧ (m 94 60).toInt ≤ 1600 := rs_94_60 (m := m) hV
      have f23 : 0 ≤ (m0 94 61).toInt ∧ (m0 94 61).toInt ≤ 1 := rs_94_61 (m := m0) h0
      exact lp_214ry_121 h0 K _ _ (l1) ((m 94 60)) ((0 : Int32)) rfl (zF_u (zF_u (zF_u (zF_u hF rfl) rfl) rfl) rfl) hV14 (by omega) (by omega) r_W r_GW r_GU r_OW (show (m 94 10).toInt = 3 from by omega) r_AV (show qAL (gM0 aa) (m 94 13) (m 94 14) (m 94 15) (m 94 16) ((gM0 aa) 87 4) ((gM0 aa) 87 10) (m0 94 61) from by first | (exact AL_tp r_AL r_H61) | (exfalso; omega; done) | (exfalso; contradiction; done)) r_DT r_AX3 r_NF (show (m 94 60).toInt = ((gM0 aa) 87 10).toInt from by first | (exact (congrArg Int32.toInt r_AL.2.2.1).symm) | (exfalso; omega; done) | (exfalso; contradiction; done)) r_WTS (show ((1 : Int32) - (m 94 61)).toInt = 1 - (m0 94 61).toInt from by omega) (show qZR (m 99) (m 100) (m 98) (m 101) (m 102) (m 107) (m 108) (m 109) (m 112) (m 113) (m 114) (m 94 55) (m 94 46) ro 0 0 0 1 (m 110) (m 119) (0 : Int32) (0 : Int32) (m 103) (m 111) (m 104) ((m 94 14) + (((1 : Int32) - (m 94 61)) * (m 94 13))) (m 94 60) (2 * ((gM0 aa) 87 9).toInt + ((gM0 aa) 87 5).toInt - ((gM0 aa) 87 3).toInt) ((gM0 aa) 87 10).toInt (0 : Int32) (aRo (aWh (gM0 aa) ((gM0 aa) 87 9)) 0) from by first | (exact ⟨_, _, _, YR_0 (YB_wh r_RB r_AV r_NF r_AGq (fun s hs => by rw [r_AL.1.2.1]; exact r_KOl s (by omega)) (by omega) (by omega) (AL_to r_AL r_AV ⟨fun _ => by omega, fun _ => by omega⟩) r_AL.2.2.1.symm) (by omega)⟩) | (exfalso; omega; done) | (exfalso; contradiction; done))
    · skip
      have g24 := i_nle h4
      have hg25 : (0 ≤ l2 ∧ l2.toNatClampNeg < 3100) := i_ix (by omega) (by omega)
      refine ⟨hg25, ?_⟩
      first | have f26 : 0 ≤ (m 99 l2.toNatClampNeg).toInt ∧ (m 99 l2.toNatClampNeg).toInt ≤ 1 := ra_99 (m := m) hV (k := l2.toNatClampNeg) (i_ix (n := 3100) (by omega) (by omega)).2 | have b27 := i_bd (m 99 l2.toNatClampNeg)
      have li28 : (0 : Int32).toInt = 0 := rfl
      refine zd (fun (h29 : (m 99 l2.toNatClampNeg) = (0 : Int32)) => ?_) (fun (h29 : ¬ (m 99 l2.toNatClampNeg) = (0 : Int32)) => ?_)
      · skip
        have g30 := i_eq h29
        have hg31 : (0 ≤ l2 ∧ l2.toNatClampNeg < 3100) := i_ix (by omega) (by omega)
        refine ⟨hg31, ?_⟩
        try have gw := GW_room r_GW
        try have alb := AL_b r_AL r_AV
        try have ah7 := r_AL.2.2.2.1
        try have alo := AL_b r_ALo r_AV
        try have h61i := congrArg Int32.toInt r_H61
        have hV32 : zV (ma_u m 110 l2.toNatClampNeg (0 : Int32)) := ua_110 hV (by omega) (by omega)
        have b33 := i_bd l1
        first | have e34 : (l2 + (1 : Int32)).toInt = l2.toInt + (1) := i_addk rfl (by omega) (by omega) | have b35 := i_bd (l2 + (1 : Int32))
        exact IH (3100 - (l2 + (1 : Int32)).toInt).toNat (by omega) _ (l1) ((l2 + (1 : Int32))) rfl (zF_u hF rfl) hV32 (by omega) (by omega) (by omega) r_W r_GW r_GU r_OW (show (m 94 10).toInt = 3 from by omega) r_RB r_AV r_AL r_AGq r_DT r_AX3 r_NF r_H61 r_WTS (show ∀ s : Nat, (s : Int) < (l2 + (1 : Int32)).toInt → (((ma_u m 110 l2.toNatClampNeg (0 : Int32)) 110) s ≠ 0 ↔ (m 99) s ≠ 0 ∧ ((m 103) s).toInt < (m 94 14).toInt) from by first | (exact KO_step r_KOl (by omega) (by omega) ⟨fun _ => ⟨by assumption, by omega⟩, fun _ => by decide⟩) | (exact KO_step r_KOl (by omega) (by omega) ⟨fun z => absurd rfl z, fun z => absurd (by assumption) z.1⟩) | (exact KO_step r_KOl (by omega) (by omega) ⟨fun z => absurd rfl z, fun z => absurd z.2 (by omega)⟩) | (exfalso; omega; done) | (exfalso; contradiction; done))
      · skip
        have g36 := i_ne h29
        have hg37 : (0 ≤ l2 ∧ l2.toNatClampNeg < 3100) := i_ix (by omega) (by omega)
        refine ⟨hg37, ?_⟩
        have f38 : 0 ≤ (m 94 14).toInt ∧ (m 94 14).toInt ≤ 1500 := rs_94_14 (m := m) hV
        first | have f39 : 0 ≤ (m 103 l2.toNatClampNeg).toInt ∧ (m 103 l2.toNatClampNeg).toInt ≤ 4599 := ra_103 (m := m) hV (k := l2.toNatClampNeg) (i_ix (n := 3100) (by omega) (by omega)).2 | have b40 := i_bd (m 103 l2.toNatClampNeg)
        refine zd (fun (h41 : (m 94 14) ≤ (m 103 l2.toNatClampNeg)) => ?_) (fun (h41 : ¬ (m 94 14) ≤ (m 103 l2.toNatClampNeg)) => ?_)
        · skip
          have g42 := i_le h41
          have hg43 : (0 ≤ l2 ∧ l2.toNatClampNeg < 3100) := i_ix (by omega) (by omega)
          refine ⟨hg43, ?_⟩
          try have gw := GW_room r_GW
          try have alb := AL_b r_AL r_AV
          try have ah7 := r_AL.2.2.2.1
          try have alo := AL_b r_ALo r_AV
          try have h61i := congrArg Int32.toInt r_H61
          have hV44 : zV (ma_u m 110 l2.toNatClampNeg (0 : Int32)) := ua_110 hV (by omega) (by omega)
          have b45 := i_bd l1
          first | have e46 : (l2 + (1 : Int32)).toInt = l2.toInt + (1) := i_addk rfl (by omega) (by omega) | have b47 := i_bd (l2 + (1 : Int32))
          exact IH (3100 - (l2 + (1 : Int32)).toInt).toNat (by omega) _ (l1) ((l2 + (1 : Int32))) rfl (zF_u hF rfl) hV44 (by omega) (by omega) (by omega) r_W r_GW r_GU r_OW (show (m 94 10).toInt = 3 from by omega) r_RB r_AV r_AL r_AGq r_DT r_AX3 r_NF r_H61 r_WTS (show ∀ s : Nat, (s : Int) < (l2 + (1 : Int32)).toInt → (((ma_u m 110 l2.toNatClampNeg (0 : Int32)) 110) s ≠ 0 ↔ (m 99) s ≠ 0 ∧ ((m 103) s).toInt < (m 94 14).toInt) from by first | (exact KO_step r_KOl (by omega) (by omega) ⟨fun _ => ⟨by assumption, by omega⟩, fun _ => by decide⟩) | (exact KO_step r_KOl (by omega) (by omega) ⟨fun z => absurd rfl z, fun z => absurd (by assumption) z.1⟩) | (exact KO_step r_KOl (by omega) (by omega) ⟨fun z => absurd rfl z, fun z => absurd z.2 (by omega)⟩) | (exfalso; omega; done) | (exfalso; contradiction; done))
        · skip
          have g48 := i_nle h41
          have hg49 : (0 ≤ l2 ∧ l2.toNatClampNeg < 3100) := i_ix (by omega) (by omega)
          refine ⟨hg49, ?_⟩
          try have gw := GW_room r_GW
          try have alb := AL_b r_AL r_AV
          try have ah7 := r_AL.2.2.2.1
          try have alo := AL_b r_ALo r_AV
          try have h61i := congrArg Int32.toInt r_H61
          have li51 : (1 : Int32).toInt = 1 := rfl
          have hV50 : zV (ma_u m 110 l2.toNatClampNeg (1 : Int32)) := ua_110 hV (by omega) (by omega)
          have b52 := i_bd l1
          first | have e53 : (l2 + (1 : Int32)).toInt = l2.toInt + (1) := i_addk rfl (by omega) (by omega) | have b54 := i_bd (l2 + (1 : Int32))
          exact IH (3100 - (l2 + (1 : Int32)).toInt).toNat (by omega) _ (l1) ((l2 + (1 : Int32))) rfl (zF_u hF rfl) hV50 (by omega) (by omega) (by omega) r_W r_GW r_GU r_OW (show (m 94 10).toInt = 3 from by omega) r_RB r_AV r_AL r_AGq r_DT r_AX3 r_NF r_H61 r_WTS (show ∀ s : Nat, (s : Int) < (l2 + (1 : Int32)).toInt → (((ma_u m 110 l2.toNatClampNeg (1 : Int32)) 110) s ≠ 0 ↔ (m 99) s ≠ 0 ∧ ((m 103) s).toInt < (m 94 14).toInt) from by first | (exact KO_step r_KOl (by omega) (by omega) ⟨fun _ => ⟨by assumption, by omega⟩, fun _ => by decide⟩) | (exact KO_step r_KOl (by omega) (by omega) ⟨fun z => absurd rfl z, fun z => absurd (by assumption) z.1⟩) | (exact KO_step r_KOl (by omega) (by omega) ⟨fun z => absurd rfl z, fun z => absurd z.2 (by omega)⟩) | (exfalso; omega; done) | (exfalso; contradiction; done))
set_option maxHeartbeats 8000000 in
theorem sp_214ry {X : Nat × (Nat → Int32)} {P : Option ma_V → (Nat → Nat → Int32) → Prop} {T : Nat} {aa : Nat→Nat→Int32} {ro : Int32} {m : Nat → Nat → Int32}  (hV : zV m) (hpre0 : T ≤ 512) (r_W : zW (m 94 7) (m 98) (m 101) (m 102) (m 108)) (r_GW : zGW T (m 94 55) (m 109)) (r_GU : zGU T (m 94 46) (m 99)) (r_OW : zOw (m 99) (m 103) (m 111)) (hpre5 : (m 94 10).toInt = 3) (r_RB : qRB (m 99) (m 100) (m 98) (m 101) (m 102) (m 103) (m 107) (m 108) (m 109) (m 111) (m 112) (m 113) (m 114) (m 94 55) (m 94 46) ro 0 0 0 1 aa) (r_AV : qAv aa) (r_AL : qAL aa (m 94 13) (m 94 14) (m 94 15) (m 94 16) (m 94 59) (m 94 60) (m 94 61)) (r_AGq : qAg (m 99) (m 100) (m 104) aa) (r_DT : qDt (m 117) aa) (r_WTS : (m 94 45).toInt = sm (zbU (m 99)) (m 102) 3100) (KZ : ∀ v m₉, zV (zov wr_214 m m₉) → (zGW T (m₉ 94 55) (m₉ 109)) → (zGU T (m 94 46) (m₉ 99)) → (zOw (m₉ 99) (m₉ 103) (m₉ 111)) → (qRB (m₉ 99) (m 100) (m 98) (m 101) (m 102) (m₉ 103) (m 107) (m 108) (m₉ 109) (m₉ 111) (m 112) (m₉ 113) (m₉ 114) (m₉ 94 55) (m 94 46) ro 0 0 0 1 (gMi aa)) → (qAv (gMi aa)) → (qAL (gMi aa) (m 94 13) (m 94 14) (m 94 15) (m 94 16) (m₉ 94 59) (m₉ 94 60) (m₉ 94 61)) → (qAg (m₉ 99) (m 100) (m₉ 104) (gMi aa)) → (qDt (m₉ 117) (gMi aa)) → ((m₉ 94 45).toInt = sm (zbU (m₉ 99)) (m 102) 3100) → P (some (.inl v)) (zov wr_214 m m₉)) : zm X 6 129 214 0 [(0, .inr (.inr (some 94)))] m P := by
  have K : ∀ v m₉, zF wr_214 m m₉ → zV m₉ → (zGW T (m₉ 94 55) (m₉ 109)) → (zGU T (m₉ 94 46) (m₉ 99)) → (zOw (m₉ 99) (m₉ 103) (m₉ 111)) → (qRB (m₉ 99) (m₉ 100) (m₉ 98) (m₉ 101) (m₉ 102) (m₉ 103) (m₉ 107) (m₉ 108) (m₉ 109) (m₉ 111) (m₉ 112) (m₉ 113) (m₉ 114) (m₉ 94 55) (m₉ 94 46) ro 0 0 0 1 (gMi aa)) → (qAv (gMi aa)) → (qAL (gMi aa) (m₉ 94 13) (m₉ 94 14) (m₉ 94 15) (m₉ 94 16) (m₉ 94 59) (m₉ 94 60) (m₉ 94 61)) → (qAg (m₉ 99) (m₉ 100) (m₉ 104) (gMi aa)) → (qDt (m₉ 117) (gMi aa)) → ((m₉ 94 45).toInt = sm (zbU (m₉ 99)) (m₉ 102) 3100) → P (some (.inl v)) m₉ := by
    intro v m₉ hf z q0 q1 q2 q3 q4 q5 q6 q7 q8
    have e := zov_eq hf
    rw [e] at z ⊢
    try rw [e] at q0
    try rw [e] at q1
    try rw [e] at q2
    try rw [e] at q3
    try rw [e] at q4
    try rw [e] at q5
    try rw [e] at q6
    try rw [e] at q7
    try rw [e] at q8
    exact KZ v m₉ z q0 q1 q2 q3 q4 q5 q6 q7 q8
  refine g_214_0  ?_
  have f1 : 0 ≤ (m 94 10).toInt ∧ (m 94 10).toInt ≤ 6 := rs_94_10 (m := m) hV
  try have alb := AL_b r_AL r_AV
  try have ah7 := r_AL.2.2.2.1
  try have gw := GW_room r_GW
  try have alo := AL_b r_ALo r_AV
  try have end2 := r_ENd
  refine sp_215ry (aa := aa)  hV r_RB r_AV r_AL r_AGq (fun v2 m1 hV_m1 hb_m1 p0_m1 => zmi_n ?_)
  have p0_m1 : (v2.toInt = 1 ∧ gFu aa) ∨ (v2.toInt = 0 ∧ ¬ gFu aa) := p0_m1
  have f2 := i_01 hb_m1
  have li3 : (0 : Int32).toInt = 0 := rfl
  refine zd (fun (h4 : v2 = (0 : Int32)) => ?_) (fun (h4 : ¬ v2 = (0 : Int32)) => ?_)
  · skip
    have g5 := i_eq h4
    try have alb := AL_b r_AL r_AV
    try have ah7 := r_AL.2.2.2.1
    try have gw := GW_room r_GW
    try have alo := AL_b r_ALo r_AV
    try have end2 := r_ENd
    refine sp_215ry (aa := aa)  hV_m1 r_RB r_AV r_AL r_AGq (fun v4 m3 hV_m3 hb_m3 p0_m3 => zmi_n ?_)
    have p0_m3 : (v4.toInt = 1 ∧ gFu aa) ∨ (v4.toInt = 0 ∧ ¬ gFu aa) := p0_m3
    have f6 := i_01 hb_m3
    refine zd (fun (h7 : v4 = (0 : Int32)) => ?_) (fun (h7 : ¬ v4 = (0 : Int32)) => ?_)
    · skip
      have g8 := i_eq h7
      try have gw := GW_room r_GW
      try have alb := AL_b r_AL r_AV
      try have ah7 := r_AL.2.2.2.1
      try have alo := AL_b r_ALo r_AV
      try have h61i := congrArg Int32.toInt r_H61
      have hV9 : zV (ma_u (zov wr_215 (zov wr_215 m m1) m3) 94 47 ((m 94 47) + (1 : Int32))) := uf_94_47 hV_m3
      exact lp_214ry_35 hV K _ _ ((0 : Int32)) ((0 : Int32)) rfl (zF_u (zF_zov (zF_zov zF_rfl ws_215_214) ws_215_214) rfl) hV9 (by omega) (by omega) (by omega) r_W r_GW r_GU r_OW (show (m 94 10).toInt = 3 from by omega) (show qRB (m 99) (m 100) (m 98) (m 101) (m 102) (m 103) (m 107) (m 108) (m 109) (m 111) (m 112) (m 113) (m 114) (m 94 55) (m 94 46) ro 0 0 0 1 (gM0 aa) from by first | (rw [(M0_n (a := aa) (p0_m1.elim (fun z => absurd z.1 (by omega)) (fun z => z.2))).1]; exact r_RB; done) | (exfalso; omega; done) | (exfalso; contradiction; done)) (show qAv (gM0 aa) from by first | (rw [(M0_n (a := aa) (p0_m1.elim (fun z => absurd z.1 (by omega)) (fun z => z.2))).1]; exact r_AV; done) | (exact r_AV) | (exfalso; omega; done) | (exfalso; contradiction; done)) (show qAL (gM0 aa) (m 94 13) (m 94 14) (m 94 15) (m 94 16) (m 94 59) (m 94 60) (m 94 61) from by first | (rw [(M0_n (a := aa) (p0_m1.elim (fun z => absurd z.1 (by omega)) (fun z => z.2))).1]; exact r_AL; done) | (exact r_AL) | (exfalso; omega; done) | (exfalso; contradiction; done)) (show qAg (m 99) (m 100) (m 104) (gM0 aa) from by first | (rw [(M0_n (a := aa) (p0_m1.elim (fun z => absurd z.1 (by omega)) (fun z => z.2))).1]; exact r_AGq; done) | (exact r_AGq) | (exfalso; omega; done) | (exfalso; contradiction; done)) (show qDt (m 117) (gM0 aa) from by first | (rw [(M0_n (a := aa) (p0_m1.elim (fun z => absurd z.1 (by omega)) (fun z => z.2))).1]; exact r_DT; done) | (exact r_DT) | (exfalso; omega; done) | (exfalso; contradiction; done)) (show qAX (gM0 aa) (m 94 13) (m 94 14) (m 94 15) (m 94 16) from by first | (rw [(M0_n (a := aa) (p0_m1.elim (fun z => absurd z.1 (by omega)) (fun z => z.2))).1]; exact r_AL.1; done) | (exfalso; omega; done) | (exfalso; contradiction; done)) (show ¬ gFu (gM0 aa) from by first | (rw [(M0_n (a := aa) (p0_m1.elim (fun z => absurd z.1 (by omega)) (fun z => z.2))).1]; exact (p0_m3.elim (fun z => absurd z.1 (by omega)) (fun z => z.2)); done) | (exfalso; omega; done) | (exfalso; contradiction; done)) (show (m 94 61) = (m 94 61) from by first | (exact rfl) | (exfalso; omega; done) | (exfalso; contradiction; done)) r_WTS (show ∀ s : Nat, (s : Int) < (0 : Int32).toInt → ((m 110) s ≠ 0 ↔ (m 99) s ≠ 0 ∧ ((m 103) s).toInt < (m 94 14).toInt) from by first | (intro s hs; omega; done) | (exfalso; omega; done) | (exfalso; contradiction; done))
    · skip
      have g10 := i_ne h7
      try have gw := GW_room r_GW
      try have alb := AL_b r_AL r_AV
      try have ah7 := r_AL.2.2.2.1
      try have alo := AL_b r_ALo r_AV
      try have h61i := congrArg Int32.toInt r_H61
      exact K ((0 : Int32)) _ (zF_zov (zF_zov zF_rfl ws_215_214) ws_215_214) hV_m3 r_GW r_GU r_OW (show qRB (m 99) (m 100) (m 98) (m 101) (m 102) (m 103) (m 107) (m 108) (m 109) (m 111) (m 112) (m 113) (m 114) (m 94 55) (m 94 46) ro 0 0 0 1 (gMi aa) from by first | (rw [(Mi_y (a := aa) (by rw [(M0_n (a := aa) (p0_m1.elim (fun z => absurd z.1 (by omega)) (fun z => z.2))).1]; exact (p0_m3.elim (fun z => z.2) (fun z => absurd z.1 (by omega))))).1, (M0_n (a := aa) (p0_m1.elim (fun z => absurd z.1 (by omega)) (fun z => z.2))).1]; exact r_RB; done) | (exfalso; omega; done) | (exfalso; contradiction; done)) (show qAv (gMi aa) from by first | (rw [(Mi_y (a := aa) (by rw [(M0_n (a := aa) (p0_m1.elim (fun z => absurd z.1 (by omega)) (fun z => z.2))).1]; exact (p0_m3.elim (fun z => z.2) (fun z => absurd z.1 (by omega))))).1, (M0_n (a := aa) (p0_m1.elim (fun z => absurd z.1 (by omega)) (fun z => z.2))).1]; exact r_AV; done) | (exact r_AV) | (exfalso; omega; done) | (exfalso; contradiction; done)) (show qAL (gMi aa) (m 94 13) (m 94 14) (m 94 15) (m 94 16) (m 94 59) (m 94 60) (m 94 61) from by first | (rw [(Mi_y (a := aa) (by rw [(M0_n (a := aa) (p0_m1.elim (fun z => absurd z.1 (by omega)) (fun z => z.2))).1]; exact (p0_m3.elim (fun z => z.2) (fun z => absurd z.1 (by omega))))).1, (M0_n (a := aa) (p0_m1.elim (fun z => absurd z.1 (by omega)) (fun z => z.2))).1]; exact r_AL; done) | (exact r_AL) | (exfalso; omega; done) | (exfalso; contradiction; done)) (show qAg (m 99) (m 100) (m 104) (gMi aa) from by first | (rw [(Mi_y (a := aa) (by rw [(M0_n (a := aa) (p0_m1.elim (fun z => absurd z.1 (by omega)) (fun z => z.2))).1]; exact (p0_m3.elim (fun z => z.2) (fun z => absurd z.1 (by omega))))).1, (M0_n (a := aa) (p0_m1.elim (fun z => absurd z.1 (by omega)) (fun z => z.2))).1]; exact r_AGq; done) | (exact r_AGq) | (exfalso; omega; done) | (exfalso; contradiction; done)) (show qDt (m 117) (gMi aa) from by first | (rw [(Mi_y (a := aa) (by rw [(M0_n (a := aa) (p0_m1.elim (fun z => absurd z.1 (by omega)) (fun z => z.2))).1]; exact (p0_m3.elim (fun z => z.2) (fun z => absurd z.1 (by omega))))).1, (M0_n (a := aa) (p0_m1.elim (fun z => absurd z.1 (by omega)) (fun z => z.2))).1]; exact r_DT; done) | (exact r_DT) | (exfalso; omega; done) | (exfalso; contradiction; done)) r_WTS
  · skip
    have g11 := i_ne h4
    try have alb := AL_b r_AL r_AV
    try have ah7 := r_AL.2.2.2.1
    try have gw := GW_room r_GW
    try have alo := AL_b r_ALo r_AV
    try have end2 := r_ENd
    refine sp_211ry (aa := aa)  hV_m1 (by omega) r_W r_GW r_GU r_OW (show (m 94 10).toInt = 3 from by omega) r_RB r_AV r_AL r_AGq r_WTS (fun v6 m5 hV_m5 p0_m5 p1_m5 p2_m5 p3_m5 p4_m5 p5_m5 p6_m5 p7_m5 p8_m5 => zmi_n ?_)
    have p0_m5 : zGW T (m5 94 55) (m5 109) := p0_m5
    have p1_m5 : zGU T (m 94 46) (m5 99) := p1_m5
    have p2_m5 : zOw (m5 99) (m5 103) (m5 111) := p2_m5
    have p3_m5 : qRB (m5 99) (m 100) (m 98) (m 101) (m 102) (m5 103) (m 107) (m 108) (m5 109) (m5 111) (m 112) (m5 113) (m5 114) (m5 94 55) (m 94 46) ro 0 0 0 1 (gMa aa) := p3_m5
    have p4_m5 : qAv (gMa aa) := p4_m5
    have p5_m5 : qAL (gMa aa) (m 94 13) (m 94 14) (m 94 15) (m 94 16) (m 94 59) (m5 94 60) (m 94 61) := p5_m5
    have p6_m5 : qAg (m5 99) (m 100) (m 104) (gMa aa) := p6_m5
    have p7_m5 : qDt (m5 117) (gMa aa) := p7_m5
    have p8_m5 : (m5 94 45).toInt = sm (zbU (m5 99)) (m 102) 3100 := p8_m5
    try have alb := AL_b r_AL r_AV
    try have ah7 := r_AL.2.2.2.1
    try have gw := GW_room p0_m5
    try have alo := AL_b r_ALo r_AV
    try have end2 := r_ENd
    refine sp_215ry (aa := (gMa aa))  hV_m5 p3_m5 p4_m5 p5_m5 p6_m5 (fun v8 m7 hV_m7 hb_m7 p0_m7 => zmi_n ?_)
    have p0_m7 : (v8.toInt = 1 ∧ gFu (gMa aa)) ∨ (v8.toInt = 0 ∧ ¬ gFu (gMa aa)) := p0_m7
    have f12 := i_01 hb_m7
    refine zd (fun (h13 : v8 = (0 : Int32)) => ?_) (fun (h13 : ¬ v8 = (0 : Int32)) => ?_)
    · skip
      have g14 := i_eq h13
      try have gw := GW_room p0_m5
      try have alb := AL_b r_AL r_AV
      try have ah7 := r_AL.2.2.2.1
      try have alo := AL_b r_ALo r_AV
      try have h61i := congrArg Int32.toInt r_H61
      have hV15 : zV (ma_u (zov wr_215 (zov wr_211 (zov wr_215 m m1) m5) m7) 94 47 ((m5 94 47) + (1 : Int32))) := uf_94_47 hV_m7
      have b16 := i_bd v6
      exact lp_214ry_35 hV K _ _ (v6) ((0 : Int32)) rfl (zF_u (zF_zov (zF_zov (zF_zov zF_rfl ws_215_214) ws_211_214) ws_215_214) rfl) hV15 (by omega) (by omega) (by omega) r_W p0_m5 p1_m5 p2_m5 (show (m 94 10).toInt = 3 from by omega) (show qRB (m5 99) (m 100) (m 98) (m 101) (m 102) (m5 103) (m 107) (m 108) (m5 109) (m5 111) (m 112) (m5 113) (m5 114) (m5 94 55) (m 94 46) ro 0 0 0 1 (gM0 aa) from by first | (rw [(M0_y (a := aa) (p0_m1.elim (fun z => z.2) (fun z => absurd z.1 (by omega)))).1]; exact p3_m5; done) | (exfalso; omega; done) | (exfalso; contradiction; done)) (show qAv (gM0 aa) from by first | (rw [(M0_y (a := aa) (p0_m1.elim (fun z => z.2) (fun z => absurd z.1 (by omega)))).1]; exact p4_m5; done) | (exact p4_m5) | (exfalso; omega; done) | (exfalso; contradiction; done)) (show qAL (gM0 aa) (m 94 13) (m 94 14) (m 94 15) (m 94 16) (m 94 59) (m5 94 60) (m 94 61) from by first | (rw [(M0_y (a := aa) (p0_m1.elim (fun z => z.2) (fun z => absurd z.1 (by omega)))).1]; exact p5_m5; done) | (exact p5_m5) | (exfalso; omega; done) | (exfalso; contradiction; done)) (show qAg (m5 99) (m 100) (m 104) (gM0 aa) from by first | (rw [(M0_y (a := aa) (p0_m1.elim (fun z => z.2) (fun z => absurd z.1 (by omega)))).1]; exact p6_m5; done) | (exact p6_m5) | (exfalso; omega; done) | (exfalso; contradiction; done)) (show qDt (m5 117) (gM0 aa) from by first | (rw [(M0_y (a := aa) (p0_m1.elim (fun z => z.2) (fun z => absurd z.1 (by omega)))).1]; exact p7_m5; done) | (exact p7_m5) | (exfalso; omega; done) | (exfalso; contradiction; done)) (show qAX (gM0 aa) (m 94 13) (m 94 14) (m 94 15) (m 94 16) from by first | (rw [(M0_y (a := aa) (p0_m1.elim (fun z => z.2) (fun z => absurd z.1 (by omega)))).1]; exact p5_m5.1; done) | (exfalso; omega; done) | (exfalso; contradiction; done)) (show ¬ gFu (gM0 aa) from by first | (rw [(M0_y (a := aa) (p0_m1.elim (fun z => z.2) (fun z => absurd z.1 (by omega)))).1]; exact (p0_m7.elim (fun z => absurd z.1 (by omega)) (fun z => z.2)); done) | (exfalso; omega; done) | (exfalso; contradiction; done)) (show (m 94 61) = (m 94 61) from by first | (exact rfl) | (exfalso; omega; done) | (exfalso; contradiction; done)) p8_m5 (show ∀ s : Nat, (s : Int) < (0 : Int32).toInt → ((m5 110) s ≠ 0 ↔ (m5 99) s ≠ 0 ∧ ((m5 103) s).toInt < (m 94 14).toInt) from by first | (intro s hs; omega; done) | (exfalso; omega; done) | (exfalso; contradiction; done))
    · skip
      have g17 := i_ne h13
      try have gw := GW_room p0_m5
      try have alb := AL_b r_AL r_AV
      try have ah7 := r_AL.2.2.2.1
      try have alo := AL_b r_ALo r_AV
      try have h61i := congrArg Int32.toInt r_H61
      have b18 := i_bd v6
      exact K (v6) _ (zF_zov (zF_zov (zF_zov zF_rfl ws_215_214) ws_211_214) ws_215_214) hV_m7 p0_m5 p1_m5 p2_m5 (show qRB (m5 99) (m 100) (m 98) (m 101) (m 102) (m5 103) (m 107) (m 108) (m5 109) (m5 111) (m 112) (m5 113) (m5 114) (m5 94 55) (m 94 46) ro 0 0 0 1 (gMi aa) from by first | (rw [(Mi_y (a := aa) (by rw [(M0_y (a := aa) (p0_m1.elim (fun z => z.2) (fun z => absurd z.1 (by omega)))).1]; exact (p0_m7.elim (fun z => z.2) (fun z => absurd z.1 (by omega))))).1, (M0_y (a := aa) (p0_m1.elim (fun z => z.2) (fun z => absurd z.1 (by omega)))).1]; exact p3_m5; done) | (exfalso; omega; done) | (exfalso; contradiction; done)) (show qAv (gMi aa) from by first | (rw [(Mi_y (a := aa) (by rw [(M0_y (a := aa) (p0_m1.elim (fun z => z.2) (fun z => absurd z.1 (by omega)))).1]; exact (p0_m7.elim (fun z => z.2) (fun z => absurd z.1 (by omega))))).1, (M0_y (a := aa) (p0_m1.elim (fun z => z.2) (fun z => absurd z.1 (by omega)))).1]; exact p4_m5; done) | (exact p4_m5) | (exfalso; omega; done) | (exfalso; contradiction; done)) (show qAL (gMi aa) (m 94 13) (m 94 14) (m 94 15) (m 94 16) (m 94 59) (m5 94 60) (m 94 61) from by first | (rw [(Mi_y (a := aa) (by rw [(M0_y (a := aa) (p0_m1.elim (fun z => z.2) (fun z => absurd z.1 (by omega)))).1]; exact (p0_m7.elim (fun z => z.2) (fun z => absurd z.1 (by omega))))).1, (M0_y (a := aa) (p0_m1.elim (fun z => z.2) (fun z => absurd z.1 (by omega)))).1]; exact p5_m5; done) | (exact p5_m5) | (exfalso; omega; done) | (exfalso; contradiction; done)) (show qAg (m5 99) (m 100) (m 104) (gMi aa) from by first | (rw [(Mi_y (a := aa) (by rw [(M0_y (a := aa) (p0_m1.elim (fun z => z.2) (fun z => absurd z.1 (by omega)))).1]; exact (p0_m7.elim (fun z => z.2) (fun z => absurd z.1 (by omega))))).1, (M0_y (a := aa) (p0_m1.elim (fun z => z.2) (fun z => absurd z.1 (by omega)))).1]; exact p6_m5; done) | (exact p6_m5) | (exfalso; omega; done) | (exfalso; contradiction; done)) (show qDt (m5 117) (gMi aa) from by first | (rw [(Mi_y (a := aa) (by rw [(M0_y (a := aa) (p0_m1.elim (fun z => z.2) (fun z => absurd z.1 (by omega)))).1]; exact (p0_m7.elim (fun z => z.2) (fun z => absurd z.1 (by omega))))).1, (M0_y (a := aa) (p0_m1.elim (fun z => z.2) (fun z => absurd z.1 (by omega)))).1]; exact p7_m5; done) | (exact p7_m5) | (exfalso; omega; done) | (exfalso; contradiction; done)) p8_m5

