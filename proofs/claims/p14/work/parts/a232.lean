/-! from 95.r02 -/
/-! the reference where it moves (written by wip/tools/gen15r.py) -/
set_option maxHeartbeats 8000000 in
theorem lp_194rm_9 {X : Nat × (Nat → Int32)} {P : Option ma_V → (Nat → Nat → Int32) → Prop} {T : Nat} {aa : Nat→Nat→Int32} {ro : Int32} {fo : Int32} {le : Int32} {ra : Int32} {pi : Int32} {m0 : Nat → Nat → Int32} (h0 : zV m0) (K : ∀ m₉, zF wr_194 m0 m₉ → zV m₉ → ((m₉ 94 73).toInt = 0) → (zGW T (m₉ 94 55) (m₉ 109)) → (zuw (m0 113) (m₉ 113)) → (qRB (m₉ 99) (m₉ 100) (m₉ 98) (m₉ 101) (m₉ 102) (m₉ 103) (m₉ 107) (m₉ 108) (m₉ 109) (m₉ 111) (m₉ 112) (m₉ 113) (m₉ 114) (m₉ 94 55) (m₉ 94 46) ro fo le ra pi (aGw aa 0)) → (qI (aGw aa 0)) → (qKB (m₉ 110) (m₉ 99) (m₉ 100) (aGw aa 0)) → (qE0 (aGw aa 0)) → (qCl (aGw aa 0)) → P none m₉) : ∀ (n : Nat) (m : Nat → Nat → Int32) (l2 : Int32), ((zmg (m 100) l2 : Int)).toNat = n → zF wr_194 m0 m → zV m → (T ≤ 512) → ((m 94 10).toInt ≠ 4) → ((m 94 73).toInt = 0) → (zWS (m 100) (m 99) (m 110) (m 109) (-1 : Int32) l2) → (zW (m 94 7) (m 98) (m 101) (m 102) (m 108)) → (zGW T (m 94 55) (m 109)) → (zuw (m0 113) (m 113)) → (qGL (m 99) (m 100) (m 98) (m 101) (m 102) (m 103) (m 107) (m 108) (m 109) (m 111) (m 112) (m 113) (m 114) (m 94 55) (m 94 46) ro fo le ra pi (m 110) l2 (aGw aa 0)) → zm X 3 66 194 9 [(0, .inr (.inr (some 94))), (2, .inl l2)] m P := by
  intro n
  induction n using Nat.strongRecOn with
  | _ n IH =>
    intro m l2 hmu hF hV hi0 hi1 hi2 r_WS r_W r_GW r_UW r_GL
    refine g_194_9 l2 ?_
    have f1 : 0 ≤ (m 94 10).toInt ∧ (m 94 10).toInt ≤ 6 := rs_94_10 (m := m) hV
    have f2 : 0 ≤ (m 94 73).toInt ∧ (m 94 73).toInt ≤ 3100 := rs_94_73 (m := m) hV
    obtain ⟨b, lst, gRB, gKB, gE0, gQI, gCL, gl, gMn, gT⟩ := r_GL
    have gb6 := gQI.2.2.2.1.1
    have b3 := i_bd l2
    have li4 : (0 : Int32).toInt = 0 := rfl
    refine zd (fun (h5 : l2 < (0 : Int32)) => ?_) (fun (h5 : ¬ l2 < (0 : Int32)) => ?_)
    · skip
      have g6 := i_lt h5
      try have gw := GW_room r_GW
      try have ws0 := WS_ge r_WS (by omega)
      exact K _ hF hV (show (m 94 73).toInt = 0 from by omega) r_GW r_UW (show qRB (m 99) (m 100) (m 98) (m 101) (m 102) (m 103) (m 107) (m 108) (m 109) (m 111) (m 112) (m 113) (m 114) (m 94 55) (m 94 46) ro fo le ra pi (aGw aa 0) from by first | (have e0 := GL_end gRB gQI gKB gl.1 gl.2 gMn (by omega) gT; rw [← e0]; exact gRB; done) | (exfalso; omega; done) | (exfalso; contradiction; done)) (show qI (aGw aa 0) from by first | (have e0 := GL_end gRB gQI gKB gl.1 gl.2 gMn (by omega) gT; rw [← e0]; exact gQI; done) | (exfalso; omega; done) | (exfalso; contradiction; done)) (show qKB (m 110) (m 99) (m 100) (aGw aa 0) from by first | (have e0 := GL_end gRB gQI gKB gl.1 gl.2 gMn (by omega) gT; rw [← e0]; exact gKB; done) | (exfalso; omega; done) | (exfalso; contradiction; done)) (show qE0 (aGw aa 0) from by first | (have e0 := GL_end gRB gQI gKB gl.1 gl.2 gMn (by omega) gT; rw [← e0]; exact gE0; done) | (exfalso; omega; done) | (exfalso; contradiction; done)) (show qCl (aGw aa 0) from by first | (have e0 := GL_end gRB gQI gKB gl.1 gl.2 gMn (by omega) gT; rw [← e0]; exact gCL; done) | (exfalso; omega; done) | (exfalso; contradiction; done))
    · skip
      have g7 := i_nlt h5
      try obtain ⟨ws1, ws2, ws3, ws4, ws5, ws6⟩ := WS_ge r_WS (by omega)
      have hg8 : (0 ≤ l2 ∧ l2.toNatClampNeg < 3100) := i_ix (by omega) (by omega)
      refine ⟨hg8, ?_⟩
      try have ws0 := WS_ge r_WS (by omega)
      refine sp_197rm (aa := b) (l2) hV (by omega) (by omega) (by omega) (show (m 94 10).toInt ≠ 4 from by omega) (show (m 109) l2.toNatClampNeg ≠ 0 from by first | (exact ws5) | (exact ws0.2.2.2.2.1) | (assumption; done) | (exfalso; omega; done) | (exfalso; contradiction; done)) (show (m 99) l2.toNatClampNeg ≠ 0 from by first | (exact ws3) | (exact ws0.2.2.1) | (assumption; done) | (exact ws3) | (exfalso; omega; done) | (exfalso; contradiction; done)) r_GW gRB gQI (fun m1 hV_m1 p0_m1 p1_m1 p2_m1 p3_m1 p4_m1 p5_m1 => zmv_n ?_)
      have p0_m1 : zGW T (m1 94 55) (m1 109) := p0_m1
      have p1_m1 : zuw (m 113) (m1 113) := p1_m1
      have p2_m1 : zwx (m 114) (m1 114) (m 94 55) l2 := p2_m1
      have p3_m1 : (m1 94 55).toInt = (m 94 55).toInt + 1 := p3_m1
      have p4_m1 : qRB (m 99) (m 100) (m 98) (m 101) (m 102) (m 103) (m 107) (m 108) (m1 109) (m 111) (m 112) (m1 113) (m1 114) (m1 94 55) (m 94 46) ro fo le ra pi (aGr b ((m 100) l2.toNatClampNeg)) := p4_m1
      have p5_m1 : qI (aGr b ((m 100) l2.toNatClampNeg)) := p5_m1
      have f9 : 0 ≤ (m1 94 55).toInt ∧ (m1 94 55).toInt ≤ 3100 := rs_94_55 (m := (zov wr_197 m m1)) hV_m1
      have f10 : 0 ≤ (m 94 55).toInt ∧ (m 94 55).toInt ≤ 3100 := rs_94_55 (m := m) hV
      refine zd (fun (h11 : l2 < (0 : Int32)) => ?_) (fun (h11 : ¬ l2 < (0 : Int32)) => ?_)
      · skip
        have g12 := i_lt h11
        try have ws0 := WS_ge r_WS (by omega)
        refine sp_191rm (aa := (aGr b (m 100 l2.toNatClampNeg))) (QQ := (qQ (aGr b (m 100 l2.toNatClampNeg)) (m 100 l2.toNatClampNeg))) (DD := (zNn (aGr b (m 100 l2.toNatClampNeg))))  hV_m1 (show zKS (m 110) (m 94 73) from by first | (exact KS_0 (by omega)) | (exfalso; omega; done) | (exfalso; contradiction; done)) r_W (show qRB (m 99) (m 100) (m 98) (m 101) (m 102) (m 103) (m 107) (m 108) (m1 109) (m 111) (m 112) (m1 113) (m1 114) (m1 94 55) (m 94 46) ro fo le ra pi (aGr b (m 100 l2.toNatClampNeg)) from by first | (exact p4_m1) | (exfalso; omega; done) | (exfalso; contradiction; done)) (show qQC (m 99) (m 100) (m 98) (m 101) (m 102) (m 108) (qQ (aGr b (m 100 l2.toNatClampNeg)) (m 100 l2.toNatClampNeg)) (zNn (aGr b (m 100 l2.toNatClampNeg))) from by first | (exact QC_M p4_m1) | (exfalso; omega; done) | (exfalso; contradiction; done)) (show qKA (m 110) (m 99) (m 100) (m 98) (m 101) (m 102) (m 108) (m 118) (m 94 73) (qQ (aGr b (m 100 l2.toNatClampNeg)) (m 100 l2.toNatClampNeg)) (zNn (aGr b (m 100 l2.toNatClampNeg))) 3100 0 from by first | (exact absurd ws0.2.2.2.1 (by assumption)) | (exact KA_push (KA_b (KB_gr gKB) (by omega)) (by omega) (by omega) ws0.2.2.1 (zM_in (Or.inr rfl)) (by assumption) (by omega) (by omega) (by decide)) | (exfalso; omega; done) | (exfalso; contradiction; done)) (fun m3 hV_m3 p0_m3 p1_m3 p2_m3 => zmv_n ?_)
        have p0_m3 : (m3 94 73).toInt = 0 := p0_m3
        have p1_m3 : zle (m 110) (m3 110) := p1_m3
        have p2_m3 : qKA (m3 110) (m 99) (m 100) (m 98) (m 101) (m 102) (m 108) (m3 118) (m3 94 73) (qQ (aGr b (m 100 l2.toNatClampNeg)) (m 100 l2.toNatClampNeg)) (zNn (aGr b (m 100 l2.toNatClampNeg))) 3100 0 := p2_m3
        have f13 : 0 ≤ (m3 94 73).toInt ∧ (m3 94 73).toInt ≤ 3100 := rs_94_73 (m := (zov wr_191 (zov wr_197 m m1) m3)) hV_m3
        first | have f14 : 0 ≤ (m 100 l2.toNatClampNeg).toInt ∧ (m 100 l2.toNatClampNeg).toInt ≤ 100000 := ra_100 (m := m) hV (k := l2.toNatClampNeg) (i_ix (n := 3100) (by omega) (by omega)).2 | have b15 := i_bd (m 100 l2.toNatClampNeg)
        try have ws0 := WS_ge r_WS (by omega)
        refine sp_195r ((m 100 l2.toNatClampNeg)) ((0 : Int32)) hV_m3 (by omega) (fun v6 m5 hV_m5 p0_m5 p1_m5 => zmi_n ?_)
        have p0_m5 : zWS (m 100) (m 99) (m3 110) (m1 109) (m 100 l2.toNatClampNeg) v6 := p0_m5
        have p1_m5 : qMin (qCw (m 99) (m3 110) (m1 109) (m 100) (m 100 l2.toNatClampNeg)) (m 100) v6 3100 := p1_m5
        try have gw := GW_room p0_m1
        try have ws0 := WS_ge r_WS (by omega)
        have b16 := i_bd v6
        exact IH ((zmg (m 100) v6 : Int)).toNat (by have zq := zmg_lt (s := l2) (by omega) p0_m5 rfl (by omega) (by omega); omega) _ (v6) rfl (zF_zov (zF_zov (zF_zov hF ws_197_194) ws_191_194) ws_195_194) hV_m5 (by omega) (show (m 94 10).toInt ≠ 4 from by omega) (show (m3 94 73).toInt = 0 from by omega) (show zWS (m 100) (m 99) (m3 110) (m1 109) (-1 : Int32) v6 from by first | (exact WS_weak p0_m5 (by omega)) | (exact p0_m5) | (exact Or.inl (by decide)) | (exact Or.inr ⟨by omega, by omega, by assumption, by assumption, by assumption, by omega⟩) | (exfalso; omega; done) | (exfalso; contradiction; done)) r_W p0_m1 (show zuw (m0 113) (m1 113) from by first | (exact zuw_tr r_UW p1_m1) | (exact zuw_rfl) | (exfalso; omega; done) | (exfalso; contradiction; done)) (show qGL (m 99) (m 100) (m 98) (m 101) (m 102) (m 103) (m 107) (m 108) (m1 109) (m 111) (m 112) (m1 113) (m1 114) (m1 94 55) (m 94 46) ro fo le ra pi (m3 110) v6 (aGw aa 0) from by first | (exact absurd ws0.2.2.2.1 (by assumption)) | (have nx := GL_nx gRB gQI gE0 gKB gl.1 gl.2 gMn (by omega) gT; have b5 : (b 69 5).toInt < 512 := (by rw [gRB.2.2.2.2.1.1]; exact GW_512 r_GW ws0.2.2.2.2.1 (by omega) (by omega) (by omega)); exact ⟨(aSp 512 (aCm (aGr b (m 100 l2.toNatClampNeg)) (m 100 l2.toNatClampNeg))), (m 100 l2.toNatClampNeg), RB_of p4_m1 (Of_tr (gr_cm (y := (m 100 l2.toNatClampNeg)) (E0_gr (y := (m 100 l2.toNatClampNeg)) gE0).1).2.1 (E0_sp (gr_cm (y := (m 100 l2.toNatClampNeg)) (E0_gr (y := (m 100 l2.toNatClampNeg)) gE0).1).1).2), KB_nx p4_m1 (KB_gr gKB) (E0_gr gE0) (by omega) (by omega) ws0.2.2.1 p2_m3 (by omega) p1_m3 (by decide), (E0_sp (gr_cm (y := (m 100 l2.toNatClampNeg)) (E0_gr (y := (m 100 l2.toNatClampNeg)) gE0).1).1).1, qI_of p5_m1 (Of_tr (gr_cm (y := (m 100 l2.toNatClampNeg)) (E0_gr (y := (m 100 l2.toNatClampNeg)) gE0).1).2.1 (E0_sp (gr_cm (y := (m 100 l2.toNatClampNeg)) (E0_gr (y := (m 100 l2.toNatClampNeg)) gE0).1).1).2), Cl_nx gCL gE0 b5 gQI.2.2.2.1.2.1.1 (R1_al gRB.1 (by omega) ws0.2.2.1) (by omega), ⟨nx.2.2, by rw [sp_6]; exact nx.2.1⟩, p1_m5, nx.1⟩; done) | (exfalso; omega; done) | (exfalso; contradiction; done))
      · skip
        have g17 := i_nlt h11
        have hg18 : (0 ≤ l2 ∧ l2.toNatClampNeg < 3100) := i_ix (by omega) (by omega)
        refine ⟨hg18, ?_⟩
        first | have f19 : 0 ≤ (m 110 l2.toNatClampNeg).toInt ∧ (m 110 l2.toNatClampNeg).toInt ≤ 1 := ra_110 (m := m) hV (k := l2.toNatClampNeg) (i_ix (n := 3100) (by omega) (by omega)).2 | have b20 := i_bd (m 110 l2.toNatClampNeg)
        refine zd (fun (h21 : (m 110 l2.toNatClampNeg) = (0 : Int32)) => ?_) (fun (h21 : ¬ (m 110 l2.toNatClampNeg) = (0 : Int32)) => ?_)
        · skip
          have g22 := i_eq h21
          have hg23 : (0 ≤ l2 ∧ l2.toNatClampNeg < 3100) := i_ix (by omega) (by omega)
          refine ⟨hg23, ?_⟩
          have hg24 : (0 ≤ (m 94 73) ∧ (m 94 73).toNatClampNeg < 3100) := i_ix (by omega) (by omega)
          refine ⟨hg24, ?_⟩
          have li26 : (1 : Int32).toInt = 1 := rfl
          have hV25 : zV (ma_u (zov wr_197 m m1) 110 l2.toNatClampNeg (1 : Int32)) := ua_110 hV_m1 (by omega) (by omega)
          have hV27 : zV (ma_u (ma_u (zov wr_197 m m1) 110 l2.toNatClampNeg (1 : Int32)) 118 (m 94 73).toNatClampNeg l2) := ua_118 hV25 (by omega) (by omega)
          first | have e29 : ((m 94 73) + (1 : Int32)).toInt = (m 94 73).toInt + (1) := i_addk rfl (by omega) (by omega) | have b30 := i_bd ((m 94 73) + (1 : Int32))
          have hV28 : zV (ma_u (ma_u (ma_u (zov wr_197 m m1) 110 l2.toNatClampNeg (1 : Int32)) 118 (m 94 73).toNatClampNeg l2) 94 73 ((m 94 73) + (1 : Int32))) := us_94_73 hV27 (by omega) (by omega)
          try have ws0 := WS_ge r_WS (by omega)
          refine sp_191rm (aa := (aGr b (m 100 l2.toNatClampNeg))) (QQ := (qQ (aGr b (m 100 l2.toNatClampNeg)) (m 100 l2.toNatClampNeg))) (DD := (zNn (aGr b (m 100 l2.toNatClampNeg))))  hV28 (show zKS ((ma_u m 110 l2.toNatClampNeg (1 : Int32)) 110) ((m 94 73) + (1 : Int32)) from by first | (exact KS_push (KS_0 (r := m 110) (y := m 94 73) (by omega)) (by assumption) (by omega) (by decide) (by assumption)) | (exfalso; omega; done) | (exfalso; contradiction; done)) r_W (show qRB (m 99) (m 100) (m 98) (m 101) (m 102) (m 103) (m 107) (m 108) (m1 109) (m 111) (m 112) (m1 113) (m1 114) (m1 94 55) (m 94 46) ro fo le ra pi (aGr b (m 100 l2.toNatClampNeg)) from by first | (exact p4_m1) | (exfalso; omega; done) | (exfalso; contradiction; done)) (show qQC (m 99) (m 100) (m 98) (m 101) (m 102) (m 108) (qQ (aGr b (m 100 l2.toNatClampNeg)) (m 100 l2.toNatClampNeg)) (zNn (aGr b (m 100 l2.toNatClampNeg))) from by first | (exact QC_M p4_m1) | (exfalso; omega; done) | (exfalso; contradiction; done)) (show qKA ((ma_u m 110 l2.toNatClampNeg (1 : Int32)) 110) (m 99) (m 100) (m 98) (m 101) (m 102) (m 108) ((ma_u m 118 (m 94 73).toNatClampNeg l2) 118) ((m 94 73) + (1 : Int32)) (qQ (aGr b (m 100 l2.toNatClampNeg)) (m 100 l2.toNatClampNeg)) (zNn (aGr b (m 100 l2.toNatClampNeg))) 3100 0 from by first | (exact absurd ws0.2.2.2.1 (by assumption)) | (exact KA_push (KA_b (KB_gr gKB) (by omega)) (by omega) (by omega) ws0.2.2.1 (zM_in (Or.inr rfl)) (by assumption) (by omega) (by omega) (by decide)) | (exfalso; omega; done) | (exfalso; contradiction; done)) (fun m7 hV_m7 p0_m7 p1_m7 p2_m7 => zmv_n ?_)
          have p0_m7 : (m7 94 73).toInt = 0 := p0_m7
          have p1_m7 : zle ((ma_u m 110 l2.toNatClampNeg (1 : Int32)) 110) (m7 110) := p1_m7
          have p2_m7 : qKA (m7 110) (m 99) (m 100) (m 98) (m 101) (m 102) (m 108) (m7 118) (m7 94 73) (qQ (aGr b (m 100 l2.toNatClampNeg)) (m 100 l2.toNatClampNeg)) (zNn (aGr b (m 100 l2.toNatClampNeg))) 3100 0 := p2_m7
          have f31 : 0 ≤ (m7 94 73).toInt ∧ (m7 94 73).toInt ≤ 3100 := rs_94_73 (m := (zov wr_191 (ma_u (ma_u (ma_u (zov wr_197 m m1) 110 l2.toNatClampNeg (1 : Int32)) 118 (m 94 73).toNatClampNeg l2) 94 73 ((m 94 73) + (1 : Int32))) m7)) hV_m7
          first | have f32 : 0 ≤ (m 100 l2.toNatClampNeg).toInt ∧ (m 100 l2.toNatClampNeg).toInt ≤ 100000 := ra_100 (m := m) hV (k := l2.toNatClampNeg) (i_ix (n := 3100) (by omega) (by omega)).2 | have b33 := i_bd (m 100 l2.toNatClampNeg)
          try have ws0 := WS_ge r_WS (by omega)
          refine sp_195r ((m 100 l2.toNatClampNeg)) ((0 : Int32)) hV_m7 (by omega) (fun v10 m9 hV_m9 p0_m9 p1_m9 => zmi_n ?_)
          have p0_m9 : zWS (m 100) (m 99) (m7 110) (m1 109) (m 100 l2.toNatClampNeg) v10 := p0_m9
          have p1_m9 : qMin (qCw (m 99) (m7 110) (m1 109) (m 100) (m 100 l2.toNatClampNeg)) (m 100) v10 3100 := p1_m9
          try have gw := GW_room p0_m1
          try have ws0 := WS_ge r_WS (by omega)
          have b34 := i_bd v10
          exact IH ((zmg (m 100) v10 : Int)).toNat (by have zq := zmg_lt (s := l2) (by omega) p0_m9 rfl (by omega) (by omega); omega) _ (v10) rfl (zF_zov (zF_zov (zF_u (zF_u (zF_u (zF_zov hF ws_197_194) rfl) rfl) rfl) ws_191_194) ws_195_194) hV_m9 (by omega) (show (m 94 10).toInt ≠ 4 from by omega) (show (m7 94 73).toInt = 0 from by omega) (show zWS (m 100) (m 99) (m7 110) (m1 109) (-1 : Int32) v10 from by first | (exact WS_weak p0_m9 (by omega)) | (exact p0_m9) | (exact Or.inl (by decide)) | (exact Or.inr ⟨by omega, by omega, by assumption, by assumption, by assumption, by omega⟩) | (exfalso; omega; done) | (exfalso; contradiction; done)) r_W p0_m1 (show zuw (m0 113) (m1 113) from by first | (exact zuw_tr r_UW p1_m1) | (exact zuw_rfl) | (exfalso; omega; done) | (exfalso; contradiction; done)) (show qGL (m 99) (m 100) (m 98) (m 101) (m 102) (m 103) (m 107) (m 108) (m1 109) (m 111) (m 112) (m1 113) (m1 114) (m1 94 55) (m 94 46) ro fo le ra pi (m7 110) v10 (aGw aa 0) from by first | (exact absurd ws0.2.2.2.1 (by assumption)) | (have nx := GL_nx gRB gQI gE0 gKB gl.1 gl.2 gMn (by omega) gT; have b5 : (b 69 5).toInt < 512 := (by rw [gRB.2.2.2.2.1.1]; exact GW_512 r_GW ws0.2.2.2.2.1 (by omega) (by omega) (by omega)); exact ⟨(aSp 512 (aCm (aGr b (m 100 l2.toNatClampNeg)) (m 100 l2.toNatClampNeg))), (m 100 l2.toNatClampNeg), RB_of p4_m1 (Of_tr (gr_cm (y := (m 100 l2.toNatClampNeg)) (E0_gr (y := (m 100 l2.toNatClampNeg)) gE0).1).2.1 (E0_sp (gr_cm (y := (m 100 l2.toNatClampNeg)) (E0_gr (y := (m 100 l2.toNatClampNeg)) gE0).1).1).2), KB_nx p4_m1 (KB_gr gKB) (E0_gr gE0) (by omega) (by omega) ws0.2.2.1 p2_m7 (by omega) p1_m7 (by decide), (E0_sp (gr_cm (y := (m 100 l2.toNatClampNeg)) (E0_gr (y := (m 100 l2.toNatClampNeg)) gE0).1).1).1, qI_of p5_m1 (Of_tr (gr_cm (y := (m 100 l2.toNatClampNeg)) (E0_gr (y := (m 100 l2.toNatClampNeg)) gE0).1).2.1 (E0_sp (gr_cm (y := (m 100 l2.toNatClampNeg)) (E0_gr (y := (m 100 l2.toNatClampNeg)) gE0).1).1).2), Cl_nx gCL gE0 b5 gQI.2.2.2.1.2.1.1 (R1_al gRB.1 (by omega) ws0.2.2.1) (by omega), ⟨nx.2.2, by rw [sp_6]; exact nx.2.1⟩, p1_m9, nx.1⟩; done) | (exfalso; omega; done) | (exfalso; contradiction; done))
        · skip
          have g35 := i_ne h21
          try have ws0 := WS_ge r_WS (by omega)
          refine sp_191rm (aa := (aGr b (m 100 l2.toNatClampNeg))) (QQ := (qQ (aGr b (m 100 l2.toNatClampNeg)) (m 100 l2.toNatClampNeg))) (DD := (zNn (aGr b (m 100 l2.toNatClampNeg))))  hV_m1 (show zKS (m 110) (m 94 73) from by first | (exact KS_0 (by omega)) | (exfalso; omega; done) | (exfalso; contradiction; done)) r_W (show qRB (m 99) (m 100) (m 98) (m 101) (m 102) (m 103) (m 107) (m 108) (m1 109) (m 111) (m 112) (m1 113) (m1 114) (m1 94 55) (m 94 46) ro fo le ra pi (aGr b (m 100 l2.toNatClampNeg)) from by first | (exact p4_m1) | (exfalso; omega; done) | (exfalso; contradiction; done)) (show qQC (m 99) (m 100) (m 98) (m 101) (m 102) (m 108) (qQ (aGr b (m 100 l2.toNatClampNeg)) (m 100 l2.toNatClampNeg)) (zNn (aGr b (m 100 l2.toNatClampNeg))) from by first | (exact QC_M p4_m1) | (exfalso; omega; done) | (exfalso; contradiction; done)) (show qKA (m 110) (m 99) (m 100) (m 98) (m 101) (m 102) (m 108) (m 118) (m 94 73) (qQ (aGr b (m 100 l2.toNatClampNeg)) (m 100 l2.toNatClampNeg)) (zNn (aGr b (m 100 l2.toNatClampNeg))) 3100 0 from by first | (exact absurd ws0.2.2.2.1 (by assumption)) | (exact KA_push (KA_b (KB_gr gKB) (by omega)) (by omega) (by omega) ws0.2.2.1 (zM_in (Or.inr rfl)) (by assumption) (by omega) (by omega) (by decide)) | (exfalso; omega; done) | (exfalso; contradiction; done)) (fun m11 hV_m11 p0_m11 p1_m11 p2_m11 => zmv_n ?_)
          have p0_m11 : (m11 94 73).toInt = 0 := p0_m11
          have p1_m11 : zle (m 110) (m11 110) := p1_m11
          have p2_m11 : qKA (m11 110) (m 99) (m 100) (m 98) (m 101) (m 102) (m 108) (m11 118) (m11 94 73) (qQ (aGr b (m 100 l2.toNatClampNeg)) (m 100 l2.toNatClampNeg)) (zNn (aGr b (m 100 l2.toNatClampNeg))) 3100 0 := p2_m11
          have f36 : 0 ≤ (m11 94 73).toInt ∧ (m11 94 73).toInt ≤ 3100 := rs_94_73 (m := (zov wr_191 (zov wr_197 m m1) m11)) hV_m11
          first | have f37 : 0 ≤ (m 100 l2.toNatClampNeg).toInt ∧ (m 100 l2.toNatClampNeg).toInt ≤ 100000 := ra_100 (m := m) hV (k := l2.toNatClampNeg) (i_ix (n := 3100) (by omega) (by omega)).2 | have b38 := i_bd (m 100 l2.toNatClampNeg)
          try have ws0 := WS_ge r_WS (by omega)
          refine sp_195r ((m 100 l2.toNatClampNeg)) ((0 : Int32)) hV_m11 (by omega) (fun v14 m13 hV_m13 p0_m13 p1_m13 => zmi_n ?_)
          have p0_m13 : zWS (m 100) (m 99) (m11 110) (m1 109) (m 100 l2.toNatClampNeg) v14 := p0_m13
          have p1_m13 : qMin (qCw (m 99) (m11 110) (m1 109) (m 100) (m 100 l2.toNatClampNeg)) (m 100) v14 3100 := p1_m13
          try have gw := GW_room p0_m1
          try have ws0 := WS_ge r_WS (by omega)
          have b39 := i_bd v14
          exact IH ((zmg (m 100) v14 : Int)).toNat (by have zq := zmg_lt (s := l2) (by omega) p0_m13 rfl (by omega) (by omega); omega) _ (v14) rfl (zF_zov (zF_zov (zF_zov hF ws_197_194) ws_191_194) ws_195_194) hV_m13 (by omega) (show (m 94 10).toInt ≠ 4 from by omega) (show (m11 94 73).toInt = 0 from by omega) (show zWS (m 100) (m 99) (m11 110) (m1 109) (-1 : Int32) v14 from by first | (exact WS_weak p0_m13 (by omega)) | (exact p0_m13) | (exact Or.inl (by decide)) | (exact Or.inr ⟨by omega, by omega, by assumption, by assumption, by assumption, by omega⟩) | (exfalso; omega; done) | (exfalso; contradiction; done)) r_W p0_m1 (show zuw (m0 113) (m1 113) from by first | (exact zuw_tr r_UW p1_m1) | (exact zuw_rfl) | (exfalso; omega; done) | (exfalso; contradiction; done)) (show qGL (m 99) (m 100) (m 98) (m 101) (m 102) (m 103) (m 107) (m 108) (m1 109) (m 111) (m 112) (m1 113) (m1 114) (m1 94 55) (m 94 46) ro fo le ra pi (m11 110) v14 (aGw aa 0) from by first | (exact absurd ws0.2.2.2.1 (by assumption)) | (have nx := GL_nx gRB gQI gE0 gKB gl.1 gl.2 gMn (by omega) gT; have b5 : (b 69 5).toInt < 512 := (by rw [gRB.2.2.2.2.1.1]; exact GW_512 r_GW ws0.2.2.2.2.1 (by omega) (by omega) (by omega)); exact ⟨(aSp 512 (aCm (aGr b (m 100 l2.toNatClampNeg)) (m 100 l2.toNatClampNeg))), (m 100 l2.toNatClampNeg), RB_of p4_m1 (Of_tr (gr_cm (y := (m 100 l2.toNatClampNeg)) (E0_gr (y := (m 100 l2.toNatClampNeg)) gE0).1).2.1 (E0_sp (gr_cm (y := (m 100 l2.toNatClampNeg)) (E0_gr (y := (m 100 l2.toNatClampNeg)) gE0).1).1).2), KB_nx p4_m1 (KB_gr gKB) (E0_gr gE0) (by omega) (by omega) ws0.2.2.1 p2_m11 (by omega) p1_m11 (by decide), (E0_sp (gr_cm (y := (m 100 l2.toNatClampNeg)) (E0_gr (y := (m 100 l2.toNatClampNeg)) gE0).1).1).1, qI_of p5_m1 (Of_tr (gr_cm (y := (m 100 l2.toNatClampNeg)) (E0_gr (y := (m 100 l2.toNatClampNeg)) gE0).1).2.1 (E0_sp (gr_cm (y := (m 100 l2.toNatClampNeg)) (E0_gr (y := (m 100 l2.toNatClampNeg)) gE0).1).1).2), Cl_nx gCL gE0 b5 gQI.2.2.2.1.2.1.1 (R1_al gRB.1 (by omega) ws0.2.2.1) (by omega), ⟨nx.2.2, by rw [sp_6]; exact nx.2.1⟩, p1_m13, nx.1⟩; done) | (exfalso; omega; done) | (exfalso; contradiction; done))
set_option maxHeartbeats 8000000 in
theorem sp_194rm {X : Nat × (Nat → Int32)} {P : Option ma_V → (Nat → Nat → Int32) → Prop} {T : Nat} {aa : Nat→Nat→Int32} {ro : Int32} {fo : Int32} {le : Int32} {ra : Int32} {pi : Int32} {m : Nat → Nat → Int32}  (hV : zV m) (hpre0 : T ≤ 512) (hpre1 : (m 94 10).toInt ≠ 4) (hpre2 : (m 94 73).toInt = 0) (r_W : zW (m 94 7) (m 98) (m 101) (m 102) (m 108)) (r_GW : zGW T (m 94 55) (m 109)) (r_RB : qRB (m 99) (m 100) (m 98) (m 101) (m 102) (m 103) (m 107) (m 108) (m 109) (m 111) (m 112) (m 113) (m 114) (m 94 55) (m 94 46) ro fo le ra pi aa) (r_QI : qI aa) (r_KB : qKB (m 110) (m 99) (m 100) aa) (r_E0 : qE0 aa) (r_CLr : qCl aa) (KZ : ∀ m₉, zV (zov wr_194 m m₉) → ((m₉ 94 73).toInt = 0) → (zGW T (m₉ 94 55) (m₉ 109)) → (zuw (m 113) (m₉ 113)) → (qRB (m 99) (m 100) (m 98) (m 101) (m 102) (m 103) (m 107) (m 108) (m₉ 109) (m 111) (m 112) (m₉ 113) (m₉ 114) (m₉ 94 55) (m 94 46) ro fo le ra pi (aGw aa 0)) → (qI (aGw aa 0)) → (qKB (m₉ 110) (m 99) (m 100) (aGw aa 0)) → (qE0 (aGw aa 0)) → (qCl (aGw aa 0)) → P none (zov wr_194 m m₉)) : zm X 3 66 194 0 [(0, .inr (.inr (some 94)))] m P := by
  have K : ∀ m₉, zF wr_194 m m₉ → zV m₉ → ((m₉ 94 73).toInt = 0) → (zGW T (m₉ 94 55) (m₉ 109)) → (zuw (m 113) (m₉ 113)) → (qRB (m₉ 99) (m₉ 100) (m₉ 98) (m₉ 101) (m₉ 102) (m₉ 103) (m₉ 107) (m₉ 108) (m₉ 109) (m₉ 111) (m₉ 112) (m₉ 113) (m₉ 114) (m₉ 94 55) (m₉ 94 46) ro fo le ra pi (aGw aa 0)) → (qI (aGw aa 0)) → (qKB (m₉ 110) (m₉ 99) (m₉ 100) (aGw aa 0)) → (qE0 (aGw aa 0)) → (qCl (aGw aa 0)) → P none m₉ := by
    intro m₉ hf z q0 q1 q2 q3 q4 q5 q6 q7
    have e := zov_eq hf
    rw [e] at z ⊢
    try rw [e] at q0
    try rw [e] at q1
    try rw [e] at q2
    try rw [e] at q3
    try rw [e] at q4
    try rw [e] at q5
    try rw [e] at q6
    try rw [e] at q7
    exact KZ m₉ z q0 q1 q2 q3 q4 q5 q6 q7
  refine g_194_0  ?_
  have f1 : 0 ≤ (m 94 10).toInt ∧ (m 94 10).toInt ≤ 6 := rs_94_10 (m := m) hV
  have f2 : 0 ≤ (m 94 73).toInt ∧ (m 94 73).toInt ≤ 3100 := rs_94_73 (m := m) hV
  have li3 : (-1 : Int32).toInt = -1 := rfl
  have li4 : (0 : Int32).toInt = 0 := rfl
  try have ws0 := WS_ge r_WS (by omega)
  refine sp_195r ((-1 : Int32)) ((0 : Int32)) hV (by omega) (fun v2 m1 hV_m1 p0_m1 p1_m1 => zmi_n ?_)
  have p0_m1 : zWS (m 100) (m 99) (m 110) (m 109) (-1 : Int32) v2 := p0_m1
  have p1_m1 : qMin (qCw (m 99) (m 110) (m 109) (m 100) (-1 : Int32)) (m 100) v2 3100 := p1_m1
  try have gw := GW_room r_GW
  try have ws0 := WS_ge r_WS (by omega)
  have b5 := i_bd v2
  exact lp_194rm_9 hV K _ _ (v2) rfl (zF_zov zF_rfl ws_195_194) hV_m1 (by omega) (show (m 94 10).toInt ≠ 4 from by omega) (show (m 94 73).toInt = 0 from by omega) p0_m1 r_W r_GW (show zuw (m 113) (m 113) from by first | (exact zuw_rfl) | (exact zuw_rfl) | (exfalso; omega; done) | (exfalso; contradiction; done)) (show qGL (m 99) (m 100) (m 98) (m 101) (m 102) (m 103) (m 107) (m 108) (m 109) (m 111) (m 112) (m 113) (m 114) (m 94 55) (m 94 46) ro fo le ra pi (m 110) v2 (aGw aa 0) from by first | (exact ⟨aa, -1, r_RB, r_KB, r_E0, r_QI, r_CLr, ⟨by decide, by have := r_QI.2.2.2.1.1.1; have e1 : (-1 : Int32).toInt = -1 := rfl; omega⟩, p1_m1, rfl⟩) | (exfalso; omega; done) | (exfalso; contradiction; done))
theorem sp_187rm {X : Nat × (Nat → Int32)} {P : Option ma_V → (Nat → Nat → Int32) → Prop} {T : Nat} {aa : Nat→Nat→Int32} {ro : Int32} {fo : Int32} {le : Int32} {ra : Int32} {pi : Int32} {m : Nat → Nat → Int32}  (hV : zV m) (hpre0 : T ≤ 512) (r_W : zW (m 94 7) (m 98) (m 101) (m 102) (m 108)) (r_GW : zGW T (m 94 55) (m 109)) (r_GU : zGU T (m 94 46) (m 99)) (r_OW : zOw (m 99) (m 103) (m 111)) (hpre5 : (m 94 10).toInt ≠ 4) (r_RB : qRB (m 99) (m 100) (m 98) (m 101) (m 102) (m 103) (m 107) (m 108) (m 109) (m 111) (m 112) (m 113) (m 114) (m 94 55) (m 94 46) ro fo le ra pi aa) (r_QI : qI aa) (r_WTS : (m 94 45).toInt = sm (zbU (m 99)) (m 102) 3100) (KZ : ∀ v m₉, zV (zov wr_187 m m₉) → (zGW T (m₉ 94 55) (m₉ 109)) → (zGU T (m 94 46) (m₉ 99)) → (zOw (m₉ 99) (m 103) (m₉ 111)) → (qRB (m₉ 99) (m 100) (m 98) (m 101) (m 102) (m 103) (m 107) (m 108) (m₉ 109) (m₉ 111) (m 112) (m₉ 113) (m₉ 114) (m₉ 94 55) (m 94 46) ro fo le ra pi (aSw aa)) → (qI (aSw aa)) → ((m₉ 94 45).toInt = sm (zbU (m₉ 99)) (m 102) 3100) → P (some (.inl v)) (zov wr_187 m m₉)) : zm X 4 88 187 0 [(0, .inr (.inr (some 94)))] m P := by
  have K : ∀ v m₉, zF wr_187 m m₉ → zV m₉ → (zGW T (m₉ 94 55) (m₉ 109)) → (zGU T (m₉ 94 46) (m₉ 99)) → (zOw (m₉ 99) (m₉ 103) (m₉ 111)) → (qRB (m₉ 99) (m₉ 100) (m₉ 98) (m₉ 101) (m₉ 102) (m₉ 103) (m₉ 107) (m₉ 108) (m₉ 109) (m₉ 111) (m₉ 112) (m₉ 113) (m₉ 114) (m₉ 94 55) (m₉ 94 46) ro fo le ra pi (aSw aa)) → (qI (aSw aa)) → ((m₉ 94 45).toInt = sm (zbU (m₉ 99)) (m₉ 102) 3100) → P (some (.inl v)) m₉ := by
    intro v m₉ hf z q0 q1 q2 q3 q4 q5
    have e := zov_eq hf
    rw [e] at z ⊢
    try rw [e] at q0
    try rw [e] at q1
    try rw [e] at q2
    try rw [e] at q3
    try rw [e] at q4
    try rw [e] at q5
    exact KZ v m₉ z q0 q1 q2 q3 q4 q5
  refine g_187_0  ?_
  have f1 : 0 ≤ (m 94 10).toInt ∧ (m 94 10).toInt ≤ 6 := rs_94_10 (m := m) hV
  have hV2 : zV (ma_u m 94 47 ((m 94 47) + (1 : Int32))) := uf_94_47 hV
  refine sp_188rm (aa := aa)  hV2 r_W r_RB r_QI (fun m1 hV_m1 p0_m1 p1_m1 p2_m1 => zmv_n ?_)
  have p0_m1 : (m1 94 73).toInt = 0 := p0_m1
  have p1_m1 : ∀ s, s < 3100 → (m 99) s ≠ 0 → ((m1 110) s ≠ 0 ↔ zRch aa ((m 100) s).toNatClampNeg) := p1_m1
  have p2_m1 : ∀ s, s < 3100 → (m1 110) s ≠ 0 → (m 99) s ≠ 0 := p2_m1
  have f3 : 0 ≤ (m1 94 73).toInt ∧ (m1 94 73).toInt ≤ 3100 := rs_94_73 (m := (zov wr_188 (ma_u m 94 47 ((m 94 47) + (1 : Int32))) m1)) hV_m1
  refine sp_194rm (aa := (aRA aa))  hV_m1 (by omega) (show (m 94 10).toInt ≠ 4 from by omega) (show (m1 94 73).toInt = 0 from by omega) r_W r_GW (show qRB (m 99) (m 100) (m 98) (m 101) (m 102) (m 103) (m 107) (m 108) (m 109) (m 111) (m 112) (m 113) (m 114) (m 94 55) (m 94 46) ro fo le ra pi (aRA aa) from by first | (exact RB_of r_RB RA_zo) | (exfalso; omega; done) | (exfalso; contradiction; done)) (show qI (aRA aa) from by first | (exact qI_of r_QI RA_zo) | (exfalso; omega; done) | (exfalso; contradiction; done)) (show qKB (m1 110) (m 99) (m 100) (aRA aa) from by first | (exact KB_ra r_QI p2_m1 p1_m1) | (exfalso; omega; done) | (exfalso; contradiction; done)) (show qE0 (aRA aa) from by first | (exact E0_ra r_QI) | (exfalso; omega; done) | (exfalso; contradiction; done)) (show qCl (aRA aa) from by first | (exact Cl_ra r_QI) | (exfalso; omega; done) | (exfalso; contradiction; done)) (fun m3 hV_m3 p0_m3 p1_m3 p2_m3 p3_m3 p4_m3 p5_m3 p6_m3 p7_m3 => zmv_n ?_)
  have p0_m3 : (m3 94 73).toInt = 0 := p0_m3
  have p1_m3 : zGW T (m3 94 55) (m3 109) := p1_m3
  have p2_m3 : zuw (m 113) (m3 113) := p2_m3
  have p3_m3 : qRB (m 99) (m 100) (m 98) (m 101) (m 102) (m 103) (m 107) (m 108) (m3 109) (m 111) (m 112) (m3 113) (m3 114) (m3 94 55) (m 94 46) ro fo le ra pi (aGw (aRA aa) 0) := p3_m3
  have p4_m3 : qI (aGw (aRA aa) 0) := p4_m3
  have p5_m3 : qKB (m3 110) (m 99) (m 100) (aGw (aRA aa) 0) := p5_m3
  have p6_m3 : qE0 (aGw (aRA aa) 0) := p6_m3
  have p7_m3 : qCl (aGw (aRA aa) 0) := p7_m3
  have f4 : 0 ≤ (m3 94 73).toInt ∧ (m3 94 73).toInt ≤ 3100 := rs_94_73 (m := (zov wr_194 (zov wr_188 (ma_u m 94 47 ((m 94 47) + (1 : Int32))) m1) m3)) hV_m3
  refine sp_199r  hV_m3  (fun m5 hV_m5 p0_m5 p1_m5 => zmv_n ?_)
  have p0_m5 : zuw (m3 113) (m5 113) := p0_m5
  have p1_m5 : qUr (m3 113) (m5 113) (m3 110) 16 := p1_m5
  refine sp_200rn  hV_m5 (show (m 94 10).toInt ≠ 4 from by omega) r_W r_GU r_OW r_WTS (fun v8 m7 hV_m7 p0_m7 p1_m7 p2_m7 p3_m7 p4_m7 => zmi_n ?_)
  have p0_m7 : zrm (m 99) (m7 99) (m3 110) 3100 := p0_m7
  have p1_m7 : zowr (m 111) (m7 111) (m 99) (m3 110) (m 103) := p1_m7
  have p2_m7 : zGU T (m 94 46) (m7 99) := p2_m7
  have p3_m7 : zOw (m7 99) (m 103) (m7 111) := p3_m7
  have p4_m7 : (m7 94 45).toInt = sm (zbU (m7 99)) (m 102) 3100 := p4_m7
  have b5 := i_bd v8
  exact K (v8) _ (zF_zov (zF_zov (zF_zov (zF_zov (zF_u zF_rfl rfl) ws_188_187) ws_194_187) ws_199_187) ws_200_187) hV_m7 p1_m3 p2_m7 p3_m7 (show qRB (m7 99) (m 100) (m 98) (m 101) (m 102) (m 103) (m 107) (m 108) (m3 109) (m7 111) (m 112) (m5 113) (m3 114) (m3 94 55) (m 94 46) ro fo le ra pi (aSw aa) from by first | (exact RB_mv p3_m3 p4_m3 p5_m3 (CK_of p7_m3 p3_m3 p5_m3) p6_m3.1.2.2.2.2.2.1 p1_m5 p0_m7 p1_m7) | (exfalso; omega; done) | (exfalso; contradiction; done)) (show qI (aSw aa) from by first | (exact I_mv p4_m3 p6_m3.1.2.2.2.2.2.1) | (exfalso; omega; done) | (exfalso; contradiction; done)) p4_m7
theorem sp_240rm {X : Nat × (Nat → Int32)} {P : Option ma_V → (Nat → Nat → Int32) → Prop} {aa : Nat→Nat→Int32} {ro : Int32} {fo : Int32} {le : Int32} {ra : Int32} {pi : Int32} {m : Nat → Nat → Int32} (wa : Int32) (is : Int32) (hV : zV m) (hpre0 : ((m 94 10).toInt = 1 ∨ (m 94 10).toInt = 2 ∨ (m 94 10).toInt = 3 ∨ (m 94 10).toInt = 6) ∧ (m 94 58).toInt = 0) (hpre1 : -1 ≤ wa.toInt) (hpre2 : wa.toInt ≤ 3099) (hpre3 : -1 ≤ is.toInt) (hpre4 : is.toInt ≤ 3099) (r_GG : zGG (m 94 58) (m 94 56) (m 94 57) (m 106)) (r_RB : qRB (m 99) (m 100) (m 98) (m 101) (m 102) (m 103) (m 107) (m 108) (m 109) (m 111) (m 112) (m 113) (m 114) (m 94 55) (m 94 46) ro fo le ra pi aa) (r_QI : qI aa) (r_MK : aa 87 8 = (m 94 58)) (r_UA : qU (m 99) wa) (r_UB : qU (m 99) is) (r_MQG : qGQ (m 94 58) (m 106) (m 115) (m 94 57) (m 94 56) (m 99) (m 100) aa) (KZ : ∀ m₉, zV (zov wr_240 m m₉) → (zGG (m 94 58) (m₉ 94 56) (m 94 57) (m₉ 106)) → (qRB (m 99) (m 100) (m 98) (m 101) (m 102) (m 103) (m 107) (m 108) (m 109) (m 111) (m 112) (m 113) (m 114) (m 94 55) (m 94 46) ro fo le ra pi (aNc aa (qNo (m 100) wa) (qNo (m 100) is))) → (qI (aNc aa (qNo (m 100) wa) (qNo (m 100) is))) → ((aNc aa (qNo (m 100) wa) (qNo (m 100) is)) 87 8 = (m 94 58)) → (qGQ (m 94 58) (m₉ 106) (m₉ 115) (m 94 57) (m₉ 94 56) (m 99) (m 100) (aNc aa (qNo (m 100) wa) (qNo (m 100) is))) → P none (zov wr_240 m m₉)) : zm X 1 21 240 0 [(0, .inr (.inr (some 94))), (1, .inl wa), (2, .inl is)] m P := by
  have K : ∀ m₉, zF wr_240 m m₉ → zV m₉ → (zGG (m₉ 94 58) (m₉ 94 56) (m₉ 94 57) (m₉ 106)) → (qRB (m₉ 99) (m₉ 100) (m₉ 98) (m₉ 101) (m₉ 102) (m₉ 103) (m₉ 107) (m₉ 108) (m₉ 109) (m₉ 111) (m₉ 112) (m₉ 113) (m₉ 114) (m₉ 94 55) (m₉ 94 46) ro fo le ra pi (aNc aa (qNo (m₉ 100) wa) (qNo (m₉ 100) is))) → (qI (aNc aa (qNo (m₉ 100) wa) (qNo (m₉ 100) is))) → ((aNc aa (qNo (m₉ 100) wa) (qNo (m₉ 100) is)) 87 8 = (m₉ 94 58)) → (qGQ (m₉ 94 58) (m₉ 106) (m₉ 115) (m₉ 94 57) (m₉ 94 56) (m₉ 99) (m₉ 100) (aNc aa (qNo (m₉ 100) wa) (qNo (m₉ 100) is))) → P none m₉ := by
    intro m₉ hf z q0 q1 q2 q3 q4
    have e := zov_eq hf
    rw [e] at z ⊢
    try rw [e] at q0
    try rw [e] at q1
    try rw [e] at q2
    try rw [e] at q3
    try rw [e] at q4
    exact KZ m₉ z q0 q1 q2 q3 q4
  refine g_240_0 wa is ?_
  have f1 : 0 ≤ (m 94 10).toInt ∧ (m 94 10).toInt ≤ 6 := rs_94_10 (m := m) hV
  have f2 : 0 ≤ (m 94 58).toInt ∧ (m 94 58).toInt ≤ 1 := rs_94_58 (m := m) hV
  have li3 : (5 : Int32).toInt = 5 := rfl
  refine zd (fun (h4 : (m 94 10) = (5 : Int32)) => ?_) (fun (h4 : ¬ (m 94 10) = (5 : Int32)) => ?_)
  · skip
    have g5 := i_eq h4
    exfalso; omega
  · skip
    have g6 := i_ne h4
    exact K _ zF_rfl hV r_GG (show qRB (m 99) (m 100) (m 98) (m 101) (m 102) (m 103) (m 107) (m 108) (m 109) (m 111) (m 112) (m 113) (m 114) (m 94 55) (m 94 46) ro fo le ra pi (aNc aa (qNo (m 100) wa) (qNo (m 100) is)) from by first | (exact RB_of r_RB NC_of) | (exfalso; omega; done) | (exfalso; contradiction; done)) (show qI (aNc aa (qNo (m 100) wa) (qNo (m 100) is)) from by first | (exact qI_of r_QI NC_of) | (exfalso; omega; done) | (exfalso; contradiction; done)) (show (aNc aa (qNo (m 100) wa) (qNo (m 100) is)) 87 8 = (m 94 58) from by first | (exact (NC_of 87 8 (by decide) (by decide) (by decide)).symm.trans r_MK) | (exfalso; omega; done) | (exfalso; contradiction; done)) (show qGQ (m 94 58) (m 106) (m 115) (m 94 57) (m 94 56) (m 99) (m 100) (aNc aa (qNo (m 100) wa) (qNo (m 100) is)) from by first | (exact fun z => absurd (by omega) z) | (rw [show wa = is from by assumption, NC_s]; exact r_MQG; done) | (exact fun z => NC_skip r_RB (r_MQG z) (fun w => absurd (r_MK.symm.trans w) (by assumption)) r_UA r_UB (by omega) (by omega) (by assumption) (if_pos (by assumption)).symm (Or.inl (by omega))) | (exact fun z => NC_skip r_RB (r_MQG z) (fun w => absurd (r_MK.symm.trans w) (by assumption)) r_UA r_UB (by omega) (by omega) (by assumption) (if_pos (by assumption)).symm (Or.inr (by assumption))) | (exact fun z => NC_skip r_RB (r_MQG z) (fun w => absurd (r_MK.symm.trans w) (by assumption)) r_UA r_UB (by omega) (by omega) (by assumption) (if_neg (by assumption)).symm (Or.inl (by omega))) | (exact fun z => NC_skip r_RB (r_MQG z) (fun w => absurd (r_MK.symm.trans w) (by assumption)) r_UA r_UB (by omega) (by omega) (by assumption) (if_neg (by assumption)).symm (Or.inr (by assumption))) | (exfalso; omega; done) | (exfalso; contradiction; done))
theorem sp_241rm {X : Nat × (Nat → Int32)} {P : Option ma_V → (Nat → Nat → Int32) → Prop} {m : Nat → Nat → Int32} (s : Int32) (hV : zV m) (hpre0 : ((m 94 10).toInt = 1 ∨ (m 94 10).toInt = 2 ∨ (m 94 10).toInt = 3 ∨ (m 94 10).toInt = 6) ∧ (m 94 58).toInt = 0) (KZ : ∀ m₉, zV (zov wr_241 m m₉) → ((m₉ 99) = (m 99) ∧ (m₉ 105) = (m 105) ∧ (m₉ 109) = (m 109) ∧ (m₉ 111) = (m 111) ∧ (m₉ 113) = (m 113) ∧ (m₉ 114) = (m 114) ∧ (m₉ 94 55) = (m 94 55) ∧ (m₉ 94 45) = (m 94 45)) → P none (zov wr_241 m m₉)) : zm X 3 64 241 0 [(0, .inr (.inr (some 94))), (1, .inl s)] m P := by
  have K : ∀ m₉, zF wr_241 m m₉ → zV m₉ → ((m₉ 99) = (m 99) ∧ (m₉ 105) = (m 105) ∧ (m₉ 109) = (m 109) ∧ (m₉ 111) = (m 111) ∧ (m₉ 113) = (m 113) ∧ (m₉ 114) = (m 114) ∧ (m₉ 94 55) = (m 94 55) ∧ (m₉ 94 45) = (m 94 45)) → P none m₉ := by
    intro m₉ hf z q0
    have e := zov_eq hf
    rw [e] at z ⊢
    try rw [e] at q0
    exact KZ m₉ z q0
  refine g_241_0 s ?_
  have f1 : 0 ≤ (m 94 10).toInt ∧ (m 94 10).toInt ≤ 6 := rs_94_10 (m := m) hV
  have f2 : 0 ≤ (m 94 58).toInt ∧ (m 94 58).toInt ≤ 1 := rs_94_58 (m := m) hV
  have b3 := i_bd s
  have li4 : (0 : Int32).toInt = 0 := rfl
  refine zd (fun (h5 : s < (0 : Int32)) => ?_) (fun (h5 : ¬ s < (0 : Int32)) => ?_)
  · skip
    have g6 := i_lt h5
    exact K _ zF_rfl hV (show (m 99) = (m 99) ∧ (m 105) = (m 105) ∧ (m 109) = (m 109) ∧ (m 111) = (m 111) ∧ (m 113) = (m 113) ∧ (m 114) = (m 114) ∧ (m 94 55) = (m 94 55) ∧ (m 94 45) = (m 94 45) from by first | (exact ⟨rfl, rfl, rfl, rfl, rfl, rfl, rfl, rfl⟩) | (exfalso; omega; done) | (exfalso; contradiction; done))
  · skip
    have g7 := i_nlt h5
    have li8 : (4 : Int32).toInt = 4 := rfl
    refine zd (fun (h9 : (m 94 10) = (4 : Int32)) => ?_) (fun (h9 : ¬ (m 94 10) = (4 : Int32)) => ?_)
    · skip
      have g10 := i_eq h9
      exfalso; omega
    · skip
      have g11 := i_ne h9
      exact K _ zF_rfl hV (show (m 99) = (m 99) ∧ (m 105) = (m 105) ∧ (m 109) = (m 109) ∧ (m 111) = (m 111) ∧ (m 113) = (m 113) ∧ (m 114) = (m 114) ∧ (m 94 55) = (m 94 55) ∧ (m 94 45) = (m 94 45) from by first | (exact ⟨rfl, rfl, rfl, rfl, rfl, rfl, rfl, rfl⟩) | (exfalso; omega; done) | (exfalso; contradiction; done))

/-! from 95.r03 -/
/-! the reference where it moves (written by wip/tools/gen15r.py) -/
theorem sp_238rm {X : Nat × (Nat → Int32)} {P : Option ma_V → (Nat → Nat → Int32) → Prop} {T : Nat} {aa : Nat→Nat→Int32} {ro : Int32} {fo : Int32} {le : Int32} {ra : Int32} {pi : Int32} {m : Nat → Nat → Int32} (r1 : Int32) (s : Int32) (hV : zV m) (hpre0 : 0 ≤ r1.toInt) (hpre1 : r1.toInt ≤ 15) (hpre2 : -1 ≤ s.toInt) (hpre3 : s.toInt ≤ 3099) (hpre4 : ((m 94 10).toInt = 1 ∨ (m 94 10).toInt = 2 ∨ (m 94 10).toInt = 3 ∨ (m 94 10).toInt = 6) ∧ (m 94 58).toInt = 0) (r_W : zW (m 94 7) (m 98) (m 101) (m 102) (m 108)) (r_GW : zGW T (m 94 55) (m 109)) (r_GU : zGU T (m 94 46) (m 99)) (r_OW : zOw (m 99) (m 103) (m 111)) (r_GG : zGG (m 94 58) (m 94 56) (m 94 57) (m 106)) (r_RB : qRB (m 99) (m 100) (m 98) (m 101) (m 102) (m 103) (m 107) (m 108) (m 109) (m 111) (m 112) (m 113) (m 114) (m 94 55) (m 94 46) ro fo le ra pi aa) (r_QI : qI aa) (r_MG : qMG (m 94 58) (m 106) (m 115) (m 94 57) (m 94 56) (m 99) (m 100) aa) (r_MK : aa 87 8 = (m 94 58)) (r_WTS : (m 94 45).toInt = sm (zbU (m 99)) (m 102) 3100) (r_US : qU (m 99) s) (r_MS : qMS (m 94 58) aa (qNo (m 100) s)) (KZ : ∀ m₉, zV (zov wr_238 m m₉) → (zGW T (m₉ 94 55) (m₉ 109)) → (zGU T (m 94 46) (m₉ 99)) → (zOw (m₉ 99) (m 103) (m₉ 111)) → (zGG (m 94 58) (m₉ 94 56) (m 94 57) (m₉ 106)) → (qRB (m₉ 99) (m 100) (m 98) (m 101) (m 102) (m 103) (m 107) (m 108) (m₉ 109) (m₉ 111) (m₉ 112) (m₉ 113) (m₉ 114) (m₉ 94 55) (m 94 46) ro fo le ra pi (aRt aa r1 (qNo (m 100) s))) → (qI (aRt aa r1 (qNo (m 100) s))) → (qMG (m 94 58) (m₉ 106) (m₉ 115) (m 94 57) (m₉ 94 56) (m₉ 99) (m 100) (aRt aa r1 (qNo (m 100) s))) → ((aRt aa r1 (qNo (m 100) s)) 87 8 = (m 94 58)) → ((m₉ 94 45).toInt = sm (zbU (m₉ 99)) (m 102) 3100) → P none (zov wr_238 m m₉)) : zm X 4 88 238 0 [(0, .inr (.inr (some 94))), (1, .inl r1), (2, .inl s)] m P := by
  have K : ∀ m₉, zF wr_238 m m₉ → zV m₉ → (zGW T (m₉ 94 55) (m₉ 109)) → (zGU T (m₉ 94 46) (m₉ 99)) → (zOw (m₉ 99) (m₉ 103) (m₉ 111)) → (zGG (m₉ 94 58) (m₉ 94 56) (m₉ 94 57) (m₉ 106)) → (qRB (m₉ 99) (m₉ 100) (m₉ 98) (m₉ 101) (m₉ 102) (m₉ 103) (m₉ 107) (m₉ 108) (m₉ 109) (m₉ 111) (m₉ 112) (m₉ 113) (m₉ 114) (m₉ 94 55) (m₉ 94 46) ro fo le ra pi (aRt aa r1 (qNo (m₉ 100) s))) → (qI (aRt aa r1 (qNo (m₉ 100) s))) → (qMG (m₉ 94 58) (m₉ 106) (m₉ 115) (m₉ 94 57) (m₉ 94 56) (m₉ 99) (m₉ 100) (aRt aa r1 (qNo (m₉ 100) s))) → ((aRt aa r1 (qNo (m₉ 100) s)) 87 8 = (m₉ 94 58)) → ((m₉ 94 45).toInt = sm (zbU (m₉ 99)) (m₉ 102) 3100) → P none m₉ := by
    intro m₉ hf z q0 q1 q2 q3 q4 q5 q6 q7 q8
    have e := zov_eq hf
    rw [e] at z ⊢
    try rw [e] at q0
    try rw [e] at q1
    try rw [e] at q2
    try rw [e] at q3
    try rw [e] at q4
    try rw [e] at q5
    try rw [e] at q6
    try rw [e] at q7
    try rw [e] at q8
    exact KZ m₉ z q0 q1 q2 q3 q4 q5 q6 q7 q8
  refine g_238_0 r1 s ?_
  have f1 : 0 ≤ (m 94 10).toInt ∧ (m 94 10).toInt ≤ 6 := rs_94_10 (m := m) hV
  have f2 : 0 ≤ (m 94 58).toInt ∧ (m 94 58).toInt ≤ 1 := rs_94_58 (m := m) hV
  have b3 := i_bd r1
  have hg4 : (0 ≤ r1 ∧ r1.toNatClampNeg < 16) := i_ix (by omega) (by omega)
  refine ⟨hg4, ?_⟩
  have b5 := i_bd s
  have li6 : (0 : Int32).toInt = 0 := rfl
  refine zd (fun (h7 : s < (0 : Int32)) => ?_) (fun (h7 : ¬ s < (0 : Int32)) => ?_)
  · skip
    have g8 := i_lt h7
    have hg9 : (0 ≤ r1 ∧ r1.toNatClampNeg < 16) := i_ix (by omega) (by omega)
    refine ⟨hg9, ?_⟩
    first | have f10 : -1 ≤ (m 112 r1.toNatClampNeg).toInt ∧ (m 112 r1.toNatClampNeg).toInt ≤ 3099 := ra_112 (m := m) hV (k := r1.toNatClampNeg) (i_ix (n := 16) (by omega) (by omega)).2 | have b11 := i_bd (m 112 r1.toNatClampNeg)
    have hV12 : zV (ma_u m 112 r1.toNatClampNeg s) := ua_112 hV (by omega) (by omega)
    refine sp_240rm (aa := (ma_u aa 72 r1.toNatClampNeg (qNo (m 100) s))) ((m 112 r1.toNatClampNeg)) (s) hV12 (show ((m 94 10).toInt = 1 ∨ (m 94 10).toInt = 2 ∨ (m 94 10).toInt = 3 ∨ (m 94 10).toInt = 6) ∧ (m 94 58).toInt = 0 from by omega) (by omega) (by omega) (by omega) (by omega) r_GG (show qRB (m 99) (m 100) (m 98) (m 101) (m 102) (m 103) (m 107) (m 108) (m 109) (m 111) ((ma_u m 112 r1.toNatClampNeg s) 112) (m 113) (m 114) (m 94 55) (m 94 46) ro fo le ra pi (ma_u aa 72 r1.toNatClampNeg (qNo (m 100) s)) from by first | (exact RB_rt r_RB r_US) | (exfalso; omega; done) | (exfalso; contradiction; done)) (show qI (ma_u aa 72 r1.toNatClampNeg (qNo (m 100) s)) from by first | (exact I_u r_QI (Or.inl rfl)) | (exfalso; omega; done) | (exfalso; contradiction; done)) (show (ma_u aa 72 r1.toNatClampNeg (qNo (m 100) s)) 87 8 = (m 94 58) from by first | (exact (xu_o (by decide)).trans r_MK) | (rw [un (by decide)]; exact r_MK; done) | (exfalso; omega; done) | (exfalso; contradiction; done)) (show qU (m 99) (m 112 r1.toNatClampNeg) from by first | (exact (r_RB.2.2.1 r1.toNatClampNeg (by omega)).1) | (exfalso; omega; done) | (exfalso; contradiction; done)) (show qU (m 99) s from by first | (exact r_US) | (exfalso; omega; done) | (exfalso; contradiction; done)) (show qGQ (m 94 58) (m 106) (m 115) (m 94 57) (m 94 56) (m 99) (m 100) (ma_u aa 72 r1.toNatClampNeg (qNo (m 100) s)) from by first | (exact fun z => MQ_u (r_MG z).1 (by decide)) | (exfalso; omega; done) | (exfalso; contradiction; done)) (fun m1 hV_m1 p0_m1 p1_m1 p2_m1 p3_m1 p4_m1 => zmv_n ?_)
    have p0_m1 : zGG (m 94 58) (m1 94 56) (m 94 57) (m1 106) := p0_m1
    have p1_m1 : qRB (m 99) (m 100) (m 98) (m 101) (m 102) (m 103) (m 107) (m 108) (m 109) (m 111) ((ma_u m 112 r1.toNatClampNeg s) 112) (m 113) (m 114) (m 94 55) (m 94 46) ro fo le ra pi (aNc (ma_u aa 72 r1.toNatClampNeg (qNo (m 100) s)) (qNo (m 100) (m 112 r1.toNatClampNeg)) (qNo (m 100) s)) := p1_m1
    have p2_m1 : qI (aNc (ma_u aa 72 r1.toNatClampNeg (qNo (m 100) s)) (qNo (m 100) (m 112 r1.toNatClampNeg)) (qNo (m 100) s)) := p2_m1
    have p3_m1 : (aNc (ma_u aa 72 r1.toNatClampNeg (qNo (m 100) s)) (qNo (m 100) (m 112 r1.toNatClampNeg)) (qNo (m 100) s)) 87 8 = (m 94 58) := p3_m1
    have p4_m1 : qGQ (m 94 58) (m1 106) (m1 115) (m 94 57) (m1 94 56) (m 99) (m 100) (aNc (ma_u aa 72 r1.toNatClampNeg (qNo (m 100) s)) (qNo (m 100) (m 112 r1.toNatClampNeg)) (qNo (m 100) s)) := p4_m1
    refine sp_241rm ((m 112 r1.toNatClampNeg)) hV_m1 (show ((m 94 10).toInt = 1 ∨ (m 94 10).toInt = 2 ∨ (m 94 10).toInt = 3 ∨ (m 94 10).toInt = 6) ∧ (m 94 58).toInt = 0 from by omega) (fun m3 hV_m3 p0_m3 => zmv_n ?_)
    have p0_m3 : (m3 99) = (m 99) ∧ (m3 105) = (m 105) ∧ (m3 109) = (m 109) ∧ (m3 111) = (m 111) ∧ (m3 113) = (m 113) ∧ (m3 114) = (m 114) ∧ (m3 94 55) = (m 94 55) ∧ (m3 94 45) = (m 94 45) := p0_m3
    try have rgb := rs_94_64 hV
    try have lel := LE_lo p0_m3
    try have lex3 := LE_ex p0_m3 (lexi (by omega))
    try have lexi := LE_some p0_m3
    exact K _ (zF_zov (zF_zov (zF_u zF_rfl rfl) ws_240_238) ws_241_238) hV_m3 (show zGW T (m3 94 55) (m3 109) from by first | (rw [p0_m3.2.2.1, p0_m3.2.2.2.2.2.2.1]; exact r_GW; done) | (exfalso; omega; done) | (exfalso; contradiction; done)) (show zGU T (m 94 46) (m3 99) from by first | (rw [p0_m3.1]; exact r_GU; done) | (exact GU_0 r_GU) | (exfalso; omega; done) | (exfalso; contradiction; done)) (show zOw (m3 99) (m 103) (m3 111) from by first | (rw [p0_m3.1, p0_m3.2.2.2.1]; exact r_OW; done) | (exact Ow_rm r_OW (by decide) (tn_cast (by omega)).symm) | (exfalso; omega; done) | (exfalso; contradiction; done)) p0_m1 (show qRB (m3 99) (m 100) (m 98) (m 101) (m 102) (m 103) (m 107) (m 108) (m3 109) (m3 111) ((ma_u m 112 r1.toNatClampNeg s) 112) (m3 113) (m3 114) (m3 94 55) (m 94 46) ro fo le ra pi (aRt aa r1 (qNo (m 100) s)) from by first | (rw [(show aRt aa r1 (qNo (m 100) s) = aNc (ma_u aa 72 r1.toNatClampNeg (qNo (m 100) s)) (qNo (m 100) (m 112 r1.toNatClampNeg)) (qNo (m 100) s) from by unfold aRt; rw [Nm_no r_RB.1 r_US, (r_RB.2.2.1 r1.toNatClampNeg (by omega)).2]), p0_m3.1, p0_m3.2.2.1, p0_m3.2.2.2.1, p0_m3.2.2.2.2.1, p0_m3.2.2.2.2.2.1, p0_m3.2.2.2.2.2.2.1]; exact p1_m1; done) | (exfalso; omega; done) | (exfalso; contradiction; done)) (show qI (aRt aa r1 (qNo (m 100) s)) from by first | (rw [(show aRt aa r1 (qNo (m 100) s) = aNc (ma_u aa 72 r1.toNatClampNeg (qNo (m 100) s)) (qNo (m 100) (m 112 r1.toNatClampNeg)) (qNo (m 100) s) from by unfold aRt; rw [Nm_no r_RB.1 r_US, (r_RB.2.2.1 r1.toNatClampNeg (by omega)).2])]; exact p2_m1; done) | (exfalso; omega; done) | (exfalso; contradiction; done)) (show qMG (m 94 58) (m1 106) (m1 115) (m 94 57) (m1 94 56) (m3 99) (m 100) (aRt aa r1 (qNo (m 100) s)) from by first | (rw [(show aRt aa r1 (qNo (m 100) s) = aNc (ma_u aa 72 r1.toNatClampNeg (qNo (m 100) s)) (qNo (m 100) (m 112 r1.toNatClampNeg)) (qNo (m 100) s) from by unfold aRt; rw [Nm_no r_RB.1 r_US, (r_RB.2.2.1 r1.toNatClampNeg (by omega)).2]), p0_m3.1]; exact fun z => ⟨p4_m1 z, MI_rt (r_MG z).2 (r_MG z).1.2.2.2.2 (r_MS z)⟩; done) | (exfalso; omega; done) | (exfalso; contradiction; done)) (show (aRt aa r1 (qNo (m 100) s)) 87 8 = (m 94 58) from by first | (rw [(show aRt aa r1 (qNo (m 100) s) = aNc (ma_u aa 72 r1.toNatClampNeg (qNo (m 100) s)) (qNo (m 100) (m 112 r1.toNatClampNeg)) (qNo (m 100) s) from by unfold aRt; rw [Nm_no r_RB.1 r_US, (r_RB.2.2.1 r1.toNatClampNeg (by omega)).2])]; exact p3_m1; done) | (exfalso; omega; done) | (exfalso; contradiction; done)) (show (m3 94 45).toInt = sm (zbU (m3 99)) (m 102) 3100 from by first | (rw [p0_m3.1, p0_m3.2.2.2.2.2.2.2]; exact r_WTS; done) | (exfalso; omega; done) | (exfalso; contradiction; done))
  · skip
    have g13 := i_nlt h7
    have li14 : (4 : Int32).toInt = 4 := rfl
    refine zd (fun (h15 : (m 94 10) = (4 : Int32)) => ?_) (fun (h15 : ¬ (m 94 10) = (4 : Int32)) => ?_)
    · skip
      have g16 := i_eq h15
      exfalso; omega
    · skip
      have g17 := i_ne h15
      have hg18 : (0 ≤ r1 ∧ r1.toNatClampNeg < 16) := i_ix (by omega) (by omega)
      refine ⟨hg18, ?_⟩
      first | have f19 : -1 ≤ (m 112 r1.toNatClampNeg).toInt ∧ (m 112 r1.toNatClampNeg).toInt ≤ 3099 := ra_112 (m := m) hV (k := r1.toNatClampNeg) (i_ix (n := 16) (by omega) (by omega)).2 | have b20 := i_bd (m 112 r1.toNatClampNeg)
      have hV21 : zV (ma_u m 112 r1.toNatClampNeg s) := ua_112 hV (by omega) (by omega)
      refine sp_240rm (aa := (ma_u aa 72 r1.toNatClampNeg (qNo (m 100) s))) ((m 112 r1.toNatClampNeg)) (s) hV21 (show ((m 94 10).toInt = 1 ∨ (m 94 10).toInt = 2 ∨ (m 94 10).toInt = 3 ∨ (m 94 10).toInt = 6) ∧ (m 94 58).toInt = 0 from by omega) (by omega) (by omega) (by omega) (by omega) r_GG (show qRB (m 99) (m 100) (m 98) (m 101) (m 102) (m 103) (m 107) (m 108) (m 109) (m 111) ((ma_u m 112 r1.toNatClampNeg s) 112) (m 113) (m 114) (m 94 55) (m 94 46) ro fo le ra pi (ma_u aa 72 r1.toNatClampNeg (qNo (m 100) s)) from by first | (exact RB_rt r_RB r_US) | (exfalso; omega; done) | (exfalso; contradiction; done)) (show qI (ma_u aa 72 r1.toNatClampNeg (qNo (m 100) s)) from by first | (exact I_u r_QI (Or.inl rfl)) | (exfalso; omega; done) | (exfalso; contradiction; done)) (show (ma_u aa 72 r1.toNatClampNeg (qNo (m 100) s)) 87 8 = (m 94 58) from by first | (exact (xu_o (by decide)).trans r_MK) | (rw [un (by decide)]; exact r_MK; done) | (exfalso; omega; done) | (exfalso; contradiction; done)) (show qU (m 99) (m 112 r1.toNatClampNeg) from by first | (exact (r_RB.2.2.1 r1.toNatClampNeg (by omega)).1) | (exfalso; omega; done) | (exfalso; contradiction; done)) (show qU (m 99) s from by first | (exact r_US) | (exfalso; omega; done) | (exfalso; contradiction; done)) (show qGQ (m 94 58) (m 106) (m 115) (m 94 57) (m 94 56) (m 99) (m 100) (ma_u aa 72 r1.toNatClampNeg (qNo (m 100) s)) from by first | (exact fun z => MQ_u (r_MG z).1 (by decide)) | (exfalso; omega; done) | (exfalso; contradiction; done)) (fun m5 hV_m5 p0_m5 p1_m5 p2_m5 p3_m5 p4_m5 => zmv_n ?_)
      have p0_m5 : zGG (m 94 58) (m5 94 56) (m 94 57) (m5 106) := p0_m5
      have p1_m5 : qRB (m 99) (m 100) (m 98) (m 101) (m 102) (m 103) (m 107) (m 108) (m 109) (m 111) ((ma_u m 112 r1.toNatClampNeg s) 112) (m 113) (m 114) (m 94 55) (m 94 46) ro fo le ra pi (aNc (ma_u aa 72 r1.toNatClampNeg (qNo (m 100) s)) (qNo (m 100) (m 112 r1.toNatClampNeg)) (qNo (m 100) s)) := p1_m5
      have p2_m5 : qI (aNc (ma_u aa 72 r1.toNatClampNeg (qNo (m 100) s)) (qNo (m 100) (m 112 r1.toNatClampNeg)) (qNo (m 100) s)) := p2_m5
      have p3_m5 : (aNc (ma_u aa 72 r1.toNatClampNeg (qNo (m 100) s)) (qNo (m 100) (m 112 r1.toNatClampNeg)) (qNo (m 100) s)) 87 8 = (m 94 58) := p3_m5
      have p4_m5 : qGQ (m 94 58) (m5 106) (m5 115) (m 94 57) (m5 94 56) (m 99) (m 100) (aNc (ma_u aa 72 r1.toNatClampNeg (qNo (m 100) s)) (qNo (m 100) (m 112 r1.toNatClampNeg)) (qNo (m 100) s)) := p4_m5
      refine sp_241rm ((m 112 r1.toNatClampNeg)) hV_m5 (show ((m 94 10).toInt = 1 ∨ (m 94 10).toInt = 2 ∨ (m 94 10).toInt = 3 ∨ (m 94 10).toInt = 6) ∧ (m 94 58).toInt = 0 from by omega) (fun m7 hV_m7 p0_m7 => zmv_n ?_)
      have p0_m7 : (m7 99) = (m 99) ∧ (m7 105) = (m 105) ∧ (m7 109) = (m 109) ∧ (m7 111) = (m 111) ∧ (m7 113) = (m 113) ∧ (m7 114) = (m 114) ∧ (m7 94 55) = (m 94 55) ∧ (m7 94 45) = (m 94 45) := p0_m7
      try have rgb := rs_94_64 hV
      try have lel := LE_lo p0_m7
      try have lex3 := LE_ex p0_m7 (lexi (by omega))
      try have lexi := LE_some p0_m7
      exact K _ (zF_zov (zF_zov (zF_u zF_rfl rfl) ws_240_238) ws_241_238) hV_m7 (show zGW T (m7 94 55) (m7 109) from by first | (rw [p0_m7.2.2.1, p0_m7.2.2.2.2.2.2.1]; exact r_GW; done) | (exfalso; omega; done) | (exfalso; contradiction; done)) (show zGU T (m 94 46) (m7 99) from by first | (rw [p0_m7.1]; exact r_GU; done) | (exact GU_0 r_GU) | (exfalso; omega; done) | (exfalso; contradiction; done)) (show zOw (m7 99) (m 103) (m7 111) from by first | (rw [p0_m7.1, p0_m7.2.2.2.1]; exact r_OW; done) | (exact Ow_rm r_OW (by decide) (tn_cast (by omega)).symm) | (exfalso; omega; done) | (exfalso; contradiction; done)) p0_m5 (show qRB (m7 99) (m 100) (m 98) (m 101) (m 102) (m 103) (m 107) (m 108) (m7 109) (m7 111) ((ma_u m 112 r1.toNatClampNeg s) 112) (m7 113) (m7 114) (m7 94 55) (m 94 46) ro fo le ra pi (aRt aa r1 (qNo (m 100) s)) from by first | (rw [(show aRt aa r1 (qNo (m 100) s) = aNc (ma_u aa 72 r1.toNatClampNeg (qNo (m 100) s)) (qNo (m 100) (m 112 r1.toNatClampNeg)) (qNo (m 100) s) from by unfold aRt; rw [Nm_no r_RB.1 r_US, (r_RB.2.2.1 r1.toNatClampNeg (by omega)).2]), p0_m7.1, p0_m7.2.2.1, p0_m7.2.2.2.1, p0_m7.2.2.2.2.1, p0_m7.2.2.2.2.2.1, p0_m7.2.2.2.2.2.2.1]; exact p1_m5; done) | (exfalso; omega; done) | (exfalso; contradiction; done)) (show qI (aRt aa r1 (qNo (m 100) s)) from by first | (rw [(show aRt aa r1 (qNo (m 100) s) = aNc (ma_u aa 72 r1.toNatClampNeg (qNo (m 100) s)) (qNo (m 100) (m 112 r1.toNatClampNeg)) (qNo (m 100) s) from by unfold aRt; rw [Nm_no r_RB.1 r_US, (r_RB.2.2.1 r1.toNatClampNeg (by omega)).2])]; exact p2_m5; done) | (exfalso; omega; done) | (exfalso; contradiction; done)) (show qMG (m 94 58) (m5 106) (m5 115) (m 94 57) (m5 94 56) (m7 99) (m 100) (aRt aa r1 (qNo (m 100) s)) from by first | (rw [(show aRt aa r1 (qNo (m 100) s) = aNc (ma_u aa 72 r1.toNatClampNeg (qNo (m 100) s)) (qNo (m 100) (m 112 r1.toNatClampNeg)) (qNo (m 100) s) from by unfold aRt; rw [Nm_no r_RB.1 r_US, (r_RB.2.2.1 r1.toNatClampNeg (by omega)).2]), p0_m7.1]; exact fun z => ⟨p4_m5 z, MI_rt (r_MG z).2 (r_MG z).1.2.2.2.2 (r_MS z)⟩; done) | (exfalso; omega; done) | (exfalso; contradiction; done)) (show (aRt aa r1 (qNo (m 100) s)) 87 8 = (m 94 58) from by first | (rw [(show aRt aa r1 (qNo (m 100) s) = aNc (ma_u aa 72 r1.toNatClampNeg (qNo (m 100) s)) (qNo (m 100) (m 112 r1.toNatClampNeg)) (qNo (m 100) s) from by unfold aRt; rw [Nm_no r_RB.1 r_US, (r_RB.2.2.1 r1.toNatClampNeg (by omega)).2])]; exact p3_m5; done) | (exfalso; omega; done) | (exfalso; contradiction; done)) (show (m7 94 45).toInt = sm (zbU (m7 99)) (m 102) 3100 from by first | (rw [p0_m7.1, p0_m7.2.2.2.2.2.2.2]; exact r_WTS; done) | (exfalso; omega; done) | (exfalso; contradiction; done))

