/-! from 95.zu14 -/
/-! the reference: who is used, words (written by wip/tools/gen15u.py) -/
theorem lp_247uw_207 {X : Nat × (Nat → Int32)} {P : Option ma_V → (Nat → Nat → Int32) → Prop} {T : Nat} {ob : Int32} {ix : Int32} {oo : Int32} {m0 : Nat → Nat → Int32} (h0 : zV m0) (K : ∀ v m₉, zF wr_247 m0 m₉ → zV m₉ → (zW (m₉ 94 7) (m₉ 98) (m₉ 101) (m₉ 102) (m₉ 108)) → (zGW T (m₉ 94 55) (m₉ 109)) → (zGU T (m₉ 94 46) (m₉ 99)) → (zOw (m₉ 99) (m₉ 103) (m₉ 111)) → (zDX (m₉ 94 10) (m₉ 99) (m₉ 112) (m₉ 113) (m₉ 114) (m₉ 94 55) (m₉ 98) (m₉ 101) (m₉ 102) (m₉ 108)) → (zGG (m₉ 94 58) (m₉ 94 56) (m₉ 94 57) (m₉ 106)) → (zHA (m₉ 94 10) (m₉ 94 11) (m₉ 94 13) (m₉ 94 14) (m₉ 94 16) (m₉ 94 61) (m₉ 94 59) (m₉ 94 60) (m₉ 99) (m₉ 102) (m₉ 103) (m₉ 111) (m₉ 117) (m₉ 98) (m₉ 101) (m₉ 108)) → (zRG (m₉ 94 10) (m₉ 94 18) (m₉ 94 64) (m₉ 94 63) (m₉ 99) (m₉ 103) (m₉ 102) (m₉ 116)) → ((m₉ 94 58).toInt = 0 ∨ (m₉ 94 10).toInt = 5) → (zUs (m0 99) (m₉ 99)) → (zUl (m0 108) (m₉ 108) (m0 98) (m0 101)) → P (some (.inl v)) m₉) : ∀ (n : Nat) (m : Nat → Nat → Int32) (l6 : Int32) (l7 : Int32) (l8 : Int32), ((0 : Int)).toNat = n → zF wr_247 m0 m → zV m → (-1 ≤ l6.toInt) → (l6.toInt ≤ 3099) → (-1 ≤ l7.toInt) → (l7.toInt ≤ 3099) → (zW (m 94 7) (m 98) (m 101) (m 102) (m 108)) → (zGW T (m 94 55) (m 109)) → (zGU T (m 94 46) (m 99)) → (zOw (m 99) (m 103) (m 111)) → (zDX (m 94 10) (m 99) (m 112) (m 113) (m 114) (m 94 55) (m 98) (m 101) (m 102) (m 108)) → (zGG (m 94 58) (m 94 56) (m 94 57) (m 106)) → (zHA (m 94 10) (m 94 11) (m 94 13) (m 94 14) (m 94 16) (m 94 61) (m 94 59) (m 94 60) (m 99) (m 102) (m 103) (m 111) (m 117) (m 98) (m 101) (m 108)) → (zRG (m 94 10) (m 94 18) (m 94 64) (m 94 63) (m 99) (m 103) (m 102) (m 116)) → ((m 94 58).toInt = 0 ∨ (m 94 10).toInt = 5) → (zUs (m0 99) (m 99)) → (zUl (m0 108) (m 108) (m0 98) (m0 101)) → ((m 98) = (m0 98) ∧ (m 101) = (m0 101)) → zm X 5 109 247 207 [(0, .inr (.inr (some 94))), (6, .inl l6), (7, .inl l7), (8, .inl l8)] m P := by
  intro n
  induction n using Nat.strongRecOn with
  | _ n IH =>
    intro m l6 l7 l8 hmu hF hV hi0 hi1 hi2 hi3 r_W r_GW r_GU r_OW r_DX r_GG r_HA r_RGc hi12 r_UQs r_UQl r_UQk
    refine g_247_207 l6 l7 l8 ?_
    have f1 : 0 ≤ (m 94 58).toInt ∧ (m 94 58).toInt ≤ 1 := rs_94_58 (m := m) hV
    have f2 : 0 ≤ (m 94 10).toInt ∧ (m 94 10).toInt ≤ 6 := rs_94_10 (m := m) hV
    have b3 := i_bd l7
    have b4 := i_bd l6
    refine sp_240 (l7) (l6) hV (by omega) (by omega) r_GG (show (m 94 58).toInt = 0 ∨ (m 94 10).toInt = 5 from by omega) (fun m1 hV_m1 p0_m1 => zmv_n ?_)
    have p0_m1 : zGG (m 94 58) (m1 94 56) (m 94 57) (m1 106) := p0_m1
    refine sp_241uw (l7) hV_m1 (by omega) r_W r_GW r_GU r_OW r_DX (fun m3 hV_m3 p0_m3 p1_m3 p2_m3 p3_m3 p4_m3 p5_m3 => zmv_n ?_)
    have p0_m3 : zGW T (m3 94 55) (m3 109) := p0_m3
    have p1_m3 : zGU T (m 94 46) (m3 99) := p1_m3
    have p2_m3 : zOw (m3 99) (m 103) (m3 111) := p2_m3
    have p3_m3 : zDX (m 94 10) (m3 99) (m 112) (m3 113) (m3 114) (m3 94 55) (m 98) (m 101) (m 102) (m 108) := p3_m3
    have p4_m3 : (m 94 10).toInt ≠ 4 → ((m3 99) = (m 99) ∧ (m3 111) = (m 111) ∧ (m3 113) = (m 113) ∧ (m3 114) = (m 114) ∧ (m3 94 55) = (m 94 55) ∧ (m3 109) = (m 109)) := p4_m3
    have p5_m3 : zUs (m 99) (m3 99) := p5_m3
    try have w60 := (ra_102 hV (k := l4.toNatClampNeg) (by omega)).2
    have b5 := i_bd l8
    exact K (l8) _ (zF_zov (zF_zov hF ws_240_247) ws_241_247) hV_m3 r_W p0_m3 p1_m3 p2_m3 p3_m3 p0_m1 (show zHA (m 94 10) (m 94 11) (m 94 13) (m 94 14) (m 94 16) (m 94 61) (m 94 59) (m 94 60) (m3 99) (m 102) (m 103) (m3 111) (m 117) (m 98) (m 101) (m 108) from by first | (exact HA_lq r_HA (fun z => ⟨(p4_m3 z).1, (p4_m3 z).2.1⟩)) | (exact HA_lq r_HA (fun z => ⟨(p4_m3 z).1, (p4_m3 z).2.1⟩)) | (exfalso; omega; done) | (exfalso; contradiction; done)) (show zRG (m 94 10) (m 94 18) (m 94 64) (m 94 63) (m3 99) (m 103) (m 102) (m 116) from by first | (exact RG_lq r_RGc (fun z => (p4_m3 z).1)) | (exfalso; omega; done) | (exfalso; contradiction; done)) (show (m 94 58).toInt = 0 ∨ (m 94 10).toInt = 5 from by omega) (show zUs (m0 99) (m3 99) from by first | (exact (Us_tr r_UQs p5_m3)) | (exact Us_w0 (Us_tr r_UQs p5_m3)) | (exact Us_rfl) | (exfalso; omega; done) | (exfalso; contradiction; done)) r_UQl
theorem lp_247uw_149 {X : Nat × (Nat → Int32)} {P : Option ma_V → (Nat → Nat → Int32) → Prop} {T : Nat} {ob : Int32} {ix : Int32} {oo : Int32} {m0 : Nat → Nat → Int32} (h0 : zV m0) (K : ∀ v m₉, zF wr_247 m0 m₉ → zV m₉ → (zW (m₉ 94 7) (m₉ 98) (m₉ 101) (m₉ 102) (m₉ 108)) → (zGW T (m₉ 94 55) (m₉ 109)) → (zGU T (m₉ 94 46) (m₉ 99)) → (zOw (m₉ 99) (m₉ 103) (m₉ 111)) → (zDX (m₉ 94 10) (m₉ 99) (m₉ 112) (m₉ 113) (m₉ 114) (m₉ 94 55) (m₉ 98) (m₉ 101) (m₉ 102) (m₉ 108)) → (zGG (m₉ 94 58) (m₉ 94 56) (m₉ 94 57) (m₉ 106)) → (zHA (m₉ 94 10) (m₉ 94 11) (m₉ 94 13) (m₉ 94 14) (m₉ 94 16) (m₉ 94 61) (m₉ 94 59) (m₉ 94 60) (m₉ 99) (m₉ 102) (m₉ 103) (m₉ 111) (m₉ 117) (m₉ 98) (m₉ 101) (m₉ 108)) → (zRG (m₉ 94 10) (m₉ 94 18) (m₉ 94 64) (m₉ 94 63) (m₉ 99) (m₉ 103) (m₉ 102) (m₉ 116)) → ((m₉ 94 58).toInt = 0 ∨ (m₉ 94 10).toInt = 5) → (zUs (m0 99) (m₉ 99)) → (zUl (m0 108) (m₉ 108) (m0 98) (m0 101)) → P (some (.inl v)) m₉) : ∀ (n : Nat) (m : Nat → Nat → Int32) (l2 : Int32) (l4 : Int32) (l6 : Int32) (l7 : Int32) (l8 : Int32), ((0 : Int)).toNat = n → zF wr_247 m0 m → zV m → (0 ≤ l4.toInt) → (l4.toInt ≤ 3099) → (0 ≤ l2.toInt) → (l2.toInt < (m 102 l4.toNatClampNeg).toInt) → ((m 101) l4.toNatClampNeg = 16 ∨ ((m 101) l4.toNatClampNeg < 16 ∧ (((m 98) ((m 101) l4.toNatClampNeg).toNatClampNeg >>> (l2 &&& 31)) &&& 1) = 1)) → (-1 ≤ l6.toInt) → (l6.toInt ≤ 3099) → (-1 ≤ l7.toInt) → (l7.toInt ≤ 3099) → (l6.toInt < 0 ∨ (m 99) l6.toNatClampNeg ≠ 0) → (zW (m 94 7) (m 98) (m 101) (m 102) (m 108)) → (zGW T (m 94 55) (m 109)) → (zGU T (m 94 46) (m 99)) → (zOw (m 99) (m 103) (m 111)) → (zDX (m 94 10) (m 99) (m 112) (m 113) (m 114) (m 94 55) (m 98) (m 101) (m 102) (m 108)) → (zGG (m 94 58) (m 94 56) (m 94 57) (m 106)) → (zHA (m 94 10) (m 94 11) (m 94 13) (m 94 14) (m 94 16) (m 94 61) (m 94 59) (m 94 60) (m 99) (m 102) (m 103) (m 111) (m 117) (m 98) (m 101) (m 108)) → (zRG (m 94 10) (m 94 18) (m 94 64) (m 94 63) (m 99) (m 103) (m 102) (m 116)) → ((m 94 58).toInt = 0 ∨ (m 94 10).toInt = 5) → (zUs (m0 99) (m 99)) → (zUl (m0 108) (m 108) (m0 98) (m0 101)) → ((m 98) = (m0 98) ∧ (m 101) = (m0 101)) → zm X 5 109 247 149 [(0, .inr (.inr (some 94))), (2, .inl l2), (4, .inl l4), (6, .inl l6), (7, .inl l7), (8, .inl l8)] m P := by
  intro n
  induction n using Nat.strongRecOn with
  | _ n IH =>
    intro m l2 l4 l6 l7 l8 hmu hF hV hi0 hi1 hi2 hi3 r_ISR hi5 hi6 hi7 hi8 r_PU r_W r_GW r_GU r_OW r_DX r_GG r_HA r_RGc hi18 r_UQs r_UQl r_UQk
    refine g_247_149 l2 l4 l6 l7 l8 ?_
    have b1 := i_bd l4
    first | have f2 : 0 ≤ (m 102 l4.toNatClampNeg).toInt ∧ (m 102 l4.toNatClampNeg).toInt ≤ 60 := ra_102 (m := m) hV (k := l4.toNatClampNeg) (i_ix (n := 3100) (by omega) (by omega)).2 | have b3 := i_bd (m 102 l4.toNatClampNeg)
    have f4 : 0 ≤ (m 94 58).toInt ∧ (m 94 58).toInt ≤ 1 := rs_94_58 (m := m) hV
    have f5 : 0 ≤ (m 94 10).toInt ∧ (m 94 10).toInt ≤ 6 := rs_94_10 (m := m) hV
    have li6 : (60 : Int32).toInt = 60 := rfl
    first | have e7 : (l4 * (60 : Int32)).toInt = l4.toInt * 60 := i_mulk rfl (by omega) (by omega) | have b8 := i_bd (l4 * (60 : Int32))
    have b9 := i_bd l2
    first | have e10 : ((l4 * (60 : Int32)) + l2).toInt = (l4 * (60 : Int32)).toInt + l2.toInt := i_add (by omega) (by omega) | have b11 := i_bd ((l4 * (60 : Int32)) + l2)
    have hg12 : (0 ≤ ((l4 * (60 : Int32)) + l2) ∧ ((l4 * (60 : Int32)) + l2).toNatClampNeg < 186000) := i_ix (by omega) (by omega)
    refine ⟨hg12, ?_⟩
    have li13 : (3 : Int32).toInt = 3 := rfl
    refine zd (fun (h14 : (m 94 10) = (3 : Int32)) => ?_) (fun (h14 : ¬ (m 94 10) = (3 : Int32)) => ?_)
    · skip
      have g15 := i_eq h14
      have hg16 : (0 ≤ l4 ∧ l4.toNatClampNeg < 3100) := i_ix (by omega) (by omega)
      refine ⟨hg16, ?_⟩
      have f17 : 0 ≤ (m 94 14).toInt ∧ (m 94 14).toInt ≤ 1500 := rs_94_14 (m := m) hV
      first | have f18 : 0 ≤ (m 103 l4.toNatClampNeg).toInt ∧ (m 103 l4.toNatClampNeg).toInt ≤ 4599 := ra_103 (m := m) hV (k := l4.toNatClampNeg) (i_ix (n := 3100) (by omega) (by omega)).2 | have b19 := i_bd (m 103 l4.toNatClampNeg)
      refine zd (fun (h20 : (m 94 14) ≤ (m 103 l4.toNatClampNeg)) => ?_) (fun (h20 : ¬ (m 94 14) ≤ (m 103 l4.toNatClampNeg)) => ?_)
      · skip
        have g21 := i_le h20
        try have w60 := (ra_102 hV (k := l4.toNatClampNeg) (by omega)).2
        try have ww := W_isr r_W (s := l4) (i := l2) (by omega) (by omega) (by omega) (by omega) (by omega) r_ISR
        have hV22 : zV (ma_u m 108 ((l4 * (60 : Int32)) + l2).toNatClampNeg l6) := ua_108 hV
        have b23 := i_bd l6
        have b24 := i_bd l7
        have b25 := i_bd l8
        exact lp_247uw_207 (ob := ob) (ix := ix) (oo := oo) h0 K _ _ (l6) (l7) (l8) rfl (zF_u hF rfl) hV22 (by omega) (by omega) (by omega) (by omega) (show zW (m 94 7) (m 98) (m 101) (m 102) ((ma_u m 108 ((l4 * (60 : Int32)) + l2).toNatClampNeg l6) 108) from by first | (exact W_link r_W (by omega) (by omega) (fun s2 i2 hs2 hi2 => zrf_link (s := l4) (i := l2) (by omega) (by omega) (by omega) (by omega) r_ISR s2 i2 (by have := (ra_102 hV hs2).2; omega))) | (exfalso; omega; done) | (exfalso; contradiction; done)) r_GW r_GU r_OW (show zDX (m 94 10) (m 99) (m 112) (m 113) (m 114) (m 94 55) (m 98) (m 101) (m 102) ((ma_u m 108 ((l4 * (60 : Int32)) + l2).toNatClampNeg l6) 108) from by first | (exact DX_link r_DX (fun _ => r_PU) (fun s2 i2 hs2 hi2 => zrf_link (s := l4) (i := l2) (by omega) (by omega) (by omega) (by omega) r_ISR s2 i2 (by have := (ra_102 hV hs2).2; omega))) | (exfalso; omega; done) | (exfalso; contradiction; done)) r_GG (show zHA (m 94 10) (m 94 11) (m 94 13) (m 94 14) (m 94 16) (m 94 61) (m 94 59) (m 94 60) (m 99) (m 102) (m 103) (m 111) (m 117) (m 98) (m 101) ((ma_u m 108 ((l4 * (60 : Int32)) + l2).toNatClampNeg l6) 108) from by first | (exact HA_link r_HA (fun _ z => z) (fun s2 i2 hs2 hi2 => zrf_link (s := l4) (i := l2) (by omega) (by omega) (by omega) (by omega) r_ISR s2 i2 (by have := (ra_102 hV hs2).2; omega)) (fun hp hl => by first | (exfalso; omega) | exact Or.inl (by omega) | exact Or.inr (Or.inl (by omega)))) | (exfalso; omega; done) | (exfalso; contradiction; done)) r_RGc (show (m 94 58).toInt = 0 ∨ (m 94 10).toInt = 5 from by omega) r_UQs (show zUl (m0 108) ((ma_u m 108 ((l4 * (60 : Int32)) + l2).toNatClampNeg l6) 108) (m0 98) (m0 101) from by first | (exact r_UQl) | (exact Ul_w r_UQl (ix_word (by omega) (by omega) (by omega) (by omega)) (by rw [tn_eq]; omega) (Ir_w (by omega) (by rw [← r_UQk.1, ← r_UQk.2]; exact r_ISR))) | (exfalso; omega; done) | (exfalso; contradiction; done)) r_UQk
      · skip
        have g26 := i_nle h20
        have b27 := i_bd l6
        have li28 : (0 : Int32).toInt = 0 := rfl
        refine zd (fun (h29 : l6 < (0 : Int32)) => ?_) (fun (h29 : ¬ l6 < (0 : Int32)) => ?_)
        · skip
          have g30 := i_lt h29
          try have w60 := (ra_102 hV (k := l4.toNatClampNeg) (by omega)).2
          try have ww := W_isr r_W (s := l4) (i := l2) (by omega) (by omega) (by omega) (by omega) (by omega) r_ISR
          have hV31 : zV (ma_u m 108 ((l4 * (60 : Int32)) + l2).toNatClampNeg l6) := ua_108 hV
          have b32 := i_bd l7
          have b33 := i_bd l8
          exact lp_247uw_207 (ob := ob) (ix := ix) (oo := oo) h0 K _ _ (l6) (l7) (l8) rfl (zF_u hF rfl) hV31 (by omega) (by omega) (by omega) (by omega) (show zW (m 94 7) (m 98) (m 101) (m 102) ((ma_u m 108 ((l4 * (60 : Int32)) + l2).toNatClampNeg l6) 108) from by first | (exact W_link r_W (by omega) (by omega) (fun s2 i2 hs2 hi2 => zrf_link (s := l4) (i := l2) (by omega) (by omega) (by omega) (by omega) r_ISR s2 i2 (by have := (ra_102 hV hs2).2; omega))) | (exfalso; omega; done) | (exfalso; contradiction; done)) r_GW r_GU r_OW (show zDX (m 94 10) (m 99) (m 112) (m 113) (m 114) (m 94 55) (m 98) (m 101) (m 102) ((ma_u m 108 ((l4 * (60 : Int32)) + l2).toNatClampNeg l6) 108) from by first | (exact DX_link r_DX (fun _ => r_PU) (fun s2 i2 hs2 hi2 => zrf_link (s := l4) (i := l2) (by omega) (by omega) (by omega) (by omega) r_ISR s2 i2 (by have := (ra_102 hV hs2).2; omega))) | (exfalso; omega; done) | (exfalso; contradiction; done)) r_GG (show zHA (m 94 10) (m 94 11) (m 94 13) (m 94 14) (m 94 16) (m 94 61) (m 94 59) (m 94 60) (m 99) (m 102) (m 103) (m 111) (m 117) (m 98) (m 101) ((ma_u m 108 ((l4 * (60 : Int32)) + l2).toNatClampNeg l6) 108) from by first | (exact HA_link r_HA (fun _ z => z) (fun s2 i2 hs2 hi2 => zrf_link (s := l4) (i := l2) (by omega) (by omega) (by omega) (by omega) r_ISR s2 i2 (by have := (ra_102 hV hs2).2; omega)) (fun hp hl => by first | (exfalso; omega) | exact Or.inl (by omega) | exact Or.inr (Or.inl (by omega)))) | (exfalso; omega; done) | (exfalso; contradiction; done)) r_RGc (show (m 94 58).toInt = 0 ∨ (m 94 10).toInt = 5 from by omega) r_UQs (show zUl (m0 108) ((ma_u m 108 ((l4 * (60 : Int32)) + l2).toNatClampNeg l6) 108) (m0 98) (m0 101) from by first | (exact r_UQl) | (exact Ul_w r_UQl (ix_word (by omega) (by omega) (by omega) (by omega)) (by rw [tn_eq]; omega) (Ir_w (by omega) (by rw [← r_UQk.1, ← r_UQk.2]; exact r_ISR))) | (exfalso; omega; done) | (exfalso; contradiction; done)) r_UQk
        · skip
          have g34 := i_nlt h29
          have hg35 : (0 ≤ l6 ∧ l6.toNatClampNeg < 3100) := i_ix (by omega) (by omega)
          refine ⟨hg35, ?_⟩
          first | have f36 : 0 ≤ (m 103 l6.toNatClampNeg).toInt ∧ (m 103 l6.toNatClampNeg).toInt ≤ 4599 := ra_103 (m := m) hV (k := l6.toNatClampNeg) (i_ix (n := 3100) (by omega) (by omega)).2 | have b37 := i_bd (m 103 l6.toNatClampNeg)
          refine zd (fun (h38 : (m 94 14) ≤ (m 103 l6.toNatClampNeg)) => ?_) (fun (h38 : ¬ (m 94 14) ≤ (m 103 l6.toNatClampNeg)) => ?_)
          · skip
            have g39 := i_le h38
            have hg40 : (0 ≤ l4 ∧ l4.toNatClampNeg < 3100) := i_ix (by omega) (by omega)
            refine ⟨hg40, ?_⟩
            have f41 : 0 ≤ (m 94 16).toInt ∧ (m 94 16).toInt ≤ 64 := rs_94_16 (m := m) hV
            try have ca4 := (r_HA.2 (by omega)).1
            have hg42 : (m 94 16) ≠ 0 := i_nz (by omega)
            refine ⟨hg42, ?_⟩
            first | have e43 : ((m 103 l4.toNatClampNeg) + (1 : Int32)).toInt = (m 103 l4.toNatClampNeg).toInt + (1) := i_addk rfl (by omega) (by omega) | have b44 := i_bd ((m 103 l4.toNatClampNeg) + (1 : Int32))
            first | have e45 : (((m 103 l4.toNatClampNeg) + (1 : Int32)) + l2).toInt = ((m 103 l4.toNatClampNeg) + (1 : Int32)).toInt + l2.toInt := i_add (by omega) (by omega) | have b46 := i_bd (((m 103 l4.toNatClampNeg) + (1 : Int32)) + l2)
            first | have f47 := i_div (x := (((m 103 l4.toNatClampNeg) + (1 : Int32)) + l2)) (y := (m 94 16)) (by omega) (by omega) | have b48 := i_bd ((((m 103 l4.toNatClampNeg) + (1 : Int32)) + l2) / (m 94 16))
            try have ca4 := (r_HA.2 (by omega)).1
            try have dv : 0 ≤ (((((m 103 l4.toNatClampNeg) + (1 : Int32)) + l2) / (m 94 16))).toInt ∧ (((((m 103 l4.toNatClampNeg) + (1 : Int32)) + l2) / (m 94 16))).toInt ≤ 499 := i_div4 (by omega) (by omega) (by omega)
            have hg49 : (0 ≤ ((((m 103 l4.toNatClampNeg) + (1 : Int32)) + l2) / (m 94 16)) ∧ ((((m 103 l4.toNatClampNeg) + (1 : Int32)) + l2) / (m 94 16)).toNatClampNeg < 512) := i_ix (by omega) (by omega)
            refine ⟨hg49, ?_⟩
            try have w60 := (ra_102 hV (k := l4.toNatClampNeg) (by omega)).2
            try have ww := W_isr r_W (s := l4) (i := l2) (by omega) (by omega) (by omega) (by omega) (by omega) r_ISR
            have hV50 : zV (ma_u m 108 ((l4 * (60 : Int32)) + l2).toNatClampNeg l6) := ua_108 hV
            have li52 : (1 : Int32).toInt = 1 := rfl
            have hV51 : zV (ma_u (ma_u m 108 ((l4 * (60 : Int32)) + l2).toNatClampNeg l6) 117 ((((m 103 l4.toNatClampNeg) + (1 : Int32)) + l2) / (m 94 16)).toNatClampNeg (1 : Int32)) := ua_117 hV50 (by omega) (by omega)
            have b53 := i_bd l7
            have b54 := i_bd l8
            exact lp_247uw_207 (ob := ob) (ix := ix) (oo := oo) h0 K _ _ (l6) (l7) (l8) rfl (zF_u (zF_u hF rfl) rfl) hV51 (by omega) (by omega) (by omega) (by omega) (show zW (m 94 7) (m 98) (m 101) (m 102) ((ma_u m 108 ((l4 * (60 : Int32)) + l2).toNatClampNeg l6) 108) from by first | (exact W_link r_W (by omega) (by omega) (fun s2 i2 hs2 hi2 => zrf_link (s := l4) (i := l2) (by omega) (by omega) (by omega) (by omega) r_ISR s2 i2 (by have := (ra_102 hV hs2).2; omega))) | (exfalso; omega; done) | (exfalso; contradiction; done)) r_GW r_GU r_OW (show zDX (m 94 10) (m 99) (m 112) (m 113) (m 114) (m 94 55) (m 98) (m 101) (m 102) ((ma_u m 108 ((l4 * (60 : Int32)) + l2).toNatClampNeg l6) 108) from by first | (exact DX_link r_DX (fun _ => r_PU) (fun s2 i2 hs2 hi2 => zrf_link (s := l4) (i := l2) (by omega) (by omega) (by omega) (by omega) r_ISR s2 i2 (by have := (ra_102 hV hs2).2; omega))) | (exfalso; omega; done) | (exfalso; contradiction; done)) r_GG (show zHA (m 94 10) (m 94 11) (m 94 13) (m 94 14) (m 94 16) (m 94 61) (m 94 59) (m 94 60) (m 99) (m 102) (m 103) (m 111) ((ma_u m 117 ((((m 103 l4.toNatClampNeg) + (1 : Int32)) + l2) / (m 94 16)).toNatClampNeg (1 : Int32)) 117) (m 98) (m 101) ((ma_u m 108 ((l4 * (60 : Int32)) + l2).toNatClampNeg l6) 108) from by first | (exact HA_link r_HA (fun j z => mu_mono (by decide) z) (fun s2 i2 hs2 hi2 => zrf_link (s := l4) (i := l2) (by omega) (by omega) (by omega) (by omega) r_ISR s2 i2 (by have := (ra_102 hV hs2).2; omega)) (fun _ _ => Or.inr (Or.inr (by rw [← card_ix (by omega) (by omega) (by omega) (by omega) (by omega), mu_self]; decide)))) | (exfalso; omega; done) | (exfalso; contradiction; done)) r_RGc (show (m 94 58).toInt = 0 ∨ (m 94 10).toInt = 5 from by omega) r_UQs (show zUl (m0 108) ((ma_u m 108 ((l4 * (60 : Int32)) + l2).toNatClampNeg l6) 108) (m0 98) (m0 101) from by first | (exact r_UQl) | (exact Ul_w r_UQl (ix_word (by omega) (by omega) (by omega) (by omega)) (by rw [tn_eq]; omega) (Ir_w (by omega) (by rw [← r_UQk.1, ← r_UQk.2]; exact r_ISR))) | (exfalso; omega; done) | (exfalso; contradiction; done)) r_UQk
          · skip
            have g55 := i_nle h38
            try have w60 := (ra_102 hV (k := l4.toNatClampNeg) (by omega)).2
            try have ww := W_isr r_W (s := l4) (i := l2) (by omega) (by omega) (by omega) (by omega) (by omega) r_ISR
            have hV56 : zV (ma_u m 108 ((l4 * (60 : Int32)) + l2).toNatClampNeg l6) := ua_108 hV
            have b57 := i_bd l7
            have b58 := i_bd l8
            exact lp_247uw_207 (ob := ob) (ix := ix) (oo := oo) h0 K _ _ (l6) (l7) (l8) rfl (zF_u hF rfl) hV56 (by omega) (by omega) (by omega) (by omega) (show zW (m 94 7) (m 98) (m 101) (m 102) ((ma_u m 108 ((l4 * (60 : Int32)) + l2).toNatClampNeg l6) 108) from by first | (exact W_link r_W (by omega) (by omega) (fun s2 i2 hs2 hi2 => zrf_link (s := l4) (i := l2) (by omega) (by omega) (by omega) (by omega) r_ISR s2 i2 (by have := (ra_102 hV hs2).2; omega))) | (exfalso; omega; done) | (exfalso; contradiction; done)) r_GW r_GU r_OW (show zDX (m 94 10) (m 99) (m 112) (m 113) (m 114) (m 94 55) (m 98) (m 101) (m 102) ((ma_u m 108 ((l4 * (60 : Int32)) + l2).toNatClampNeg l6) 108) from by first | (exact DX_link r_DX (fun _ => r_PU) (fun s2 i2 hs2 hi2 => zrf_link (s := l4) (i := l2) (by omega) (by omega) (by omega) (by omega) r_ISR s2 i2 (by have := (ra_102 hV hs2).2; omega))) | (exfalso; omega; done) | (exfalso; contradiction; done)) r_GG (show zHA (m 94 10) (m 94 11) (m 94 13) (m 94 14) (m 94 16) (m 94 61) (m 94 59) (m 94 60) (m 99) (m 102) (m 103) (m 111) (m 117) (m 98) (m 101) ((ma_u m 108 ((l4 * (60 : Int32)) + l2).toNatClampNeg l6) 108) from by first | (exact HA_link r_HA (fun _ z => z) (fun s2 i2 hs2 hi2 => zrf_link (s := l4) (i := l2) (by omega) (by omega) (by omega) (by omega) r_ISR s2 i2 (by have := (ra_102 hV hs2).2; omega)) (fun hp hl => by first | (exfalso; omega) | exact Or.inl (by omega) | exact Or.inr (Or.inl (by omega)))) | (exfalso; omega; done) | (exfalso; contradiction; done)) r_RGc (show (m 94 58).toInt = 0 ∨ (m 94 10).toInt = 5 from by omega) r_UQs (show zUl (m0 108) ((ma_u m 108 ((l4 * (60 : Int32)) + l2).toNatClampNeg l6) 108) (m0 98) (m0 101) from by first | (exact r_UQl) | (exact Ul_w r_UQl (ix_word (by omega) (by omega) (by omega) (by omega)) (by rw [tn_eq]; omega) (Ir_w (by omega) (by rw [← r_UQk.1, ← r_UQk.2]; exact r_ISR))) | (exfalso; omega; done) | (exfalso; contradiction; done)) r_UQk
    · skip
      have g59 := i_ne h14
      try have w60 := (ra_102 hV (k := l4.toNatClampNeg) (by omega)).2
      try have ww := W_isr r_W (s := l4) (i := l2) (by omega) (by omega) (by omega) (by omega) (by omega) r_ISR
      have hV60 : zV (ma_u m 108 ((l4 * (60 : Int32)) + l2).toNatClampNeg l6) := ua_108 hV
      have b61 := i_bd l6
      have b62 := i_bd l7
      have b63 := i_bd l8
      exact lp_247uw_207 (ob := ob) (ix := ix) (oo := oo) h0 K _ _ (l6) (l7) (l8) rfl (zF_u hF rfl) hV60 (by omega) (by omega) (by omega) (by omega) (show zW (m 94 7) (m 98) (m 101) (m 102) ((ma_u m 108 ((l4 * (60 : Int32)) + l2).toNatClampNeg l6) 108) from by first | (exact W_link r_W (by omega) (by omega) (fun s2 i2 hs2 hi2 => zrf_link (s := l4) (i := l2) (by omega) (by omega) (by omega) (by omega) r_ISR s2 i2 (by have := (ra_102 hV hs2).2; omega))) | (exfalso; omega; done) | (exfalso; contradiction; done)) r_GW r_GU r_OW (show zDX (m 94 10) (m 99) (m 112) (m 113) (m 114) (m 94 55) (m 98) (m 101) (m 102) ((ma_u m 108 ((l4 * (60 : Int32)) + l2).toNatClampNeg l6) 108) from by first | (exact DX_link r_DX (fun _ => r_PU) (fun s2 i2 hs2 hi2 => zrf_link (s := l4) (i := l2) (by omega) (by omega) (by omega) (by omega) r_ISR s2 i2 (by have := (ra_102 hV hs2).2; omega))) | (exfalso; omega; done) | (exfalso; contradiction; done)) r_GG (show zHA (m 94 10) (m 94 11) (m 94 13) (m 94 14) (m 94 16) (m 94 61) (m 94 59) (m 94 60) (m 99) (m 102) (m 103) (m 111) (m 117) (m 98) (m 101) ((ma_u m 108 ((l4 * (60 : Int32)) + l2).toNatClampNeg l6) 108) from by first | (exact HA_link r_HA (fun _ z => z) (fun s2 i2 hs2 hi2 => zrf_link (s := l4) (i := l2) (by omega) (by omega) (by omega) (by omega) r_ISR s2 i2 (by have := (ra_102 hV hs2).2; omega)) (fun hp hl => by first | (exfalso; omega) | exact Or.inl (by omega) | exact Or.inr (Or.inl (by omega)))) | (exfalso; omega; done) | (exfalso; contradiction; done)) r_RGc (show (m 94 58).toInt = 0 ∨ (m 94 10).toInt = 5 from by omega) r_UQs (show zUl (m0 108) ((ma_u m 108 ((l4 * (60 : Int32)) + l2).toNatClampNeg l6) 108) (m0 98) (m0 101) from by first | (exact r_UQl) | (exact Ul_w r_UQl (ix_word (by omega) (by omega) (by omega) (by omega)) (by rw [tn_eq]; omega) (Ir_w (by omega) (by rw [← r_UQk.1, ← r_UQk.2]; exact r_ISR))) | (exfalso; omega; done) | (exfalso; contradiction; done)) r_UQk
theorem lp_247uw_121 {X : Nat × (Nat → Int32)} {P : Option ma_V → (Nat → Nat → Int32) → Prop} {T : Nat} {ob : Int32} {ix : Int32} {oo : Int32} {m0 : Nat → Nat → Int32} (h0 : zV m0) (K : ∀ v m₉, zF wr_247 m0 m₉ → zV m₉ → (zW (m₉ 94 7) (m₉ 98) (m₉ 101) (m₉ 102) (m₉ 108)) → (zGW T (m₉ 94 55) (m₉ 109)) → (zGU T (m₉ 94 46) (m₉ 99)) → (zOw (m₉ 99) (m₉ 103) (m₉ 111)) → (zDX (m₉ 94 10) (m₉ 99) (m₉ 112) (m₉ 113) (m₉ 114) (m₉ 94 55) (m₉ 98) (m₉ 101) (m₉ 102) (m₉ 108)) → (zGG (m₉ 94 58) (m₉ 94 56) (m₉ 94 57) (m₉ 106)) → (zHA (m₉ 94 10) (m₉ 94 11) (m₉ 94 13) (m₉ 94 14) (m₉ 94 16) (m₉ 94 61) (m₉ 94 59) (m₉ 94 60) (m₉ 99) (m₉ 102) (m₉ 103) (m₉ 111) (m₉ 117) (m₉ 98) (m₉ 101) (m₉ 108)) → (zRG (m₉ 94 10) (m₉ 94 18) (m₉ 94 64) (m₉ 94 63) (m₉ 99) (m₉ 103) (m₉ 102) (m₉ 116)) → ((m₉ 94 58).toInt = 0 ∨ (m₉ 94 10).toInt = 5) → (zUs (m0 99) (m₉ 99)) → (zUl (m0 108) (m₉ 108) (m0 98) (m0 101)) → P (some (.inl v)) m₉) : ∀ (n : Nat) (m : Nat → Nat → Int32) (l2 : Int32) (l4 : Int32) (l6 : Int32), ((0 : Int)).toNat = n → zF wr_247 m0 m → zV m → (0 ≤ l4.toInt) → (l4.toInt ≤ 3099) → (0 ≤ l2.toInt) → (l2.toInt < (m 102 l4.toNatClampNeg).toInt) → ((m 101) l4.toNatClampNeg = 16 ∨ ((m 101) l4.toNatClampNeg < 16 ∧ (((m 98) ((m 101) l4.toNatClampNeg).toNatClampNeg >>> (l2 &&& 31)) &&& 1) = 1)) → (-1 ≤ l6.toInt) → (l6.toInt ≤ 3099) → (l6.toInt < 0 ∨ (m 99) l6.toNatClampNeg ≠ 0) → (zW (m 94 7) (m 98) (m 101) (m 102) (m 108)) → (zGW T (m 94 55) (m 109)) → (zGU T (m 94 46) (m 99)) → (zOw (m 99) (m 103) (m 111)) → (zDX (m 94 10) (m 99) (m 112) (m 113) (m 114) (m 94 55) (m 98) (m 101) (m 102) (m 108)) → (zGG (m 94 58) (m 94 56) (m 94 57) (m 106)) → (zHA (m 94 10) (m 94 11) (m 94 13) (m 94 14) (m 94 16) (m 94 61) (m 94 59) (m 94 60) (m 99) (m 102) (m 103) (m 111) (m 117) (m 98) (m 101) (m 108)) → (zRG (m 94 10) (m 94 18) (m 94 64) (m 94 63) (m 99) (m 103) (m 102) (m 116)) → ((m 94 58).toInt = 0 ∨ (m 94 10).toInt = 5) → (zUs (m0 99) (m 99)) → (zUl (m0 108) (m 108) (m0 98) (m0 101)) → ((m 98) = (m0 98) ∧ (m 101) = (m0 101)) → zm X 5 109 247 121 [(0, .inr (.inr (some 94))), (2, .inl l2), (4, .inl l4), (6, .inl l6)] m P := by
  intro n
  induction n using Nat.strongRecOn with
  | _ n IH =>
    intro m l2 l4 l6 hmu hF hV hi0 hi1 hi2 hi3 r_ISR hi5 hi6 r_PU r_W r_GW r_GU r_OW r_DX r_GG r_HA r_RGc hi16 r_UQs r_UQl r_UQk
    refine g_247_121 l2 l4 l6 ?_
    have b1 := i_bd l4
    first | have f2 : 0 ≤ (m 102 l4.toNatClampNeg).toInt ∧ (m 102 l4.toNatClampNeg).toInt ≤ 60 := ra_102 (m := m) hV (k := l4.toNatClampNeg) (i_ix (n := 3100) (by omega) (by omega)).2 | have b3 := i_bd (m 102 l4.toNatClampNeg)
    have f4 : 0 ≤ (m 94 58).toInt ∧ (m 94 58).toInt ≤ 1 := rs_94_58 (m := m) hV
    have f5 : 0 ≤ (m 94 10).toInt ∧ (m 94 10).toInt ≤ 6 := rs_94_10 (m := m) hV
    have li6 : (60 : Int32).toInt = 60 := rfl
    first | have e7 : (l4 * (60 : Int32)).toInt = l4.toInt * 60 := i_mulk rfl (by omega) (by omega) | have b8 := i_bd (l4 * (60 : Int32))
    have b9 := i_bd l2
    first | have e10 : ((l4 * (60 : Int32)) + l2).toInt = (l4 * (60 : Int32)).toInt + l2.toInt := i_add (by omega) (by omega) | have b11 := i_bd ((l4 * (60 : Int32)) + l2)
    have hg12 : (0 ≤ ((l4 * (60 : Int32)) + l2) ∧ ((l4 * (60 : Int32)) + l2).toNatClampNeg < 186000) := i_ix (by omega) (by omega)
    refine ⟨hg12, ?_⟩
    have li13 : (0 : Int32).toInt = 0 := rfl
    have b14 := i_bd (m 108 ((l4 * (60 : Int32)) + l2).toNatClampNeg)
    refine zd (fun (h15 : (0 : Int32) ≤ (m 108 ((l4 * (60 : Int32)) + l2).toNatClampNeg)) => ?_) (fun (h15 : ¬ (0 : Int32) ≤ (m 108 ((l4 * (60 : Int32)) + l2).toNatClampNeg)) => ?_)
    · skip
      have g16 := i_le h15
      try have w60 := (ra_102 hV (k := l4.toNatClampNeg) (by omega)).2
      try have ww := W_isr r_W (s := l4) (i := l2) (by omega) (by omega) (by omega) (by omega) (by omega) r_ISR
      have hg17 : (0 ≤ (m 108 ((l4 * (60 : Int32)) + l2).toNatClampNeg) ∧ (m 108 ((l4 * (60 : Int32)) + l2).toNatClampNeg).toNatClampNeg < 3100) := i_ix (by omega) (by omega)
      refine ⟨hg17, ?_⟩
      have b18 := i_bd l6
      refine zd (fun (h19 : l6 < (0 : Int32)) => ?_) (fun (h19 : ¬ l6 < (0 : Int32)) => ?_)
      · skip
        have g20 := i_lt h19
        try have w60 := (ra_102 hV (k := l4.toNatClampNeg) (by omega)).2
        try have ww := W_isr r_W (s := l4) (i := l2) (by omega) (by omega) (by omega) (by omega) (by omega) r_ISR
        first | have f21 : 0 ≤ (m 100 (m 108 ((l4 * (60 : Int32)) + l2).toNatClampNeg).toNatClampNeg).toInt ∧ (m 100 (m 108 ((l4 * (60 : Int32)) + l2).toNatClampNeg).toNatClampNeg).toInt ≤ 100000 := ra_100 (m := m) hV (k := (m 108 ((l4 * (60 : Int32)) + l2).toNatClampNeg).toNatClampNeg) (i_ix (n := 3100) (by omega) (by omega)).2 | have b22 := i_bd (m 100 (m 108 ((l4 * (60 : Int32)) + l2).toNatClampNeg).toNatClampNeg)
        exact lp_247uw_149 (ob := ob) (ix := ix) (oo := oo) h0 K _ _ (l2) (l4) (l6) ((m 108 ((l4 * (60 : Int32)) + l2).toNatClampNeg)) ((m 100 (m 108 ((l4 * (60 : Int32)) + l2).toNatClampNeg).toNatClampNeg)) rfl hF hV (by omega) (by omega) (by omega) (show l2.toInt < (m 102 l4.toNatClampNeg).toInt from by omega) r_ISR (by omega) (by omega) (by omega) (by omega) r_PU r_W r_GW r_GU r_OW r_DX r_GG r_HA r_RGc (show (m 94 58).toInt = 0 ∨ (m 94 10).toInt = 5 from by omega) r_UQs r_UQl r_UQk
      · skip
        have g23 := i_nlt h19
        have li24 : (4 : Int32).toInt = 4 := rfl
        refine zd (fun (h25 : (m 94 10) = (4 : Int32)) => ?_) (fun (h25 : ¬ (m 94 10) = (4 : Int32)) => ?_)
        · skip
          have g26 := i_eq h25
          have hg27 : (0 ≤ l6 ∧ l6.toNatClampNeg < 3100) := i_ix (by omega) (by omega)
          refine ⟨hg27, ?_⟩
          have hg28 : (0 ≤ l6 ∧ l6.toNatClampNeg < 3100) := i_ix (by omega) (by omega)
          refine ⟨hg28, ?_⟩
          try have w60 := (ra_102 hV (k := l4.toNatClampNeg) (by omega)).2
          try have ww := W_isr r_W (s := l4) (i := l2) (by omega) (by omega) (by omega) (by omega) (by omega) r_ISR
          have hV29 : zV (ma_u m 105 l6.toNatClampNeg ((m 105 l6.toNatClampNeg) + (1 : Int32))) := ua_105 hV
          first | have f30 : 0 ≤ (m 100 (m 108 ((l4 * (60 : Int32)) + l2).toNatClampNeg).toNatClampNeg).toInt ∧ (m 100 (m 108 ((l4 * (60 : Int32)) + l2).toNatClampNeg).toNatClampNeg).toInt ≤ 100000 := ra_100 (m := m) hV (k := (m 108 ((l4 * (60 : Int32)) + l2).toNatClampNeg).toNatClampNeg) (i_ix (n := 3100) (by omega) (by omega)).2 | have b31 := i_bd (m 100 (m 108 ((l4 * (60 : Int32)) + l2).toNatClampNeg).toNatClampNeg)
          exact lp_247uw_149 (ob := ob) (ix := ix) (oo := oo) h0 K _ _ (l2) (l4) (l6) ((m 108 ((l4 * (60 : Int32)) + l2).toNatClampNeg)) ((m 100 (m 108 ((l4 * (60 : Int32)) + l2).toNatClampNeg).toNatClampNeg)) rfl (zF_u hF rfl) hV29 (by omega) (by omega) (by omega) (show l2.toInt < (m 102 l4.toNatClampNeg).toInt from by omega) r_ISR (by omega) (by omega) (by omega) (by omega) r_PU r_W r_GW r_GU r_OW r_DX r_GG r_HA r_RGc (show (m 94 58).toInt = 0 ∨ (m 94 10).toInt = 5 from by omega) r_UQs r_UQl r_UQk
        · skip
          have g32 := i_ne h25
          try have w60 := (ra_102 hV (k := l4.toNatClampNeg) (by omega)).2
          try have ww := W_isr r_W (s := l4) (i := l2) (by omega) (by omega) (by omega) (by omega) (by omega) r_ISR
          first | have f33 : 0 ≤ (m 100 (m 108 ((l4 * (60 : Int32)) + l2).toNatClampNeg).toNatClampNeg).toInt ∧ (m 100 (m 108 ((l4 * (60 : Int32)) + l2).toNatClampNeg).toNatClampNeg).toInt ≤ 100000 := ra_100 (m := m) hV (k := (m 108 ((l4 * (60 : Int32)) + l2).toNatClampNeg).toNatClampNeg) (i_ix (n := 3100) (by omega) (by omega)).2 | have b34 := i_bd (m 100 (m 108 ((l4 * (60 : Int32)) + l2).toNatClampNeg).toNatClampNeg)
          exact lp_247uw_149 (ob := ob) (ix := ix) (oo := oo) h0 K _ _ (l2) (l4) (l6) ((m 108 ((l4 * (60 : Int32)) + l2).toNatClampNeg)) ((m 100 (m 108 ((l4 * (60 : Int32)) + l2).toNatClampNeg).toNatClampNeg)) rfl hF hV (by omega) (by omega) (by omega) (show l2.toInt < (m 102 l4.toNatClampNeg).toInt from by omega) r_ISR (by omega) (by omega) (by omega) (by omega) r_PU r_W r_GW r_GU r_OW r_DX r_GG r_HA r_RGc (show (m 94 58).toInt = 0 ∨ (m 94 10).toInt = 5 from by omega) r_UQs r_UQl r_UQk
    · skip
      have g35 := i_nle h15
      have b36 := i_bd l6
      refine zd (fun (h37 : l6 < (0 : Int32)) => ?_) (fun (h37 : ¬ l6 < (0 : Int32)) => ?_)
      · skip
        have g38 := i_lt h37
        try have w60 := (ra_102 hV (k := l4.toNatClampNeg) (by omega)).2
        try have ww := W_isr r_W (s := l4) (i := l2) (by omega) (by omega) (by omega) (by omega) (by omega) r_ISR
        have li39 : (-1 : Int32).toInt = -1 := rfl
        exact lp_247uw_149 (ob := ob) (ix := ix) (oo := oo) h0 K _ _ (l2) (l4) (l6) ((m 108 ((l4 * (60 : Int32)) + l2).toNatClampNeg)) ((-1 : Int32)) rfl hF hV (by omega) (by omega) (by omega) (show l2.toInt < (m 102 l4.toNatClampNeg).toInt from by omega) r_ISR (by omega) (by omega) (by omega) (by omega) r_PU r_W r_GW r_GU r_OW r_DX r_GG r_HA r_RGc (show (m 94 58).toInt = 0 ∨ (m 94 10).toInt = 5 from by omega) r_UQs r_UQl r_UQk
      · skip
        have g40 := i_nlt h37
        have li41 : (4 : Int32).toInt = 4 := rfl
        refine zd (fun (h42 : (m 94 10) = (4 : Int32)) => ?_) (fun (h42 : ¬ (m 94 10) = (4 : Int32)) => ?_)
        · skip
          have g43 := i_eq h42
          have hg44 : (0 ≤ l6 ∧ l6.toNatClampNeg < 3100) := i_ix (by omega) (by omega)
          refine ⟨hg44, ?_⟩
          have hg45 : (0 ≤ l6 ∧ l6.toNatClampNeg < 3100) := i_ix (by omega) (by omega)
          refine ⟨hg45, ?_⟩
          try have w60 := (ra_102 hV (k := l4.toNatClampNeg) (by omega)).2
          try have ww := W_isr r_W (s := l4) (i := l2) (by omega) (by omega) (by omega) (by omega) (by omega) r_ISR
          have hV46 : zV (ma_u m 105 l6.toNatClampNeg ((m 105 l6.toNatClampNeg) + (1 : Int32))) := ua_105 hV
          have li47 : (-1 : Int32).toInt = -1 := rfl
          exact lp_247uw_149 (ob := ob) (ix := ix) (oo := oo) h0 K _ _ (l2) (l4) (l6) ((m 108 ((l4 * (60 : Int32)) + l2).toNatClampNeg)) ((-1 : Int32)) rfl (zF_u hF rfl) hV46 (by omega) (by omega) (by omega) (show l2.toInt < (m 102 l4.toNatClampNeg).toInt from by omega) r_ISR (by omega) (by omega) (by omega) (by omega) r_PU r_W r_GW r_GU r_OW r_DX r_GG r_HA r_RGc (show (m 94 58).toInt = 0 ∨ (m 94 10).toInt = 5 from by omega) r_UQs r_UQl r_UQk
        · skip
          have g48 := i_ne h42
          try have w60 := (ra_102 hV (k := l4.toNatClampNeg) (by omega)).2
          try have ww := W_isr r_W (s := l4) (i := l2) (by omega) (by omega) (by omega) (by omega) (by omega) r_ISR
          have li49 : (-1 : Int32).toInt = -1 := rfl
          exact lp_247uw_149 (ob := ob) (ix := ix) (oo := oo) h0 K _ _ (l2) (l4) (l6) ((m 108 ((l4 * (60 : Int32)) + l2).toNatClampNeg)) ((-1 : Int32)) rfl hF hV (by omega) (by omega) (by omega) (show l2.toInt < (m 102 l4.toNatClampNeg).toInt from by omega) r_ISR (by omega) (by omega) (by omega) (by omega) r_PU r_W r_GW r_GU r_OW r_DX r_GG r_HA r_RGc (show (m 94 58).toInt = 0 ∨ (m 94 10).toInt = 5 from by omega) r_UQs r_UQl r_UQk
theorem lp_247uw_105 {X : Nat × (Nat → Int32)} {P : Option ma_V → (Nat → Nat → Int32) → Prop} {T : Nat} {ob : Int32} {ix : Int32} {oo : Int32} {m0 : Nat → Nat → Int32} (h0 : zV m0) (K : ∀ v m₉, zF wr_247 m0 m₉ → zV m₉ → (zW (m₉ 94 7) (m₉ 98) (m₉ 101) (m₉ 102) (m₉ 108)) → (zGW T (m₉ 94 55) (m₉ 109)) → (zGU T (m₉ 94 46) (m₉ 99)) → (zOw (m₉ 99) (m₉ 103) (m₉ 111)) → (zDX (m₉ 94 10) (m₉ 99) (m₉ 112) (m₉ 113) (m₉ 114) (m₉ 94 55) (m₉ 98) (m₉ 101) (m₉ 102) (m₉ 108)) → (zGG (m₉ 94 58) (m₉ 94 56) (m₉ 94 57) (m₉ 106)) → (zHA (m₉ 94 10) (m₉ 94 11) (m₉ 94 13) (m₉ 94 14) (m₉ 94 16) (m₉ 94 61) (m₉ 94 59) (m₉ 94 60) (m₉ 99) (m₉ 102) (m₉ 103) (m₉ 111) (m₉ 117) (m₉ 98) (m₉ 101) (m₉ 108)) → (zRG (m₉ 94 10) (m₉ 94 18) (m₉ 94 64) (m₉ 94 63) (m₉ 99) (m₉ 103) (m₉ 102) (m₉ 116)) → ((m₉ 94 58).toInt = 0 ∨ (m₉ 94 10).toInt = 5) → (zUs (m0 99) (m₉ 99)) → (zUl (m0 108) (m₉ 108) (m0 98) (m0 101)) → P (some (.inl v)) m₉) : ∀ (n : Nat) (m : Nat → Nat → Int32) (l2 : Int32) (l3 : Int32) (l4 : Int32), ((0 : Int)).toNat = n → zF wr_247 m0 m → zV m → (0 ≤ l4.toInt) → (l4.toInt ≤ 3099) → (0 ≤ l2.toInt) → (l2.toInt < (m 102 l4.toNatClampNeg).toInt) → ((m 101) l4.toNatClampNeg = 16 ∨ ((m 101) l4.toNatClampNeg < 16 ∧ (((m 98) ((m 101) l4.toNatClampNeg).toNatClampNeg >>> (l2 &&& 31)) &&& 1) = 1)) → (zW (m 94 7) (m 98) (m 101) (m 102) (m 108)) → (zGW T (m 94 55) (m 109)) → (zGU T (m 94 46) (m 99)) → (zOw (m 99) (m 103) (m 111)) → (zDX (m 94 10) (m 99) (m 112) (m 113) (m 114) (m 94 55) (m 98) (m 101) (m 102) (m 108)) → (zGG (m 94 58) (m 94 56) (m 94 57) (m 106)) → (zHA (m 94 10) (m 94 11) (m 94 13) (m 94 14) (m 94 16) (m 94 61) (m 94 59) (m 94 60) (m 99) (m 102) (m 103) (m 111) (m 117) (m 98) (m 101) (m 108)) → (zRG (m 94 10) (m 94 18) (m 94 64) (m 94 63) (m 99) (m 103) (m 102) (m 116)) → ((m 94 58).toInt = 0 ∨ (m 94 10).toInt = 5) → (zUs (m0 99) (m 99)) → (zUl (m0 108) (m 108) (m0 98) (m0 101)) → ((m 98) = (m0 98) ∧ (m 101) = (m0 101)) → zm X 5 109 247 105 [(0, .inr (.inr (some 94))), (2, .inl l2), (3, .inl l3), (4, .inl l4)] m P := by
  intro n
  induction n using Nat.strongRecOn with
  | _ n IH =>
    intro m l2 l3 l4 hmu hF hV hi0 hi1 hi2 hi3 r_ISR r_W r_GW r_GU r_OW r_DX r_GG r_HA r_RGc hi13 r_UQs r_UQl r_UQk
    refine g_247_105 l2 l3 l4 ?_
    have b1 := i_bd l4
    first | have f2 : 0 ≤ (m 102 l4.toNatClampNeg).toInt ∧ (m 102 l4.toNatClampNeg).toInt ≤ 60 := ra_102 (m := m) hV (k := l4.toNatClampNeg) (i_ix (n := 3100) (by omega) (by omega)).2 | have b3 := i_bd (m 102 l4.toNatClampNeg)
    have f4 : 0 ≤ (m 94 58).toInt ∧ (m 94 58).toInt ≤ 1 := rs_94_58 (m := m) hV
    have f5 : 0 ≤ (m 94 10).toInt ∧ (m 94 10).toInt ≤ 6 := rs_94_10 (m := m) hV
    have b6 := i_bd l3
    have li7 : (-1 : Int32).toInt = -1 := rfl
    refine zd (fun (h8 : l3 = (-1 : Int32)) => ?_) (fun (h8 : ¬ l3 = (-1 : Int32)) => ?_)
    · skip
      have g9 := i_eq h8
      try have w60 := (ra_102 hV (k := l4.toNatClampNeg) (by omega)).2
      try have ww := W_isr r_W (s := l4) (i := l2) (by omega) (by omega) (by omega) (by omega) (by omega) r_ISR
      have b10 := i_bd l2
      exact lp_247uw_121 (ob := ob) (ix := ix) (oo := oo) h0 K _ _ (l2) (l4) ((-1 : Int32)) rfl hF hV (by omega) (by omega) (by omega) (show l2.toInt < (m 102 l4.toNatClampNeg).toInt from by omega) r_ISR (by omega) (by omega) (show (-1 : Int32).toInt < 0 ∨ (m 99) (-1 : Int32).toNatClampNeg ≠ 0 from by first | (exact Or.inl (by decide)) | (exact Or.inr (by assumption)) | (exact Or.inl (by omega)) | (exact Or.inl (by decide)) | (exact Or.inr (by assumption)) | (exact Or.inl (by omega)) | (exfalso; omega; done) | (exfalso; contradiction; done)) r_W r_GW r_GU r_OW r_DX r_GG r_HA r_RGc (show (m 94 58).toInt = 0 ∨ (m 94 10).toInt = 5 from by omega) r_UQs r_UQl r_UQk
    · skip
      have g11 := i_ne h8
      refine sp_246b (l3) hV  (fun v2 m1 hV_m1 p0_m1 p1_m1 => zmi_n ?_)
      have p0_m1 : -1 ≤ v2.toInt ∧ v2.toInt ≤ 3099 := p0_m1
      have p1_m1 : v2.toInt < 0 ∨ (m 99) v2.toNatClampNeg ≠ 0 := p1_m1
      try have w60 := (ra_102 hV (k := l4.toNatClampNeg) (by omega)).2
      try have ww := W_isr r_W (s := l4) (i := l2) (by omega) (by omega) (by omega) (by omega) (by omega) r_ISR
      have b12 := i_bd l2
      have b13 := i_bd v2
      exact lp_247uw_121 (ob := ob) (ix := ix) (oo := oo) h0 K _ _ (l2) (l4) (v2) rfl (zF_zov hF ws_246_247) hV_m1 (by omega) (by omega) (by omega) (show l2.toInt < (m 102 l4.toNatClampNeg).toInt from by omega) r_ISR (by omega) (by omega) p1_m1 r_W r_GW r_GU r_OW r_DX r_GG r_HA r_RGc (show (m 94 58).toInt = 0 ∨ (m 94 10).toInt = 5 from by omega) r_UQs r_UQl r_UQk
theorem lp_247uw_53 {X : Nat × (Nat → Int32)} {P : Option ma_V → (Nat → Nat → Int32) → Prop} {T : Nat} {ob : Int32} {ix : Int32} {oo : Int32} {m0 : Nat → Nat → Int32} (h0 : zV m0) (K : ∀ v m₉, zF wr_247 m0 m₉ → zV m₉ → (zW (m₉ 94 7) (m₉ 98) (m₉ 101) (m₉ 102) (m₉ 108)) → (zGW T (m₉ 94 55) (m₉ 109)) → (zGU T (m₉ 94 46) (m₉ 99)) → (zOw (m₉ 99) (m₉ 103) (m₉ 111)) → (zDX (m₉ 94 10) (m₉ 99) (m₉ 112) (m₉ 113) (m₉ 114) (m₉ 94 55) (m₉ 98) (m₉ 101) (m₉ 102) (m₉ 108)) → (zGG (m₉ 94 58) (m₉ 94 56) (m₉ 94 57) (m₉ 106)) → (zHA (m₉ 94 10) (m₉ 94 11) (m₉ 94 13) (m₉ 94 14) (m₉ 94 16) (m₉ 94 61) (m₉ 94 59) (m₉ 94 60) (m₉ 99) (m₉ 102) (m₉ 103) (m₉ 111) (m₉ 117) (m₉ 98) (m₉ 101) (m₉ 108)) → (zRG (m₉ 94 10) (m₉ 94 18) (m₉ 94 64) (m₉ 94 63) (m₉ 99) (m₉ 103) (m₉ 102) (m₉ 116)) → ((m₉ 94 58).toInt = 0 ∨ (m₉ 94 10).toInt = 5) → (zUs (m0 99) (m₉ 99)) → (zUl (m0 108) (m₉ 108) (m0 98) (m0 101)) → P (some (.inl v)) m₉) : ∀ (n : Nat) (m : Nat → Nat → Int32) (l2 : Int32) (l3 : Int32) (l4 : Int32) (l5 : Int32), ((0 : Int)).toNat = n → zF wr_247 m0 m → zV m → (-1 ≤ l4.toInt) → (l4.toInt ≤ 3099) → (0 ≤ l5.toInt) → (l5.toInt ≤ 1) → (l5.toInt = 0 ∨ 0 ≤ l4.toInt) → (zW (m 94 7) (m 98) (m 101) (m 102) (m 108)) → (zGW T (m 94 55) (m 109)) → (zGU T (m 94 46) (m 99)) → (zOw (m 99) (m 103) (m 111)) → (zDX (m 94 10) (m 99) (m 112) (m 113) (m 114) (m 94 55) (m 98) (m 101) (m 102) (m 108)) → (zGG (m 94 58) (m 94 56) (m 94 57) (m 106)) → (zHA (m 94 10) (m 94 11) (m 94 13) (m 94 14) (m 94 16) (m 94 61) (m 94 59) (m 94 60) (m 99) (m 102) (m 103) (m 111) (m 117) (m 98) (m 101) (m 108)) → (zRG (m 94 10) (m 94 18) (m 94 64) (m 94 63) (m 99) (m 103) (m 102) (m 116)) → ((m 94 58).toInt = 0 ∨ (m 94 10).toInt = 5) → (zUs (m0 99) (m 99)) → (zUl (m0 108) (m 108) (m0 98) (m0 101)) → ((m 98) = (m0 98) ∧ (m 101) = (m0 101)) → zm X 5 109 247 53 [(0, .inr (.inr (some 94))), (2, .inl l2), (3, .inl l3), (4, .inl l4), (5, .inl l5)] m P := by
  intro n
  induction n using Nat.strongRecOn with
  | _ n IH =>
    intro m l2 l3 l4 l5 hmu hF hV hi0 hi1 hi2 hi3 hi4 r_W r_GW r_GU r_OW r_DX r_GG r_HA r_RGc hi13 r_UQs r_UQl r_UQk
    refine g_247_53 l2 l3 l4 l5 ?_
    have f1 : 0 ≤ (m 94 58).toInt ∧ (m 94 58).toInt ≤ 1 := rs_94_58 (m := m) hV
    have f2 : 0 ≤ (m 94 10).toInt ∧ (m 94 10).toInt ≤ 6 := rs_94_10 (m := m) hV
    have b3 := i_bd l5
    have li4 : (0 : Int32).toInt = 0 := rfl
    refine zd (fun (h5 : l5 = (0 : Int32)) => ?_) (fun (h5 : ¬ l5 = (0 : Int32)) => ?_)
    · skip
      have g6 := i_eq h5
      try have w60 := (ra_102 hV (k := l4.toNatClampNeg) (by omega)).2
      have hV7 : zV (ma_u m 94 0 (2 : Int32)) := uf_94_0 hV
      exact K ((0 : Int32)) _ (zF_u hF rfl) hV7 r_W r_GW r_GU r_OW r_DX r_GG r_HA r_RGc (show (m 94 58).toInt = 0 ∨ (m 94 10).toInt = 5 from by omega) r_UQs r_UQl
    · skip
      have g8 := i_ne h5
      have b9 := i_bd l2
      refine zd (fun (h10 : l2 < (0 : Int32)) => ?_) (fun (h10 : ¬ l2 < (0 : Int32)) => ?_)
      · skip
        have g11 := i_lt h10
        try have w60 := (ra_102 hV (k := l4.toNatClampNeg) (by omega)).2
        have hV12 : zV (ma_u m 94 0 (3 : Int32)) := uf_94_0 hV
        exact K ((0 : Int32)) _ (zF_u hF rfl) hV12 r_W r_GW r_GU r_OW r_DX r_GG r_HA r_RGc (show (m 94 58).toInt = 0 ∨ (m 94 10).toInt = 5 from by omega) r_UQs r_UQl
      · skip
        have g13 := i_nlt h10
        have b14 := i_bd l4
        have hg15 : (0 ≤ l4 ∧ l4.toNatClampNeg < 3100) := i_ix (by omega) (by omega)
        refine ⟨hg15, ?_⟩
        first | have f16 : 0 ≤ (m 102 l4.toNatClampNeg).toInt ∧ (m 102 l4.toNatClampNeg).toInt ≤ 60 := ra_102 (m := m) hV (k := l4.toNatClampNeg) (i_ix (n := 3100) (by omega) (by omega)).2 | have b17 := i_bd (m 102 l4.toNatClampNeg)
        refine zd (fun (h18 : l2 < (m 102 l4.toNatClampNeg)) => ?_) (fun (h18 : ¬ l2 < (m 102 l4.toNatClampNeg)) => ?_)
        · skip
          have g19 := i_lt h18
          have hg20 : (0 ≤ l4 ∧ l4.toNatClampNeg < 3100) := i_ix (by omega) (by omega)
          refine ⟨hg20, ?_⟩
          first | have f21 : 0 ≤ (m 101 l4.toNatClampNeg).toInt ∧ (m 101 l4.toNatClampNeg).toInt ≤ 17 := ra_101 (m := m) hV (k := l4.toNatClampNeg) (i_ix (n := 3100) (by omega) (by omega)).2 | have b22 := i_bd (m 101 l4.toNatClampNeg)
          have li23 : (16 : Int32).toInt = 16 := rfl
          refine zd (fun (h24 : (m 101 l4.toNatClampNeg) = (16 : Int32)) => ?_) (fun (h24 : ¬ (m 101 l4.toNatClampNeg) = (16 : Int32)) => ?_)
          · skip
            have g25 := i_eq h24
            try have w60 := (ra_102 hV (k := l4.toNatClampNeg) (by omega)).2
            have hV26 : zV (ma_u m 94 0 (0 : Int32)) := uf_94_0 hV
            have b27 := i_bd l3
            exact lp_247uw_105 (ob := ob) (ix := ix) (oo := oo) h0 K _ _ (l2) (l3) (l4) rfl (zF_u hF rfl) hV26 (by omega) (by omega) (by omega) (show l2.toInt < (m 102 l4.toNatClampNeg).toInt from by omega) (show (m 101) l4.toNatClampNeg = 16 ∨ ((m 101) l4.toNatClampNeg < 16 ∧ (((m 98) ((m 101) l4.toNatClampNeg).toNatClampNeg >>> (l2 &&& 31)) &&& 1) = 1) from by first | (exact Or.inl (by assumption)) | (exact Or.inr ⟨Int32.not_le.mp (by assumption), by assumption⟩) | (exfalso; omega; done) | (exfalso; contradiction; done)) r_W r_GW r_GU r_OW r_DX r_GG r_HA r_RGc (show (m 94 58).toInt = 0 ∨ (m 94 10).toInt = 5 from by omega) r_UQs r_UQl r_UQk
          · skip
            have g28 := i_ne h24
            have hg29 : (0 ≤ l4 ∧ l4.toNatClampNeg < 3100) := i_ix (by omega) (by omega)
            refine ⟨hg29, ?_⟩
            refine zd (fun (h30 : (16 : Int32) ≤ (m 101 l4.toNatClampNeg)) => ?_) (fun (h30 : ¬ (16 : Int32) ≤ (m 101 l4.toNatClampNeg)) => ?_)
            · skip
              have g31 := i_le h30
              try have w60 := (ra_102 hV (k := l4.toNatClampNeg) (by omega)).2
              have hV32 : zV (ma_u m 94 0 (4 : Int32)) := uf_94_0 hV
              exact K ((0 : Int32)) _ (zF_u hF rfl) hV32 r_W r_GW r_GU r_OW r_DX r_GG r_HA r_RGc (show (m 94 58).toInt = 0 ∨ (m 94 10).toInt = 5 from by omega) r_UQs r_UQl
            · skip
              have g33 := i_nle h30
              have hg34 : (0 ≤ l4 ∧ l4.toNatClampNeg < 3100) := i_ix (by omega) (by omega)
              refine ⟨hg34, ?_⟩
              have hg35 : (0 ≤ (m 101 l4.toNatClampNeg) ∧ (m 101 l4.toNatClampNeg).toNatClampNeg < 16) := i_ix (by omega) (by omega)
              refine ⟨hg35, ?_⟩
              have b36 := i_bd (((m 98 (m 101 l4.toNatClampNeg).toNatClampNeg) >>> (l2 &&& 31)) &&& (1 : Int32))
              have li37 : (1 : Int32).toInt = 1 := rfl
              refine zd (fun (h38 : (((m 98 (m 101 l4.toNatClampNeg).toNatClampNeg) >>> (l2 &&& 31)) &&& (1 : Int32)) = (1 : Int32)) => ?_) (fun (h38 : ¬ (((m 98 (m 101 l4.toNatClampNeg).toNatClampNeg) >>> (l2 &&& 31)) &&& (1 : Int32)) = (1 : Int32)) => ?_)
              · skip
                have g39 := i_eq h38
                try have w60 := (ra_102 hV (k := l4.toNatClampNeg) (by omega)).2
                have hV40 : zV (ma_u m 94 0 (0 : Int32)) := uf_94_0 hV
                have b41 := i_bd l3
                exact lp_247uw_105 (ob := ob) (ix := ix) (oo := oo) h0 K _ _ (l2) (l3) (l4) rfl (zF_u hF rfl) hV40 (by omega) (by omega) (by omega) (show l2.toInt < (m 102 l4.toNatClampNeg).toInt from by omega) (show (m 101) l4.toNatClampNeg = 16 ∨ ((m 101) l4.toNatClampNeg < 16 ∧ (((m 98) ((m 101) l4.toNatClampNeg).toNatClampNeg >>> (l2 &&& 31)) &&& 1) = 1) from by first | (exact Or.inl (by assumption)) | (exact Or.inr ⟨Int32.not_le.mp (by assumption), by assumption⟩) | (exfalso; omega; done) | (exfalso; contradiction; done)) r_W r_GW r_GU r_OW r_DX r_GG r_HA r_RGc (show (m 94 58).toInt = 0 ∨ (m 94 10).toInt = 5 from by omega) r_UQs r_UQl r_UQk
              · skip
                have g42 := i_ne h38
                try have w60 := (ra_102 hV (k := l4.toNatClampNeg) (by omega)).2
                have hV43 : zV (ma_u m 94 0 (4 : Int32)) := uf_94_0 hV
                exact K ((0 : Int32)) _ (zF_u hF rfl) hV43 r_W r_GW r_GU r_OW r_DX r_GG r_HA r_RGc (show (m 94 58).toInt = 0 ∨ (m 94 10).toInt = 5 from by omega) r_UQs r_UQl
        · skip
          have g44 := i_nlt h18
          try have w60 := (ra_102 hV (k := l4.toNatClampNeg) (by omega)).2
          have hV45 : zV (ma_u m 94 0 (3 : Int32)) := uf_94_0 hV
          exact K ((0 : Int32)) _ (zF_u hF rfl) hV45 r_W r_GW r_GU r_OW r_DX r_GG r_HA r_RGc (show (m 94 58).toInt = 0 ∨ (m 94 10).toInt = 5 from by omega) r_UQs r_UQl
theorem sp_247uw {X : Nat × (Nat → Int32)} {P : Option ma_V → (Nat → Nat → Int32) → Prop} {T : Nat} {m : Nat → Nat → Int32} (ob : Int32) (ix : Int32) (oo : Int32) (hV : zV m) (r_W : zW (m 94 7) (m 98) (m 101) (m 102) (m 108)) (r_GW : zGW T (m 94 55) (m 109)) (r_GU : zGU T (m 94 46) (m 99)) (r_OW : zOw (m 99) (m 103) (m 111)) (r_DX : zDX (m 94 10) (m 99) (m 112) (m 113) (m 114) (m 94 55) (m 98) (m 101) (m 102) (m 108)) (r_GG : zGG (m 94 58) (m 94 56) (m 94 57) (m 106)) (r_HA : zHA (m 94 10) (m 94 11) (m 94 13) (m 94 14) (m 94 16) (m 94 61) (m 94 59) (m 94 60) (m 99) (m 102) (m 103) (m 111) (m 117) (m 98) (m 101) (m 108)) (r_RGc : zRG (m 94 10) (m 94 18) (m 94 64) (m 94 63) (m 99) (m 103) (m 102) (m 116)) (hpre8 : (m 94 58).toInt = 0 ∨ (m 94 10).toInt = 5) (KZ : ∀ v m₉, zV (zov wr_247 m m₉) → (zW (m 94 7) (m 98) (m 101) (m 102) (m₉ 108)) → (zGW T (m₉ 94 55) (m₉ 109)) → (zGU T (m 94 46) (m₉ 99)) → (zOw (m₉ 99) (m 103) (m₉ 111)) → (zDX (m 94 10) (m₉ 99) (m 112) (m₉ 113) (m₉ 114) (m₉ 94 55) (m 98) (m 101) (m 102) (m₉ 108)) → (zGG (m 94 58) (m₉ 94 56) (m 94 57) (m₉ 106)) → (zHA (m 94 10) (m 94 11) (m 94 13) (m 94 14) (m 94 16) (m 94 61) (m 94 59) (m 94 60) (m₉ 99) (m 102) (m 103) (m₉ 111) (m₉ 117) (m 98) (m 101) (m₉ 108)) → (zRG (m 94 10) (m 94 18) (m 94 64) (m 94 63) (m₉ 99) (m 103) (m 102) (m 116)) → ((m 94 58).toInt = 0 ∨ (m 94 10).toInt = 5) → (zUs (m 99) (m₉ 99)) → (zUl (m 108) (m₉ 108) (m 98) (m 101)) → P (some (.inl v)) (zov wr_247 m m₉)) : zm X 5 109 247 0 [(0, .inr (.inr (some 94))), (1, .inl ob), (2, .inl ix), (3, .inl oo)] m P := by
  have K : ∀ v m₉, zF wr_247 m m₉ → zV m₉ → (zW (m₉ 94 7) (m₉ 98) (m₉ 101) (m₉ 102) (m₉ 108)) → (zGW T (m₉ 94 55) (m₉ 109)) → (zGU T (m₉ 94 46) (m₉ 99)) → (zOw (m₉ 99) (m₉ 103) (m₉ 111)) → (zDX (m₉ 94 10) (m₉ 99) (m₉ 112) (m₉ 113) (m₉ 114) (m₉ 94 55) (m₉ 98) (m₉ 101) (m₉ 102) (m₉ 108)) → (zGG (m₉ 94 58) (m₉ 94 56) (m₉ 94 57) (m₉ 106)) → (zHA (m₉ 94 10) (m₉ 94 11) (m₉ 94 13) (m₉ 94 14) (m₉ 94 16) (m₉ 94 61) (m₉ 94 59) (m₉ 94 60) (m₉ 99) (m₉ 102) (m₉ 103) (m₉ 111) (m₉ 117) (m₉ 98) (m₉ 101) (m₉ 108)) → (zRG (m₉ 94 10) (m₉ 94 18) (m₉ 94 64) (m₉ 94 63) (m₉ 99) (m₉ 103) (m₉ 102) (m₉ 116)) → ((m₉ 94 58).toInt = 0 ∨ (m₉ 94 10).toInt = 5) → (zUs (m 99) (m₉ 99)) → (zUl (m 108) (m₉ 108) (m 98) (m 101)) → P (some (.inl v)) m₉ := by
    intro v m₉ hf z q0 q1 q2 q3 q4 q5 q6 q7 q8 q9 q10
    have e := zov_eq hf
    rw [e] at z ⊢
    try rw [e] at q0
    try rw [e] at q1
    try rw [e] at q2
    try rw [e] at q3
    try rw [e] at q4
    try rw [e] at q5
    try rw [e] at q6
    try rw [e] at q7
    try rw [e] at q8
    try rw [e] at q9
    try rw [e] at q10
    exact KZ v m₉ z q0 q1 q2 q3 q4 q5 q6 q7 q8 q9 q10
  refine g_247_0 ob ix oo ?_
  have f1 : 0 ≤ (m 94 58).toInt ∧ (m 94 58).toInt ≤ 1 := rs_94_58 (m := m) hV
  have f2 : 0 ≤ (m 94 10).toInt ∧ (m 94 10).toInt ≤ 6 := rs_94_10 (m := m) hV
  have f3 : 0 ≤ (m 94 8).toInt ∧ (m 94 8).toInt ≤ 1 := rs_94_8 (m := m) hV
  have li4 : (0 : Int32).toInt = 0 := rfl
  refine zd (fun (h5 : (m 94 8) = (0 : Int32)) => ?_) (fun (h5 : ¬ (m 94 8) = (0 : Int32)) => ?_)
  · skip
    have g6 := i_eq h5
    try have w60 := (ra_102 hV (k := l4.toNatClampNeg) (by omega)).2
    have hV7 : zV (ma_u m 94 0 (1 : Int32)) := uf_94_0 hV
    exact K ((0 : Int32)) _ (zF_u zF_rfl rfl) hV7 r_W r_GW r_GU r_OW r_DX r_GG r_HA r_RGc (show (m 94 58).toInt = 0 ∨ (m 94 10).toInt = 5 from by omega) (show zUs (m 99) (m 99) from by first | (exact Us_rfl) | (exact Us_w0 Us_rfl) | (exact Us_rfl) | (exfalso; omega; done) | (exfalso; contradiction; done)) (show zUl (m 108) (m 108) (m 98) (m 101) from by first | (exact Ul_rfl) | (exfalso; omega; done) | (exfalso; contradiction; done))
  · skip
    have g8 := i_ne h5
    have b9 := i_bd ob
    have hV10 : zV (ma_u m 94 0 (0 : Int32)) := uf_94_0 hV
    refine sp_245 (ob) hV10 r_W r_DX (fun v2 m1 hV_m1 p0_m1 p1_m1 => zmi_n ?_)
    have p0_m1 : -1 ≤ v2.toInt ∧ v2.toInt ≤ 3099 := p0_m1
    have p1_m1 : v2.toInt < 0 ∨ (m 99) v2.toNatClampNeg ≠ 0 := p1_m1
    have b11 := i_bd v2
    refine zd (fun (h12 : v2 < (0 : Int32)) => ?_) (fun (h12 : ¬ v2 < (0 : Int32)) => ?_)
    · skip
      have g13 := i_lt h12
      try have w60 := (ra_102 hV (k := l4.toNatClampNeg) (by omega)).2
      have b14 := i_bd ix
      have b15 := i_bd oo
      exact lp_247uw_53 (ob := ob) (ix := ix) (oo := oo) hV K _ _ (ix) (oo) (v2) ((0 : Int32)) rfl (zF_zov (zF_u zF_rfl rfl) ws_245_247) hV_m1 (by omega) (by omega) (by omega) (by omega) (by omega) r_W r_GW r_GU r_OW r_DX r_GG r_HA r_RGc (show (m 94 58).toInt = 0 ∨ (m 94 10).toInt = 5 from by omega) (show zUs (m 99) (m 99) from by first | (exact Us_rfl) | (exact Us_w0 Us_rfl) | (exact Us_rfl) | (exfalso; omega; done) | (exfalso; contradiction; done)) (show zUl (m 108) (m 108) (m 98) (m 101) from by first | (exact Ul_rfl) | (exfalso; omega; done) | (exfalso; contradiction; done)) (show (m 98) = (m 98) ∧ (m 101) = (m 101) from by first | (exact ⟨rfl, rfl⟩) | (exfalso; omega; done) | (exfalso; contradiction; done))
    · skip
      have g16 := i_nlt h12
      have b17 := i_bd oo
      have li18 : (-1 : Int32).toInt = -1 := rfl
      refine zd (fun (h19 : oo = (-1 : Int32)) => ?_) (fun (h19 : ¬ oo = (-1 : Int32)) => ?_)
      · skip
        have g20 := i_eq h19
        try have w60 := (ra_102 hV (k := l4.toNatClampNeg) (by omega)).2
        have b21 := i_bd ix
        have li22 : (1 : Int32).toInt = 1 := rfl
        exact lp_247uw_53 (ob := ob) (ix := ix) (oo := oo) hV K _ _ (ix) (oo) (v2) ((1 : Int32)) rfl (zF_zov (zF_u zF_rfl rfl) ws_245_247) hV_m1 (by omega) (by omega) (by omega) (by omega) (by omega) r_W r_GW r_GU r_OW r_DX r_GG r_HA r_RGc (show (m 94 58).toInt = 0 ∨ (m 94 10).toInt = 5 from by omega) (show zUs (m 99) (m 99) from by first | (exact Us_rfl) | (exact Us_w0 Us_rfl) | (exact Us_rfl) | (exfalso; omega; done) | (exfalso; contradiction; done)) (show zUl (m 108) (m 108) (m 98) (m 101) from by first | (exact Ul_rfl) | (exfalso; omega; done) | (exfalso; contradiction; done)) (show (m 98) = (m 98) ∧ (m 101) = (m 101) from by first | (exact ⟨rfl, rfl⟩) | (exfalso; omega; done) | (exfalso; contradiction; done))
      · skip
        have g23 := i_ne h19
        refine sp_245 (oo) hV_m1 r_W r_DX (fun v4 m3 hV_m3 p0_m3 p1_m3 => zmi_n ?_)
        have p0_m3 : -1 ≤ v4.toInt ∧ v4.toInt ≤ 3099 := p0_m3
        have p1_m3 : v4.toInt < 0 ∨ (m 99) v4.toNatClampNeg ≠ 0 := p1_m3
        have b24 := i_bd v4
        refine zd (fun (h25 : v4 < (0 : Int32)) => ?_) (fun (h25 : ¬ v4 < (0 : Int32)) => ?_)
        · skip
          have g26 := i_lt h25
          try have w60 := (ra_102 hV (k := l4.toNatClampNeg) (by omega)).2
          have b27 := i_bd ix
          exact lp_247uw_53 (ob := ob) (ix := ix) (oo := oo) hV K _ _ (ix) (oo) (v2) ((0 : Int32)) rfl (zF_zov (zF_zov (zF_u zF_rfl rfl) ws_245_247) ws_245_247) hV_m3 (by omega) (by omega) (by omega) (by omega) (by omega) r_W r_GW r_GU r_OW r_DX r_GG r_HA r_RGc (show (m 94 58).toInt = 0 ∨ (m 94 10).toInt = 5 from by omega) (show zUs (m 99) (m 99) from by first | (exact Us_rfl) | (exact Us_w0 Us_rfl) | (exact Us_rfl) | (exfalso; omega; done) | (exfalso; contradiction; done)) (show zUl (m 108) (m 108) (m 98) (m 101) from by first | (exact Ul_rfl) | (exfalso; omega; done) | (exfalso; contradiction; done)) (show (m 98) = (m 98) ∧ (m 101) = (m 101) from by first | (exact ⟨rfl, rfl⟩) | (exfalso; omega; done) | (exfalso; contradiction; done))
        · skip
          have g28 := i_nlt h25
          try have w60 := (ra_102 hV (k := l4.toNatClampNeg) (by omega)).2
          have b29 := i_bd ix
          have li30 : (1 : Int32).toInt = 1 := rfl
          exact lp_247uw_53 (ob := ob) (ix := ix) (oo := oo) hV K _ _ (ix) (oo) (v2) ((1 : Int32)) rfl (zF_zov (zF_zov (zF_u zF_rfl rfl) ws_245_247) ws_245_247) hV_m3 (by omega) (by omega) (by omega) (by omega) (by omega) r_W r_GW r_GU r_OW r_DX r_GG r_HA r_RGc (show (m 94 58).toInt = 0 ∨ (m 94 10).toInt = 5 from by omega) (show zUs (m 99) (m 99) from by first | (exact Us_rfl) | (exact Us_w0 Us_rfl) | (exact Us_rfl) | (exfalso; omega; done) | (exfalso; contradiction; done)) (show zUl (m 108) (m 108) (m 98) (m 101) from by first | (exact Ul_rfl) | (exfalso; omega; done) | (exfalso; contradiction; done)) (show (m 98) = (m 98) ∧ (m 101) = (m 101) from by first | (exact ⟨rfl, rfl⟩) | (exfalso; omega; done) | (exfalso; contradiction; done))

