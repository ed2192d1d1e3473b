/-! from 95.za4 -/
/-! the reference answers (written by wip/tools/gen15a.py) -/
set_option maxHeartbeats 8000000 in
theorem lp_247an_207 {X : Nat × (Nat → Int32)} {P : Option ma_V → (Nat → Nat → Int32) → Prop} {T : Nat} {aa : Nat→Nat→Int32} {ro : Int32} {fo : Int32} {le : Int32} {ra : Int32} {pi : Int32} {ob : Int32} {ix : Int32} {oo : Int32} {m0 : Nat → Nat → Int32} (h0 : zV m0) (K : ∀ v m₉, zF wr_247 m0 m₉ → zV m₉ → (qNli aa ob ix oo (m₉ 94 0) v) → P (some (.inl v)) m₉) : ∀ (n : Nat) (m : Nat → Nat → Int32) (l6 : Int32) (l7 : Int32) (l8 : Int32), ((0 : Int)).toNat = n → zF wr_247 m0 m → zV m → (-1 ≤ l6.toInt) → (l6.toInt ≤ 3099) → (-1 ≤ l7.toInt) → (l7.toInt ≤ 3099) → ((m 94 0).toInt = 0) → (zW (m 94 7) (m 98) (m 101) (m 102) (m 108)) → (zGW T (m 94 55) (m 109)) → (zGU T (m 94 46) (m 99)) → (zOw (m 99) (m 103) (m 111)) → (zDX (m 94 10) (m 99) (m 112) (m 113) (m 114) (m 94 55) (m 98) (m 101) (m 102) (m 108)) → (zGG (m 94 58) (m 94 56) (m 94 57) (m 106)) → (zHA (m 94 10) (m 94 11) (m 94 13) (m 94 14) (m 94 16) (m 94 61) (m 94 59) (m 94 60) (m 99) (m 102) (m 103) (m 111) (m 117) (m 98) (m 101) (m 108)) → (zRG (m 94 10) (m 94 18) (m 94 64) (m 94 63) (m 99) (m 103) (m 102) (m 116)) → ((m 94 58).toInt = 0 ∨ (m 94 10).toInt = 5) → ((zRq aa ob ∧ (oo = -1 ∨ zRq aa oo)) ∧ zHw aa ob ix ∧ zIr aa ob ix) → (l8 = aNm aa (aRef aa ob.toNatClampNeg ix)) → (zGh ro fo le ra pi) → zm X 5 109 247 207 [(0, .inr (.inr (some 94))), (6, .inl l6), (7, .inl l7), (8, .inl l8)] m P := by
  intro n
  induction n using Nat.strongRecOn with
  | _ n IH =>
    intro m l6 l7 l8 hmu hF hV hi0 hi1 hi2 hi3 hi4 r_W r_GW r_GU r_OW r_DX r_GG r_HA r_RGc hi13 r_FIN r_ANl r_GHq
    refine g_247_207 l6 l7 l8 ?_
    have b1 := i_bd (m 94 0)
    have f2 : 0 ≤ (m 94 58).toInt ∧ (m 94 58).toInt ≤ 1 := rs_94_58 (m := m) hV
    have f3 : 0 ≤ (m 94 10).toInt ∧ (m 94 10).toInt ≤ 6 := rs_94_10 (m := m) hV
    have b4 := i_bd l7
    have b5 := i_bd l6
    refine sp_240 (l7) (l6) hV (by omega) (by omega) r_GG (show (m 94 58).toInt = 0 ∨ (m 94 10).toInt = 5 from by omega) (fun m1 hV_m1 p0_m1 => zmv_n ?_)
    have p0_m1 : zGG (m 94 58) (m1 94 56) (m 94 57) (m1 106) := p0_m1
    refine sp_241 (l7) hV_m1 (by omega) r_W r_GW r_GU r_OW r_DX (fun m3 hV_m3 p0_m3 p1_m3 p2_m3 p3_m3 p4_m3 => zmv_n ?_)
    have p0_m3 : zGW T (m3 94 55) (m3 109) := p0_m3
    have p1_m3 : zGU T (m 94 46) (m3 99) := p1_m3
    have p2_m3 : zOw (m3 99) (m 103) (m3 111) := p2_m3
    have p3_m3 : zDX (m 94 10) (m3 99) (m 112) (m3 113) (m3 114) (m3 94 55) (m 98) (m 101) (m 102) (m 108) := p3_m3
    have p4_m3 : (m 94 10).toInt ≠ 4 → ((m3 99) = (m 99) ∧ (m3 111) = (m 111) ∧ (m3 113) = (m 113) ∧ (m3 114) = (m 114) ∧ (m3 94 55) = (m 94 55) ∧ (m3 109) = (m 109)) := p4_m3
    try have w60 := (ra_102 hV (k := l4.toNatClampNeg) (by omega)).2
    have b6 := i_bd l8
    exact K (l8) _ (zF_zov (zF_zov hF ws_240_247) ws_241_247) hV_m3 (show qNli aa ob ix oo (m 94 0) l8 from by first | (exact Or.inr ⟨r_FIN.1, Or.inr ⟨r_FIN.2.1, Or.inr ⟨r_FIN.2.2, by omega, r_ANl⟩⟩⟩) | (exfalso; omega; done) | (exfalso; contradiction; done))
set_option maxHeartbeats 8000000 in
theorem lp_247an_149 {X : Nat × (Nat → Int32)} {P : Option ma_V → (Nat → Nat → Int32) → Prop} {T : Nat} {aa : Nat→Nat→Int32} {ro : Int32} {fo : Int32} {le : Int32} {ra : Int32} {pi : Int32} {ob : Int32} {ix : Int32} {oo : Int32} {m0 : Nat → Nat → Int32} (h0 : zV m0) (K : ∀ v m₉, zF wr_247 m0 m₉ → zV m₉ → (qNli aa ob ix oo (m₉ 94 0) v) → P (some (.inl v)) m₉) : ∀ (n : Nat) (m : Nat → Nat → Int32) (l2 : Int32) (l4 : Int32) (l6 : Int32) (l7 : Int32) (l8 : Int32), ((0 : Int)).toNat = n → zF wr_247 m0 m → zV m → (0 ≤ l4.toInt) → (l4.toInt ≤ 3099) → (0 ≤ l2.toInt) → (l2.toInt < (m 102 l4.toNatClampNeg).toInt) → ((m 101) l4.toNatClampNeg = 16 ∨ ((m 101) l4.toNatClampNeg < 16 ∧ (((m 98) ((m 101) l4.toNatClampNeg).toNatClampNeg >>> (l2 &&& 31)) &&& 1) = 1)) → (-1 ≤ l6.toInt) → (l6.toInt ≤ 3099) → (-1 ≤ l7.toInt) → (l7.toInt ≤ 3099) → ((m 94 0).toInt = 0) → (l6.toInt < 0 ∨ (m 99) l6.toNatClampNeg ≠ 0) → (zW (m 94 7) (m 98) (m 101) (m 102) (m 108)) → (zGW T (m 94 55) (m 109)) → (zGU T (m 94 46) (m 99)) → (zOw (m 99) (m 103) (m 111)) → (zDX (m 94 10) (m 99) (m 112) (m 113) (m 114) (m 94 55) (m 98) (m 101) (m 102) (m 108)) → (zGG (m 94 58) (m 94 56) (m 94 57) (m 106)) → (zHA (m 94 10) (m 94 11) (m 94 13) (m 94 14) (m 94 16) (m 94 61) (m 94 59) (m 94 60) (m 99) (m 102) (m 103) (m 111) (m 117) (m 98) (m 101) (m 108)) → (zRG (m 94 10) (m 94 18) (m 94 64) (m 94 63) (m 99) (m 103) (m 102) (m 116)) → ((m 94 58).toInt = 0 ∨ (m 94 10).toInt = 5) → (qRB (m 99) (m 100) (m 98) (m 101) (m 102) (m 103) (m 107) (m 108) (m 109) (m 111) (m 112) (m 113) (m 114) (m 94 55) (m 94 46) ro fo le ra pi aa) → (qI aa) → (l2 = ix) → (qRe (m 99) (m 100) aa ob l4) → (oo = -1 ∨ zRq aa oo) → (l8 = aNm aa (aRef aa ob.toNatClampNeg ix)) → zm X 5 109 247 149 [(0, .inr (.inr (some 94))), (2, .inl l2), (4, .inl l4), (6, .inl l6), (7, .inl l7), (8, .inl l8)] m P := by
  intro n
  induction n using Nat.strongRecOn with
  | _ n IH =>
    intro m l2 l4 l6 l7 l8 hmu hF hV hi0 hi1 hi2 hi3 r_ISR hi5 hi6 hi7 hi8 hi9 r_PU r_W r_GW r_GU r_OW r_DX r_GG r_HA r_RGc hi19 r_RB r_QI r_L2e r_REl r_THy r_ANl
    refine g_247_149 l2 l4 l6 l7 l8 ?_
    have b1 := i_bd l4
    first | have f2 : 0 ≤ (m 102 l4.toNatClampNeg).toInt ∧ (m 102 l4.toNatClampNeg).toInt ≤ 60 := ra_102 (m := m) hV (k := l4.toNatClampNeg) (i_ix (n := 3100) (by omega) (by omega)).2 | have b3 := i_bd (m 102 l4.toNatClampNeg)
    have b4 := i_bd (m 94 0)
    have f5 : 0 ≤ (m 94 58).toInt ∧ (m 94 58).toInt ≤ 1 := rs_94_58 (m := m) hV
    have f6 : 0 ≤ (m 94 10).toInt ∧ (m 94 10).toInt ≤ 6 := rs_94_10 (m := m) hV
    have li7 : (60 : Int32).toInt = 60 := rfl
    first | have e8 : (l4 * (60 : Int32)).toInt = l4.toInt * 60 := i_mulk rfl (by omega) (by omega) | have b9 := i_bd (l4 * (60 : Int32))
    have b10 := i_bd l2
    first | have e11 : ((l4 * (60 : Int32)) + l2).toInt = (l4 * (60 : Int32)).toInt + l2.toInt := i_add (by omega) (by omega) | have b12 := i_bd ((l4 * (60 : Int32)) + l2)
    have hg13 : (0 ≤ ((l4 * (60 : Int32)) + l2) ∧ ((l4 * (60 : Int32)) + l2).toNatClampNeg < 186000) := i_ix (by omega) (by omega)
    refine ⟨hg13, ?_⟩
    have li14 : (3 : Int32).toInt = 3 := rfl
    refine zd (fun (h15 : (m 94 10) = (3 : Int32)) => ?_) (fun (h15 : ¬ (m 94 10) = (3 : Int32)) => ?_)
    · skip
      have g16 := i_eq h15
      have hg17 : (0 ≤ l4 ∧ l4.toNatClampNeg < 3100) := i_ix (by omega) (by omega)
      refine ⟨hg17, ?_⟩
      have f18 : 0 ≤ (m 94 14).toInt ∧ (m 94 14).toInt ≤ 1500 := rs_94_14 (m := m) hV
      first | have f19 : 0 ≤ (m 103 l4.toNatClampNeg).toInt ∧ (m 103 l4.toNatClampNeg).toInt ≤ 4599 := ra_103 (m := m) hV (k := l4.toNatClampNeg) (i_ix (n := 3100) (by omega) (by omega)).2 | have b20 := i_bd (m 103 l4.toNatClampNeg)
      refine zd (fun (h21 : (m 94 14) ≤ (m 103 l4.toNatClampNeg)) => ?_) (fun (h21 : ¬ (m 94 14) ≤ (m 103 l4.toNatClampNeg)) => ?_)
      · skip
        have g22 := i_le h21
        try have w60 := (ra_102 hV (k := l4.toNatClampNeg) (by omega)).2
        try have ww := W_isr r_W (s := l4) (i := l2) (by omega) (by omega) (by omega) (by omega) (by omega) r_ISR
        have hV23 : zV (ma_u m 108 ((l4 * (60 : Int32)) + l2).toNatClampNeg l6) := ua_108 hV
        have b24 := i_bd l6
        have b25 := i_bd l7
        have b26 := i_bd l8
        exact lp_247an_207 (ob := ob) (ix := ix) (oo := oo) h0 K _ _ (l6) (l7) (l8) rfl (zF_u hF rfl) hV23 (by omega) (by omega) (by omega) (by omega) (show (m 94 0).toInt = 0 from by omega) (show zW (m 94 7) (m 98) (m 101) (m 102) ((ma_u m 108 ((l4 * (60 : Int32)) + l2).toNatClampNeg l6) 108) from by first | (exact W_link r_W (by omega) (by omega) (fun s2 i2 hs2 hi2 => zrf_link (s := l4) (i := l2) (by omega) (by omega) (by omega) (by omega) r_ISR s2 i2 (by have := (ra_102 hV hs2).2; omega))) | (exfalso; omega; done) | (exfalso; contradiction; done)) r_GW r_GU r_OW (show zDX (m 94 10) (m 99) (m 112) (m 113) (m 114) (m 94 55) (m 98) (m 101) (m 102) ((ma_u m 108 ((l4 * (60 : Int32)) + l2).toNatClampNeg l6) 108) from by first | (exact DX_link r_DX (fun _ => r_PU) (fun s2 i2 hs2 hi2 => zrf_link (s := l4) (i := l2) (by omega) (by omega) (by omega) (by omega) r_ISR s2 i2 (by have := (ra_102 hV hs2).2; omega))) | (exfalso; omega; done) | (exfalso; contradiction; done)) r_GG (show zHA (m 94 10) (m 94 11) (m 94 13) (m 94 14) (m 94 16) (m 94 61) (m 94 59) (m 94 60) (m 99) (m 102) (m 103) (m 111) (m 117) (m 98) (m 101) ((ma_u m 108 ((l4 * (60 : Int32)) + l2).toNatClampNeg l6) 108) from by first | (exact HA_link r_HA (fun _ z => z) (fun s2 i2 hs2 hi2 => zrf_link (s := l4) (i := l2) (by omega) (by omega) (by omega) (by omega) r_ISR s2 i2 (by have := (ra_102 hV hs2).2; omega)) (fun hp hl => by first | (exfalso; omega) | exact Or.inl (by omega) | exact Or.inr (Or.inl (by omega)))) | (exfalso; omega; done) | (exfalso; contradiction; done)) r_RGc (show (m 94 58).toInt = 0 ∨ (m 94 10).toInt = 5 from by omega) (show (zRq aa ob ∧ (oo = -1 ∨ zRq aa oo)) ∧ zHw aa ob ix ∧ zIr aa ob ix from by first | (exact ⟨⟨(Re_y r_REl (by omega)).2.2.2, r_THy⟩, (Hw_y r_RB r_REl (by omega)).mpr (by rw [← r_L2e]; exact ⟨by omega, by omega⟩), by rw [← r_L2e]; exact (Ir_y r_RB r_REl (by omega) (by omega) (by omega)).mpr r_ISR⟩) | (exfalso; omega; done) | (exfalso; contradiction; done)) r_ANl (show zGh ro fo le ra pi from by first | (exact trivial) | (exfalso; omega; done) | (exfalso; contradiction; done))
      · skip
        have g27 := i_nle h21
        have b28 := i_bd l6
        have li29 : (0 : Int32).toInt = 0 := rfl
        refine zd (fun (h30 : l6 < (0 : Int32)) => ?_) (fun (h30 : ¬ l6 < (0 : Int32)) => ?_)
        · skip
          have g31 := i_lt h30
          try have w60 := (ra_102 hV (k := l4.toNatClampNeg) (by omega)).2
          try have ww := W_isr r_W (s := l4) (i := l2) (by omega) (by omega) (by omega) (by omega) (by omega) r_ISR
          have hV32 : zV (ma_u m 108 ((l4 * (60 : Int32)) + l2).toNatClampNeg l6) := ua_108 hV
          have b33 := i_bd l7
          have b34 := i_bd l8
          exact lp_247an_207 (ob := ob) (ix := ix) (oo := oo) h0 K _ _ (l6) (l7) (l8) rfl (zF_u hF rfl) hV32 (by omega) (by omega) (by omega) (by omega) (show (m 94 0).toInt = 0 from by omega) (show zW (m 94 7) (m 98) (m 101) (m 102) ((ma_u m 108 ((l4 * (60 : Int32)) + l2).toNatClampNeg l6) 108) from by first | (exact W_link r_W (by omega) (by omega) (fun s2 i2 hs2 hi2 => zrf_link (s := l4) (i := l2) (by omega) (by omega) (by omega) (by omega) r_ISR s2 i2 (by have := (ra_102 hV hs2).2; omega))) | (exfalso; omega; done) | (exfalso; contradiction; done)) r_GW r_GU r_OW (show zDX (m 94 10) (m 99) (m 112) (m 113) (m 114) (m 94 55) (m 98) (m 101) (m 102) ((ma_u m 108 ((l4 * (60 : Int32)) + l2).toNatClampNeg l6) 108) from by first | (exact DX_link r_DX (fun _ => r_PU) (fun s2 i2 hs2 hi2 => zrf_link (s := l4) (i := l2) (by omega) (by omega) (by omega) (by omega) r_ISR s2 i2 (by have := (ra_102 hV hs2).2; omega))) | (exfalso; omega; done) | (exfalso; contradiction; done)) r_GG (show zHA (m 94 10) (m 94 11) (m 94 13) (m 94 14) (m 94 16) (m 94 61) (m 94 59) (m 94 60) (m 99) (m 102) (m 103) (m 111) (m 117) (m 98) (m 101) ((ma_u m 108 ((l4 * (60 : Int32)) + l2).toNatClampNeg l6) 108) from by first | (exact HA_link r_HA (fun _ z => z) (fun s2 i2 hs2 hi2 => zrf_link (s := l4) (i := l2) (by omega) (by omega) (by omega) (by omega) r_ISR s2 i2 (by have := (ra_102 hV hs2).2; omega)) (fun hp hl => by first | (exfalso; omega) | exact Or.inl (by omega) | exact Or.inr (Or.inl (by omega)))) | (exfalso; omega; done) | (exfalso; contradiction; done)) r_RGc (show (m 94 58).toInt = 0 ∨ (m 94 10).toInt = 5 from by omega) (show (zRq aa ob ∧ (oo = -1 ∨ zRq aa oo)) ∧ zHw aa ob ix ∧ zIr aa ob ix from by first | (exact ⟨⟨(Re_y r_REl (by omega)).2.2.2, r_THy⟩, (Hw_y r_RB r_REl (by omega)).mpr (by rw [← r_L2e]; exact ⟨by omega, by omega⟩), by rw [← r_L2e]; exact (Ir_y r_RB r_REl (by omega) (by omega) (by omega)).mpr r_ISR⟩) | (exfalso; omega; done) | (exfalso; contradiction; done)) r_ANl (show zGh ro fo le ra pi from by first | (exact trivial) | (exfalso; omega; done) | (exfalso; contradiction; done))
        · skip
          have g35 := i_nlt h30
          have hg36 : (0 ≤ l6 ∧ l6.toNatClampNeg < 3100) := i_ix (by omega) (by omega)
          refine ⟨hg36, ?_⟩
          first | have f37 : 0 ≤ (m 103 l6.toNatClampNeg).toInt ∧ (m 103 l6.toNatClampNeg).toInt ≤ 4599 := ra_103 (m := m) hV (k := l6.toNatClampNeg) (i_ix (n := 3100) (by omega) (by omega)).2 | have b38 := i_bd (m 103 l6.toNatClampNeg)
          refine zd (fun (h39 : (m 94 14) ≤ (m 103 l6.toNatClampNeg)) => ?_) (fun (h39 : ¬ (m 94 14) ≤ (m 103 l6.toNatClampNeg)) => ?_)
          · skip
            have g40 := i_le h39
            have hg41 : (0 ≤ l4 ∧ l4.toNatClampNeg < 3100) := i_ix (by omega) (by omega)
            refine ⟨hg41, ?_⟩
            have f42 : 0 ≤ (m 94 16).toInt ∧ (m 94 16).toInt ≤ 64 := rs_94_16 (m := m) hV
            try have ca4 := (r_HA.2 (by omega)).1
            have hg43 : (m 94 16) ≠ 0 := i_nz (by omega)
            refine ⟨hg43, ?_⟩
            first | have e44 : ((m 103 l4.toNatClampNeg) + (1 : Int32)).toInt = (m 103 l4.toNatClampNeg).toInt + (1) := i_addk rfl (by omega) (by omega) | have b45 := i_bd ((m 103 l4.toNatClampNeg) + (1 : Int32))
            first | have e46 : (((m 103 l4.toNatClampNeg) + (1 : Int32)) + l2).toInt = ((m 103 l4.toNatClampNeg) + (1 : Int32)).toInt + l2.toInt := i_add (by omega) (by omega) | have b47 := i_bd (((m 103 l4.toNatClampNeg) + (1 : Int32)) + l2)
            first | have f48 := i_div (x := (((m 103 l4.toNatClampNeg) + (1 : Int32)) + l2)) (y := (m 94 16)) (by omega) (by omega) | have b49 := i_bd ((((m 103 l4.toNatClampNeg) + (1 : Int32)) + l2) / (m 94 16))
            try have ca4 := (r_HA.2 (by omega)).1
            try have dv : 0 ≤ (((((m 103 l4.toNatClampNeg) + (1 : Int32)) + l2) / (m 94 16))).toInt ∧ (((((m 103 l4.toNatClampNeg) + (1 : Int32)) + l2) / (m 94 16))).toInt ≤ 499 := i_div4 (by omega) (by omega) (by omega)
            have hg50 : (0 ≤ ((((m 103 l4.toNatClampNeg) + (1 : Int32)) + l2) / (m 94 16)) ∧ ((((m 103 l4.toNatClampNeg) + (1 : Int32)) + l2) / (m 94 16)).toNatClampNeg < 512) := i_ix (by omega) (by omega)
            refine ⟨hg50, ?_⟩
            try have w60 := (ra_102 hV (k := l4.toNatClampNeg) (by omega)).2
            try have ww := W_isr r_W (s := l4) (i := l2) (by omega) (by omega) (by omega) (by omega) (by omega) r_ISR
            have hV51 : zV (ma_u m 108 ((l4 * (60 : Int32)) + l2).toNatClampNeg l6) := ua_108 hV
            have li53 : (1 : Int32).toInt = 1 := rfl
            have hV52 : zV (ma_u (ma_u m 108 ((l4 * (60 : Int32)) + l2).toNatClampNeg l6) 117 ((((m 103 l4.toNatClampNeg) + (1 : Int32)) + l2) / (m 94 16)).toNatClampNeg (1 : Int32)) := ua_117 hV51 (by omega) (by omega)
            have b54 := i_bd l7
            have b55 := i_bd l8
            exact lp_247an_207 (ob := ob) (ix := ix) (oo := oo) h0 K _ _ (l6) (l7) (l8) rfl (zF_u (zF_u hF rfl) rfl) hV52 (by omega) (by omega) (by omega) (by omega) (show (m 94 0).toInt = 0 from by omega) (show zW (m 94 7) (m 98) (m 101) (m 102) ((ma_u m 108 ((l4 * (60 : Int32)) + l2).toNatClampNeg l6) 108) from by first | (exact W_link r_W (by omega) (by omega) (fun s2 i2 hs2 hi2 => zrf_link (s := l4) (i := l2) (by omega) (by omega) (by omega) (by omega) r_ISR s2 i2 (by have := (ra_102 hV hs2).2; omega))) | (exfalso; omega; done) | (exfalso; contradiction; done)) r_GW r_GU r_OW (show zDX (m 94 10) (m 99) (m 112) (m 113) (m 114) (m 94 55) (m 98) (m 101) (m 102) ((ma_u m 108 ((l4 * (60 : Int32)) + l2).toNatClampNeg l6) 108) from by first | (exact DX_link r_DX (fun _ => r_PU) (fun s2 i2 hs2 hi2 => zrf_link (s := l4) (i := l2) (by omega) (by omega) (by omega) (by omega) r_ISR s2 i2 (by have := (ra_102 hV hs2).2; omega))) | (exfalso; omega; done) | (exfalso; contradiction; done)) r_GG (show zHA (m 94 10) (m 94 11) (m 94 13) (m 94 14) (m 94 16) (m 94 61) (m 94 59) (m 94 60) (m 99) (m 102) (m 103) (m 111) ((ma_u m 117 ((((m 103 l4.toNatClampNeg) + (1 : Int32)) + l2) / (m 94 16)).toNatClampNeg (1 : Int32)) 117) (m 98) (m 101) ((ma_u m 108 ((l4 * (60 : Int32)) + l2).toNatClampNeg l6) 108) from by first | (exact HA_link r_HA (fun j z => mu_mono (by decide) z) (fun s2 i2 hs2 hi2 => zrf_link (s := l4) (i := l2) (by omega) (by omega) (by omega) (by omega) r_ISR s2 i2 (by have := (ra_102 hV hs2).2; omega)) (fun _ _ => Or.inr (Or.inr (by rw [← card_ix (by omega) (by omega) (by omega) (by omega) (by omega), mu_self]; decide)))) | (exfalso; omega; done) | (exfalso; contradiction; done)) r_RGc (show (m 94 58).toInt = 0 ∨ (m 94 10).toInt = 5 from by omega) (show (zRq aa ob ∧ (oo = -1 ∨ zRq aa oo)) ∧ zHw aa ob ix ∧ zIr aa ob ix from by first | (exact ⟨⟨(Re_y r_REl (by omega)).2.2.2, r_THy⟩, (Hw_y r_RB r_REl (by omega)).mpr (by rw [← r_L2e]; exact ⟨by omega, by omega⟩), by rw [← r_L2e]; exact (Ir_y r_RB r_REl (by omega) (by omega) (by omega)).mpr r_ISR⟩) | (exfalso; omega; done) | (exfalso; contradiction; done)) r_ANl (show zGh ro fo le ra pi from by first | (exact trivial) | (exfalso; omega; done) | (exfalso; contradiction; done))
          · skip
            have g56 := i_nle h39
            try have w60 := (ra_102 hV (k := l4.toNatClampNeg) (by omega)).2
            try have ww := W_isr r_W (s := l4) (i := l2) (by omega) (by omega) (by omega) (by omega) (by omega) r_ISR
            have hV57 : zV (ma_u m 108 ((l4 * (60 : Int32)) + l2).toNatClampNeg l6) := ua_108 hV
            have b58 := i_bd l7
            have b59 := i_bd l8
            exact lp_247an_207 (ob := ob) (ix := ix) (oo := oo) h0 K _ _ (l6) (l7) (l8) rfl (zF_u hF rfl) hV57 (by omega) (by omega) (by omega) (by omega) (show (m 94 0).toInt = 0 from by omega) (show zW (m 94 7) (m 98) (m 101) (m 102) ((ma_u m 108 ((l4 * (60 : Int32)) + l2).toNatClampNeg l6) 108) from by first | (exact W_link r_W (by omega) (by omega) (fun s2 i2 hs2 hi2 => zrf_link (s := l4) (i := l2) (by omega) (by omega) (by omega) (by omega) r_ISR s2 i2 (by have := (ra_102 hV hs2).2; omega))) | (exfalso; omega; done) | (exfalso; contradiction; done)) r_GW r_GU r_OW (show zDX (m 94 10) (m 99) (m 112) (m 113) (m 114) (m 94 55) (m 98) (m 101) (m 102) ((ma_u m 108 ((l4 * (60 : Int32)) + l2).toNatClampNeg l6) 108) from by first | (exact DX_link r_DX (fun _ => r_PU) (fun s2 i2 hs2 hi2 => zrf_link (s := l4) (i := l2) (by omega) (by omega) (by omega) (by omega) r_ISR s2 i2 (by have := (ra_102 hV hs2).2; omega))) | (exfalso; omega; done) | (exfalso; contradiction; done)) r_GG (show zHA (m 94 10) (m 94 11) (m 94 13) (m 94 14) (m 94 16) (m 94 61) (m 94 59) (m 94 60) (m 99) (m 102) (m 103) (m 111) (m 117) (m 98) (m 101) ((ma_u m 108 ((l4 * (60 : Int32)) + l2).toNatClampNeg l6) 108) from by first | (exact HA_link r_HA (fun _ z => z) (fun s2 i2 hs2 hi2 => zrf_link (s := l4) (i := l2) (by omega) (by omega) (by omega) (by omega) r_ISR s2 i2 (by have := (ra_102 hV hs2).2; omega)) (fun hp hl => by first | (exfalso; omega) | exact Or.inl (by omega) | exact Or.inr (Or.inl (by omega)))) | (exfalso; omega; done) | (exfalso; contradiction; done)) r_RGc (show (m 94 58).toInt = 0 ∨ (m 94 10).toInt = 5 from by omega) (show (zRq aa ob ∧ (oo = -1 ∨ zRq aa oo)) ∧ zHw aa ob ix ∧ zIr aa ob ix from by first | (exact ⟨⟨(Re_y r_REl (by omega)).2.2.2, r_THy⟩, (Hw_y r_RB r_REl (by omega)).mpr (by rw [← r_L2e]; exact ⟨by omega, by omega⟩), by rw [← r_L2e]; exact (Ir_y r_RB r_REl (by omega) (by omega) (by omega)).mpr r_ISR⟩) | (exfalso; omega; done) | (exfalso; contradiction; done)) r_ANl (show zGh ro fo le ra pi from by first | (exact trivial) | (exfalso; omega; done) | (exfalso; contradiction; done))
    · skip
      have g60 := i_ne h15
      try have w60 := (ra_102 hV (k := l4.toNatClampNeg) (by omega)).2
      try have ww := W_isr r_W (s := l4) (i := l2) (by omega) (by omega) (by omega) (by omega) (by omega) r_ISR
      have hV61 : zV (ma_u m 108 ((l4 * (60 : Int32)) + l2).toNatClampNeg l6) := ua_108 hV
      have b62 := i_bd l6
      have b63 := i_bd l7
      have b64 := i_bd l8
      exact lp_247an_207 (ob := ob) (ix := ix) (oo := oo) h0 K _ _ (l6) (l7) (l8) rfl (zF_u hF rfl) hV61 (by omega) (by omega) (by omega) (by omega) (show (m 94 0).toInt = 0 from by omega) (show zW (m 94 7) (m 98) (m 101) (m 102) ((ma_u m 108 ((l4 * (60 : Int32)) + l2).toNatClampNeg l6) 108) from by first | (exact W_link r_W (by omega) (by omega) (fun s2 i2 hs2 hi2 => zrf_link (s := l4) (i := l2) (by omega) (by omega) (by omega) (by omega) r_ISR s2 i2 (by have := (ra_102 hV hs2).2; omega))) | (exfalso; omega; done) | (exfalso; contradiction; done)) r_GW r_GU r_OW (show zDX (m 94 10) (m 99) (m 112) (m 113) (m 114) (m 94 55) (m 98) (m 101) (m 102) ((ma_u m 108 ((l4 * (60 : Int32)) + l2).toNatClampNeg l6) 108) from by first | (exact DX_link r_DX (fun _ => r_PU) (fun s2 i2 hs2 hi2 => zrf_link (s := l4) (i := l2) (by omega) (by omega) (by omega) (by omega) r_ISR s2 i2 (by have := (ra_102 hV hs2).2; omega))) | (exfalso; omega; done) | (exfalso; contradiction; done)) r_GG (show zHA (m 94 10) (m 94 11) (m 94 13) (m 94 14) (m 94 16) (m 94 61) (m 94 59) (m 94 60) (m 99) (m 102) (m 103) (m 111) (m 117) (m 98) (m 101) ((ma_u m 108 ((l4 * (60 : Int32)) + l2).toNatClampNeg l6) 108) from by first | (exact HA_link r_HA (fun _ z => z) (fun s2 i2 hs2 hi2 => zrf_link (s := l4) (i := l2) (by omega) (by omega) (by omega) (by omega) r_ISR s2 i2 (by have := (ra_102 hV hs2).2; omega)) (fun hp hl => by first | (exfalso; omega) | exact Or.inl (by omega) | exact Or.inr (Or.inl (by omega)))) | (exfalso; omega; done) | (exfalso; contradiction; done)) r_RGc (show (m 94 58).toInt = 0 ∨ (m 94 10).toInt = 5 from by omega) (show (zRq aa ob ∧ (oo = -1 ∨ zRq aa oo)) ∧ zHw aa ob ix ∧ zIr aa ob ix from by first | (exact ⟨⟨(Re_y r_REl (by omega)).2.2.2, r_THy⟩, (Hw_y r_RB r_REl (by omega)).mpr (by rw [← r_L2e]; exact ⟨by omega, by omega⟩), by rw [← r_L2e]; exact (Ir_y r_RB r_REl (by omega) (by omega) (by omega)).mpr r_ISR⟩) | (exfalso; omega; done) | (exfalso; contradiction; done)) r_ANl (show zGh ro fo le ra pi from by first | (exact trivial) | (exfalso; omega; done) | (exfalso; contradiction; done))
set_option maxHeartbeats 8000000 in
theorem lp_247an_121 {X : Nat × (Nat → Int32)} {P : Option ma_V → (Nat → Nat → Int32) → Prop} {T : Nat} {aa : Nat→Nat→Int32} {ro : Int32} {fo : Int32} {le : Int32} {ra : Int32} {pi : Int32} {ob : Int32} {ix : Int32} {oo : Int32} {m0 : Nat → Nat → Int32} (h0 : zV m0) (K : ∀ v m₉, zF wr_247 m0 m₉ → zV m₉ → (qNli aa ob ix oo (m₉ 94 0) v) → P (some (.inl v)) m₉) : ∀ (n : Nat) (m : Nat → Nat → Int32) (l2 : Int32) (l4 : Int32) (l6 : Int32), ((0 : Int)).toNat = n → zF wr_247 m0 m → zV m → (0 ≤ l4.toInt) → (l4.toInt ≤ 3099) → (0 ≤ l2.toInt) → (l2.toInt < (m 102 l4.toNatClampNeg).toInt) → ((m 101) l4.toNatClampNeg = 16 ∨ ((m 101) l4.toNatClampNeg < 16 ∧ (((m 98) ((m 101) l4.toNatClampNeg).toNatClampNeg >>> (l2 &&& 31)) &&& 1) = 1)) → (-1 ≤ l6.toInt) → (l6.toInt ≤ 3099) → ((m 94 0).toInt = 0) → (l6.toInt < 0 ∨ (m 99) l6.toNatClampNeg ≠ 0) → (zW (m 94 7) (m 98) (m 101) (m 102) (m 108)) → (zGW T (m 94 55) (m 109)) → (zGU T (m 94 46) (m 99)) → (zOw (m 99) (m 103) (m 111)) → (zDX (m 94 10) (m 99) (m 112) (m 113) (m 114) (m 94 55) (m 98) (m 101) (m 102) (m 108)) → (zGG (m 94 58) (m 94 56) (m 94 57) (m 106)) → (zHA (m 94 10) (m 94 11) (m 94 13) (m 94 14) (m 94 16) (m 94 61) (m 94 59) (m 94 60) (m 99) (m 102) (m 103) (m 111) (m 117) (m 98) (m 101) (m 108)) → (zRG (m 94 10) (m 94 18) (m 94 64) (m 94 63) (m 99) (m 103) (m 102) (m 116)) → ((m 94 58).toInt = 0 ∨ (m 94 10).toInt = 5) → (qRB (m 99) (m 100) (m 98) (m 101) (m 102) (m 103) (m 107) (m 108) (m 109) (m 111) (m 112) (m 113) (m 114) (m 94 55) (m 94 46) ro fo le ra pi aa) → (qI aa) → (l2 = ix) → (qRe (m 99) (m 100) aa ob l4) → (oo = -1 ∨ zRq aa oo) → zm X 5 109 247 121 [(0, .inr (.inr (some 94))), (2, .inl l2), (4, .inl l4), (6, .inl l6)] m P := by
  intro n
  induction n using Nat.strongRecOn with
  | _ n IH =>
    intro m l2 l4 l6 hmu hF hV hi0 hi1 hi2 hi3 r_ISR hi5 hi6 hi7 r_PU r_W r_GW r_GU r_OW r_DX r_GG r_HA r_RGc hi17 r_RB r_QI r_L2e r_REl r_THy
    refine g_247_121 l2 l4 l6 ?_
    have b1 := i_bd l4
    first | have f2 : 0 ≤ (m 102 l4.toNatClampNeg).toInt ∧ (m 102 l4.toNatClampNeg).toInt ≤ 60 := ra_102 (m := m) hV (k := l4.toNatClampNeg) (i_ix (n := 3100) (by omega) (by omega)).2 | have b3 := i_bd (m 102 l4.toNatClampNeg)
    have b4 := i_bd (m 94 0)
    have f5 : 0 ≤ (m 94 58).toInt ∧ (m 94 58).toInt ≤ 1 := rs_94_58 (m := m) hV
    have f6 : 0 ≤ (m 94 10).toInt ∧ (m 94 10).toInt ≤ 6 := rs_94_10 (m := m) hV
    have li7 : (60 : Int32).toInt = 60 := rfl
    first | have e8 : (l4 * (60 : Int32)).toInt = l4.toInt * 60 := i_mulk rfl (by omega) (by omega) | have b9 := i_bd (l4 * (60 : Int32))
    have b10 := i_bd l2
    first | have e11 : ((l4 * (60 : Int32)) + l2).toInt = (l4 * (60 : Int32)).toInt + l2.toInt := i_add (by omega) (by omega) | have b12 := i_bd ((l4 * (60 : Int32)) + l2)
    have hg13 : (0 ≤ ((l4 * (60 : Int32)) + l2) ∧ ((l4 * (60 : Int32)) + l2).toNatClampNeg < 186000) := i_ix (by omega) (by omega)
    refine ⟨hg13, ?_⟩
    have li14 : (0 : Int32).toInt = 0 := rfl
    have b15 := i_bd (m 108 ((l4 * (60 : Int32)) + l2).toNatClampNeg)
    refine zd (fun (h16 : (0 : Int32) ≤ (m 108 ((l4 * (60 : Int32)) + l2).toNatClampNeg)) => ?_) (fun (h16 : ¬ (0 : Int32) ≤ (m 108 ((l4 * (60 : Int32)) + l2).toNatClampNeg)) => ?_)
    · skip
      have g17 := i_le h16
      try have w60 := (ra_102 hV (k := l4.toNatClampNeg) (by omega)).2
      try have ww := W_isr r_W (s := l4) (i := l2) (by omega) (by omega) (by omega) (by omega) (by omega) r_ISR
      have hg18 : (0 ≤ (m 108 ((l4 * (60 : Int32)) + l2).toNatClampNeg) ∧ (m 108 ((l4 * (60 : Int32)) + l2).toNatClampNeg).toNatClampNeg < 3100) := i_ix (by omega) (by omega)
      refine ⟨hg18, ?_⟩
      have b19 := i_bd l6
      refine zd (fun (h20 : l6 < (0 : Int32)) => ?_) (fun (h20 : ¬ l6 < (0 : Int32)) => ?_)
      · skip
        have g21 := i_lt h20
        try have w60 := (ra_102 hV (k := l4.toNatClampNeg) (by omega)).2
        try have ww := W_isr r_W (s := l4) (i := l2) (by omega) (by omega) (by omega) (by omega) (by omega) r_ISR
        first | have f22 : 0 ≤ (m 100 (m 108 ((l4 * (60 : Int32)) + l2).toNatClampNeg).toNatClampNeg).toInt ∧ (m 100 (m 108 ((l4 * (60 : Int32)) + l2).toNatClampNeg).toNatClampNeg).toInt ≤ 100000 := ra_100 (m := m) hV (k := (m 108 ((l4 * (60 : Int32)) + l2).toNatClampNeg).toNatClampNeg) (i_ix (n := 3100) (by omega) (by omega)).2 | have b23 := i_bd (m 100 (m 108 ((l4 * (60 : Int32)) + l2).toNatClampNeg).toNatClampNeg)
        exact lp_247an_149 (ob := ob) (ix := ix) (oo := oo) h0 K _ _ (l2) (l4) (l6) ((m 108 ((l4 * (60 : Int32)) + l2).toNatClampNeg)) ((m 100 (m 108 ((l4 * (60 : Int32)) + l2).toNatClampNeg).toNatClampNeg)) rfl hF hV (by omega) (by omega) (by omega) (show l2.toInt < (m 102 l4.toNatClampNeg).toInt from by omega) r_ISR (by omega) (by omega) (by omega) (by omega) (show (m 94 0).toInt = 0 from by omega) r_PU r_W r_GW r_GU r_OW r_DX r_GG r_HA r_RGc (show (m 94 58).toInt = 0 ∨ (m 94 10).toInt = 5 from by omega) r_RB r_QI r_L2e r_REl r_THy (show (m 100 (m 108 ((l4 * (60 : Int32)) + l2).toNatClampNeg).toNatClampNeg) = aNm aa (aRef aa ob.toNatClampNeg ix) from by first | (rw [← r_L2e, (RB_li (v := (-1 : Int32)) r_RB r_QI (s := l4) (by omega) (by omega) (Re_y r_REl (by omega)).2.1 (i := l2) (by omega) (by omega) r_ISR (Re_y r_REl (by omega)).2.2.1 (Or.inl (by decide))).2.2.2.1, Nm_no r_RB.1 (RB_li (v := (-1 : Int32)) r_RB r_QI (s := l4) (by omega) (by omega) (Re_y r_REl (by omega)).2.1 (i := l2) (by omega) (by omega) r_ISR (Re_y r_REl (by omega)).2.2.1 (Or.inl (by decide))).2.2.2.2]; exact (if_pos (by omega)).symm; done) | (rw [← r_L2e, (RB_li (v := (-1 : Int32)) r_RB r_QI (s := l4) (by omega) (by omega) (Re_y r_REl (by omega)).2.1 (i := l2) (by omega) (by omega) r_ISR (Re_y r_REl (by omega)).2.2.1 (Or.inl (by decide))).2.2.2.1, Nm_no r_RB.1 (RB_li (v := (-1 : Int32)) r_RB r_QI (s := l4) (by omega) (by omega) (Re_y r_REl (by omega)).2.1 (i := l2) (by omega) (by omega) r_ISR (Re_y r_REl (by omega)).2.2.1 (Or.inl (by decide))).2.2.2.2]; exact (if_neg (by omega)).symm; done) | (exfalso; omega; done) | (exfalso; contradiction; done))
      · skip
        have g24 := i_nlt h20
        have li25 : (4 : Int32).toInt = 4 := rfl
        refine zd (fun (h26 : (m 94 10) = (4 : Int32)) => ?_) (fun (h26 : ¬ (m 94 10) = (4 : Int32)) => ?_)
        · skip
          have g27 := i_eq h26
          have hg28 : (0 ≤ l6 ∧ l6.toNatClampNeg < 3100) := i_ix (by omega) (by omega)
          refine ⟨hg28, ?_⟩
          have hg29 : (0 ≤ l6 ∧ l6.toNatClampNeg < 3100) := i_ix (by omega) (by omega)
          refine ⟨hg29, ?_⟩
          try have w60 := (ra_102 hV (k := l4.toNatClampNeg) (by omega)).2
          try have ww := W_isr r_W (s := l4) (i := l2) (by omega) (by omega) (by omega) (by omega) (by omega) r_ISR
          have hV30 : zV (ma_u m 105 l6.toNatClampNeg ((m 105 l6.toNatClampNeg) + (1 : Int32))) := ua_105 hV
          first | have f31 : 0 ≤ (m 100 (m 108 ((l4 * (60 : Int32)) + l2).toNatClampNeg).toNatClampNeg).toInt ∧ (m 100 (m 108 ((l4 * (60 : Int32)) + l2).toNatClampNeg).toNatClampNeg).toInt ≤ 100000 := ra_100 (m := m) hV (k := (m 108 ((l4 * (60 : Int32)) + l2).toNatClampNeg).toNatClampNeg) (i_ix (n := 3100) (by omega) (by omega)).2 | have b32 := i_bd (m 100 (m 108 ((l4 * (60 : Int32)) + l2).toNatClampNeg).toNatClampNeg)
          exact lp_247an_149 (ob := ob) (ix := ix) (oo := oo) h0 K _ _ (l2) (l4) (l6) ((m 108 ((l4 * (60 : Int32)) + l2).toNatClampNeg)) ((m 100 (m 108 ((l4 * (60 : Int32)) + l2).toNatClampNeg).toNatClampNeg)) rfl (zF_u hF rfl) hV30 (by omega) (by omega) (by omega) (show l2.toInt < (m 102 l4.toNatClampNeg).toInt from by omega) r_ISR (by omega) (by omega) (by omega) (by omega) (show (m 94 0).toInt = 0 from by omega) r_PU r_W r_GW r_GU r_OW r_DX r_GG r_HA r_RGc (show (m 94 58).toInt = 0 ∨ (m 94 10).toInt = 5 from by omega) r_RB r_QI r_L2e r_REl r_THy (show (m 100 (m 108 ((l4 * (60 : Int32)) + l2).toNatClampNeg).toNatClampNeg) = aNm aa (aRef aa ob.toNatClampNeg ix) from by first | (rw [← r_L2e, (RB_li (v := (-1 : Int32)) r_RB r_QI (s := l4) (by omega) (by omega) (Re_y r_REl (by omega)).2.1 (i := l2) (by omega) (by omega) r_ISR (Re_y r_REl (by omega)).2.2.1 (Or.inl (by decide))).2.2.2.1, Nm_no r_RB.1 (RB_li (v := (-1 : Int32)) r_RB r_QI (s := l4) (by omega) (by omega) (Re_y r_REl (by omega)).2.1 (i := l2) (by omega) (by omega) r_ISR (Re_y r_REl (by omega)).2.2.1 (Or.inl (by decide))).2.2.2.2]; exact (if_pos (by omega)).symm; done) | (rw [← r_L2e, (RB_li (v := (-1 : Int32)) r_RB r_QI (s := l4) (by omega) (by omega) (Re_y r_REl (by omega)).2.1 (i := l2) (by omega) (by omega) r_ISR (Re_y r_REl (by omega)).2.2.1 (Or.inl (by decide))).2.2.2.1, Nm_no r_RB.1 (RB_li (v := (-1 : Int32)) r_RB r_QI (s := l4) (by omega) (by omega) (Re_y r_REl (by omega)).2.1 (i := l2) (by omega) (by omega) r_ISR (Re_y r_REl (by omega)).2.2.1 (Or.inl (by decide))).2.2.2.2]; exact (if_neg (by omega)).symm; done) | (exfalso; omega; done) | (exfalso; contradiction; done))
        · skip
          have g33 := i_ne h26
          try have w60 := (ra_102 hV (k := l4.toNatClampNeg) (by omega)).2
          try have ww := W_isr r_W (s := l4) (i := l2) (by omega) (by omega) (by omega) (by omega) (by omega) r_ISR
          first | have f34 : 0 ≤ (m 100 (m 108 ((l4 * (60 : Int32)) + l2).toNatClampNeg).toNatClampNeg).toInt ∧ (m 100 (m 108 ((l4 * (60 : Int32)) + l2).toNatClampNeg).toNatClampNeg).toInt ≤ 100000 := ra_100 (m := m) hV (k := (m 108 ((l4 * (60 : Int32)) + l2).toNatClampNeg).toNatClampNeg) (i_ix (n := 3100) (by omega) (by omega)).2 | have b35 := i_bd (m 100 (m 108 ((l4 * (60 : Int32)) + l2).toNatClampNeg).toNatClampNeg)
          exact lp_247an_149 (ob := ob) (ix := ix) (oo := oo) h0 K _ _ (l2) (l4) (l6) ((m 108 ((l4 * (60 : Int32)) + l2).toNatClampNeg)) ((m 100 (m 108 ((l4 * (60 : Int32)) + l2).toNatClampNeg).toNatClampNeg)) rfl hF hV (by omega) (by omega) (by omega) (show l2.toInt < (m 102 l4.toNatClampNeg).toInt from by omega) r_ISR (by omega) (by omega) (by omega) (by omega) (show (m 94 0).toInt = 0 from by omega) r_PU r_W r_GW r_GU r_OW r_DX r_GG r_HA r_RGc (show (m 94 58).toInt = 0 ∨ (m 94 10).toInt = 5 from by omega) r_RB r_QI r_L2e r_REl r_THy (show (m 100 (m 108 ((l4 * (60 : Int32)) + l2).toNatClampNeg).toNatClampNeg) = aNm aa (aRef aa ob.toNatClampNeg ix) from by first | (rw [← r_L2e, (RB_li (v := (-1 : Int32)) r_RB r_QI (s := l4) (by omega) (by omega) (Re_y r_REl (by omega)).2.1 (i := l2) (by omega) (by omega) r_ISR (Re_y r_REl (by omega)).2.2.1 (Or.inl (by decide))).2.2.2.1, Nm_no r_RB.1 (RB_li (v := (-1 : Int32)) r_RB r_QI (s := l4) (by omega) (by omega) (Re_y r_REl (by omega)).2.1 (i := l2) (by omega) (by omega) r_ISR (Re_y r_REl (by omega)).2.2.1 (Or.inl (by decide))).2.2.2.2]; exact (if_pos (by omega)).symm; done) | (rw [← r_L2e, (RB_li (v := (-1 : Int32)) r_RB r_QI (s := l4) (by omega) (by omega) (Re_y r_REl (by omega)).2.1 (i := l2) (by omega) (by omega) r_ISR (Re_y r_REl (by omega)).2.2.1 (Or.inl (by decide))).2.2.2.1, Nm_no r_RB.1 (RB_li (v := (-1 : Int32)) r_RB r_QI (s := l4) (by omega) (by omega) (Re_y r_REl (by omega)).2.1 (i := l2) (by omega) (by omega) r_ISR (Re_y r_REl (by omega)).2.2.1 (Or.inl (by decide))).2.2.2.2]; exact (if_neg (by omega)).symm; done) | (exfalso; omega; done) | (exfalso; contradiction; done))
    · skip
      have g36 := i_nle h16
      have b37 := i_bd l6
      refine zd (fun (h38 : l6 < (0 : Int32)) => ?_) (fun (h38 : ¬ l6 < (0 : Int32)) => ?_)
      · skip
        have g39 := i_lt h38
        try have w60 := (ra_102 hV (k := l4.toNatClampNeg) (by omega)).2
        try have ww := W_isr r_W (s := l4) (i := l2) (by omega) (by omega) (by omega) (by omega) (by omega) r_ISR
        have li40 : (-1 : Int32).toInt = -1 := rfl
        exact lp_247an_149 (ob := ob) (ix := ix) (oo := oo) h0 K _ _ (l2) (l4) (l6) ((m 108 ((l4 * (60 : Int32)) + l2).toNatClampNeg)) ((-1 : Int32)) rfl hF hV (by omega) (by omega) (by omega) (show l2.toInt < (m 102 l4.toNatClampNeg).toInt from by omega) r_ISR (by omega) (by omega) (by omega) (by omega) (show (m 94 0).toInt = 0 from by omega) r_PU r_W r_GW r_GU r_OW r_DX r_GG r_HA r_RGc (show (m 94 58).toInt = 0 ∨ (m 94 10).toInt = 5 from by omega) r_RB r_QI r_L2e r_REl r_THy (show (-1 : Int32) = aNm aa (aRef aa ob.toNatClampNeg ix) from by first | (rw [← r_L2e, (RB_li (v := (-1 : Int32)) r_RB r_QI (s := l4) (by omega) (by omega) (Re_y r_REl (by omega)).2.1 (i := l2) (by omega) (by omega) r_ISR (Re_y r_REl (by omega)).2.2.1 (Or.inl (by decide))).2.2.2.1, Nm_no r_RB.1 (RB_li (v := (-1 : Int32)) r_RB r_QI (s := l4) (by omega) (by omega) (Re_y r_REl (by omega)).2.1 (i := l2) (by omega) (by omega) r_ISR (Re_y r_REl (by omega)).2.2.1 (Or.inl (by decide))).2.2.2.2]; exact (if_pos (by omega)).symm; done) | (rw [← r_L2e, (RB_li (v := (-1 : Int32)) r_RB r_QI (s := l4) (by omega) (by omega) (Re_y r_REl (by omega)).2.1 (i := l2) (by omega) (by omega) r_ISR (Re_y r_REl (by omega)).2.2.1 (Or.inl (by decide))).2.2.2.1, Nm_no r_RB.1 (RB_li (v := (-1 : Int32)) r_RB r_QI (s := l4) (by omega) (by omega) (Re_y r_REl (by omega)).2.1 (i := l2) (by omega) (by omega) r_ISR (Re_y r_REl (by omega)).2.2.1 (Or.inl (by decide))).2.2.2.2]; exact (if_neg (by omega)).symm; done) | (exfalso; omega; done) | (exfalso; contradiction; done))
      · skip
        have g41 := i_nlt h38
        have li42 : (4 : Int32).toInt = 4 := rfl
        refine zd (fun (h43 : (m 94 10) = (4 : Int32)) => ?_) (fun (h43 : ¬ (m 94 10) = (4 : Int32)) => ?_)
        · skip
          have g44 := i_eq h43
          have hg45 : (0 ≤ l6 ∧ l6.toNatClampNeg < 3100) := i_ix (by omega) (by omega)
          refine ⟨hg45, ?_⟩
          have hg46 : (0 ≤ l6 ∧ l6.toNatClampNeg < 3100) := i_ix (by omega) (by omega)
          refine ⟨hg46, ?_⟩
          try have w60 := (ra_102 hV (k := l4.toNatClampNeg) (by omega)).2
          try have ww := W_isr r_W (s := l4) (i := l2) (by omega) (by omega) (by omega) (by omega) (by omega) r_ISR
          have hV47 : zV (ma_u m 105 l6.toNatClampNeg ((m 105 l6.toNatClampNeg) + (1 : Int32))) := ua_105 hV
          have li48 : (-1 : Int32).toInt = -1 := rfl
          exact lp_247an_149 (ob := ob) (ix := ix) (oo := oo) h0 K _ _ (l2) (l4) (l6) ((m 108 ((l4 * (60 : Int32)) + l2).toNatClampNeg)) ((-1 : Int32)) rfl (zF_u hF rfl) hV47 (by omega) (by omega) (by omega) (show l2.toInt < (m 102 l4.toNatClampNeg).toInt from by omega) r_ISR (by omega) (by omega) (by omega) (by omega) (show (m 94 0).toInt = 0 from by omega) r_PU r_W r_GW r_GU r_OW r_DX r_GG r_HA r_RGc (show (m 94 58).toInt = 0 ∨ (m 94 10).toInt = 5 from by omega) r_RB r_QI r_L2e r_REl r_THy (show (-1 : Int32) = aNm aa (aRef aa ob.toNatClampNeg ix) from by first | (rw [← r_L2e, (RB_li (v := (-1 : Int32)) r_RB r_QI (s := l4) (by omega) (by omega) (Re_y r_REl (by omega)).2.1 (i := l2) (by omega) (by omega) r_ISR (Re_y r_REl (by omega)).2.2.1 (Or.inl (by decide))).2.2.2.1, Nm_no r_RB.1 (RB_li (v := (-1 : Int32)) r_RB r_QI (s := l4) (by omega) (by omega) (Re_y r_REl (by omega)).2.1 (i := l2) (by omega) (by omega) r_ISR (Re_y r_REl (by omega)).2.2.1 (Or.inl (by decide))).2.2.2.2]; exact (if_pos (by omega)).symm; done) | (rw [← r_L2e, (RB_li (v := (-1 : Int32)) r_RB r_QI (s := l4) (by omega) (by omega) (Re_y r_REl (by omega)).2.1 (i := l2) (by omega) (by omega) r_ISR (Re_y r_REl (by omega)).2.2.1 (Or.inl (by decide))).2.2.2.1, Nm_no r_RB.1 (RB_li (v := (-1 : Int32)) r_RB r_QI (s := l4) (by omega) (by omega) (Re_y r_REl (by omega)).2.1 (i := l2) (by omega) (by omega) r_ISR (Re_y r_REl (by omega)).2.2.1 (Or.inl (by decide))).2.2.2.2]; exact (if_neg (by omega)).symm; done) | (exfalso; omega; done) | (exfalso; contradiction; done))
        · skip
          have g49 := i_ne h43
          try have w60 := (ra_102 hV (k := l4.toNatClampNeg) (by omega)).2
          try have ww := W_isr r_W (s := l4) (i := l2) (by omega) (by omega) (by omega) (by omega) (by omega) r_ISR
          have li50 : (-1 : Int32).toInt = -1 := rfl
          exact lp_247an_149 (ob := ob) (ix := ix) (oo := oo) h0 K _ _ (l2) (l4) (l6) ((m 108 ((l4 * (60 : Int32)) + l2).toNatClampNeg)) ((-1 : Int32)) rfl hF hV (by omega) (by omega) (by omega) (show l2.toInt < (m 102 l4.toNatClampNeg).toInt from by omega) r_ISR (by omega) (by omega) (by omega) (by omega) (show (m 94 0).toInt = 0 from by omega) r_PU r_W r_GW r_GU r_OW r_DX r_GG r_HA r_RGc (show (m 94 58).toInt = 0 ∨ (m 94 10).toInt = 5 from by omega) r_RB r_QI r_L2e r_REl r_THy (show (-1 : Int32) = aNm aa (aRef aa ob.toNatClampNeg ix) from by first | (rw [← r_L2e, (RB_li (v := (-1 : Int32)) r_RB r_QI (s := l4) (by omega) (by omega) (Re_y r_REl (by omega)).2.1 (i := l2) (by omega) (by omega) r_ISR (Re_y r_REl (by omega)).2.2.1 (Or.inl (by decide))).2.2.2.1, Nm_no r_RB.1 (RB_li (v := (-1 : Int32)) r_RB r_QI (s := l4) (by omega) (by omega) (Re_y r_REl (by omega)).2.1 (i := l2) (by omega) (by omega) r_ISR (Re_y r_REl (by omega)).2.2.1 (Or.inl (by decide))).2.2.2.2]; exact (if_pos (by omega)).symm; done) | (rw [← r_L2e, (RB_li (v := (-1 : Int32)) r_RB r_QI (s := l4) (by omega) (by omega) (Re_y r_REl (by omega)).2.1 (i := l2) (by omega) (by omega) r_ISR (Re_y r_REl (by omega)).2.2.1 (Or.inl (by decide))).2.2.2.1, Nm_no r_RB.1 (RB_li (v := (-1 : Int32)) r_RB r_QI (s := l4) (by omega) (by omega) (Re_y r_REl (by omega)).2.1 (i := l2) (by omega) (by omega) r_ISR (Re_y r_REl (by omega)).2.2.1 (Or.inl (by decide))).2.2.2.2]; exact (if_neg (by omega)).symm; done) | (exfalso; omega; done) | (exfalso; contradiction; done))
set_option maxHeartbeats 8000000 in
theorem lp_247an_105 {X : Nat × (Nat → Int32)} {P : Option ma_V → (Nat → Nat → Int32) → Prop} {T : Nat} {aa : Nat→Nat→Int32} {ro : Int32} {fo : Int32} {le : Int32} {ra : Int32} {pi : Int32} {ob : Int32} {ix : Int32} {oo : Int32} {m0 : Nat → Nat → Int32} (h0 : zV m0) (K : ∀ v m₉, zF wr_247 m0 m₉ → zV m₉ → (qNli aa ob ix oo (m₉ 94 0) v) → P (some (.inl v)) m₉) : ∀ (n : Nat) (m : Nat → Nat → Int32) (l2 : Int32) (l3 : Int32) (l4 : Int32), ((0 : Int)).toNat = n → zF wr_247 m0 m → zV m → (0 ≤ l4.toInt) → (l4.toInt ≤ 3099) → (0 ≤ l2.toInt) → (l2.toInt < (m 102 l4.toNatClampNeg).toInt) → ((m 101) l4.toNatClampNeg = 16 ∨ ((m 101) l4.toNatClampNeg < 16 ∧ (((m 98) ((m 101) l4.toNatClampNeg).toNatClampNeg >>> (l2 &&& 31)) &&& 1) = 1)) → ((m 94 0).toInt = 0) → (zW (m 94 7) (m 98) (m 101) (m 102) (m 108)) → (zGW T (m 94 55) (m 109)) → (zGU T (m 94 46) (m 99)) → (zOw (m 99) (m 103) (m 111)) → (zDX (m 94 10) (m 99) (m 112) (m 113) (m 114) (m 94 55) (m 98) (m 101) (m 102) (m 108)) → (zGG (m 94 58) (m 94 56) (m 94 57) (m 106)) → (zHA (m 94 10) (m 94 11) (m 94 13) (m 94 14) (m 94 16) (m 94 61) (m 94 59) (m 94 60) (m 99) (m 102) (m 103) (m 111) (m 117) (m 98) (m 101) (m 108)) → (zRG (m 94 10) (m 94 18) (m 94 64) (m 94 63) (m 99) (m 103) (m 102) (m 116)) → ((m 94 58).toInt = 0 ∨ (m 94 10).toInt = 5) → (qRB (m 99) (m 100) (m 98) (m 101) (m 102) (m 103) (m 107) (m 108) (m 109) (m 111) (m 112) (m 113) (m 114) (m 94 55) (m 94 46) ro fo le ra pi aa) → (qI aa) → (l2 = ix) → (l3 = oo) → (qRe (m 99) (m 100) aa ob l4) → (oo = -1 ∨ zRq aa oo) → zm X 5 109 247 105 [(0, .inr (.inr (some 94))), (2, .inl l2), (3, .inl l3), (4, .inl l4)] m P := by
  intro n
  induction n using Nat.strongRecOn with
  | _ n IH =>
    intro m l2 l3 l4 hmu hF hV hi0 hi1 hi2 hi3 r_ISR hi5 r_W r_GW r_GU r_OW r_DX r_GG r_HA r_RGc hi14 r_RB r_QI r_L2e r_L3e r_REl r_THy
    refine g_247_105 l2 l3 l4 ?_
    have b1 := i_bd l4
    first | have f2 : 0 ≤ (m 102 l4.toNatClampNeg).toInt ∧ (m 102 l4.toNatClampNeg).toInt ≤ 60 := ra_102 (m := m) hV (k := l4.toNatClampNeg) (i_ix (n := 3100) (by omega) (by omega)).2 | have b3 := i_bd (m 102 l4.toNatClampNeg)
    have b4 := i_bd (m 94 0)
    have f5 : 0 ≤ (m 94 58).toInt ∧ (m 94 58).toInt ≤ 1 := rs_94_58 (m := m) hV
    have f6 : 0 ≤ (m 94 10).toInt ∧ (m 94 10).toInt ≤ 6 := rs_94_10 (m := m) hV
    have b7 := i_bd l3
    have li8 : (-1 : Int32).toInt = -1 := rfl
    refine zd (fun (h9 : l3 = (-1 : Int32)) => ?_) (fun (h9 : ¬ l3 = (-1 : Int32)) => ?_)
    · skip
      have g10 := i_eq h9
      try have w60 := (ra_102 hV (k := l4.toNatClampNeg) (by omega)).2
      try have ww := W_isr r_W (s := l4) (i := l2) (by omega) (by omega) (by omega) (by omega) (by omega) r_ISR
      have b11 := i_bd l2
      exact lp_247an_121 (ob := ob) (ix := ix) (oo := oo) h0 K _ _ (l2) (l4) ((-1 : Int32)) rfl hF hV (by omega) (by omega) (by omega) (show l2.toInt < (m 102 l4.toNatClampNeg).toInt from by omega) r_ISR (by omega) (by omega) (show (m 94 0).toInt = 0 from by omega) (show (-1 : Int32).toInt < 0 ∨ (m 99) (-1 : Int32).toNatClampNeg ≠ 0 from by first | (exact Or.inl (by decide)) | (exact Or.inr (by assumption)) | (exact Or.inl (by omega)) | (exact Or.inl (by decide)) | (exact Or.inr (by assumption)) | (exact Or.inl (by omega)) | (exfalso; omega; done) | (exfalso; contradiction; done)) r_W r_GW r_GU r_OW r_DX r_GG r_HA r_RGc (show (m 94 58).toInt = 0 ∨ (m 94 10).toInt = 5 from by omega) r_RB r_QI r_L2e r_REl r_THy
    · skip
      have g12 := i_ne h9
      refine sp_246r (l3) hV  (fun v2 m1 hV_m1 p0_m1 p1_m1 => zmi_n ?_)
      have p0_m1 : -1 ≤ v2.toInt ∧ v2.toInt ≤ 3099 := p0_m1
      have p1_m1 : qPl (m 99) (m 100) l3 v2 := p1_m1
      try have w60 := (ra_102 hV (k := l4.toNatClampNeg) (by omega)).2
      try have ww := W_isr r_W (s := l4) (i := l2) (by omega) (by omega) (by omega) (by omega) (by omega) r_ISR
      have b13 := i_bd l2
      have b14 := i_bd v2
      exact lp_247an_121 (ob := ob) (ix := ix) (oo := oo) h0 K _ _ (l2) (l4) (v2) rfl (zF_zov hF ws_246_247) hV_m1 (by omega) (by omega) (by omega) (show l2.toInt < (m 102 l4.toNatClampNeg).toInt from by omega) r_ISR (by omega) (by omega) (show (m 94 0).toInt = 0 from by omega) (show v2.toInt < 0 ∨ (m 99) v2.toNatClampNeg ≠ 0 from by first | (exact Or.inl (by decide)) | (exact Or.inr (by assumption)) | (exact Or.inl (by omega)) | (exact p1_m1.elim (fun z => Or.inl (by rw [z.1]; decide)) (fun z => Or.inr z.2.2.1)) | (exact Or.inl (by decide)) | (exact Or.inr (by assumption)) | (exact Or.inl (by omega)) | (exfalso; omega; done) | (exfalso; contradiction; done)) r_W r_GW r_GU r_OW r_DX r_GG r_HA r_RGc (show (m 94 58).toInt = 0 ∨ (m 94 10).toInt = 5 from by omega) r_RB r_QI r_L2e r_REl r_THy
set_option maxHeartbeats 8000000 in
theorem lp_247an_53 {X : Nat × (Nat → Int32)} {P : Option ma_V → (Nat → Nat → Int32) → Prop} {T : Nat} {aa : Nat→Nat→Int32} {ro : Int32} {fo : Int32} {le : Int32} {ra : Int32} {pi : Int32} {ob : Int32} {ix : Int32} {oo : Int32} {m0 : Nat → Nat → Int32} (h0 : zV m0) (K : ∀ v m₉, zF wr_247 m0 m₉ → zV m₉ → (qNli aa ob ix oo (m₉ 94 0) v) → P (some (.inl v)) m₉) : ∀ (n : Nat) (m : Nat → Nat → Int32) (l2 : Int32) (l3 : Int32) (l4 : Int32) (l5 : Int32), ((0 : Int)).toNat = n → zF wr_247 m0 m → zV m → (-1 ≤ l4.toInt) → (l4.toInt ≤ 3099) → (0 ≤ l5.toInt) → (l5.toInt ≤ 1) → (l5.toInt = 0 ∨ 0 ≤ l4.toInt) → (zW (m 94 7) (m 98) (m 101) (m 102) (m 108)) → (zGW T (m 94 55) (m 109)) → (zGU T (m 94 46) (m 99)) → (zOw (m 99) (m 103) (m 111)) → (zDX (m 94 10) (m 99) (m 112) (m 113) (m 114) (m 94 55) (m 98) (m 101) (m 102) (m 108)) → (zGG (m 94 58) (m 94 56) (m 94 57) (m 106)) → (zHA (m 94 10) (m 94 11) (m 94 13) (m 94 14) (m 94 16) (m 94 61) (m 94 59) (m 94 60) (m 99) (m 102) (m 103) (m 111) (m 117) (m 98) (m 101) (m 108)) → (zRG (m 94 10) (m 94 18) (m 94 64) (m 94 63) (m 99) (m 103) (m 102) (m 116)) → ((m 94 58).toInt = 0 ∨ (m 94 10).toInt = 5) → (qRB (m 99) (m 100) (m 98) (m 101) (m 102) (m 103) (m 107) (m 108) (m 109) (m 111) (m 112) (m 113) (m 114) (m 94 55) (m 94 46) ro fo le ra pi aa) → (qI aa) → (l2 = ix) → (l3 = oo) → (qRe (m 99) (m 100) aa ob l4) → (qTh aa ob oo l5) → zm X 5 109 247 53 [(0, .inr (.inr (some 94))), (2, .inl l2), (3, .inl l3), (4, .inl l4), (5, .inl l5)] m P := by
  intro n
  induction n using Nat.strongRecOn with
  | _ n IH =>
    intro m l2 l3 l4 l5 hmu hF hV hi0 hi1 hi2 hi3 hi4 r_W r_GW r_GU r_OW r_DX r_GG r_HA r_RGc hi13 r_RB r_QI r_L2e r_L3e r_REl r_TH
    refine g_247_53 l2 l3 l4 l5 ?_
    have f1 : 0 ≤ (m 94 58).toInt ∧ (m 94 58).toInt ≤ 1 := rs_94_58 (m := m) hV
    have f2 : 0 ≤ (m 94 10).toInt ∧ (m 94 10).toInt ≤ 6 := rs_94_10 (m := m) hV
    have b3 := i_bd l5
    have li4 : (0 : Int32).toInt = 0 := rfl
    refine zd (fun (h5 : l5 = (0 : Int32)) => ?_) (fun (h5 : ¬ l5 = (0 : Int32)) => ?_)
    · skip
      have g6 := i_eq h5
      try have w60 := (ra_102 hV (k := l4.toNatClampNeg) (by omega)).2
      have hV7 : zV (ma_u m 94 0 (2 : Int32)) := uf_94_0 hV
      exact K ((0 : Int32)) _ (zF_u hF rfl) hV7 (show qNli aa ob ix oo (2 : Int32) (0 : Int32) from by first | (exact Or.inl ⟨Th_c r_TH (by omega), rfl⟩) | (exact Or.inr ⟨Th_d r_TH (by omega), Or.inl ⟨fun z => by have q := (Hw_y r_RB r_REl (by omega)).mp z; rw [← r_L2e] at q; omega, rfl⟩⟩) | (exact Or.inr ⟨Th_d r_TH (by omega), Or.inr ⟨(Hw_y r_RB r_REl (by omega)).mpr (by rw [← r_L2e]; exact ⟨by omega, by omega⟩), Or.inl ⟨(fun z => ((Ir_y (i := l2) r_RB r_REl (by omega) (by omega) (by omega)).mp (by rw [r_L2e]; exact z)).elim (fun q => absurd q (by assumption)) (fun q => by first | exact absurd (Int32.lt_iff_toInt_lt.mp q.1) (by omega) | exact absurd q.2 (by assumption))), rfl⟩⟩⟩) | (exfalso; omega; done) | (exfalso; contradiction; done))
    · skip
      have g8 := i_ne h5
      have b9 := i_bd l2
      refine zd (fun (h10 : l2 < (0 : Int32)) => ?_) (fun (h10 : ¬ l2 < (0 : Int32)) => ?_)
      · skip
        have g11 := i_lt h10
        try have w60 := (ra_102 hV (k := l4.toNatClampNeg) (by omega)).2
        have hV12 : zV (ma_u m 94 0 (3 : Int32)) := uf_94_0 hV
        exact K ((0 : Int32)) _ (zF_u hF rfl) hV12 (show qNli aa ob ix oo (3 : Int32) (0 : Int32) from by first | (exact Or.inl ⟨Th_c r_TH (by omega), rfl⟩) | (exact Or.inr ⟨Th_d r_TH (by omega), Or.inl ⟨fun z => by have q := (Hw_y r_RB r_REl (by omega)).mp z; rw [← r_L2e] at q; omega, rfl⟩⟩) | (exact Or.inr ⟨Th_d r_TH (by omega), Or.inr ⟨(Hw_y r_RB r_REl (by omega)).mpr (by rw [← r_L2e]; exact ⟨by omega, by omega⟩), Or.inl ⟨(fun z => ((Ir_y (i := l2) r_RB r_REl (by omega) (by omega) (by omega)).mp (by rw [r_L2e]; exact z)).elim (fun q => absurd q (by assumption)) (fun q => by first | exact absurd (Int32.lt_iff_toInt_lt.mp q.1) (by omega) | exact absurd q.2 (by assumption))), rfl⟩⟩⟩) | (exfalso; omega; done) | (exfalso; contradiction; done))
      · skip
        have g13 := i_nlt h10
        have b14 := i_bd l4
        have hg15 : (0 ≤ l4 ∧ l4.toNatClampNeg < 3100) := i_ix (by omega) (by omega)
        refine ⟨hg15, ?_⟩
        first | have f16 : 0 ≤ (m 102 l4.toNatClampNeg).toInt ∧ (m 102 l4.toNatClampNeg).toInt ≤ 60 := ra_102 (m := m) hV (k := l4.toNatClampNeg) (i_ix (n := 3100) (by omega) (by omega)).2 | have b17 := i_bd (m 102 l4.toNatClampNeg)
        refine zd (fun (h18 : l2 < (m 102 l4.toNatClampNeg)) => ?_) (fun (h18 : ¬ l2 < (m 102 l4.toNatClampNeg)) => ?_)
        · skip
          have g19 := i_lt h18
          have hg20 : (0 ≤ l4 ∧ l4.toNatClampNeg < 3100) := i_ix (by omega) (by omega)
          refine ⟨hg20, ?_⟩
          first | have f21 : 0 ≤ (m 101 l4.toNatClampNeg).toInt ∧ (m 101 l4.toNatClampNeg).toInt ≤ 17 := ra_101 (m := m) hV (k := l4.toNatClampNeg) (i_ix (n := 3100) (by omega) (by omega)).2 | have b22 := i_bd (m 101 l4.toNatClampNeg)
          have li23 : (16 : Int32).toInt = 16 := rfl
          refine zd (fun (h24 : (m 101 l4.toNatClampNeg) = (16 : Int32)) => ?_) (fun (h24 : ¬ (m 101 l4.toNatClampNeg) = (16 : Int32)) => ?_)
          · skip
            have g25 := i_eq h24
            try have w60 := (ra_102 hV (k := l4.toNatClampNeg) (by omega)).2
            have hV26 : zV (ma_u m 94 0 (0 : Int32)) := uf_94_0 hV
            have b27 := i_bd l3
            exact lp_247an_105 (ob := ob) (ix := ix) (oo := oo) h0 K _ _ (l2) (l3) (l4) rfl (zF_u hF rfl) hV26 (by omega) (by omega) (by omega) (show l2.toInt < (m 102 l4.toNatClampNeg).toInt from by omega) (show (m 101) l4.toNatClampNeg = 16 ∨ ((m 101) l4.toNatClampNeg < 16 ∧ (((m 98) ((m 101) l4.toNatClampNeg).toNatClampNeg >>> (l2 &&& 31)) &&& 1) = 1) from by first | (exact Or.inl (by assumption)) | (exact Or.inr ⟨Int32.not_le.mp (by assumption), by assumption⟩) | (exfalso; omega; done) | (exfalso; contradiction; done)) (show (0 : Int32).toInt = 0 from by omega) r_W r_GW r_GU r_OW r_DX r_GG r_HA r_RGc (show (m 94 58).toInt = 0 ∨ (m 94 10).toInt = 5 from by omega) r_RB r_QI r_L2e r_L3e r_REl (show oo = -1 ∨ zRq aa oo from by first | (exact (Th_d r_TH (by omega)).2) | (exfalso; omega; done) | (exfalso; contradiction; done))
          · skip
            have g28 := i_ne h24
            have hg29 : (0 ≤ l4 ∧ l4.toNatClampNeg < 3100) := i_ix (by omega) (by omega)
            refine ⟨hg29, ?_⟩
            refine zd (fun (h30 : (16 : Int32) ≤ (m 101 l4.toNatClampNeg)) => ?_) (fun (h30 : ¬ (16 : Int32) ≤ (m 101 l4.toNatClampNeg)) => ?_)
            · skip
              have g31 := i_le h30
              try have w60 := (ra_102 hV (k := l4.toNatClampNeg) (by omega)).2
              have hV32 : zV (ma_u m 94 0 (4 : Int32)) := uf_94_0 hV
              exact K ((0 : Int32)) _ (zF_u hF rfl) hV32 (show qNli aa ob ix oo (4 : Int32) (0 : Int32) from by first | (exact Or.inl ⟨Th_c r_TH (by omega), rfl⟩) | (exact Or.inr ⟨Th_d r_TH (by omega), Or.inl ⟨fun z => by have q := (Hw_y r_RB r_REl (by omega)).mp z; rw [← r_L2e] at q; omega, rfl⟩⟩) | (exact Or.inr ⟨Th_d r_TH (by omega), Or.inr ⟨(Hw_y r_RB r_REl (by omega)).mpr (by rw [← r_L2e]; exact ⟨by omega, by omega⟩), Or.inl ⟨(fun z => ((Ir_y (i := l2) r_RB r_REl (by omega) (by omega) (by omega)).mp (by rw [r_L2e]; exact z)).elim (fun q => absurd q (by assumption)) (fun q => by first | exact absurd (Int32.lt_iff_toInt_lt.mp q.1) (by omega) | exact absurd q.2 (by assumption))), rfl⟩⟩⟩) | (exfalso; omega; done) | (exfalso; contradiction; done))
            · skip
              have g33 := i_nle h30
              have hg34 : (0 ≤ l4 ∧ l4.toNatClampNeg < 3100) := i_ix (by omega) (by omega)
              refine ⟨hg34, ?_⟩
              have hg35 : (0 ≤ (m 101 l4.toNatClampNeg) ∧ (m 101 l4.toNatClampNeg).toNatClampNeg < 16) := i_ix (by omega) (by omega)
              refine ⟨hg35, ?_⟩
              have b36 := i_bd (((m 98 (m 101 l4.toNatClampNeg).toNatClampNeg) >>> (l2 &&& 31)) &&& (1 : Int32))
              have li37 : (1 : Int32).toInt = 1 := rfl
              refine zd (fun (h38 : (((m 98 (m 101 l4.toNatClampNeg).toNatClampNeg) >>> (l2 &&& 31)) &&& (1 : Int32)) = (1 : Int32)) => ?_) (fun (h38 : ¬ (((m 98 (m 101 l4.toNatClampNeg).toNatClampNeg) >>> (l2 &&& 31)) &&& (1 : Int32)) = (1 : Int32)) => ?_)
              · skip
                have g39 := i_eq h38
                try have w60 := (ra_102 hV (k := l4.toNatClampNeg) (by omega)).2
                have hV40 : zV (ma_u m 94 0 (0 : Int32)) := uf_94_0 hV
                have b41 := i_bd l3
                exact lp_247an_105 (ob := ob) (ix := ix) (oo := oo) h0 K _ _ (l2) (l3) (l4) rfl (zF_u hF rfl) hV40 (by omega) (by omega) (by omega) (show l2.toInt < (m 102 l4.toNatClampNeg).toInt from by omega) (show (m 101) l4.toNatClampNeg = 16 ∨ ((m 101) l4.toNatClampNeg < 16 ∧ (((m 98) ((m 101) l4.toNatClampNeg).toNatClampNeg >>> (l2 &&& 31)) &&& 1) = 1) from by first | (exact Or.inl (by assumption)) | (exact Or.inr ⟨Int32.not_le.mp (by assumption), by assumption⟩) | (exfalso; omega; done) | (exfalso; contradiction; done)) (show (0 : Int32).toInt = 0 from by omega) r_W r_GW r_GU r_OW r_DX r_GG r_HA r_RGc (show (m 94 58).toInt = 0 ∨ (m 94 10).toInt = 5 from by omega) r_RB r_QI r_L2e r_L3e r_REl (show oo = -1 ∨ zRq aa oo from by first | (exact (Th_d r_TH (by omega)).2) | (exfalso; omega; done) | (exfalso; contradiction; done))
              · skip
                have g42 := i_ne h38
                try have w60 := (ra_102 hV (k := l4.toNatClampNeg) (by omega)).2
                have hV43 : zV (ma_u m 94 0 (4 : Int32)) := uf_94_0 hV
                exact K ((0 : Int32)) _ (zF_u hF rfl) hV43 (show qNli aa ob ix oo (4 : Int32) (0 : Int32) from by first | (exact Or.inl ⟨Th_c r_TH (by omega), rfl⟩) | (exact Or.inr ⟨Th_d r_TH (by omega), Or.inl ⟨fun z => by have q := (Hw_y r_RB r_REl (by omega)).mp z; rw [← r_L2e] at q; omega, rfl⟩⟩) | (exact Or.inr ⟨Th_d r_TH (by omega), Or.inr ⟨(Hw_y r_RB r_REl (by omega)).mpr (by rw [← r_L2e]; exact ⟨by omega, by omega⟩), Or.inl ⟨(fun z => ((Ir_y (i := l2) r_RB r_REl (by omega) (by omega) (by omega)).mp (by rw [r_L2e]; exact z)).elim (fun q => absurd q (by assumption)) (fun q => by first | exact absurd (Int32.lt_iff_toInt_lt.mp q.1) (by omega) | exact absurd q.2 (by assumption))), rfl⟩⟩⟩) | (exfalso; omega; done) | (exfalso; contradiction; done))
        · skip
          have g44 := i_nlt h18
          try have w60 := (ra_102 hV (k := l4.toNatClampNeg) (by omega)).2
          have hV45 : zV (ma_u m 94 0 (3 : Int32)) := uf_94_0 hV
          exact K ((0 : Int32)) _ (zF_u hF rfl) hV45 (show qNli aa ob ix oo (3 : Int32) (0 : Int32) from by first | (exact Or.inl ⟨Th_c r_TH (by omega), rfl⟩) | (exact Or.inr ⟨Th_d r_TH (by omega), Or.inl ⟨fun z => by have q := (Hw_y r_RB r_REl (by omega)).mp z; rw [← r_L2e] at q; omega, rfl⟩⟩) | (exact Or.inr ⟨Th_d r_TH (by omega), Or.inr ⟨(Hw_y r_RB r_REl (by omega)).mpr (by rw [← r_L2e]; exact ⟨by omega, by omega⟩), Or.inl ⟨(fun z => ((Ir_y (i := l2) r_RB r_REl (by omega) (by omega) (by omega)).mp (by rw [r_L2e]; exact z)).elim (fun q => absurd q (by assumption)) (fun q => by first | exact absurd (Int32.lt_iff_toInt_lt.mp q.1) (by omega) | exact absurd q.2 (by assumption))), rfl⟩⟩⟩) | (exfalso; omega; done) | (exfalso; contradiction; done))
set_option maxHeartbeats 8000000 in
theorem sp_247an {X : Nat × (Nat → Int32)} {P : Option ma_V → (Nat → Nat → Int32) → Prop} {T : Nat} {aa : Nat→Nat→Int32} {ro : Int32} {fo : Int32} {le : Int32} {ra : Int32} {pi : Int32} {m : Nat → Nat → Int32} (ob : Int32) (ix : Int32) (oo : Int32) (hV : zV m) (hpre0 : (m 94 8).toInt ≠ 0) (r_W : zW (m 94 7) (m 98) (m 101) (m 102) (m 108)) (r_GW : zGW T (m 94 55) (m 109)) (r_GU : zGU T (m 94 46) (m 99)) (r_OW : zOw (m 99) (m 103) (m 111)) (r_DX : zDX (m 94 10) (m 99) (m 112) (m 113) (m 114) (m 94 55) (m 98) (m 101) (m 102) (m 108)) (r_GG : zGG (m 94 58) (m 94 56) (m 94 57) (m 106)) (r_HA : zHA (m 94 10) (m 94 11) (m 94 13) (m 94 14) (m 94 16) (m 94 61) (m 94 59) (m 94 60) (m 99) (m 102) (m 103) (m 111) (m 117) (m 98) (m 101) (m 108)) (r_RGc : zRG (m 94 10) (m 94 18) (m 94 64) (m 94 63) (m 99) (m 103) (m 102) (m 116)) (hpre9 : (m 94 58).toInt = 0 ∨ (m 94 10).toInt = 5) (r_RB : qRB (m 99) (m 100) (m 98) (m 101) (m 102) (m 103) (m 107) (m 108) (m 109) (m 111) (m 112) (m 113) (m 114) (m 94 55) (m 94 46) ro fo le ra pi aa) (r_QI : qI aa) (KZ : ∀ v m₉, zV (zov wr_247 m m₉) → (qNli aa ob ix oo (m₉ 94 0) v) → P (some (.inl v)) (zov wr_247 m m₉)) : zm X 5 109 247 0 [(0, .inr (.inr (some 94))), (1, .inl ob), (2, .inl ix), (3, .inl oo)] m P := by
  have K : ∀ v m₉, zF wr_247 m m₉ → zV m₉ → (qNli aa ob ix oo (m₉ 94 0) v) → P (some (.inl v)) m₉ := by
    intro v m₉ hf z q0
    have e := zov_eq hf
    rw [e] at z ⊢
    try rw [e] at q0
    exact KZ v m₉ z q0
  refine g_247_0 ob ix oo ?_
  have f1 : 0 ≤ (m 94 8).toInt ∧ (m 94 8).toInt ≤ 1 := rs_94_8 (m := m) hV
  have f2 : 0 ≤ (m 94 58).toInt ∧ (m 94 58).toInt ≤ 1 := rs_94_58 (m := m) hV
  have f3 : 0 ≤ (m 94 10).toInt ∧ (m 94 10).toInt ≤ 6 := rs_94_10 (m := m) hV
  have li4 : (0 : Int32).toInt = 0 := rfl
  refine zd (fun (h5 : (m 94 8) = (0 : Int32)) => ?_) (fun (h5 : ¬ (m 94 8) = (0 : Int32)) => ?_)
  · skip
    have g6 := i_eq h5
    try have w60 := (ra_102 hV (k := l4.toNatClampNeg) (by omega)).2
    have hV7 : zV (ma_u m 94 0 (1 : Int32)) := uf_94_0 hV
    exact K ((0 : Int32)) _ (zF_u zF_rfl rfl) hV7 (show qNli aa ob ix oo (1 : Int32) (0 : Int32) from by first | (exfalso; omega; done) | (exfalso; omega; done) | (exfalso; contradiction; done))
  · skip
    have g8 := i_ne h5
    have b9 := i_bd ob
    have hV10 : zV (ma_u m 94 0 (0 : Int32)) := uf_94_0 hV
    refine sp_245rm (aa := aa) (ob) hV10 r_W r_RB r_QI (fun v2 m1 hV_m1 p0_m1 p1_m1 p2_m1 => zmi_n ?_)
    have p0_m1 : -1 ≤ v2.toInt ∧ v2.toInt ≤ 3099 := p0_m1
    have p1_m1 : v2.toInt < 0 ∨ (m 99) v2.toNatClampNeg ≠ 0 := p1_m1
    have p2_m1 : qRe (m 99) (m 100) aa ob v2 := p2_m1
    have b11 := i_bd v2
    refine zd (fun (h12 : v2 < (0 : Int32)) => ?_) (fun (h12 : ¬ v2 < (0 : Int32)) => ?_)
    · skip
      have g13 := i_lt h12
      try have w60 := (ra_102 hV (k := l4.toNatClampNeg) (by omega)).2
      have b14 := i_bd ix
      have b15 := i_bd oo
      exact lp_247an_53 (ob := ob) (ix := ix) (oo := oo) hV K _ _ (ix) (oo) (v2) ((0 : Int32)) rfl (zF_zov (zF_u zF_rfl rfl) ws_245_247) hV_m1 (by omega) (by omega) (by omega) (by omega) (by omega) r_W r_GW r_GU r_OW r_DX r_GG r_HA r_RGc (show (m 94 58).toInt = 0 ∨ (m 94 10).toInt = 5 from by omega) r_RB r_QI (show ix = ix from by first | (exact rfl) | (exfalso; omega; done) | (exfalso; contradiction; done)) (show oo = oo from by first | (exact rfl) | (exfalso; omega; done) | (exfalso; contradiction; done)) (show qRe (m 99) (m 100) aa ob v2 from by first | (exact p2_m1) | (exfalso; omega; done) | (exfalso; contradiction; done)) (show qTh aa ob oo (0 : Int32) from by first | (exact Or.inr ⟨by decide, fun w => Re_n p2_m1 (by omega) w.1⟩) | (exact Or.inl ⟨by decide, (Re_y p2_m1 (by omega)).2.2.2, Or.inl (by assumption)⟩) | (exfalso; omega; done) | (exfalso; contradiction; done))
    · skip
      have g16 := i_nlt h12
      have b17 := i_bd oo
      have li18 : (-1 : Int32).toInt = -1 := rfl
      refine zd (fun (h19 : oo = (-1 : Int32)) => ?_) (fun (h19 : ¬ oo = (-1 : Int32)) => ?_)
      · skip
        have g20 := i_eq h19
        try have w60 := (ra_102 hV (k := l4.toNatClampNeg) (by omega)).2
        have b21 := i_bd ix
        have li22 : (1 : Int32).toInt = 1 := rfl
        exact lp_247an_53 (ob := ob) (ix := ix) (oo := oo) hV K _ _ (ix) (oo) (v2) ((1 : Int32)) rfl (zF_zov (zF_u zF_rfl rfl) ws_245_247) hV_m1 (by omega) (by omega) (by omega) (by omega) (by omega) r_W r_GW r_GU r_OW r_DX r_GG r_HA r_RGc (show (m 94 58).toInt = 0 ∨ (m 94 10).toInt = 5 from by omega) r_RB r_QI (show ix = ix from by first | (exact rfl) | (exfalso; omega; done) | (exfalso; contradiction; done)) (show oo = oo from by first | (exact rfl) | (exfalso; omega; done) | (exfalso; contradiction; done)) (show qRe (m 99) (m 100) aa ob v2 from by first | (exact p2_m1) | (exfalso; omega; done) | (exfalso; contradiction; done)) (show qTh aa ob oo (1 : Int32) from by first | (exact Or.inr ⟨by decide, fun w => Re_n p2_m1 (by omega) w.1⟩) | (exact Or.inl ⟨by decide, (Re_y p2_m1 (by omega)).2.2.2, Or.inl (by assumption)⟩) | (exfalso; omega; done) | (exfalso; contradiction; done))
      · skip
        have g23 := i_ne h19
        refine sp_245rm (aa := aa) (oo) hV_m1 r_W r_RB r_QI (fun v4 m3 hV_m3 p0_m3 p1_m3 p2_m3 => zmi_n ?_)
        have p0_m3 : -1 ≤ v4.toInt ∧ v4.toInt ≤ 3099 := p0_m3
        have p1_m3 : v4.toInt < 0 ∨ (m 99) v4.toNatClampNeg ≠ 0 := p1_m3
        have p2_m3 : qRe (m 99) (m 100) aa oo v4 := p2_m3
        have b24 := i_bd v4
        refine zd (fun (h25 : v4 < (0 : Int32)) => ?_) (fun (h25 : ¬ v4 < (0 : Int32)) => ?_)
        · skip
          have g26 := i_lt h25
          try have w60 := (ra_102 hV (k := l4.toNatClampNeg) (by omega)).2
          have b27 := i_bd ix
          exact lp_247an_53 (ob := ob) (ix := ix) (oo := oo) hV K _ _ (ix) (oo) (v2) ((0 : Int32)) rfl (zF_zov (zF_zov (zF_u zF_rfl rfl) ws_245_247) ws_245_247) hV_m3 (by omega) (by omega) (by omega) (by omega) (by omega) r_W r_GW r_GU r_OW r_DX r_GG r_HA r_RGc (show (m 94 58).toInt = 0 ∨ (m 94 10).toInt = 5 from by omega) r_RB r_QI (show ix = ix from by first | (exact rfl) | (exfalso; omega; done) | (exfalso; contradiction; done)) (show oo = oo from by first | (exact rfl) | (exfalso; omega; done) | (exfalso; contradiction; done)) (show qRe (m 99) (m 100) aa ob v2 from by first | (exact p2_m1) | (exfalso; omega; done) | (exfalso; contradiction; done)) (show qTh aa ob oo (0 : Int32) from by first | (exact Or.inl ⟨by decide, (Re_y p2_m1 (by omega)).2.2.2, Or.inr (Re_y p2_m3 (by omega)).2.2.2⟩) | (exact Or.inr ⟨by decide, fun w => w.2.elim (fun z => absurd (congrArg Int32.toInt z) (by omega)) (Re_n p2_m3 (by omega))⟩) | (exfalso; omega; done) | (exfalso; contradiction; done))
        · skip
          have g28 := i_nlt h25
          try have w60 := (ra_102 hV (k := l4.toNatClampNeg) (by omega)).2
          have b29 := i_bd ix
          have li30 : (1 : Int32).toInt = 1 := rfl
          exact lp_247an_53 (ob := ob) (ix := ix) (oo := oo) hV K _ _ (ix) (oo) (v2) ((1 : Int32)) rfl (zF_zov (zF_zov (zF_u zF_rfl rfl) ws_245_247) ws_245_247) hV_m3 (by omega) (by omega) (by omega) (by omega) (by omega) r_W r_GW r_GU r_OW r_DX r_GG r_HA r_RGc (show (m 94 58).toInt = 0 ∨ (m 94 10).toInt = 5 from by omega) r_RB r_QI (show ix = ix from by first | (exact rfl) | (exfalso; omega; done) | (exfalso; contradiction; done)) (show oo = oo from by first | (exact rfl) | (exfalso; omega; done) | (exfalso; contradiction; done)) (show qRe (m 99) (m 100) aa ob v2 from by first | (exact p2_m1) | (exfalso; omega; done) | (exfalso; contradiction; done)) (show qTh aa ob oo (1 : Int32) from by first | (exact Or.inl ⟨by decide, (Re_y p2_m1 (by omega)).2.2.2, Or.inr (Re_y p2_m3 (by omega)).2.2.2⟩) | (exact Or.inr ⟨by decide, fun w => w.2.elim (fun z => absurd (congrArg Int32.toInt z) (by omega)) (Re_n p2_m3 (by omega))⟩) | (exfalso; omega; done) | (exfalso; contradiction; done))

