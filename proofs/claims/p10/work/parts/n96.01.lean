/-! the reference before the first heap -/
theorem lp_247z_207 {X : Nat × (Nat → Int32)} {P : Option ma_V → (Nat → Nat → Int32) → Prop} {T : Nat} {ob : Int32} {ix : Int32} {oo : Int32} {m0 : Nat → Nat → Int32} (h0 : zV m0) (K : ∀ v m₉, zF wr_247 m0 m₉ → zV m₉ → ((m₉ 94 8).toInt = 0) → (zW (m₉ 94 7) (m₉ 98) (m₉ 101) (m₉ 102) (m₉ 108)) → (zGW T (m₉ 94 55) (m₉ 109)) → P (some (.inl v)) m₉) : ∀ (n : Nat) (m : Nat → Nat → Int32) (l6 : Int32) (l7 : Int32) (l8 : Int32), ((0 : Int)).toNat = n → zF wr_247 m0 m → zV m → ((0 : Int) = 1) → zm X 5 109 247 207 [(0, .inr (.inr (some 94))), (6, .inl l6), (7, .inl l7), (8, .inl l8)] m P := by
  intro n
  induction n using Nat.strongRecOn with
  | _ n IH =>
    intro m l6 l7 l8 hmu hF hV hi0
    refine g_247_207 l6 l7 l8 ?_
    have b1 := i_bd l7
    have b2 := i_bd l6
    have f3 : 0 ≤ (m 94 58).toInt ∧ (m 94 58).toInt ≤ 1 := rs_94_58 (m := m) hV
    have f4 : 0 ≤ (m 94 10).toInt ∧ (m 94 10).toInt ≤ 6 := rs_94_10 (m := m) hV
    refine sp_240 (l7) (l6) hV (by omega) (by omega) (show zGG (m 94 58) (m 94 56) (m 94 57) (m 106) from by first | (exact fun z => absurd z (by decide)) | (exact fun z => absurd z (by omega)) | (exfalso; omega; done) | (exfalso; contradiction; done)) (show (m 94 58).toInt = 0 ∨ (m 94 10).toInt = 5 from by omega) (fun m1 hV_m1 p0_m1 => zmv_n ?_)
    have p0_m1 : zGG (m 94 58) (m1 94 56) (m 94 57) (m1 106) := p0_m1
    refine sp_241 (l7) hV_m1 (by omega) (show zW (m 94 7) (m 98) (m 101) (m 102) (m 108) from by first | (exfalso; omega; done) | (exfalso; contradiction; done)) (show zGW T (m 94 55) (m 109) from by first | (exfalso; omega; done) | (exfalso; contradiction; done)) (show zGU T (m 94 46) (m 99) from by first | (exfalso; omega; done) | (exfalso; contradiction; done)) (show zOw (m 99) (m 103) (m 111) from by first | (exfalso; omega; done) | (exfalso; contradiction; done)) (show zDX (m 94 10) (m 99) (m 112) (m 113) (m 114) (m 94 55) (m 98) (m 101) (m 102) (m 108) from by first | (exfalso; omega; done) | (exfalso; contradiction; done)) (fun m3 hV_m3 p0_m3 p1_m3 p2_m3 p3_m3 p4_m3 => zmv_n ?_)
    have p0_m3 : zGW T (m3 94 55) (m3 109) := p0_m3
    have p1_m3 : zGU T (m 94 46) (m3 99) := p1_m3
    have p2_m3 : zOw (m3 99) (m 103) (m3 111) := p2_m3
    have p3_m3 : zDX (m 94 10) (m3 99) (m 112) (m3 113) (m3 114) (m3 94 55) (m 98) (m 101) (m 102) (m 108) := p3_m3
    have p4_m3 : (m 94 10).toInt ≠ 4 → ((m3 99) = (m 99) ∧ (m3 111) = (m 111) ∧ (m3 113) = (m 113) ∧ (m3 114) = (m 114) ∧ (m3 94 55) = (m 94 55) ∧ (m3 109) = (m 109)) := p4_m3
    have b5 := i_bd l8
    have f6 : 0 ≤ (m 94 8).toInt ∧ (m 94 8).toInt ≤ 1 := rs_94_8 (m := m) hV
    exact K (l8) _ (zF_zov (zF_zov hF ws_240_247) ws_241_247) hV_m3 (show (m 94 8).toInt = 0 from by omega) (show zW (m 94 7) (m 98) (m 101) (m 102) (m 108) from by first | (exfalso; omega; done) | (exfalso; contradiction; done)) p0_m3
theorem lp_247z_149 {X : Nat × (Nat → Int32)} {P : Option ma_V → (Nat → Nat → Int32) → Prop} {T : Nat} {ob : Int32} {ix : Int32} {oo : Int32} {m0 : Nat → Nat → Int32} (h0 : zV m0) (K : ∀ v m₉, zF wr_247 m0 m₉ → zV m₉ → ((m₉ 94 8).toInt = 0) → (zW (m₉ 94 7) (m₉ 98) (m₉ 101) (m₉ 102) (m₉ 108)) → (zGW T (m₉ 94 55) (m₉ 109)) → P (some (.inl v)) m₉) : ∀ (n : Nat) (m : Nat → Nat → Int32) (l2 : Int32) (l4 : Int32) (l6 : Int32) (l7 : Int32) (l8 : Int32), ((0 : Int)).toNat = n → zF wr_247 m0 m → zV m → ((0 : Int) = 1) → zm X 5 109 247 149 [(0, .inr (.inr (some 94))), (2, .inl l2), (4, .inl l4), (6, .inl l6), (7, .inl l7), (8, .inl l8)] m P := by
  intro n
  induction n using Nat.strongRecOn with
  | _ n IH =>
    intro m l2 l4 l6 l7 l8 hmu hF hV hi0
    refine g_247_149 l2 l4 l6 l7 l8 ?_
    have b1 := i_bd l4
    have li2 : (60 : Int32).toInt = 60 := rfl
    first | have e3 : (l4 * (60 : Int32)).toInt = l4.toInt * 60 := i_mulk rfl (by omega) (by omega) | have b4 := i_bd (l4 * (60 : Int32))
    have b5 := i_bd l2
    first | have e6 : ((l4 * (60 : Int32)) + l2).toInt = (l4 * (60 : Int32)).toInt + l2.toInt := i_add (by omega) (by omega) | have b7 := i_bd ((l4 * (60 : Int32)) + l2)
    have hg8 : (0 ≤ ((l4 * (60 : Int32)) + l2) ∧ ((l4 * (60 : Int32)) + l2).toNatClampNeg < 186000) := i_ix (by omega) (by omega)
    refine ⟨hg8, ?_⟩
    have f9 : 0 ≤ (m 94 10).toInt ∧ (m 94 10).toInt ≤ 6 := rs_94_10 (m := m) hV
    have li10 : (3 : Int32).toInt = 3 := rfl
    refine zd (fun (h11 : (m 94 10) = (3 : Int32)) => ?_) (fun (h11 : ¬ (m 94 10) = (3 : Int32)) => ?_)
    · skip
      have g12 := i_eq h11
      have hg13 : (0 ≤ l4 ∧ l4.toNatClampNeg < 3100) := i_ix (by omega) (by omega)
      refine ⟨hg13, ?_⟩
      have f14 : 0 ≤ (m 94 14).toInt ∧ (m 94 14).toInt ≤ 1500 := rs_94_14 (m := m) hV
      first | have f15 : 0 ≤ (m 103 l4.toNatClampNeg).toInt ∧ (m 103 l4.toNatClampNeg).toInt ≤ 4599 := ra_103 (m := m) hV (k := l4.toNatClampNeg) (i_ix (n := 3100) (by omega) (by omega)).2 | have b16 := i_bd (m 103 l4.toNatClampNeg)
      refine zd (fun (h17 : (m 94 14) ≤ (m 103 l4.toNatClampNeg)) => ?_) (fun (h17 : ¬ (m 94 14) ≤ (m 103 l4.toNatClampNeg)) => ?_)
      · skip
        have g18 := i_le h17
        have hV19 : zV (ma_u m 108 ((l4 * (60 : Int32)) + l2).toNatClampNeg l6) := ua_108 hV
        have b20 := i_bd l6
        have b21 := i_bd l7
        have b22 := i_bd l8
        exact lp_247z_207 (ob := ob) (ix := ix) (oo := oo) h0 K _ _ (l6) (l7) (l8) rfl (zF_u hF rfl) hV19 (show (0 : Int) = 1 from by omega)
      · skip
        have g23 := i_nle h17
        have b24 := i_bd l6
        have li25 : (0 : Int32).toInt = 0 := rfl
        refine zd (fun (h26 : l6 < (0 : Int32)) => ?_) (fun (h26 : ¬ l6 < (0 : Int32)) => ?_)
        · skip
          have g27 := i_lt h26
          have hV28 : zV (ma_u m 108 ((l4 * (60 : Int32)) + l2).toNatClampNeg l6) := ua_108 hV
          have b29 := i_bd l7
          have b30 := i_bd l8
          exact lp_247z_207 (ob := ob) (ix := ix) (oo := oo) h0 K _ _ (l6) (l7) (l8) rfl (zF_u hF rfl) hV28 (show (0 : Int) = 1 from by omega)
        · skip
          have g31 := i_nlt h26
          have hg32 : (0 ≤ l6 ∧ l6.toNatClampNeg < 3100) := i_ix (by omega) (by omega)
          refine ⟨hg32, ?_⟩
          first | have f33 : 0 ≤ (m 103 l6.toNatClampNeg).toInt ∧ (m 103 l6.toNatClampNeg).toInt ≤ 4599 := ra_103 (m := m) hV (k := l6.toNatClampNeg) (i_ix (n := 3100) (by omega) (by omega)).2 | have b34 := i_bd (m 103 l6.toNatClampNeg)
          refine zd (fun (h35 : (m 94 14) ≤ (m 103 l6.toNatClampNeg)) => ?_) (fun (h35 : ¬ (m 94 14) ≤ (m 103 l6.toNatClampNeg)) => ?_)
          · skip
            have g36 := i_le h35
            have hg37 : (0 ≤ l4 ∧ l4.toNatClampNeg < 3100) := i_ix (by omega) (by omega)
            refine ⟨hg37, ?_⟩
            have f38 : 0 ≤ (m 94 16).toInt ∧ (m 94 16).toInt ≤ 64 := rs_94_16 (m := m) hV
            have hg39 : (m 94 16) ≠ 0 := i_nz (by omega)
            refine ⟨hg39, ?_⟩
            first | have e40 : ((m 103 l4.toNatClampNeg) + (1 : Int32)).toInt = (m 103 l4.toNatClampNeg).toInt + (1) := i_addk rfl (by omega) (by omega) | have b41 := i_bd ((m 103 l4.toNatClampNeg) + (1 : Int32))
            first | have e42 : (((m 103 l4.toNatClampNeg) + (1 : Int32)) + l2).toInt = ((m 103 l4.toNatClampNeg) + (1 : Int32)).toInt + l2.toInt := i_add (by omega) (by omega) | have b43 := i_bd (((m 103 l4.toNatClampNeg) + (1 : Int32)) + l2)
            first | have f44 := i_div (x := (((m 103 l4.toNatClampNeg) + (1 : Int32)) + l2)) (y := (m 94 16)) (by omega) (by omega) | have b45 := i_bd ((((m 103 l4.toNatClampNeg) + (1 : Int32)) + l2) / (m 94 16))
            have hg46 : (0 ≤ ((((m 103 l4.toNatClampNeg) + (1 : Int32)) + l2) / (m 94 16)) ∧ ((((m 103 l4.toNatClampNeg) + (1 : Int32)) + l2) / (m 94 16)).toNatClampNeg < 512) := i_ix (by omega) (by omega)
            refine ⟨hg46, ?_⟩
            have hV47 : zV (ma_u m 108 ((l4 * (60 : Int32)) + l2).toNatClampNeg l6) := ua_108 hV
            have li49 : (1 : Int32).toInt = 1 := rfl
            have hV48 : zV (ma_u (ma_u m 108 ((l4 * (60 : Int32)) + l2).toNatClampNeg l6) 117 ((((m 103 l4.toNatClampNeg) + (1 : Int32)) + l2) / (m 94 16)).toNatClampNeg (1 : Int32)) := ua_117 hV47 (by omega) (by omega)
            have b50 := i_bd l7
            have b51 := i_bd l8
            exact lp_247z_207 (ob := ob) (ix := ix) (oo := oo) h0 K _ _ (l6) (l7) (l8) rfl (zF_u (zF_u hF rfl) rfl) hV48 (show (0 : Int) = 1 from by omega)
          · skip
            have g52 := i_nle h35
            have hV53 : zV (ma_u m 108 ((l4 * (60 : Int32)) + l2).toNatClampNeg l6) := ua_108 hV
            have b54 := i_bd l7
            have b55 := i_bd l8
            exact lp_247z_207 (ob := ob) (ix := ix) (oo := oo) h0 K _ _ (l6) (l7) (l8) rfl (zF_u hF rfl) hV53 (show (0 : Int) = 1 from by omega)
    · skip
      have g56 := i_ne h11
      have hV57 : zV (ma_u m 108 ((l4 * (60 : Int32)) + l2).toNatClampNeg l6) := ua_108 hV
      have b58 := i_bd l6
      have b59 := i_bd l7
      have b60 := i_bd l8
      exact lp_247z_207 (ob := ob) (ix := ix) (oo := oo) h0 K _ _ (l6) (l7) (l8) rfl (zF_u hF rfl) hV57 (show (0 : Int) = 1 from by omega)
theorem lp_247z_121 {X : Nat × (Nat → Int32)} {P : Option ma_V → (Nat → Nat → Int32) → Prop} {T : Nat} {ob : Int32} {ix : Int32} {oo : Int32} {m0 : Nat → Nat → Int32} (h0 : zV m0) (K : ∀ v m₉, zF wr_247 m0 m₉ → zV m₉ → ((m₉ 94 8).toInt = 0) → (zW (m₉ 94 7) (m₉ 98) (m₉ 101) (m₉ 102) (m₉ 108)) → (zGW T (m₉ 94 55) (m₉ 109)) → P (some (.inl v)) m₉) : ∀ (n : Nat) (m : Nat → Nat → Int32) (l2 : Int32) (l4 : Int32) (l6 : Int32), ((0 : Int)).toNat = n → zF wr_247 m0 m → zV m → ((0 : Int) = 1) → zm X 5 109 247 121 [(0, .inr (.inr (some 94))), (2, .inl l2), (4, .inl l4), (6, .inl l6)] m P := by
  intro n
  induction n using Nat.strongRecOn with
  | _ n IH =>
    intro m l2 l4 l6 hmu hF hV hi0
    refine g_247_121 l2 l4 l6 ?_
    have b1 := i_bd l4
    have li2 : (60 : Int32).toInt = 60 := rfl
    first | have e3 : (l4 * (60 : Int32)).toInt = l4.toInt * 60 := i_mulk rfl (by omega) (by omega) | have b4 := i_bd (l4 * (60 : Int32))
    have b5 := i_bd l2
    first | have e6 : ((l4 * (60 : Int32)) + l2).toInt = (l4 * (60 : Int32)).toInt + l2.toInt := i_add (by omega) (by omega) | have b7 := i_bd ((l4 * (60 : Int32)) + l2)
    have hg8 : (0 ≤ ((l4 * (60 : Int32)) + l2) ∧ ((l4 * (60 : Int32)) + l2).toNatClampNeg < 186000) := i_ix (by omega) (by omega)
    refine ⟨hg8, ?_⟩
    have li9 : (0 : Int32).toInt = 0 := rfl
    have b10 := i_bd (m 108 ((l4 * (60 : Int32)) + l2).toNatClampNeg)
    refine zd (fun (h11 : (0 : Int32) ≤ (m 108 ((l4 * (60 : Int32)) + l2).toNatClampNeg)) => ?_) (fun (h11 : ¬ (0 : Int32) ≤ (m 108 ((l4 * (60 : Int32)) + l2).toNatClampNeg)) => ?_)
    · skip
      have g12 := i_le h11
      have hg13 : (0 ≤ (m 108 ((l4 * (60 : Int32)) + l2).toNatClampNeg) ∧ (m 108 ((l4 * (60 : Int32)) + l2).toNatClampNeg).toNatClampNeg < 3100) := i_ix (by omega) (by omega)
      refine ⟨hg13, ?_⟩
      have b14 := i_bd l6
      refine zd (fun (h15 : l6 < (0 : Int32)) => ?_) (fun (h15 : ¬ l6 < (0 : Int32)) => ?_)
      · skip
        have g16 := i_lt h15
        first | have f17 : 0 ≤ (m 100 (m 108 ((l4 * (60 : Int32)) + l2).toNatClampNeg).toNatClampNeg).toInt ∧ (m 100 (m 108 ((l4 * (60 : Int32)) + l2).toNatClampNeg).toNatClampNeg).toInt ≤ 100000 := ra_100 (m := m) hV (k := (m 108 ((l4 * (60 : Int32)) + l2).toNatClampNeg).toNatClampNeg) (i_ix (n := 3100) (by omega) (by omega)).2 | have b18 := i_bd (m 100 (m 108 ((l4 * (60 : Int32)) + l2).toNatClampNeg).toNatClampNeg)
        exact lp_247z_149 (ob := ob) (ix := ix) (oo := oo) h0 K _ _ (l2) (l4) (l6) ((m 108 ((l4 * (60 : Int32)) + l2).toNatClampNeg)) ((m 100 (m 108 ((l4 * (60 : Int32)) + l2).toNatClampNeg).toNatClampNeg)) rfl hF hV (show (0 : Int) = 1 from by omega)
      · skip
        have g19 := i_nlt h15
        have f20 : 0 ≤ (m 94 10).toInt ∧ (m 94 10).toInt ≤ 6 := rs_94_10 (m := m) hV
        have li21 : (4 : Int32).toInt = 4 := rfl
        refine zd (fun (h22 : (m 94 10) = (4 : Int32)) => ?_) (fun (h22 : ¬ (m 94 10) = (4 : Int32)) => ?_)
        · skip
          have g23 := i_eq h22
          have hg24 : (0 ≤ l6 ∧ l6.toNatClampNeg < 3100) := i_ix (by omega) (by omega)
          refine ⟨hg24, ?_⟩
          have hg25 : (0 ≤ l6 ∧ l6.toNatClampNeg < 3100) := i_ix (by omega) (by omega)
          refine ⟨hg25, ?_⟩
          have hV26 : zV (ma_u m 105 l6.toNatClampNeg ((m 105 l6.toNatClampNeg) + (1 : Int32))) := ua_105 hV
          first | have f27 : 0 ≤ (m 100 (m 108 ((l4 * (60 : Int32)) + l2).toNatClampNeg).toNatClampNeg).toInt ∧ (m 100 (m 108 ((l4 * (60 : Int32)) + l2).toNatClampNeg).toNatClampNeg).toInt ≤ 100000 := ra_100 (m := m) hV (k := (m 108 ((l4 * (60 : Int32)) + l2).toNatClampNeg).toNatClampNeg) (i_ix (n := 3100) (by omega) (by omega)).2 | have b28 := i_bd (m 100 (m 108 ((l4 * (60 : Int32)) + l2).toNatClampNeg).toNatClampNeg)
          exact lp_247z_149 (ob := ob) (ix := ix) (oo := oo) h0 K _ _ (l2) (l4) (l6) ((m 108 ((l4 * (60 : Int32)) + l2).toNatClampNeg)) ((m 100 (m 108 ((l4 * (60 : Int32)) + l2).toNatClampNeg).toNatClampNeg)) rfl (zF_u hF rfl) hV26 (show (0 : Int) = 1 from by omega)
        · skip
          have g29 := i_ne h22
          first | have f30 : 0 ≤ (m 100 (m 108 ((l4 * (60 : Int32)) + l2).toNatClampNeg).toNatClampNeg).toInt ∧ (m 100 (m 108 ((l4 * (60 : Int32)) + l2).toNatClampNeg).toNatClampNeg).toInt ≤ 100000 := ra_100 (m := m) hV (k := (m 108 ((l4 * (60 : Int32)) + l2).toNatClampNeg).toNatClampNeg) (i_ix (n := 3100) (by omega) (by omega)).2 | have b31 := i_bd (m 100 (m 108 ((l4 * (60 : Int32)) + l2).toNatClampNeg).toNatClampNeg)
          exact lp_247z_149 (ob := ob) (ix := ix) (oo := oo) h0 K _ _ (l2) (l4) (l6) ((m 108 ((l4 * (60 : Int32)) + l2).toNatClampNeg)) ((m 100 (m 108 ((l4 * (60 : Int32)) + l2).toNatClampNeg).toNatClampNeg)) rfl hF hV (show (0 : Int) = 1 from by omega)
    · skip
      have g32 := i_nle h11
      have b33 := i_bd l6
      refine zd (fun (h34 : l6 < (0 : Int32)) => ?_) (fun (h34 : ¬ l6 < (0 : Int32)) => ?_)
      · skip
        have g35 := i_lt h34
        have li36 : (-1 : Int32).toInt = -1 := rfl
        exact lp_247z_149 (ob := ob) (ix := ix) (oo := oo) h0 K _ _ (l2) (l4) (l6) ((m 108 ((l4 * (60 : Int32)) + l2).toNatClampNeg)) ((-1 : Int32)) rfl hF hV (show (0 : Int) = 1 from by omega)
      · skip
        have g37 := i_nlt h34
        have f38 : 0 ≤ (m 94 10).toInt ∧ (m 94 10).toInt ≤ 6 := rs_94_10 (m := m) hV
        have li39 : (4 : Int32).toInt = 4 := rfl
        refine zd (fun (h40 : (m 94 10) = (4 : Int32)) => ?_) (fun (h40 : ¬ (m 94 10) = (4 : Int32)) => ?_)
        · skip
          have g41 := i_eq h40
          have hg42 : (0 ≤ l6 ∧ l6.toNatClampNeg < 3100) := i_ix (by omega) (by omega)
          refine ⟨hg42, ?_⟩
          have hg43 : (0 ≤ l6 ∧ l6.toNatClampNeg < 3100) := i_ix (by omega) (by omega)
          refine ⟨hg43, ?_⟩
          have hV44 : zV (ma_u m 105 l6.toNatClampNeg ((m 105 l6.toNatClampNeg) + (1 : Int32))) := ua_105 hV
          have li45 : (-1 : Int32).toInt = -1 := rfl
          exact lp_247z_149 (ob := ob) (ix := ix) (oo := oo) h0 K _ _ (l2) (l4) (l6) ((m 108 ((l4 * (60 : Int32)) + l2).toNatClampNeg)) ((-1 : Int32)) rfl (zF_u hF rfl) hV44 (show (0 : Int) = 1 from by omega)
        · skip
          have g46 := i_ne h40
          have li47 : (-1 : Int32).toInt = -1 := rfl
          exact lp_247z_149 (ob := ob) (ix := ix) (oo := oo) h0 K _ _ (l2) (l4) (l6) ((m 108 ((l4 * (60 : Int32)) + l2).toNatClampNeg)) ((-1 : Int32)) rfl hF hV (show (0 : Int) = 1 from by omega)
theorem lp_247z_105 {X : Nat × (Nat → Int32)} {P : Option ma_V → (Nat → Nat → Int32) → Prop} {T : Nat} {ob : Int32} {ix : Int32} {oo : Int32} {m0 : Nat → Nat → Int32} (h0 : zV m0) (K : ∀ v m₉, zF wr_247 m0 m₉ → zV m₉ → ((m₉ 94 8).toInt = 0) → (zW (m₉ 94 7) (m₉ 98) (m₉ 101) (m₉ 102) (m₉ 108)) → (zGW T (m₉ 94 55) (m₉ 109)) → P (some (.inl v)) m₉) : ∀ (n : Nat) (m : Nat → Nat → Int32) (l2 : Int32) (l3 : Int32) (l4 : Int32), ((0 : Int)).toNat = n → zF wr_247 m0 m → zV m → ((0 : Int) = 1) → zm X 5 109 247 105 [(0, .inr (.inr (some 94))), (2, .inl l2), (3, .inl l3), (4, .inl l4)] m P := by
  intro n
  induction n using Nat.strongRecOn with
  | _ n IH =>
    intro m l2 l3 l4 hmu hF hV hi0
    refine g_247_105 l2 l3 l4 ?_
    have b1 := i_bd l3
    have li2 : (-1 : Int32).toInt = -1 := rfl
    refine zd (fun (h3 : l3 = (-1 : Int32)) => ?_) (fun (h3 : ¬ l3 = (-1 : Int32)) => ?_)
    · skip
      have g4 := i_eq h3
      have b5 := i_bd l2
      have b6 := i_bd l4
      exact lp_247z_121 (ob := ob) (ix := ix) (oo := oo) h0 K _ _ (l2) (l4) ((-1 : Int32)) rfl hF hV (show (0 : Int) = 1 from by omega)
    · skip
      have g7 := i_ne h3
      refine sp_246b (l3) hV  (fun v2 m1 hV_m1 p0_m1 p1_m1 => zmi_n ?_)
      have p0_m1 : -1 ≤ v2.toInt ∧ v2.toInt ≤ 3099 := p0_m1
      have p1_m1 : v2.toInt < 0 ∨ (m 99) v2.toNatClampNeg ≠ 0 := p1_m1
      have b8 := i_bd l2
      have b9 := i_bd l4
      have b10 := i_bd v2
      exact lp_247z_121 (ob := ob) (ix := ix) (oo := oo) h0 K _ _ (l2) (l4) (v2) rfl (zF_zov hF ws_246_247) hV_m1 (show (0 : Int) = 1 from by omega)
theorem lp_247z_53 {X : Nat × (Nat → Int32)} {P : Option ma_V → (Nat → Nat → Int32) → Prop} {T : Nat} {ob : Int32} {ix : Int32} {oo : Int32} {m0 : Nat → Nat → Int32} (h0 : zV m0) (K : ∀ v m₉, zF wr_247 m0 m₉ → zV m₉ → ((m₉ 94 8).toInt = 0) → (zW (m₉ 94 7) (m₉ 98) (m₉ 101) (m₉ 102) (m₉ 108)) → (zGW T (m₉ 94 55) (m₉ 109)) → P (some (.inl v)) m₉) : ∀ (n : Nat) (m : Nat → Nat → Int32) (l2 : Int32) (l3 : Int32) (l4 : Int32) (l5 : Int32), ((0 : Int)).toNat = n → zF wr_247 m0 m → zV m → ((0 : Int) = 1) → zm X 5 109 247 53 [(0, .inr (.inr (some 94))), (2, .inl l2), (3, .inl l3), (4, .inl l4), (5, .inl l5)] m P := by
  intro n
  induction n using Nat.strongRecOn with
  | _ n IH =>
    intro m l2 l3 l4 l5 hmu hF hV hi0
    refine g_247_53 l2 l3 l4 l5 ?_
    have b1 := i_bd l5
    have li2 : (0 : Int32).toInt = 0 := rfl
    refine zd (fun (h3 : l5 = (0 : Int32)) => ?_) (fun (h3 : ¬ l5 = (0 : Int32)) => ?_)
    · skip
      have g4 := i_eq h3
      have hV5 : zV (ma_u m 94 0 (2 : Int32)) := uf_94_0 hV
      have f6 : 0 ≤ (m 94 8).toInt ∧ (m 94 8).toInt ≤ 1 := rs_94_8 (m := m) hV
      exact K ((0 : Int32)) _ (zF_u hF rfl) hV5 (show (m 94 8).toInt = 0 from by omega) (show zW (m 94 7) (m 98) (m 101) (m 102) (m 108) from by first | (exfalso; omega; done) | (exfalso; contradiction; done)) (show zGW T (m 94 55) (m 109) from by first | (exfalso; omega; done) | (exfalso; contradiction; done))
    · skip
      have g7 := i_ne h3
      have b8 := i_bd l2
      refine zd (fun (h9 : l2 < (0 : Int32)) => ?_) (fun (h9 : ¬ l2 < (0 : Int32)) => ?_)
      · skip
        have g10 := i_lt h9
        have hV11 : zV (ma_u m 94 0 (3 : Int32)) := uf_94_0 hV
        have f12 : 0 ≤ (m 94 8).toInt ∧ (m 94 8).toInt ≤ 1 := rs_94_8 (m := m) hV
        exact K ((0 : Int32)) _ (zF_u hF rfl) hV11 (show (m 94 8).toInt = 0 from by omega) (show zW (m 94 7) (m 98) (m 101) (m 102) (m 108) from by first | (exfalso; omega; done) | (exfalso; contradiction; done)) (show zGW T (m 94 55) (m 109) from by first | (exfalso; omega; done) | (exfalso; contradiction; done))
      · skip
        have g13 := i_nlt h9
        have b14 := i_bd l4
        have hg15 : (0 ≤ l4 ∧ l4.toNatClampNeg < 3100) := i_ix (by omega) (by omega)
        refine ⟨hg15, ?_⟩
        first | have f16 : 0 ≤ (m 102 l4.toNatClampNeg).toInt ∧ (m 102 l4.toNatClampNeg).toInt ≤ 60 := ra_102 (m := m) hV (k := l4.toNatClampNeg) (i_ix (n := 3100) (by omega) (by omega)).2 | have b17 := i_bd (m 102 l4.toNatClampNeg)
        refine zd (fun (h18 : l2 < (m 102 l4.toNatClampNeg)) => ?_) (fun (h18 : ¬ l2 < (m 102 l4.toNatClampNeg)) => ?_)
        · skip
          have g19 := i_lt h18
          have hg20 : (0 ≤ l4 ∧ l4.toNatClampNeg < 3100) := i_ix (by omega) (by omega)
          refine ⟨hg20, ?_⟩
          first | have f21 : 0 ≤ (m 101 l4.toNatClampNeg).toInt ∧ (m 101 l4.toNatClampNeg).toInt ≤ 17 := ra_101 (m := m) hV (k := l4.toNatClampNeg) (i_ix (n := 3100) (by omega) (by omega)).2 | have b22 := i_bd (m 101 l4.toNatClampNeg)
          have li23 : (16 : Int32).toInt = 16 := rfl
          refine zd (fun (h24 : (m 101 l4.toNatClampNeg) = (16 : Int32)) => ?_) (fun (h24 : ¬ (m 101 l4.toNatClampNeg) = (16 : Int32)) => ?_)
          · skip
            have g25 := i_eq h24
            have hV26 : zV (ma_u m 94 0 (0 : Int32)) := uf_94_0 hV
            have b27 := i_bd l3
            exact lp_247z_105 (ob := ob) (ix := ix) (oo := oo) h0 K _ _ (l2) (l3) (l4) rfl (zF_u hF rfl) hV26 (show (0 : Int) = 1 from by omega)
          · skip
            have g28 := i_ne h24
            have hg29 : (0 ≤ l4 ∧ l4.toNatClampNeg < 3100) := i_ix (by omega) (by omega)
            refine ⟨hg29, ?_⟩
            refine zd (fun (h30 : (16 : Int32) ≤ (m 101 l4.toNatClampNeg)) => ?_) (fun (h30 : ¬ (16 : Int32) ≤ (m 101 l4.toNatClampNeg)) => ?_)
            · skip
              have g31 := i_le h30
              have hV32 : zV (ma_u m 94 0 (4 : Int32)) := uf_94_0 hV
              have f33 : 0 ≤ (m 94 8).toInt ∧ (m 94 8).toInt ≤ 1 := rs_94_8 (m := m) hV
              exact K ((0 : Int32)) _ (zF_u hF rfl) hV32 (show (m 94 8).toInt = 0 from by omega) (show zW (m 94 7) (m 98) (m 101) (m 102) (m 108) from by first | (exfalso; omega; done) | (exfalso; contradiction; done)) (show zGW T (m 94 55) (m 109) from by first | (exfalso; omega; done) | (exfalso; contradiction; done))
            · skip
              have g34 := i_nle h30
              have hg35 : (0 ≤ l4 ∧ l4.toNatClampNeg < 3100) := i_ix (by omega) (by omega)
              refine ⟨hg35, ?_⟩
              have hg36 : (0 ≤ (m 101 l4.toNatClampNeg) ∧ (m 101 l4.toNatClampNeg).toNatClampNeg < 16) := i_ix (by omega) (by omega)
              refine ⟨hg36, ?_⟩
              have b37 := i_bd (((m 98 (m 101 l4.toNatClampNeg).toNatClampNeg) >>> (l2 &&& 31)) &&& (1 : Int32))
              have li38 : (1 : Int32).toInt = 1 := rfl
              refine zd (fun (h39 : (((m 98 (m 101 l4.toNatClampNeg).toNatClampNeg) >>> (l2 &&& 31)) &&& (1 : Int32)) = (1 : Int32)) => ?_) (fun (h39 : ¬ (((m 98 (m 101 l4.toNatClampNeg).toNatClampNeg) >>> (l2 &&& 31)) &&& (1 : Int32)) = (1 : Int32)) => ?_)
              · skip
                have g40 := i_eq h39
                have hV41 : zV (ma_u m 94 0 (0 : Int32)) := uf_94_0 hV
                have b42 := i_bd l3
                exact lp_247z_105 (ob := ob) (ix := ix) (oo := oo) h0 K _ _ (l2) (l3) (l4) rfl (zF_u hF rfl) hV41 (show (0 : Int) = 1 from by omega)
              · skip
                have g43 := i_ne h39
                have hV44 : zV (ma_u m 94 0 (4 : Int32)) := uf_94_0 hV
                have f45 : 0 ≤ (m 94 8).toInt ∧ (m 94 8).toInt ≤ 1 := rs_94_8 (m := m) hV
                exact K ((0 : Int32)) _ (zF_u hF rfl) hV44 (show (m 94 8).toInt = 0 from by omega) (show zW (m 94 7) (m 98) (m 101) (m 102) (m 108) from by first | (exfalso; omega; done) | (exfalso; contradiction; done)) (show zGW T (m 94 55) (m 109) from by first | (exfalso; omega; done) | (exfalso; contradiction; done))
        · skip
          have g46 := i_nlt h18
          have hV47 : zV (ma_u m 94 0 (3 : Int32)) := uf_94_0 hV
          have f48 : 0 ≤ (m 94 8).toInt ∧ (m 94 8).toInt ≤ 1 := rs_94_8 (m := m) hV
          exact K ((0 : Int32)) _ (zF_u hF rfl) hV47 (show (m 94 8).toInt = 0 from by omega) (show zW (m 94 7) (m 98) (m 101) (m 102) (m 108) from by first | (exfalso; omega; done) | (exfalso; contradiction; done)) (show zGW T (m 94 55) (m 109) from by first | (exfalso; omega; done) | (exfalso; contradiction; done))
theorem sp_247z {X : Nat × (Nat → Int32)} {P : Option ma_V → (Nat → Nat → Int32) → Prop} {T : Nat} {m : Nat → Nat → Int32} (ob : Int32) (ix : Int32) (oo : Int32) (hV : zV m) (hpre0 : (m 94 8).toInt = 0) (r_W : zW (m 94 7) (m 98) (m 101) (m 102) (m 108)) (r_GW : zGW T (m 94 55) (m 109)) (KZ : ∀ v m₉, zV (zov wr_247 m m₉) → ((m 94 8).toInt = 0) → (zW (m 94 7) (m 98) (m 101) (m 102) (m₉ 108)) → (zGW T (m₉ 94 55) (m₉ 109)) → P (some (.inl v)) (zov wr_247 m m₉)) : zm X 5 109 247 0 [(0, .inr (.inr (some 94))), (1, .inl ob), (2, .inl ix), (3, .inl oo)] m P := by
  have K : ∀ v m₉, zF wr_247 m m₉ → zV m₉ → ((m₉ 94 8).toInt = 0) → (zW (m₉ 94 7) (m₉ 98) (m₉ 101) (m₉ 102) (m₉ 108)) → (zGW T (m₉ 94 55) (m₉ 109)) → P (some (.inl v)) m₉ := by
    intro v m₉ hf z q0 q1 q2
    have e := zov_eq hf
    rw [e] at z ⊢
    try rw [e] at q0
    try rw [e] at q1
    try rw [e] at q2
    exact KZ v m₉ z q0 q1 q2
  refine g_247_0 ob ix oo ?_
  have f1 : 0 ≤ (m 94 8).toInt ∧ (m 94 8).toInt ≤ 1 := rs_94_8 (m := m) hV
  have li2 : (0 : Int32).toInt = 0 := rfl
  refine zd (fun (h3 : (m 94 8) = (0 : Int32)) => ?_) (fun (h3 : ¬ (m 94 8) = (0 : Int32)) => ?_)
  · skip
    have g4 := i_eq h3
    have hV5 : zV (ma_u m 94 0 (1 : Int32)) := uf_94_0 hV
    exact K ((0 : Int32)) _ (zF_u zF_rfl rfl) hV5 (show (m 94 8).toInt = 0 from by omega) r_W r_GW
  · skip
    have g6 := i_ne h3
    have b7 := i_bd ob
    have hV8 : zV (ma_u m 94 0 (0 : Int32)) := uf_94_0 hV
    refine sp_245 (ob) hV8 r_W (show zDX (m 94 10) (m 99) (m 112) (m 113) (m 114) (m 94 55) (m 98) (m 101) (m 102) (m 108) from by first | (exfalso; omega; done) | (exfalso; contradiction; done)) (fun v2 m1 hV_m1 p0_m1 p1_m1 => zmi_n ?_)
    have p0_m1 : -1 ≤ v2.toInt ∧ v2.toInt ≤ 3099 := p0_m1
    have p1_m1 : v2.toInt < 0 ∨ (m 99) v2.toNatClampNeg ≠ 0 := p1_m1
    have b9 := i_bd v2
    refine zd (fun (h10 : v2 < (0 : Int32)) => ?_) (fun (h10 : ¬ v2 < (0 : Int32)) => ?_)
    · skip
      have g11 := i_lt h10
      have b12 := i_bd ix
      have b13 := i_bd oo
      exact lp_247z_53 (ob := ob) (ix := ix) (oo := oo) hV K _ _ (ix) (oo) (v2) ((0 : Int32)) rfl (zF_zov (zF_u zF_rfl rfl) ws_245_247) hV_m1 (show (0 : Int) = 1 from by omega)
    · skip
      have g14 := i_nlt h10
      have b15 := i_bd oo
      have li16 : (-1 : Int32).toInt = -1 := rfl
      refine zd (fun (h17 : oo = (-1 : Int32)) => ?_) (fun (h17 : ¬ oo = (-1 : Int32)) => ?_)
      · skip
        have g18 := i_eq h17
        have b19 := i_bd ix
        have li20 : (1 : Int32).toInt = 1 := rfl
        exact lp_247z_53 (ob := ob) (ix := ix) (oo := oo) hV K _ _ (ix) (oo) (v2) ((1 : Int32)) rfl (zF_zov (zF_u zF_rfl rfl) ws_245_247) hV_m1 (show (0 : Int) = 1 from by omega)
      · skip
        have g21 := i_ne h17
        refine sp_245 (oo) hV_m1 r_W (show zDX (m 94 10) (m 99) (m 112) (m 113) (m 114) (m 94 55) (m 98) (m 101) (m 102) (m 108) from by first | (exfalso; omega; done) | (exfalso; contradiction; done)) (fun v4 m3 hV_m3 p0_m3 p1_m3 => zmi_n ?_)
        have p0_m3 : -1 ≤ v4.toInt ∧ v4.toInt ≤ 3099 := p0_m3
        have p1_m3 : v4.toInt < 0 ∨ (m 99) v4.toNatClampNeg ≠ 0 := p1_m3
        have b22 := i_bd v4
        refine zd (fun (h23 : v4 < (0 : Int32)) => ?_) (fun (h23 : ¬ v4 < (0 : Int32)) => ?_)
        · skip
          have g24 := i_lt h23
          have b25 := i_bd ix
          exact lp_247z_53 (ob := ob) (ix := ix) (oo := oo) hV K _ _ (ix) (oo) (v2) ((0 : Int32)) rfl (zF_zov (zF_zov (zF_u zF_rfl rfl) ws_245_247) ws_245_247) hV_m3 (show (0 : Int) = 1 from by omega)
        · skip
          have g26 := i_nlt h23
          have b27 := i_bd ix
          have li28 : (1 : Int32).toInt = 1 := rfl
          exact lp_247z_53 (ob := ob) (ix := ix) (oo := oo) hV K _ _ (ix) (oo) (v2) ((1 : Int32)) rfl (zF_zov (zF_zov (zF_u zF_rfl rfl) ws_245_247) ws_245_247) hV_m3 (show (0 : Int) = 1 from by omega)
theorem sp_249z {X : Nat × (Nat → Int32)} {P : Option ma_V → (Nat → Nat → Int32) → Prop} {T : Nat} {m : Nat → Nat → Int32} (ob : Int32) (ix : Int32) (hV : zV m) (hpre0 : (m 94 8).toInt = 0) (r_W : zW (m 94 7) (m 98) (m 101) (m 102) (m 108)) (r_GW : zGW T (m 94 55) (m 109)) (KZ : ∀ v m₉, zV (zov wr_249 m m₉) → ((m 94 8).toInt = 0) → (zW (m 94 7) (m 98) (m 101) (m 102) (m 108)) → (zGW T (m 94 55) (m 109)) → P (some (.inl v)) (zov wr_249 m m₉)) : zm X 5 109 249 0 [(0, .inr (.inr (some 94))), (1, .inl ob), (2, .inl ix)] m P := by
  have K : ∀ v m₉, zF wr_249 m m₉ → zV m₉ → ((m₉ 94 8).toInt = 0) → (zW (m₉ 94 7) (m₉ 98) (m₉ 101) (m₉ 102) (m₉ 108)) → (zGW T (m₉ 94 55) (m₉ 109)) → P (some (.inl v)) m₉ := by
    intro v m₉ hf z q0 q1 q2
    have e := zov_eq hf
    rw [e] at z ⊢
    try rw [e] at q0
    try rw [e] at q1
    try rw [e] at q2
    exact KZ v m₉ z q0 q1 q2
  refine g_249_0 ob ix ?_
  have f1 : 0 ≤ (m 94 8).toInt ∧ (m 94 8).toInt ≤ 1 := rs_94_8 (m := m) hV
  have li2 : (0 : Int32).toInt = 0 := rfl
  refine zd (fun (h3 : (m 94 8) = (0 : Int32)) => ?_) (fun (h3 : ¬ (m 94 8) = (0 : Int32)) => ?_)
  · skip
    have g4 := i_eq h3
    have hV5 : zV (ma_u m 94 0 (1 : Int32)) := uf_94_0 hV
    exact K ((0 : Int32)) _ (zF_u zF_rfl rfl) hV5 (show (m 94 8).toInt = 0 from by omega) r_W r_GW
  · skip
    have g6 := i_ne h3
    have b7 := i_bd ob
    have hV8 : zV (ma_u m 94 0 (0 : Int32)) := uf_94_0 hV
    refine sp_245 (ob) hV8 r_W (show zDX (m 94 10) (m 99) (m 112) (m 113) (m 114) (m 94 55) (m 98) (m 101) (m 102) (m 108) from by first | (exfalso; omega; done) | (exfalso; contradiction; done)) (fun v2 m1 hV_m1 p0_m1 p1_m1 => zmi_n ?_)
    have p0_m1 : -1 ≤ v2.toInt ∧ v2.toInt ≤ 3099 := p0_m1
    have p1_m1 : v2.toInt < 0 ∨ (m 99) v2.toNatClampNeg ≠ 0 := p1_m1
    have b9 := i_bd v2
    refine zd (fun (h10 : (0 : Int32) ≤ v2) => ?_) (fun (h10 : ¬ (0 : Int32) ≤ v2) => ?_)
    · skip
      have g11 := i_le h10
      have b12 := i_bd ix
      refine zd (fun (h13 : ix < (0 : Int32)) => ?_) (fun (h13 : ¬ ix < (0 : Int32)) => ?_)
      · skip
        have g14 := i_lt h13
        have hV15 : zV (ma_u (zov wr_245 (ma_u m 94 0 (0 : Int32)) m1) 94 0 (3 : Int32)) := uf_94_0 hV_m1
        exact K ((0 : Int32)) _ (zF_u (zF_zov (zF_u zF_rfl rfl) ws_245_249) rfl) hV15 (show (m 94 8).toInt = 0 from by omega) r_W r_GW
      · skip
        have g16 := i_nlt h13
        have hg17 : (0 ≤ v2 ∧ v2.toNatClampNeg < 3100) := i_ix (by omega) (by omega)
        refine ⟨hg17, ?_⟩
        first | have f18 : 0 ≤ (m 102 v2.toNatClampNeg).toInt ∧ (m 102 v2.toNatClampNeg).toInt ≤ 60 := ra_102 (m := m) hV (k := v2.toNatClampNeg) (i_ix (n := 3100) (by omega) (by omega)).2 | have b19 := i_bd (m 102 v2.toNatClampNeg)
        refine zd (fun (h20 : ix < (m 102 v2.toNatClampNeg)) => ?_) (fun (h20 : ¬ ix < (m 102 v2.toNatClampNeg)) => ?_)
        · skip
          have g21 := i_lt h20
          have hg22 : (0 ≤ v2 ∧ v2.toNatClampNeg < 3100) := i_ix (by omega) (by omega)
          refine ⟨hg22, ?_⟩
          first | have f23 : 0 ≤ (m 101 v2.toNatClampNeg).toInt ∧ (m 101 v2.toNatClampNeg).toInt ≤ 17 := ra_101 (m := m) hV (k := v2.toNatClampNeg) (i_ix (n := 3100) (by omega) (by omega)).2 | have b24 := i_bd (m 101 v2.toNatClampNeg)
          have li25 : (16 : Int32).toInt = 16 := rfl
          refine zd (fun (h26 : (m 101 v2.toNatClampNeg) = (16 : Int32)) => ?_) (fun (h26 : ¬ (m 101 v2.toNatClampNeg) = (16 : Int32)) => ?_)
          · skip
            have g27 := i_eq h26
            have li28 : (60 : Int32).toInt = 60 := rfl
            first | have e29 : (v2 * (60 : Int32)).toInt = v2.toInt * 60 := i_mulk rfl (by omega) (by omega) | have b30 := i_bd (v2 * (60 : Int32))
            first | have e31 : ((v2 * (60 : Int32)) + ix).toInt = (v2 * (60 : Int32)).toInt + ix.toInt := i_add (by omega) (by omega) | have b32 := i_bd ((v2 * (60 : Int32)) + ix)
            have hg33 : (0 ≤ ((v2 * (60 : Int32)) + ix) ∧ ((v2 * (60 : Int32)) + ix).toNatClampNeg < 186000) := i_ix (by omega) (by omega)
            refine ⟨hg33, ?_⟩
            have b34 := i_bd (m 108 ((v2 * (60 : Int32)) + ix).toNatClampNeg)
            refine zd (fun (h35 : (0 : Int32) ≤ (m 108 ((v2 * (60 : Int32)) + ix).toNatClampNeg)) => ?_) (fun (h35 : ¬ (0 : Int32) ≤ (m 108 ((v2 * (60 : Int32)) + ix).toNatClampNeg)) => ?_)
            · skip
              have g36 := i_le h35
              have hg37 : (0 ≤ (m 108 ((v2 * (60 : Int32)) + ix).toNatClampNeg) ∧ (m 108 ((v2 * (60 : Int32)) + ix).toNatClampNeg).toNatClampNeg < 3100) := i_ix (by omega) (by omega)
              refine ⟨hg37, ?_⟩
              have hV38 : zV (ma_u (zov wr_245 (ma_u m 94 0 (0 : Int32)) m1) 94 0 (0 : Int32)) := uf_94_0 hV_m1
              first | have f39 : 0 ≤ (m 100 (m 108 ((v2 * (60 : Int32)) + ix).toNatClampNeg).toNatClampNeg).toInt ∧ (m 100 (m 108 ((v2 * (60 : Int32)) + ix).toNatClampNeg).toNatClampNeg).toInt ≤ 100000 := ra_100 (m := m) hV (k := (m 108 ((v2 * (60 : Int32)) + ix).toNatClampNeg).toNatClampNeg) (i_ix (n := 3100) (by omega) (by omega)).2 | have b40 := i_bd (m 100 (m 108 ((v2 * (60 : Int32)) + ix).toNatClampNeg).toNatClampNeg)
              exact K ((m 100 (m 108 ((v2 * (60 : Int32)) + ix).toNatClampNeg).toNatClampNeg)) _ (zF_u (zF_zov (zF_u zF_rfl rfl) ws_245_249) rfl) hV38 (show (m 94 8).toInt = 0 from by omega) r_W r_GW
            · skip
              have g41 := i_nle h35
              have hV42 : zV (ma_u (zov wr_245 (ma_u m 94 0 (0 : Int32)) m1) 94 0 (0 : Int32)) := uf_94_0 hV_m1
              have li43 : (-1 : Int32).toInt = -1 := rfl
              exact K ((-1 : Int32)) _ (zF_u (zF_zov (zF_u zF_rfl rfl) ws_245_249) rfl) hV42 (show (m 94 8).toInt = 0 from by omega) r_W r_GW
          · skip
            have g44 := i_ne h26
            have hg45 : (0 ≤ v2 ∧ v2.toNatClampNeg < 3100) := i_ix (by omega) (by omega)
            refine ⟨hg45, ?_⟩
            refine zd (fun (h46 : (16 : Int32) ≤ (m 101 v2.toNatClampNeg)) => ?_) (fun (h46 : ¬ (16 : Int32) ≤ (m 101 v2.toNatClampNeg)) => ?_)
            · skip
              have g47 := i_le h46
              have li48 : (60 : Int32).toInt = 60 := rfl
              first | have e49 : (v2 * (60 : Int32)).toInt = v2.toInt * 60 := i_mulk rfl (by omega) (by omega) | have b50 := i_bd (v2 * (60 : Int32))
              first | have e51 : ((v2 * (60 : Int32)) + ix).toInt = (v2 * (60 : Int32)).toInt + ix.toInt := i_add (by omega) (by omega) | have b52 := i_bd ((v2 * (60 : Int32)) + ix)
              have hg53 : (0 ≤ ((v2 * (60 : Int32)) + ix) ∧ ((v2 * (60 : Int32)) + ix).toNatClampNeg < 186000) := i_ix (by omega) (by omega)
              refine ⟨hg53, ?_⟩
              have hV54 : zV (ma_u (zov wr_245 (ma_u m 94 0 (0 : Int32)) m1) 94 0 (0 : Int32)) := uf_94_0 hV_m1
              have b55 := i_bd (m 108 ((v2 * (60 : Int32)) + ix).toNatClampNeg)
              exact K ((m 108 ((v2 * (60 : Int32)) + ix).toNatClampNeg)) _ (zF_u (zF_zov (zF_u zF_rfl rfl) ws_245_249) rfl) hV54 (show (m 94 8).toInt = 0 from by omega) r_W r_GW
            · skip
              have g56 := i_nle h46
              have hg57 : (0 ≤ v2 ∧ v2.toNatClampNeg < 3100) := i_ix (by omega) (by omega)
              refine ⟨hg57, ?_⟩
              have hg58 : (0 ≤ (m 101 v2.toNatClampNeg) ∧ (m 101 v2.toNatClampNeg).toNatClampNeg < 16) := i_ix (by omega) (by omega)
              refine ⟨hg58, ?_⟩
              have b59 := i_bd (((m 98 (m 101 v2.toNatClampNeg).toNatClampNeg) >>> (ix &&& 31)) &&& (1 : Int32))
              have li60 : (1 : Int32).toInt = 1 := rfl
              refine zd (fun (h61 : (((m 98 (m 101 v2.toNatClampNeg).toNatClampNeg) >>> (ix &&& 31)) &&& (1 : Int32)) = (1 : Int32)) => ?_) (fun (h61 : ¬ (((m 98 (m 101 v2.toNatClampNeg).toNatClampNeg) >>> (ix &&& 31)) &&& (1 : Int32)) = (1 : Int32)) => ?_)
              · skip
                have g62 := i_eq h61
                have li63 : (60 : Int32).toInt = 60 := rfl
                first | have e64 : (v2 * (60 : Int32)).toInt = v2.toInt * 60 := i_mulk rfl (by omega) (by omega) | have b65 := i_bd (v2 * (60 : Int32))
                first | have e66 : ((v2 * (60 : Int32)) + ix).toInt = (v2 * (60 : Int32)).toInt + ix.toInt := i_add (by omega) (by omega) | have b67 := i_bd ((v2 * (60 : Int32)) + ix)
                have hg68 : (0 ≤ ((v2 * (60 : Int32)) + ix) ∧ ((v2 * (60 : Int32)) + ix).toNatClampNeg < 186000) := i_ix (by omega) (by omega)
                refine ⟨hg68, ?_⟩
                have b69 := i_bd (m 108 ((v2 * (60 : Int32)) + ix).toNatClampNeg)
                refine zd (fun (h70 : (0 : Int32) ≤ (m 108 ((v2 * (60 : Int32)) + ix).toNatClampNeg)) => ?_) (fun (h70 : ¬ (0 : Int32) ≤ (m 108 ((v2 * (60 : Int32)) + ix).toNatClampNeg)) => ?_)
                · skip
                  have g71 := i_le h70
                  have hg72 : (0 ≤ (m 108 ((v2 * (60 : Int32)) + ix).toNatClampNeg) ∧ (m 108 ((v2 * (60 : Int32)) + ix).toNatClampNeg).toNatClampNeg < 3100) := i_ix (by omega) (by omega)
                  refine ⟨hg72, ?_⟩
                  have hV73 : zV (ma_u (zov wr_245 (ma_u m 94 0 (0 : Int32)) m1) 94 0 (0 : Int32)) := uf_94_0 hV_m1
                  first | have f74 : 0 ≤ (m 100 (m 108 ((v2 * (60 : Int32)) + ix).toNatClampNeg).toNatClampNeg).toInt ∧ (m 100 (m 108 ((v2 * (60 : Int32)) + ix).toNatClampNeg).toNatClampNeg).toInt ≤ 100000 := ra_100 (m := m) hV (k := (m 108 ((v2 * (60 : Int32)) + ix).toNatClampNeg).toNatClampNeg) (i_ix (n := 3100) (by omega) (by omega)).2 | have b75 := i_bd (m 100 (m 108 ((v2 * (60 : Int32)) + ix).toNatClampNeg).toNatClampNeg)
                  exact K ((m 100 (m 108 ((v2 * (60 : Int32)) + ix).toNatClampNeg).toNatClampNeg)) _ (zF_u (zF_zov (zF_u zF_rfl rfl) ws_245_249) rfl) hV73 (show (m 94 8).toInt = 0 from by omega) r_W r_GW
                · skip
                  have g76 := i_nle h70
                  have hV77 : zV (ma_u (zov wr_245 (ma_u m 94 0 (0 : Int32)) m1) 94 0 (0 : Int32)) := uf_94_0 hV_m1
                  have li78 : (-1 : Int32).toInt = -1 := rfl
                  exact K ((-1 : Int32)) _ (zF_u (zF_zov (zF_u zF_rfl rfl) ws_245_249) rfl) hV77 (show (m 94 8).toInt = 0 from by omega) r_W r_GW
              · skip
                have g79 := i_ne h61
                have li80 : (60 : Int32).toInt = 60 := rfl
                first | have e81 : (v2 * (60 : Int32)).toInt = v2.toInt * 60 := i_mulk rfl (by omega) (by omega) | have b82 := i_bd (v2 * (60 : Int32))
                first | have e83 : ((v2 * (60 : Int32)) + ix).toInt = (v2 * (60 : Int32)).toInt + ix.toInt := i_add (by omega) (by omega) | have b84 := i_bd ((v2 * (60 : Int32)) + ix)
                have hg85 : (0 ≤ ((v2 * (60 : Int32)) + ix) ∧ ((v2 * (60 : Int32)) + ix).toNatClampNeg < 186000) := i_ix (by omega) (by omega)
                refine ⟨hg85, ?_⟩
                have hV86 : zV (ma_u (zov wr_245 (ma_u m 94 0 (0 : Int32)) m1) 94 0 (0 : Int32)) := uf_94_0 hV_m1
                have b87 := i_bd (m 108 ((v2 * (60 : Int32)) + ix).toNatClampNeg)
                exact K ((m 108 ((v2 * (60 : Int32)) + ix).toNatClampNeg)) _ (zF_u (zF_zov (zF_u zF_rfl rfl) ws_245_249) rfl) hV86 (show (m 94 8).toInt = 0 from by omega) r_W r_GW
        · skip
          have g88 := i_nlt h20
          have hV89 : zV (ma_u (zov wr_245 (ma_u m 94 0 (0 : Int32)) m1) 94 0 (3 : Int32)) := uf_94_0 hV_m1
          exact K ((0 : Int32)) _ (zF_u (zF_zov (zF_u zF_rfl rfl) ws_245_249) rfl) hV89 (show (m 94 8).toInt = 0 from by omega) r_W r_GW
    · skip
      have g90 := i_nle h10
      have hV91 : zV (ma_u (zov wr_245 (ma_u m 94 0 (0 : Int32)) m1) 94 0 (2 : Int32)) := uf_94_0 hV_m1
      exact K ((0 : Int32)) _ (zF_u (zF_zov (zF_u zF_rfl rfl) ws_245_249) rfl) hV91 (show (m 94 8).toInt = 0 from by omega) r_W r_GW
