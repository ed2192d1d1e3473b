/-! from 95.za6 -/
/-! the reference answers (written by wip/tools/gen15a.py) -/
theorem lp_247av_207 {X : Nat × (Nat → Int32)} {P : Option ma_V → (Nat → Nat → Int32) → Prop} {T : Nat} {ob : Int32} {ix : Int32} {oo : Int32} {m0 : Nat → Nat → Int32} (h0 : zV m0) (K : ∀ v m₉, zF wr_247 m0 m₉ → zV m₉ → ((m₉ 94 0).toInt = 1) → P (some (.inl v)) m₉) : ∀ (n : Nat) (m : Nat → Nat → Int32) (l6 : Int32) (l7 : Int32) (l8 : Int32), ((0 : Int)).toNat = n → zF wr_247 m0 m → zV m → ((0 : Int) = 1) → ((0 : Int) ≤ (T : Int)) → zm X 5 109 247 207 [(0, .inr (.inr (some 94))), (6, .inl l6), (7, .inl l7), (8, .inl l8)] m P := by
  intro n
  induction n using Nat.strongRecOn with
  | _ n IH =>
    intro m l6 l7 l8 hmu hF hV hi0 hi1
    refine g_247_207 l6 l7 l8 ?_
    have b1 := i_bd l7
    have b2 := i_bd l6
    have f3 : 0 ≤ (m 94 58).toInt ∧ (m 94 58).toInt ≤ 1 := rs_94_58 (m := m) hV
    have f4 : 0 ≤ (m 94 10).toInt ∧ (m 94 10).toInt ≤ 6 := rs_94_10 (m := m) hV
    refine sp_240 (l7) (l6) hV (by omega) (by omega) (show zGG (m 94 58) (m 94 56) (m 94 57) (m 106) from by first | (exact fun z => absurd z (by decide)) | (exact fun z => absurd z (by omega)) | (exfalso; omega; done) | (exfalso; contradiction; done)) (show (m 94 58).toInt = 0 ∨ (m 94 10).toInt = 5 from by omega) (fun m1 hV_m1 p0_m1 => zmv_n ?_)
    have p0_m1 : zGG (m 94 58) (m1 94 56) (m 94 57) (m1 106) := p0_m1
    refine sp_241 (l7) hV_m1 (by omega) (show zW (m 94 7) (m 98) (m 101) (m 102) (m 108) from by first | (exfalso; omega; done) | (exfalso; contradiction; done)) (show zGW T (m 94 55) (m 109) from by first | (exfalso; omega; done) | (exfalso; contradiction; done)) (show zGU T (m 94 46) (m 99) from by first | (exfalso; omega; done) | (exfalso; contradiction; done)) (show zOw (m 99) (m 103) (m 111) from by first | (exfalso; omega; done) | (exfalso; contradiction; done)) (show zDX (m 94 10) (m 99) (m 112) (m 113) (m 114) (m 94 55) (m 98) (m 101) (m 102) (m 108) from by first | (exfalso; omega; done) | (exfalso; contradiction; done)) (fun m3 hV_m3 p0_m3 p1_m3 p2_m3 p3_m3 p4_m3 => zmv_n ?_)
    have p0_m3 : zGW T (m3 94 55) (m3 109) := p0_m3
    have p1_m3 : zGU T (m 94 46) (m3 99) := p1_m3
    have p2_m3 : zOw (m3 99) (m 103) (m3 111) := p2_m3
    have p3_m3 : zDX (m 94 10) (m3 99) (m 112) (m3 113) (m3 114) (m3 94 55) (m 98) (m 101) (m 102) (m 108) := p3_m3
    have p4_m3 : (m 94 10).toInt ≠ 4 → ((m3 99) = (m 99) ∧ (m3 111) = (m 111) ∧ (m3 113) = (m 113) ∧ (m3 114) = (m 114) ∧ (m3 94 55) = (m 94 55) ∧ (m3 109) = (m 109)) := p4_m3
    have b5 := i_bd l8
    have b6 := i_bd (m 94 0)
    exact K (l8) _ (zF_zov (zF_zov hF ws_240_247) ws_241_247) hV_m3 (show (m 94 0).toInt = 1 from by omega)
theorem lp_247av_149 {X : Nat × (Nat → Int32)} {P : Option ma_V → (Nat → Nat → Int32) → Prop} {T : Nat} {ob : Int32} {ix : Int32} {oo : Int32} {m0 : Nat → Nat → Int32} (h0 : zV m0) (K : ∀ v m₉, zF wr_247 m0 m₉ → zV m₉ → ((m₉ 94 0).toInt = 1) → P (some (.inl v)) m₉) : ∀ (n : Nat) (m : Nat → Nat → Int32) (l2 : Int32) (l4 : Int32) (l6 : Int32) (l7 : Int32) (l8 : Int32), ((0 : Int)).toNat = n → zF wr_247 m0 m → zV m → ((0 : Int) = 1) → ((0 : Int) ≤ (T : Int)) → zm X 5 109 247 149 [(0, .inr (.inr (some 94))), (2, .inl l2), (4, .inl l4), (6, .inl l6), (7, .inl l7), (8, .inl l8)] m P := by
  intro n
  induction n using Nat.strongRecOn with
  | _ n IH =>
    intro m l2 l4 l6 l7 l8 hmu hF hV hi0 hi1
    refine g_247_149 l2 l4 l6 l7 l8 ?_
    have b1 := i_bd l4
    have li2 : (60 : Int32).toInt = 60 := rfl
    first | have e3 : (l4 * (60 : Int32)).toInt = l4.toInt * 60 := i_mulk rfl (by omega) (by omega) | have b4 := i_bd (l4 * (60 : Int32))
    have b5 := i_bd l2
    first | have e6 : ((l4 * (60 : Int32)) + l2).toInt = (l4 * (60 : Int32)).toInt + l2.toInt := i_add (by omega) (by omega) | have b7 := i_bd ((l4 * (60 : Int32)) + l2)
    have hg8 : (0 ≤ ((l4 * (60 : Int32)) + l2) ∧ ((l4 * (60 : Int32)) + l2).toNatClampNeg < 186000) := i_ix (by omega) (by omega)
    refine ⟨hg8, ?_⟩
    have f9 : 0 ≤ (m 94 10).toInt ∧ (m 94 10).toInt ≤ 6 := rs_94_10 (m := m) hV
    have li10 : (3 : Int32).toInt = 3 := rfl
    refine zd (fun (h11 : (m 94 10) = (3 : Int32)) => ?_) (fun (h11 : ¬ (m 94 10) = (3 : Int32)) => ?_)
    · skip
      have g12 := i_eq h11
      have hg13 : (0 ≤ l4 ∧ l4.toNatClampNeg < 3100) := i_ix (by omega) (by omega)
      refine ⟨hg13, ?_⟩
      have f14 : 0 ≤ (m 94 14).toInt ∧ (m 94 14).toInt ≤ 1500 := rs_94_14 (m := m) hV
      first | have f15 : 0 ≤ (m 103 l4.toNatClampNeg).toInt ∧ (m 103 l4.toNatClampNeg).toInt ≤ 4599 := ra_103 (m := m) hV (k := l4.toNatClampNeg) (i_ix (n := 3100) (by omega) (by omega)).2 | have b16 := i_bd (m 103 l4.toNatClampNeg)
      refine zd (fun (h17 : (m 94 14) ≤ (m 103 l4.toNatClampNeg)) => ?_) (fun (h17 : ¬ (m 94 14) ≤ (m 103 l4.toNatClampNeg)) => ?_)
      · skip
        have g18 := i_le h17
        have hV19 : zV (ma_u m 108 ((l4 * (60 : Int32)) + l2).toNatClampNeg l6) := ua_108 hV
        have b20 := i_bd l6
        have b21 := i_bd l7
        have b22 := i_bd l8
        exact lp_247av_207 (T := T) (ob := ob) (ix := ix) (oo := oo) h0 K _ _ (l6) (l7) (l8) rfl (zF_u hF rfl) hV19 (show (0 : Int) = 1 from by omega) (by omega)
      · skip
        have g23 := i_nle h17
        have b24 := i_bd l6
        have li25 : (0 : Int32).toInt = 0 := rfl
        refine zd (fun (h26 : l6 < (0 : Int32)) => ?_) (fun (h26 : ¬ l6 < (0 : Int32)) => ?_)
        · skip
          have g27 := i_lt h26
          have hV28 : zV (ma_u m 108 ((l4 * (60 : Int32)) + l2).toNatClampNeg l6) := ua_108 hV
          have b29 := i_bd l7
          have b30 := i_bd l8
          exact lp_247av_207 (T := T) (ob := ob) (ix := ix) (oo := oo) h0 K _ _ (l6) (l7) (l8) rfl (zF_u hF rfl) hV28 (show (0 : Int) = 1 from by omega) (by omega)
        · skip
          have g31 := i_nlt h26
          have hg32 : (0 ≤ l6 ∧ l6.toNatClampNeg < 3100) := i_ix (by omega) (by omega)
          refine ⟨hg32, ?_⟩
          first | have f33 : 0 ≤ (m 103 l6.toNatClampNeg).toInt ∧ (m 103 l6.toNatClampNeg).toInt ≤ 4599 := ra_103 (m := m) hV (k := l6.toNatClampNeg) (i_ix (n := 3100) (by omega) (by omega)).2 | have b34 := i_bd (m 103 l6.toNatClampNeg)
          refine zd (fun (h35 : (m 94 14) ≤ (m 103 l6.toNatClampNeg)) => ?_) (fun (h35 : ¬ (m 94 14) ≤ (m 103 l6.toNatClampNeg)) => ?_)
          · skip
            have g36 := i_le h35
            have hg37 : (0 ≤ l4 ∧ l4.toNatClampNeg < 3100) := i_ix (by omega) (by omega)
            refine ⟨hg37, ?_⟩
            have f38 : 0 ≤ (m 94 16).toInt ∧ (m 94 16).toInt ≤ 64 := rs_94_16 (m := m) hV
            have hg39 : (m 94 16) ≠ 0 := i_nz (by omega)
            refine ⟨hg39, ?_⟩
            first | have e40 : ((m 103 l4.toNatClampNeg) + (1 : Int32)).toInt = (m 103 l4.toNatClampNeg).toInt + (1) := i_addk rfl (by omega) (by omega) | have b41 := i_bd ((m 103 l4.toNatClampNeg) + (1 : Int32))
            first | have e42 : (((m 103 l4.toNatClampNeg) + (1 : Int32)) + l2).toInt = ((m 103 l4.toNatClampNeg) + (1 : Int32)).toInt + l2.toInt := i_add (by omega) (by omega) | have b43 := i_bd (((m 103 l4.toNatClampNeg) + (1 : Int32)) + l2)
            first | have f44 := i_div (x := (((m 103 l4.toNatClampNeg) + (1 : Int32)) + l2)) (y := (m 94 16)) (by omega) (by omega) | have b45 := i_bd ((((m 103 l4.toNatClampNeg) + (1 : Int32)) + l2) / (m 94 16))
            have hg46 : (0 ≤ ((((m 103 l4.toNatClampNeg) + (1 : Int32)) + l2) / (m 94 16)) ∧ ((((m 103 l4.toNatClampNeg) + (1 : Int32)) + l2) / (m 94 16)).toNatClampNeg < 512) := i_ix (by omega) (by omega)
            refine ⟨hg46, ?_⟩
            have hV47 : zV (ma_u m 108 ((l4 * (60 : Int32)) + l2).toNatClampNeg l6) := ua_108 hV
            have li49 : (1 : Int32).toInt = 1 := rfl
            have hV48 : zV (ma_u (ma_u m 108 ((l4 * (60 : Int32)) + l2).toNatClampNeg l6) 117 ((((m 103 l4.toNatClampNeg) + (1 : Int32)) + l2) / (m 94 16)).toNatClampNeg (1 : Int32)) := ua_117 hV47 (by omega) (by omega)
            have b50 := i_bd l7
            have b51 := i_bd l8
            exact lp_247av_207 (T := T) (ob := ob) (ix := ix) (oo := oo) h0 K _ _ (l6) (l7) (l8) rfl (zF_u (zF_u hF rfl) rfl) hV48 (show (0 : Int) = 1 from by omega) (by omega)
          · skip
            have g52 := i_nle h35
            have hV53 : zV (ma_u m 108 ((l4 * (60 : Int32)) + l2).toNatClampNeg l6) := ua_108 hV
            have b54 := i_bd l7
            have b55 := i_bd l8
            exact lp_247av_207 (T := T) (ob := ob) (ix := ix) (oo := oo) h0 K _ _ (l6) (l7) (l8) rfl (zF_u hF rfl) hV53 (show (0 : Int) = 1 from by omega) (by omega)
    · skip
      have g56 := i_ne h11
      have hV57 : zV (ma_u m 108 ((l4 * (60 : Int32)) + l2).toNatClampNeg l6) := ua_108 hV
      have b58 := i_bd l6
      have b59 := i_bd l7
      have b60 := i_bd l8
      exact lp_247av_207 (T := T) (ob := ob) (ix := ix) (oo := oo) h0 K _ _ (l6) (l7) (l8) rfl (zF_u hF rfl) hV57 (show (0 : Int) = 1 from by omega) (by omega)
theorem lp_247av_121 {X : Nat × (Nat → Int32)} {P : Option ma_V → (Nat → Nat → Int32) → Prop} {T : Nat} {ob : Int32} {ix : Int32} {oo : Int32} {m0 : Nat → Nat → Int32} (h0 : zV m0) (K : ∀ v m₉, zF wr_247 m0 m₉ → zV m₉ → ((m₉ 94 0).toInt = 1) → P (some (.inl v)) m₉) : ∀ (n : Nat) (m : Nat → Nat → Int32) (l2 : Int32) (l4 : Int32) (l6 : Int32), ((0 : Int)).toNat = n → zF wr_247 m0 m → zV m → ((0 : Int) = 1) → ((0 : Int) ≤ (T : Int)) → zm X 5 109 247 121 [(0, .inr (.inr (some 94))), (2, .inl l2), (4, .inl l4), (6, .inl l6)] m P := by
  intro n
  induction n using Nat.strongRecOn with
  | _ n IH =>
    intro m l2 l4 l6 hmu hF hV hi0 hi1
    refine g_247_121 l2 l4 l6 ?_
    have b1 := i_bd l4
    have li2 : (60 : Int32).toInt = 60 := rfl
    first | have e3 : (l4 * (60 : Int32)).toInt = l4.toInt * 60 := i_mulk rfl (by omega) (by omega) | have b4 := i_bd (l4 * (60 : Int32))
    have b5 := i_bd l2
    first | have e6 : ((l4 * (60 : Int32)) + l2).toInt = (l4 * (60 : Int32)).toInt + l2.toInt := i_add (by omega) (by omega) | have b7 := i_bd ((l4 * (60 : Int32)) + l2)
    have hg8 : (0 ≤ ((l4 * (60 : Int32)) + l2) ∧ ((l4 * (60 : Int32)) + l2).toNatClampNeg < 186000) := i_ix (by omega) (by omega)
    refine ⟨hg8, ?_⟩
    have li9 : (0 : Int32).toInt = 0 := rfl
    have b10 := i_bd (m 108 ((l4 * (60 : Int32)) + l2).toNatClampNeg)
    refine zd (fun (h11 : (0 : Int32) ≤ (m 108 ((l4 * (60 : Int32)) + l2).toNatClampNeg)) => ?_) (fun (h11 : ¬ (0 : Int32) ≤ (m 108 ((l4 * (60 : Int32)) + l2).toNatClampNeg)) => ?_)
    · skip
      have g12 := i_le h11
      have hg13 : (0 ≤ (m 108 ((l4 * (60 : Int32)) + l2).toNatClampNeg) ∧ (m 108 ((l4 * (60 : Int32)) + l2).toNatClampNeg).toNatClampNeg < 3100) := i_ix (by omega) (by omega)
      refine ⟨hg13, ?_⟩
      have b14 := i_bd l6
      refine zd (fun (h15 : l6 < (0 : Int32)) => ?_) (fun (h15 : ¬ l6 < (0 : Int32)) => ?_)
      · skip
        have g16 := i_lt h15
        first | have f17 : 0 ≤ (m 100 (m 108 ((l4 * (60 : Int32)) + l2).toNatClampNeg).toNatClampNeg).toInt ∧ (m 100 (m 108 ((l4 * (60 : Int32)) + l2).toNatClampNeg).toNatClampNeg).toInt ≤ 100000 := ra_100 (m := m) hV (k := (m 108 ((l4 * (60 : Int32)) + l2).toNatClampNeg).toNatClampNeg) (i_ix (n := 3100) (by omega) (by omega)).2 | have b18 := i_bd (m 100 (m 108 ((l4 * (60 : Int32)) + l2).toNatClampNeg).toNatClampNeg)
        exact lp_247av_149 (T := T) (ob := ob) (ix := ix) (oo := oo) h0 K _ _ (l2) (l4) (l6) ((m 108 ((l4 * (60 : Int32)) + l2).toNatClampNeg)) ((m 100 (m 108 ((l4 * (60 : Int32)) + l2).toNatClampNeg).toNatClampNeg)) rfl hF hV (show (0 : Int) = 1 from by omega) (by omega)
      · skip
        have g19 := i_nlt h15
        have f20 : 0 ≤ (m 94 10).toInt ∧ (m 94 10).toInt ≤ 6 := rs_94_10 (m := m) hV
        have li21 : (4 : Int32).toInt = 4 := rfl
        refine zd (fun (h22 : (m 94 10) = (4 : Int32)) => ?_) (fun (h22 : ¬ (m 94 10) = (4 : Int32)) => ?_)
        · skip
          have g23 := i_eq h22
          have hg24 : (0 ≤ l6 ∧ l6.toNatClampNeg < 3100) := i_ix (by omega) (by omega)
          refine ⟨hg24, ?_⟩
          have hg25 : (0 ≤ l6 ∧ l6.toNatClampNeg < 3100) := i_ix (by omega) (by omega)
          refine ⟨hg25, ?_⟩
          have hV26 : zV (ma_u m 105 l6.toNatClampNeg ((m 105 l6.toNatClampNeg) + (1 : Int32))) := ua_105 hV
          first | have f27 : 0 ≤ (m 100 (m 108 ((l4 * (60 : Int32)) + l2).toNatClampNeg).toNatClampNeg).toInt ∧ (m 100 (m 108 ((l4 * (60 : Int32)) + l2).toNatClampNeg).toNatClampNeg).toInt ≤ 100000 := ra_100 (m := m) hV (k := (m 108 ((l4 * (60 : Int32)) + l2).toNatClampNeg).toNatClampNeg) (i_ix (n := 3100) (by omega) (by omega)).2 | have b28 := i_bd (m 100 (m 108 ((l4 * (60 : Int32)) + l2).toNatClampNeg).toNatClampNeg)
          exact lp_247av_149 (T := T) (ob := ob) (ix := ix) (oo := oo) h0 K _ _ (l2) (l4) (l6) ((m 108 ((l4 * (60 : Int32)) + l2).toNatClampNeg)) ((m 100 (m 108 ((l4 * (60 : Int32)) + l2).toNatClampNeg).toNatClampNeg)) rfl (zF_u hF rfl) hV26 (show (0 : Int) = 1 from by omega) (by omega)
        · skip
          have g29 := i_ne h22
          first | have f30 : 0 ≤ (m 100 (m 108 ((l4 * (60 : Int32)) + l2).toNatClampNeg).toNatClampNeg).toInt ∧ (m 100 (m 108 ((l4 * (60 : Int32)) + l2).toNatClampNeg).toNatClampNeg).toInt ≤ 100000 := ra_100 (m := m) hV (k := (m 108 ((l4 * (60 : Int32)) + l2).toNatClampNeg).toNatClampNeg) (i_ix (n := 3100) (by omega) (by omega)).2 | have b31 := i_bd (m 100 (m 108 ((l4 * (60 : Int32)) + l2).toNatClampNeg).toNatClampNeg)
          exact lp_247av_149 (T := T) (ob := ob) (ix := ix) (oo := oo) h0 K _ _ (l2) (l4) (l6) ((m 108 ((l4 * (60 : Int32)) + l2).toNatClampNeg)) ((m 100 (m 108 ((l4 * (60 : Int32)) + l2).toNatClampNeg).toNatClampNeg)) rfl hF hV (show (0 : Int) = 1 from by omega) (by omega)
    · skip
      have g32 := i_nle h11
      have b33 := i_bd l6
      refine zd (fun (h34 : l6 < (0 : Int32)) => ?_) (fun (h34 : ¬ l6 < (0 : Int32)) => ?_)
      · skip
        have g35 := i_lt h34
        have li36 : (-1 : Int32).toInt = -1 := rfl
        exact lp_247av_149 (T := T) (ob := ob) (ix := ix) (oo := oo) h0 K _ _ (l2) (l4) (l6) ((m 108 ((l4 * (60 : Int32)) + l2).toNatClampNeg)) ((-1 : Int32)) rfl hF hV (show (0 : Int) = 1 from by omega) (by omega)
      · skip
        have g37 := i_nlt h34
        have f38 : 0 ≤ (m 94 10).toInt ∧ (m 94 10).toInt ≤ 6 := rs_94_10 (m := m) hV
        have li39 : (4 : Int32).toInt = 4 := rfl
        refine zd (fun (h40 : (m 94 10) = (4 : Int32)) => ?_) (fun (h40 : ¬ (m 94 10) = (4 : Int32)) => ?_)
        · skip
          have g41 := i_eq h40
          have hg42 : (0 ≤ l6 ∧ l6.toNatClampNeg < 3100) := i_ix (by omega) (by omega)
          refine ⟨hg42, ?_⟩
          have hg43 : (0 ≤ l6 ∧ l6.toNatClampNeg < 3100) := i_ix (by omega) (by omega)
          refine ⟨hg43, ?_⟩
          have hV44 : zV (ma_u m 105 l6.toNatClampNeg ((m 105 l6.toNatClampNeg) + (1 : Int32))) := ua_105 hV
          have li45 : (-1 : Int32).toInt = -1 := rfl
          exact lp_247av_149 (T := T) (ob := ob) (ix := ix) (oo := oo) h0 K _ _ (l2) (l4) (l6) ((m 108 ((l4 * (60 : Int32)) + l2).toNatClampNeg)) ((-1 : Int32)) rfl (zF_u hF rfl) hV44 (show (0 : Int) = 1 from by omega) (by omega)
        · skip
          have g46 := i_ne h40
          have li47 : (-1 : Int32).toInt = -1 := rfl
          exact lp_247av_149 (T := T) (ob := ob) (ix := ix) (oo := oo) h0 K _ _ (l2) (l4) (l6) ((m 108 ((l4 * (60 : Int32)) + l2).toNatClampNeg)) ((-1 : Int32)) rfl hF hV (show (0 : Int) = 1 from by omega) (by omega)
theorem lp_247av_105 {X : Nat × (Nat → Int32)} {P : Option ma_V → (Nat → Nat → Int32) → Prop} {T : Nat} {ob : Int32} {ix : Int32} {oo : Int32} {m0 : Nat → Nat → Int32} (h0 : zV m0) (K : ∀ v m₉, zF wr_247 m0 m₉ → zV m₉ → ((m₉ 94 0).toInt = 1) → P (some (.inl v)) m₉) : ∀ (n : Nat) (m : Nat → Nat → Int32) (l2 : Int32) (l3 : Int32) (l4 : Int32), ((0 : Int)).toNat = n → zF wr_247 m0 m → zV m → ((0 : Int) = 1) → ((0 : Int) ≤ (T : Int)) → zm X 5 109 247 105 [(0, .inr (.inr (some 94))), (2, .inl l2), (3, .inl l3), (4, .inl l4)] m P := by
  intro n
  induction n using Nat.strongRecOn with
  | _ n IH =>
    intro m l2 l3 l4 hmu hF hV hi0 hi1
    refine g_247_105 l2 l3 l4 ?_
    have b1 := i_bd l3
    have li2 : (-1 : Int32).toInt = -1 := rfl
    refine zd (fun (h3 : l3 = (-1 : Int32)) => ?_) (fun (h3 : ¬ l3 = (-1 : Int32)) => ?_)
    · skip
      have g4 := i_eq h3
      have b5 := i_bd l2
      have b6 := i_bd l4
      exact lp_247av_121 (T := T) (ob := ob) (ix := ix) (oo := oo) h0 K _ _ (l2) (l4) ((-1 : Int32)) rfl hF hV (show (0 : Int) = 1 from by omega) (by omega)
    · skip
      have g7 := i_ne h3
      refine sp_246r (l3) hV  (fun v2 m1 hV_m1 p0_m1 p1_m1 => zmi_n ?_)
      have p0_m1 : -1 ≤ v2.toInt ∧ v2.toInt ≤ 3099 := p0_m1
      have p1_m1 : qPl (m 99) (m 100) l3 v2 := p1_m1
      have b8 := i_bd l2
      have b9 := i_bd l4
      have b10 := i_bd v2
      exact lp_247av_121 (T := T) (ob := ob) (ix := ix) (oo := oo) h0 K _ _ (l2) (l4) (v2) rfl (zF_zov hF ws_246_247) hV_m1 (show (0 : Int) = 1 from by omega) (by omega)
theorem lp_247av_53 {X : Nat × (Nat → Int32)} {P : Option ma_V → (Nat → Nat → Int32) → Prop} {T : Nat} {ob : Int32} {ix : Int32} {oo : Int32} {m0 : Nat → Nat → Int32} (h0 : zV m0) (K : ∀ v m₉, zF wr_247 m0 m₉ → zV m₉ → ((m₉ 94 0).toInt = 1) → P (some (.inl v)) m₉) : ∀ (n : Nat) (m : Nat → Nat → Int32) (l2 : Int32) (l3 : Int32) (l4 : Int32) (l5 : Int32), ((0 : Int)).toNat = n → zF wr_247 m0 m → zV m → ((0 : Int) = 1) → ((0 : Int) ≤ (T : Int)) → zm X 5 109 247 53 [(0, .inr (.inr (some 94))), (2, .inl l2), (3, .inl l3), (4, .inl l4), (5, .inl l5)] m P := by
  intro n
  induction n using Nat.strongRecOn with
  | _ n IH =>
    intro m l2 l3 l4 l5 hmu hF hV hi0 hi1
    refine g_247_53 l2 l3 l4 l5 ?_
    have b1 := i_bd l5
    have li2 : (0 : Int32).toInt = 0 := rfl
    refine zd (fun (h3 : l5 = (0 : Int32)) => ?_) (fun (h3 : ¬ l5 = (0 : Int32)) => ?_)
    · skip
      have g4 := i_eq h3
      have hV5 : zV (ma_u m 94 0 (2 : Int32)) := uf_94_0 hV
      have li6 : (2 : Int32).toInt = 2 := rfl
      exact K ((0 : Int32)) _ (zF_u hF rfl) hV5 (show (2 : Int32).toInt = 1 from by omega)
    · skip
      have g7 := i_ne h3
      have b8 := i_bd l2
      refine zd (fun (h9 : l2 < (0 : Int32)) => ?_) (fun (h9 : ¬ l2 < (0 : Int32)) => ?_)
      · skip
        have g10 := i_lt h9
        have hV11 : zV (ma_u m 94 0 (3 : Int32)) := uf_94_0 hV
        have li12 : (3 : Int32).toInt = 3 := rfl
        exact K ((0 : Int32)) _ (zF_u hF rfl) hV11 (show (3 : Int32).toInt = 1 from by omega)
      · skip
        have g13 := i_nlt h9
        have b14 := i_bd l4
        have hg15 : (0 ≤ l4 ∧ l4.toNatClampNeg < 3100) := i_ix (by omega) (by omega)
        refine ⟨hg15, ?_⟩
        first | have f16 : 0 ≤ (m 102 l4.toNatClampNeg).toInt ∧ (m 102 l4.toNatClampNeg).toInt ≤ 60 := ra_102 (m := m) hV (k := l4.toNatClampNeg) (i_ix (n := 3100) (by omega) (by omega)).2 | have b17 := i_bd (m 102 l4.toNatClampNeg)
        refine zd (fun (h18 : l2 < (m 102 l4.toNatClampNeg)) => ?_) (fun (h18 : ¬ l2 < (m 102 l4.toNatClampNeg)) => ?_)
        · skip
          have g19 := i_lt h18
          have hg20 : (0 ≤ l4 ∧ l4.toNatClampNeg < 3100) := i_ix (by omega) (by omega)
          refine ⟨hg20, ?_⟩
          first | have f21 : 0 ≤ (m 101 l4.toNatClampNeg).toInt ∧ (m 101 l4.toNatClampNeg).toInt ≤ 17 := ra_101 (m := m) hV (k := l4.toNatClampNeg) (i_ix (n := 3100) (by omega) (by omega)).2 | have b22 := i_bd (m 101 l4.toNatClampNeg)
          have li23 : (16 : Int32).toInt = 16 := rfl
          refine zd (fun (h24 : (m 101 l4.toNatClampNeg) = (16 : Int32)) => ?_) (fun (h24 : ¬ (m 101 l4.toNatClampNeg) = (16 : Int32)) => ?_)
          · skip
            have g25 := i_eq h24
            have hV26 : zV (ma_u m 94 0 (0 : Int32)) := uf_94_0 hV
            have b27 := i_bd l3
            exact lp_247av_105 (T := T) (ob := ob) (ix := ix) (oo := oo) h0 K _ _ (l2) (l3) (l4) rfl (zF_u hF rfl) hV26 (show (0 : Int) = 1 from by omega) (by omega)
          · skip
            have g28 := i_ne h24
            have hg29 : (0 ≤ l4 ∧ l4.toNatClampNeg < 3100) := i_ix (by omega) (by omega)
            refine ⟨hg29, ?_⟩
            refine zd (fun (h30 : (16 : Int32) ≤ (m 101 l4.toNatClampNeg)) => ?_) (fun (h30 : ¬ (16 : Int32) ≤ (m 101 l4.toNatClampNeg)) => ?_)
            · skip
              have g31 := i_le h30
              have hV32 : zV (ma_u m 94 0 (4 : Int32)) := uf_94_0 hV
              have li33 : (4 : Int32).toInt = 4 := rfl
              exact K ((0 : Int32)) _ (zF_u hF rfl) hV32 (show (4 : Int32).toInt = 1 from by omega)
            · skip
              have g34 := i_nle h30
              have hg35 : (0 ≤ l4 ∧ l4.toNatClampNeg < 3100) := i_ix (by omega) (by omega)
              refine ⟨hg35, ?_⟩
              have hg36 : (0 ≤ (m 101 l4.toNatClampNeg) ∧ (m 101 l4.toNatClampNeg).toNatClampNeg < 16) := i_ix (by omega) (by omega)
              refine ⟨hg36, ?_⟩
              have b37 := i_bd (((m 98 (m 101 l4.toNatClampNeg).toNatClampNeg) >>> (l2 &&& 31)) &&& (1 : Int32))
              have li38 : (1 : Int32).toInt = 1 := rfl
              refine zd (fun (h39 : (((m 98 (m 101 l4.toNatClampNeg).toNatClampNeg) >>> (l2 &&& 31)) &&& (1 : Int32)) = (1 : Int32)) => ?_) (fun (h39 : ¬ (((m 98 (m 101 l4.toNatClampNeg).toNatClampNeg) >>> (l2 &&& 31)) &&& (1 : Int32)) = (1 : Int32)) => ?_)
              · skip
                have g40 := i_eq h39
                have hV41 : zV (ma_u m 94 0 (0 : Int32)) := uf_94_0 hV
                have b42 := i_bd l3
                exact lp_247av_105 (T := T) (ob := ob) (ix := ix) (oo := oo) h0 K _ _ (l2) (l3) (l4) rfl (zF_u hF rfl) hV41 (show (0 : Int) = 1 from by omega) (by omega)
              · skip
                have g43 := i_ne h39
                have hV44 : zV (ma_u m 94 0 (4 : Int32)) := uf_94_0 hV
                have li45 : (4 : Int32).toInt = 4 := rfl
                exact K ((0 : Int32)) _ (zF_u hF rfl) hV44 (show (4 : Int32).toInt = 1 from by omega)
        · skip
          have g46 := i_nlt h18
          have hV47 : zV (ma_u m 94 0 (3 : Int32)) := uf_94_0 hV
          have li48 : (3 : Int32).toInt = 3 := rfl
          exact K ((0 : Int32)) _ (zF_u hF rfl) hV47 (show (3 : Int32).toInt = 1 from by omega)
theorem sp_247av {X : Nat × (Nat → Int32)} {P : Option ma_V → (Nat → Nat → Int32) → Prop} {T : Nat} {m : Nat → Nat → Int32} (ob : Int32) (ix : Int32) (oo : Int32) (hV : zV m) (hpre0 : (m 94 8).toInt = 0) (KZ : ∀ v m₉, zV (zov wr_247 m m₉) → ((m₉ 94 0).toInt = 1) → P (some (.inl v)) (zov wr_247 m m₉)) : zm X 5 109 247 0 [(0, .inr (.inr (some 94))), (1, .inl ob), (2, .inl ix), (3, .inl oo)] m P := by
  have K : ∀ v m₉, zF wr_247 m m₉ → zV m₉ → ((m₉ 94 0).toInt = 1) → P (some (.inl v)) m₉ := by
    intro v m₉ hf z q0
    have e := zov_eq hf
    rw [e] at z ⊢
    try rw [e] at q0
    exact KZ v m₉ z q0
  refine g_247_0 ob ix oo ?_
  have f1 : 0 ≤ (m 94 8).toInt ∧ (m 94 8).toInt ≤ 1 := rs_94_8 (m := m) hV
  have li2 : (0 : Int32).toInt = 0 := rfl
  refine zd (fun (h3 : (m 94 8) = (0 : Int32)) => ?_) (fun (h3 : ¬ (m 94 8) = (0 : Int32)) => ?_)
  · skip
    have g4 := i_eq h3
    have hV5 : zV (ma_u m 94 0 (1 : Int32)) := uf_94_0 hV
    have li6 : (1 : Int32).toInt = 1 := rfl
    exact K ((0 : Int32)) _ (zF_u zF_rfl rfl) hV5 (show (1 : Int32).toInt = 1 from by omega)
  · skip
    have g7 := i_ne h3
    have b8 := i_bd ob
    have hV9 : zV (ma_u m 94 0 (0 : Int32)) := uf_94_0 hV
    refine sp_245 (ob) hV9 (show zW (m 94 7) (m 98) (m 101) (m 102) (m 108) from by first | (exfalso; omega; done) | (exfalso; contradiction; done)) (show zDX (m 94 10) (m 99) (m 112) (m 113) (m 114) (m 94 55) (m 98) (m 101) (m 102) (m 108) from by first | (exfalso; omega; done) | (exfalso; contradiction; done)) (fun v2 m1 hV_m1 p0_m1 p1_m1 => zmi_n ?_)
    have p0_m1 : -1 ≤ v2.toInt ∧ v2.toInt ≤ 3099 := p0_m1
    have p1_m1 : v2.toInt < 0 ∨ (m 99) v2.toNatClampNeg ≠ 0 := p1_m1
    have b10 := i_bd v2
    refine zd (fun (h11 : v2 < (0 : Int32)) => ?_) (fun (h11 : ¬ v2 < (0 : Int32)) => ?_)
    · skip
      have g12 := i_lt h11
      have b13 := i_bd ix
      have b14 := i_bd oo
      exact lp_247av_53 (T := T) (ob := ob) (ix := ix) (oo := oo) hV K _ _ (ix) (oo) (v2) ((0 : Int32)) rfl (zF_zov (zF_u zF_rfl rfl) ws_245_247) hV_m1 (show (0 : Int) = 1 from by omega) (by omega)
    · skip
      have g15 := i_nlt h11
      have b16 := i_bd oo
      have li17 : (-1 : Int32).toInt = -1 := rfl
      refine zd (fun (h18 : oo = (-1 : Int32)) => ?_) (fun (h18 : ¬ oo = (-1 : Int32)) => ?_)
      · skip
        have g19 := i_eq h18
        have b20 := i_bd ix
        have li21 : (1 : Int32).toInt = 1 := rfl
        exact lp_247av_53 (T := T) (ob := ob) (ix := ix) (oo := oo) hV K _ _ (ix) (oo) (v2) ((1 : Int32)) rfl (zF_zov (zF_u zF_rfl rfl) ws_245_247) hV_m1 (show (0 : Int) = 1 from by omega) (by omega)
      · skip
        have g22 := i_ne h18
        refine sp_245 (oo) hV_m1 (show zW (m 94 7) (m 98) (m 101) (m 102) (m 108) from by first | (exfalso; omega; done) | (exfalso; contradiction; done)) (show zDX (m 94 10) (m 99) (m 112) (m 113) (m 114) (m 94 55) (m 98) (m 101) (m 102) (m 108) from by first | (exfalso; omega; done) | (exfalso; contradiction; done)) (fun v4 m3 hV_m3 p0_m3 p1_m3 => zmi_n ?_)
        have p0_m3 : -1 ≤ v4.toInt ∧ v4.toInt ≤ 3099 := p0_m3
        have p1_m3 : v4.toInt < 0 ∨ (m 99) v4.toNatClampNeg ≠ 0 := p1_m3
        have b23 := i_bd v4
        refine zd (fun (h24 : v4 < (0 : Int32)) => ?_) (fun (h24 : ¬ v4 < (0 : Int32)) => ?_)
        · skip
          have g25 := i_lt h24
          have b26 := i_bd ix
          exact lp_247av_53 (T := T) (ob := ob) (ix := ix) (oo := oo) hV K _ _ (ix) (oo) (v2) ((0 : Int32)) rfl (zF_zov (zF_zov (zF_u zF_rfl rfl) ws_245_247) ws_245_247) hV_m3 (show (0 : Int) = 1 from by omega) (by omega)
        · skip
          have g27 := i_nlt h24
          have b28 := i_bd ix
          have li29 : (1 : Int32).toInt = 1 := rfl
          exact lp_247av_53 (T := T) (ob := ob) (ix := ix) (oo := oo) hV K _ _ (ix) (oo) (v2) ((1 : Int32)) rfl (zF_zov (zF_zov (zF_u zF_rfl rfl) ws_245_247) ws_245_247) hV_m3 (show (0 : Int) = 1 from by omega) (by omega)

/-! from 95.zk0 -/
/-! the reference: kind, step under the moving collectors; no heap (written by wip/tools/gen15k.py) -/
theorem sp_170um {X : Nat × (Nat → Int32)} {P : Option ma_V → (Nat → Nat → Int32) → Prop} {T : Nat} {aa : Nat→Nat→Int32} {ro : Int32} {fo : Int32} {le : Int32} {ra : Int32} {pi : Int32} {m : Nat → Nat → Int32} (nw : Int32) (rf : Int32) (hV : zV m) (hpre0 : T ≤ 512) (r_W : zW (m 94 7) (m 98) (m 101) (m 102) (m 108)) (r_GW : zGW T (m 94 55) (m 109)) (r_GU : zGU T (m 94 46) (m 99)) (r_OW : zOw (m 99) (m 103) (m 111)) (r_GG : zGG (m 94 58) (m 94 56) (m 94 57) (m 106)) (r_RB : qRB (m 99) (m 100) (m 98) (m 101) (m 102) (m 103) (m 107) (m 108) (m 109) (m 111) (m 112) (m 113) (m 114) (m 94 55) (m 94 46) ro fo le ra pi aa) (KZ : ∀ v m₉, zV (zov wr_170 m m₉) → (qRB (m 99) (m 100) (m₉ 98) (m 101) (m 102) (m 103) (m 107) (m 108) (m 109) (m 111) (m 112) (m 113) (m 114) (m 94 55) (m 94 46) ro fo le ra pi aa) → P (some (.inl v)) (zov wr_170 m m₉)) : zm X 1 21 170 0 [(0, .inr (.inr (some 94))), (1, .inl nw), (2, .inl rf)] m P := by
  have K : ∀ v m₉, zF wr_170 m m₉ → zV m₉ → (qRB (m₉ 99) (m₉ 100) (m₉ 98) (m₉ 101) (m₉ 102) (m₉ 103) (m₉ 107) (m₉ 108) (m₉ 109) (m₉ 111) (m₉ 112) (m₉ 113) (m₉ 114) (m₉ 94 55) (m₉ 94 46) ro fo le ra pi aa) → P (some (.inl v)) m₉ := by
    intro v m₉ hf z q0
    have e := zov_eq hf
    rw [e] at z ⊢
    try rw [e] at q0
    exact KZ v m₉ z q0
  refine g_170_0 nw rf ?_
  have b1 := i_bd nw
  have li2 : (0 : Int32).toInt = 0 := rfl
  refine zd (fun (h3 : nw < (0 : Int32)) => ?_) (fun (h3 : ¬ nw < (0 : Int32)) => ?_)
  · skip
    have g4 := i_lt h3
    have hV5 : zV (ma_u m 94 0 (1 : Int32)) := uf_94_0 hV
    exact K ((0 : Int32)) _ (zF_u zF_rfl rfl) hV5 r_RB
  · skip
    have g6 := i_nlt h3
    have li7 : (8 : Int32).toInt = 8 := rfl
    refine zd (fun (h8 : nw ≤ (8 : Int32)) => ?_) (fun (h8 : ¬ nw ≤ (8 : Int32)) => ?_)
    · skip
      have g9 := i_le h8
      have b10 := i_bd rf
      refine zd (fun (h11 : rf < (0 : Int32)) => ?_) (fun (h11 : ¬ rf < (0 : Int32)) => ?_)
      · skip
        have g12 := i_lt h11
        have hV13 : zV (ma_u m 94 0 (1 : Int32)) := uf_94_0 hV
        exact K ((0 : Int32)) _ (zF_u zF_rfl rfl) hV13 r_RB
      · skip
        have g14 := i_nlt h11
        have b15 := i_bd ((1 : Int32) <<< (nw &&& 31))
        refine zd (fun (h16 : rf < ((1 : Int32) <<< (nw &&& 31))) => ?_) (fun (h16 : ¬ rf < ((1 : Int32) <<< (nw &&& 31))) => ?_)
        · skip
          have g17 := i_lt h16
          have f18 : 0 ≤ (m 94 7).toInt ∧ (m 94 7).toInt ≤ 16 := rs_94_7 (m := m) hV
          have li19 : (16 : Int32).toInt = 16 := rfl
          refine zd (fun (h20 : (m 94 7) = (16 : Int32)) => ?_) (fun (h20 : ¬ (m 94 7) = (16 : Int32)) => ?_)
          · skip
            have g21 := i_eq h20
            have hV22 : zV (ma_u m 94 0 (2 : Int32)) := uf_94_0 hV
            exact K ((0 : Int32)) _ (zF_u zF_rfl rfl) hV22 r_RB
          · skip
            have g23 := i_ne h20
            have hg24 : (0 ≤ (m 94 7) ∧ (m 94 7).toNatClampNeg < 16) := i_ix (by omega) (by omega)
            refine ⟨hg24, ?_⟩
            try have sh := i_shl8 (n := nw) (by omega) (by omega)
            have hg25 : (0 ≤ (m 94 7) ∧ (m 94 7).toNatClampNeg < 16) := i_ix (by omega) (by omega)
            refine ⟨hg25, ?_⟩
            have hV26 : zV (ma_u m 94 0 (0 : Int32)) := uf_94_0 hV
            have hV27 : zV (ma_u (ma_u m 94 0 (0 : Int32)) 97 (m 94 7).toNatClampNeg nw) := ua_97 hV26 (by omega) (by omega)
            have hV28 : zV (ma_u (ma_u (ma_u m 94 0 (0 : Int32)) 97 (m 94 7).toNatClampNeg nw) 98 (m 94 7).toNatClampNeg rf) := ua_98 hV27 (by omega) (by omega)
            first | have e30 : ((m 94 7) + (1 : Int32)).toInt = (m 94 7).toInt + (1) := i_addk rfl (by omega) (by omega) | have b31 := i_bd ((m 94 7) + (1 : Int32))
            have hV29 : zV (ma_u (ma_u (ma_u (ma_u m 94 0 (0 : Int32)) 97 (m 94 7).toNatClampNeg nw) 98 (m 94 7).toNatClampNeg rf) 94 7 ((m 94 7) + (1 : Int32))) := us_94_7 hV28 (by omega) (by omega)
            first | have e32 : (((m 94 7) + (1 : Int32)) - (1 : Int32)).toInt = ((m 94 7) + (1 : Int32)).toInt - (1) := i_subk rfl (by omega) (by omega) | have b33 := i_bd (((m 94 7) + (1 : Int32)) - (1 : Int32))
            exact K ((((m 94 7) + (1 : Int32)) - (1 : Int32))) _ (zF_u (zF_u (zF_u (zF_u zF_rfl rfl) rfl) rfl) rfl) hV29 (show qRB (m 99) (m 100) ((ma_u m 98 (m 94 7).toNatClampNeg rf) 98) (m 101) (m 102) (m 103) (m 107) (m 108) (m 109) (m 111) (m 112) (m 113) (m 114) (m 94 55) (m 94 46) ro fo le ra pi aa from by first | (exact RB_kd r_RB r_W (tn_cast (by omega)) (fun t ht => (ra_101 hV ht).1)) | (exfalso; omega; done) | (exfalso; contradiction; done))
        · skip
          have g34 := i_nlt h16
          have hV35 : zV (ma_u m 94 0 (1 : Int32)) := uf_94_0 hV
          exact K ((0 : Int32)) _ (zF_u zF_rfl rfl) hV35 r_RB
    · skip
      have g36 := i_nle h8
      have hV37 : zV (ma_u m 94 0 (1 : Int32)) := uf_94_0 hV
      exact K ((0 : Int32)) _ (zF_u zF_rfl rfl) hV37 r_RB
theorem sp_257wm {X : Nat × (Nat → Int32)} {P : Option ma_V → (Nat → Nat → Int32) → Prop} {T : Nat} {m : Nat → Nat → Int32} (nn : Int32) (hV : zV m) (hpre0 : (m 94 8).toInt = 1) (hpre1 : ((m 94 10).toInt = 1 ∨ (m 94 10).toInt = 2 ∨ (m 94 10).toInt = 3 ∨ (m 94 10).toInt = 6)) (r_W : zW (m 94 7) (m 98) (m 101) (m 102) (m 108)) (r_GW : zGW T (m 94 55) (m 109)) (r_GU : zGU T (m 94 46) (m 99)) (r_OW : zOw (m 99) (m 103) (m 111)) (r_DX : zDX (m 94 10) (m 99) (m 112) (m 113) (m 114) (m 94 55) (m 98) (m 101) (m 102) (m 108)) (r_GG : zGG (m 94 58) (m 94 56) (m 94 57) (m 106)) (r_HA : zHA (m 94 10) (m 94 11) (m 94 13) (m 94 14) (m 94 16) (m 94 61) (m 94 59) (m 94 60) (m 99) (m 102) (m 103) (m 111) (m 117) (m 98) (m 101) (m 108)) (r_RGc : zRG (m 94 10) (m 94 18) (m 94 64) (m 94 63) (m 99) (m 103) (m 102) (m 116)) (hpre10 : (m 94 58).toInt = 0 ∨ (m 94 10).toInt = 5) (KZ : ∀ v m₉, zV (zov wr_257 m m₉) → (zW (m 94 7) (m 98) (m 101) (m 102) (m 108)) → (zGW T (m₉ 94 55) (m₉ 109)) → (zGU T (m 94 46) (m₉ 99)) → (zOw (m₉ 99) (m 103) (m₉ 111)) → (zDX (m 94 10) (m₉ 99) (m 112) (m₉ 113) (m₉ 114) (m₉ 94 55) (m 98) (m 101) (m 102) (m 108)) → (zGG (m₉ 94 58) (m₉ 94 56) (m₉ 94 57) (m₉ 106)) → (zHA (m 94 10) (m 94 11) (m 94 13) (m 94 14) (m 94 16) (m 94 61) (m 94 59) (m 94 60) (m₉ 99) (m 102) (m 103) (m₉ 111) (m 117) (m 98) (m 101) (m 108)) → (zRG (m 94 10) (m 94 18) (m 94 64) (m 94 63) (m₉ 99) (m 103) (m 102) (m 116)) → ((m₉ 94 58).toInt = 0 ∨ (m 94 10).toInt = 5) → (((nn.toInt < 0 ∨ 1000 < nn.toInt) ∧ (m₉ 94 0).toInt = 1) ∨ ((0 ≤ nn.toInt ∧ nn.toInt ≤ 1000) ∧ (m₉ 94 0).toInt = 3)) → ((m 98) = (m 98) ∧ (m₉ 99) = (m 99) ∧ (m 100) = (m 100) ∧ (m 101) = (m 101) ∧ (m 102) = (m 102) ∧ (m 103) = (m 103) ∧ (m 104) = (m 104) ∧ (m 107) = (m 107) ∧ (m 108) = (m 108) ∧ (m₉ 109) = (m 109) ∧ (m₉ 111) = (m 111) ∧ (m 112) = (m 112) ∧ (m₉ 113) = (m 113) ∧ (m₉ 114) = (m 114) ∧ (m 116) = (m 116) ∧ (m 117) = (m 117) ∧ (m 94 11) = (m 94 11) ∧ (m 94 13) = (m 94 13) ∧ (m 94 14) = (m 94 14) ∧ (m 94 15) = (m 94 15) ∧ (m 94 16) = (m 94 16) ∧ (m 94 18) = (m 94 18) ∧ (m 94 19) = (m 94 19) ∧ (m₉ 94 45) = (m 94 45) ∧ (m 94 46) = (m 94 46) ∧ (m₉ 94 55) = (m 94 55) ∧ (m₉ 94 58) = (m 94 58) ∧ (m 94 59) = (m 94 59) ∧ (m 94 60) = (m 94 60) ∧ (m 94 61) = (m 94 61) ∧ (m 94 63) = (m 94 63) ∧ (m 94 64) = (m 94 64)) → P (some (.inl v)) (zov wr_257 m m₉)) : zm X 5 109 257 0 [(0, .inr (.inr (some 94))), (1, .inl nn)] m P := by
  have K : ∀ v m₉, zF wr_257 m m₉ → zV m₉ → (zW (m₉ 94 7) (m₉ 98) (m₉ 101) (m₉ 102) (m₉ 108)) → (zGW T (m₉ 94 55) (m₉ 109)) → (zGU T (m₉ 94 46) (m₉ 99)) → (zOw (m₉ 99) (m₉ 103) (m₉ 111)) → (zDX (m₉ 94 10) (m₉ 99) (m₉ 112) (m₉ 113) (m₉ 114) (m₉ 94 55) (m₉ 98) (m₉ 101) (m₉ 102) (m₉ 108)) → (zGG (m₉ 94 58) (m₉ 94 56) (m₉ 94 57) (m₉ 106)) → (zHA (m₉ 94 10) (m₉ 94 11) (m₉ 94 13) (m₉ 94 14) (m₉ 94 16) (m₉ 94 61) (m₉ 94 59) (m₉ 94 60) (m₉ 99) (m₉ 102) (m₉ 103) (m₉ 111) (m₉ 117) (m₉ 98) (m₉ 101) (m₉ 108)) → (zRG (m₉ 94 10) (m₉ 94 18) (m₉ 94 64) (m₉ 94 63) (m₉ 99) (m₉ 103) (m₉ 102) (m₉ 116)) → ((m₉ 94 58).toInt = 0 ∨ (m₉ 94 10).toInt = 5) → (((nn.toInt < 0 ∨ 1000 < nn.toInt) ∧ (m₉ 94 0).toInt = 1) ∨ ((0 ≤ nn.toInt ∧ nn.toInt ≤ 1000) ∧ (m₉ 94 0).toInt = 3)) → ((m₉ 98) = (m 98) ∧ (m₉ 99) = (m 99) ∧ (m₉ 100) = (m 100) ∧ (m₉ 101) = (m 101) ∧ (m₉ 102) = (m 102) ∧ (m₉ 103) = (m 103) ∧ (m₉ 104) = (m 104) ∧ (m₉ 107) = (m 107) ∧ (m₉ 108) = (m 108) ∧ (m₉ 109) = (m 109) ∧ (m₉ 111) = (m 111) ∧ (m₉ 112) = (m 112) ∧ (m₉ 113) = (m 113) ∧ (m₉ 114) = (m 114) ∧ (m₉ 116) = (m 116) ∧ (m₉ 117) = (m 117) ∧ (m₉ 94 11) = (m 94 11) ∧ (m₉ 94 13) = (m 94 13) ∧ (m₉ 94 14) = (m 94 14) ∧ (m₉ 94 15) = (m 94 15) ∧ (m₉ 94 16) = (m 94 16) ∧ (m₉ 94 18) = (m 94 18) ∧ (m₉ 94 19) = (m 94 19) ∧ (m₉ 94 45) = (m 94 45) ∧ (m₉ 94 46) = (m 94 46) ∧ (m₉ 94 55) = (m 94 55) ∧ (m₉ 94 58) = (m 94 58) ∧ (m₉ 94 59) = (m 94 59) ∧ (m₉ 94 60) = (m 94 60) ∧ (m₉ 94 61) = (m 94 61) ∧ (m₉ 94 63) = (m 94 63) ∧ (m₉ 94 64) = (m 94 64)) → P (some (.inl v)) m₉ := by
    intro v m₉ hf z q0 q1 q2 q3 q4 q5 q6 q7 q8 q9 q10
    have e := zov_eq hf
    rw [e] at z ⊢
    try rw [e] at q0
    try rw [e] at q1
    try rw [e] at q2
    try rw [e] at q3
    try rw [e] at q4
    try rw [e] at q5
    try rw [e] at q6
    try rw [e] at q7
    try rw [e] at q8
    try rw [e] at q9
    try rw [e] at q10
    exact KZ v m₉ z q0 q1 q2 q3 q4 q5 q6 q7 q8 q9 q10
  refine g_257_0 nn ?_
  have f1 : 0 ≤ (m 94 8).toInt ∧ (m 94 8).toInt ≤ 1 := rs_94_8 (m := m) hV
  have f2 : 0 ≤ (m 94 10).toInt ∧ (m 94 10).toInt ≤ 6 := rs_94_10 (m := m) hV
  have f3 : 0 ≤ (m 94 58).toInt ∧ (m 94 58).toInt ≤ 1 := rs_94_58 (m := m) hV
  have b4 := i_bd nn
  have li5 : (0 : Int32).toInt = 0 := rfl
  refine zd (fun (h6 : nn < (0 : Int32)) => ?_) (fun (h6 : ¬ nn < (0 : Int32)) => ?_)
  · skip
    have g7 := i_lt h6
    have hV8 : zV (ma_u m 94 0 (1 : Int32)) := uf_94_0 hV
    have li9 : (1 : Int32).toInt = 1 := rfl
    exact K ((0 : Int32)) _ (zF_u zF_rfl rfl) hV8 r_W r_GW r_GU r_OW r_DX r_GG r_HA r_RGc (show (m 94 58).toInt = 0 ∨ (m 94 10).toInt = 5 from by omega) (show ((nn.toInt < 0 ∨ 1000 < nn.toInt) ∧ (1 : Int32).toInt = 1) ∨ ((0 ≤ nn.toInt ∧ nn.toInt ≤ 1000) ∧ (1 : Int32).toInt = 3) from by omega) (show (m 98) = (m 98) ∧ (m 99) = (m 99) ∧ (m 100) = (m 100) ∧ (m 101) = (m 101) ∧ (m 102) = (m 102) ∧ (m 103) = (m 103) ∧ (m 104) = (m 104) ∧ (m 107) = (m 107) ∧ (m 108) = (m 108) ∧ (m 109) = (m 109) ∧ (m 111) = (m 111) ∧ (m 112) = (m 112) ∧ (m 113) = (m 113) ∧ (m 114) = (m 114) ∧ (m 116) = (m 116) ∧ (m 117) = (m 117) ∧ (m 94 11) = (m 94 11) ∧ (m 94 13) = (m 94 13) ∧ (m 94 14) = (m 94 14) ∧ (m 94 15) = (m 94 15) ∧ (m 94 16) = (m 94 16) ∧ (m 94 18) = (m 94 18) ∧ (m 94 19) = (m 94 19) ∧ (m 94 45) = (m 94 45) ∧ (m 94 46) = (m 94 46) ∧ (m 94 55) = (m 94 55) ∧ (m 94 58) = (m 94 58) ∧ (m 94 59) = (m 94 59) ∧ (m 94 60) = (m 94 60) ∧ (m 94 61) = (m 94 61) ∧ (m 94 63) = (m 94 63) ∧ (m 94 64) = (m 94 64) from by first | (exact ⟨rfl, rfl, rfl, rfl, rfl, rfl, rfl, rfl, rfl, rfl, rfl, rfl, rfl, rfl, rfl, rfl, rfl, rfl, rfl, rfl, rfl, rfl, rfl, rfl, rfl, rfl, rfl, rfl, rfl, rfl, rfl, rfl⟩) | (exfalso; omega; done) | (exfalso; contradiction; done))
  · skip
    have g10 := i_nlt h6
    have li11 : (1000 : Int32).toInt = 1000 := rfl
    refine zd (fun (h12 : nn ≤ (1000 : Int32)) => ?_) (fun (h12 : ¬ nn ≤ (1000 : Int32)) => ?_)
    · skip
      have g13 := i_le h12
      refine zd (fun (h14 : (m 94 8) = (0 : Int32)) => ?_) (fun (h14 : ¬ (m 94 8) = (0 : Int32)) => ?_)
      · skip
        have g15 := i_eq h14
        have hV16 : zV (ma_u m 94 0 (2 : Int32)) := uf_94_0 hV
        have li17 : (2 : Int32).toInt = 2 := rfl
        exact K ((0 : Int32)) _ (zF_u zF_rfl rfl) hV16 r_W r_GW r_GU r_OW r_DX r_GG r_HA r_RGc (show (m 94 58).toInt = 0 ∨ (m 94 10).toInt = 5 from by omega) (show ((nn.toInt < 0 ∨ 1000 < nn.toInt) ∧ (2 : Int32).toInt = 1) ∨ ((0 ≤ nn.toInt ∧ nn.toInt ≤ 1000) ∧ (2 : Int32).toInt = 3) from by omega) (show (m 98) = (m 98) ∧ (m 99) = (m 99) ∧ (m 100) = (m 100) ∧ (m 101) = (m 101) ∧ (m 102) = (m 102) ∧ (m 103) = (m 103) ∧ (m 104) = (m 104) ∧ (m 107) = (m 107) ∧ (m 108) = (m 108) ∧ (m 109) = (m 109) ∧ (m 111) = (m 111) ∧ (m 112) = (m 112) ∧ (m 113) = (m 113) ∧ (m 114) = (m 114) ∧ (m 116) = (m 116) ∧ (m 117) = (m 117) ∧ (m 94 11) = (m 94 11) ∧ (m 94 13) = (m 94 13) ∧ (m 94 14) = (m 94 14) ∧ (m 94 15) = (m 94 15) ∧ (m 94 16) = (m 94 16) ∧ (m 94 18) = (m 94 18) ∧ (m 94 19) = (m 94 19) ∧ (m 94 45) = (m 94 45) ∧ (m 94 46) = (m 94 46) ∧ (m 94 55) = (m 94 55) ∧ (m 94 58) = (m 94 58) ∧ (m 94 59) = (m 94 59) ∧ (m 94 60) = (m 94 60) ∧ (m 94 61) = (m 94 61) ∧ (m 94 63) = (m 94 63) ∧ (m 94 64) = (m 94 64) from by first | (exact ⟨rfl, rfl, rfl, rfl, rfl, rfl, rfl, rfl, rfl, rfl, rfl, rfl, rfl, rfl, rfl, rfl, rfl, rfl, rfl, rfl, rfl, rfl, rfl, rfl, rfl, rfl, rfl, rfl, rfl, rfl, rfl, rfl⟩) | (exfalso; omega; done) | (exfalso; contradiction; done))
      · skip
        have g18 := i_ne h14
        have li19 : (5 : Int32).toInt = 5 := rfl
        refine zd (fun (h20 : (m 94 10) = (5 : Int32)) => ?_) (fun (h20 : ¬ (m 94 10) = (5 : Int32)) => ?_)
        · skip
          have g21 := i_eq h20
          refine zd (fun (h22 : (m 94 58) = (0 : Int32)) => ?_) (fun (h22 : ¬ (m 94 58) = (0 : Int32)) => ?_)
          · skip
            have g23 := i_eq h22
            have hV24 : zV (ma_u m 94 0 (0 : Int32)) := uf_94_0 hV
            exact K ((0 : Int32)) _ (zF_u zF_rfl rfl) hV24 r_W r_GW r_GU r_OW r_DX r_GG r_HA r_RGc (show (m 94 58).toInt = 0 ∨ (m 94 10).toInt = 5 from by omega) (show ((nn.toInt < 0 ∨ 1000 < nn.toInt) ∧ (0 : Int32).toInt = 1) ∨ ((0 ≤ nn.toInt ∧ nn.toInt ≤ 1000) ∧ (0 : Int32).toInt = 3) from by omega) (show (m 98) = (m 98) ∧ (m 99) = (m 99) ∧ (m 100) = (m 100) ∧ (m 101) = (m 101) ∧ (m 102) = (m 102) ∧ (m 103) = (m 103) ∧ (m 104) = (m 104) ∧ (m 107) = (m 107) ∧ (m 108) = (m 108) ∧ (m 109) = (m 109) ∧ (m 111) = (m 111) ∧ (m 112) = (m 112) ∧ (m 113) = (m 113) ∧ (m 114) = (m 114) ∧ (m 116) = (m 116) ∧ (m 117) = (m 117) ∧ (m 94 11) = (m 94 11) ∧ (m 94 13) = (m 94 13) ∧ (m 94 14) = (m 94 14) ∧ (m 94 15) = (m 94 15) ∧ (m 94 16) = (m 94 16) ∧ (m 94 18) = (m 94 18) ∧ (m 94 19) = (m 94 19) ∧ (m 94 45) = (m 94 45) ∧ (m 94 46) = (m 94 46) ∧ (m 94 55) = (m 94 55) ∧ (m 94 58) = (m 94 58) ∧ (m 94 59) = (m 94 59) ∧ (m 94 60) = (m 94 60) ∧ (m 94 61) = (m 94 61) ∧ (m 94 63) = (m 94 63) ∧ (m 94 64) = (m 94 64) from by first | (exact ⟨rfl, rfl, rfl, rfl, rfl, rfl, rfl, rfl, rfl, rfl, rfl, rfl, rfl, rfl, rfl, rfl, rfl, rfl, rfl, rfl, rfl, rfl, rfl, rfl, rfl, rfl, rfl, rfl, rfl, rfl, rfl, rfl⟩) | (exfalso; omega; done) | (exfalso; contradiction; done))
          · skip
            have g25 := i_ne h22
            have hV26 : zV (ma_u m 94 0 (0 : Int32)) := uf_94_0 hV
            refine sp_222 (nn) hV26 r_W (show zG1 (m 94 56) (m 94 57) (m 106) from by first | (exact G1_0 (by omega) (by omega)) | (exact r_GG (by omega)) | (exfalso; omega; done) | (exfalso; contradiction; done)) (fun v2 m1 hV_m1 p0_m1 p1_m1 p2_m1 => zmi_n ?_)
            have p0_m1 : zG1 (m1 94 56) (m1 94 57) (m1 106) := p0_m1
            have p1_m1 : (m 94 56).toInt ≤ (m1 94 56).toInt := p1_m1
            have p2_m1 : (m 94 57).toInt ≤ (m1 94 57).toInt ∧ ((m1 94 56).toInt ≤ (m1 94 57).toInt ∨ (m 94 57).toInt + nn.toInt ≤ (m1 94 57).toInt) := p2_m1
            have f27 : 0 ≤ (m 94 56).toInt ∧ (m 94 56).toInt ≤ 3100 := rs_94_56 (m := m) hV
            have f28 : 0 ≤ (m1 94 56).toInt ∧ (m1 94 56).toInt ≤ 3100 := rs_94_56 (m := (zov wr_222 (ma_u m 94 0 (0 : Int32)) m1)) hV_m1
            have f29 : 0 ≤ (m 94 57).toInt ∧ (m 94 57).toInt ≤ 3100 := rs_94_57 (m := m) hV
            have f30 : 0 ≤ (m1 94 57).toInt ∧ (m1 94 57).toInt ≤ 3100 := rs_94_57 (m := (zov wr_222 (ma_u m 94 0 (0 : Int32)) m1)) hV_m1
            refine sp_223  hV_m1 r_W r_GW r_GU r_OW r_DX p0_m1 (show (m 94 10).toInt = 5 from by omega) (show (m 94 58).toInt = 1 from by omega) (fun v4 m3 hV_m3 p0_m3 p1_m3 p2_m3 p3_m3 p4_m3 p5_m3 => zmi_n ?_)
            have p0_m3 : zGW T (m3 94 55) (m3 109) := p0_m3
            have p1_m3 : zGU T (m 94 46) (m3 99) := p1_m3
            have p2_m3 : zOw (m3 99) (m 103) (m3 111) := p2_m3
            have p3_m3 : zDX (m 94 10) (m3 99) (m 112) (m3 113) (m3 114) (m3 94 55) (m 98) (m 101) (m 102) (m 108) := p3_m3
            have p4_m3 : zGG (m3 94 58) (m3 94 56) (m1 94 57) (m3 106) := p4_m3
            have p5_m3 : (m3 94 58).toInt = 0 ∨ ((m3 94 58).toInt = 1 ∧ (m1 94 57).toInt < (m3 94 56).toInt ∧ (m1 94 57).toInt = (m1 94 57).toInt) := p5_m3
            have f31 : 0 ≤ (m3 94 58).toInt ∧ (m3 94 58).toInt ≤ 1 := rs_94_58 (m := (zov wr_223 (zov wr_222 (ma_u m 94 0 (0 : Int32)) m1) m3)) hV_m3
            have f32 : 0 ≤ (m3 94 56).toInt ∧ (m3 94 56).toInt ≤ 3100 := rs_94_56 (m := (zov wr_223 (zov wr_222 (ma_u m 94 0 (0 : Int32)) m1) m3)) hV_m3
            have b33 := i_bd v2
            exact K (v2) _ (zF_zov (zF_zov (zF_u zF_rfl rfl) ws_222_257) ws_223_257) hV_m3 r_W p0_m3 p1_m3 p2_m3 p3_m3 p4_m3 (show zHA (m 94 10) (m 94 11) (m 94 13) (m 94 14) (m 94 16) (m 94 61) (m 94 59) (m 94 60) (m3 99) (m 102) (m 103) (m3 111) (m 117) (m 98) (m 101) (m 108) from by first | (exfalso; omega; done) | (exfalso; contradiction; done)) (show zRG (m 94 10) (m 94 18) (m 94 64) (m 94 63) (m3 99) (m 103) (m 102) (m 116) from by first | (exfalso; omega; done) | (exfalso; contradiction; done)) (show (m3 94 58).toInt = 0 ∨ (m 94 10).toInt = 5 from by omega) (show ((nn.toInt < 0 ∨ 1000 < nn.toInt) ∧ (0 : Int32).toInt = 1) ∨ ((0 ≤ nn.toInt ∧ nn.toInt ≤ 1000) ∧ (0 : Int32).toInt = 3) from by omega) (show (m 98) = (m 98) ∧ (m3 99) = (m 99) ∧ (m 100) = (m 100) ∧ (m 101) = (m 101) ∧ (m 102) = (m 102) ∧ (m 103) = (m 103) ∧ (m 104) = (m 104) ∧ (m 107) = (m 107) ∧ (m 108) = (m 108) ∧ (m3 109) = (m 109) ∧ (m3 111) = (m 111) ∧ (m 112) = (m 112) ∧ (m3 113) = (m 113) ∧ (m3 114) = (m 114) ∧ (m 116) = (m 116) ∧ (m 117) = (m 117) ∧ (m 94 11) = (m 94 11) ∧ (m 94 13) = (m 94 13) ∧ (m 94 14) = (m 94 14) ∧ (m 94 15) = (m 94 15) ∧ (m 94 16) = (m 94 16) ∧ (m 94 18) = (m 94 18) ∧ (m 94 19) = (m 94 19) ∧ (m3 94 45) = (m 94 45) ∧ (m 94 46) = (m 94 46) ∧ (m3 94 55) = (m 94 55) ∧ (m3 94 58) = (m 94 58) ∧ (m 94 59) = (m 94 59) ∧ (m 94 60) = (m 94 60) ∧ (m 94 61) = (m 94 61) ∧ (m 94 63) = (m 94 63) ∧ (m 94 64) = (m 94 64) from by first | (exact ⟨rfl, rfl, rfl, rfl, rfl, rfl, rfl, rfl, rfl, rfl, rfl, rfl, rfl, rfl, rfl, rfl, rfl, rfl, rfl, rfl, rfl, rfl, rfl, rfl, rfl, rfl, rfl, rfl, rfl, rfl, rfl, rfl⟩) | (exfalso; omega; done) | (exfalso; contradiction; done))
        · skip
          have g34 := i_ne h20
          have hV35 : zV (ma_u m 94 0 (3 : Int32)) := uf_94_0 hV
          have li36 : (3 : Int32).toInt = 3 := rfl
          exact K ((0 : Int32)) _ (zF_u zF_rfl rfl) hV35 r_W r_GW r_GU r_OW r_DX r_GG r_HA r_RGc (show (m 94 58).toInt = 0 ∨ (m 94 10).toInt = 5 from by omega) (show ((nn.toInt < 0 ∨ 1000 < nn.toInt) ∧ (3 : Int32).toInt = 1) ∨ ((0 ≤ nn.toInt ∧ nn.toInt ≤ 1000) ∧ (3 : Int32).toInt = 3) from by omega) (show (m 98) = (m 98) ∧ (m 99) = (m 99) ∧ (m 100) = (m 100) ∧ (m 101) = (m 101) ∧ (m 102) = (m 102) ∧ (m 103) = (m 103) ∧ (m 104) = (m 104) ∧ (m 107) = (m 107) ∧ (m 108) = (m 108) ∧ (m 109) = (m 109) ∧ (m 111) = (m 111) ∧ (m 112) = (m 112) ∧ (m 113) = (m 113) ∧ (m 114) = (m 114) ∧ (m 116) = (m 116) ∧ (m 117) = (m 117) ∧ (m 94 11) = (m 94 11) ∧ (m 94 13) = (m 94 13) ∧ (m 94 14) = (m 94 14) ∧ (m 94 15) = (m 94 15) ∧ (m 94 16) = (m 94 16) ∧ (m 94 18) = (m 94 18) ∧ (m 94 19) = (m 94 19) ∧ (m 94 45) = (m 94 45) ∧ (m 94 46) = (m 94 46) ∧ (m 94 55) = (m 94 55) ∧ (m 94 58) = (m 94 58) ∧ (m 94 59) = (m 94 59) ∧ (m 94 60) = (m 94 60) ∧ (m 94 61) = (m 94 61) ∧ (m 94 63) = (m 94 63) ∧ (m 94 64) = (m 94 64) from by first | (exact ⟨rfl, rfl, rfl, rfl, rfl, rfl, rfl, rfl, rfl, rfl, rfl, rfl, rfl, rfl, rfl, rfl, rfl, rfl, rfl, rfl, rfl, rfl, rfl, rfl, rfl, rfl, rfl, rfl, rfl, rfl, rfl, rfl⟩) | (exfalso; omega; done) | (exfalso; contradiction; done))
    · skip
      have g37 := i_nle h12
      have hV38 : zV (ma_u m 94 0 (1 : Int32)) := uf_94_0 hV
      have li39 : (1 : Int32).toInt = 1 := rfl
      exact K ((0 : Int32)) _ (zF_u zF_rfl rfl) hV38 r_W r_GW r_GU r_OW r_DX r_GG r_HA r_RGc (show (m 94 58).toInt = 0 ∨ (m 94 10).toInt = 5 from by omega) (show ((nn.toInt < 0 ∨ 1000 < nn.toInt) ∧ (1 : Int32).toInt = 1) ∨ ((0 ≤ nn.toInt ∧ nn.toInt ≤ 1000) ∧ (1 : Int32).toInt = 3) from by omega) (show (m 98) = (m 98) ∧ (m 99) = (m 99) ∧ (m 100) = (m 100) ∧ (m 101) = (m 101) ∧ (m 102) = (m 102) ∧ (m 103) = (m 103) ∧ (m 104) = (m 104) ∧ (m 107) = (m 107) ∧ (m 108) = (m 108) ∧ (m 109) = (m 109) ∧ (m 111) = (m 111) ∧ (m 112) = (m 112) ∧ (m 113) = (m 113) ∧ (m 114) = (m 114) ∧ (m 116) = (m 116) ∧ (m 117) = (m 117) ∧ (m 94 11) = (m 94 11) ∧ (m 94 13) = (m 94 13) ∧ (m 94 14) = (m 94 14) ∧ (m 94 15) = (m 94 15) ∧ (m 94 16) = (m 94 16) ∧ (m 94 18) = (m 94 18) ∧ (m 94 19) = (m 94 19) ∧ (m 94 45) = (m 94 45) ∧ (m 94 46) = (m 94 46) ∧ (m 94 55) = (m 94 55) ∧ (m 94 58) = (m 94 58) ∧ (m 94 59) = (m 94 59) ∧ (m 94 60) = (m 94 60) ∧ (m 94 61) = (m 94 61) ∧ (m 94 63) = (m 94 63) ∧ (m 94 64) = (m 94 64) from by first | (exact ⟨rfl, rfl, rfl, rfl, rfl, rfl, rfl, rfl, rfl, rfl, rfl, rfl, rfl, rfl, rfl, rfl, rfl, rfl, rfl, rfl, rfl, rfl, rfl, rfl, rfl, rfl, rfl, rfl, rfl, rfl, rfl, rfl⟩) | (exfalso; omega; done) | (exfalso; contradiction; done))
theorem n1_170 {X : Nat × (Nat → Int32)} {d w T : Nat} {S : ma_S} {aa : Nat → Nat → Int32} (nw : Int32) (rf : Int32) (hd : 1 ≤ d) (hw : 21 ≤ w) (hT : zT S) (hV : zV (mI S)) (ht : T + 1 ≤ 512) (r_W : zW (mI S 94 7) (mI S 98) (mI S 101) (mI S 102) (mI S 108)) (r_GW : zGW T (mI S 94 55) (mI S 109)) (r_GU : zGU T (mI S 94 46) (mI S 99)) (r_OW : zOw (mI S 99) (mI S 103) (mI S 111)) (r_GG : zGG (mI S 94 58) (mI S 94 56) (mI S 94 57) (mI S 106)) (h8 : (mI S 94 8).toInt = 1) (hp : (mI S 94 10).toInt = 1) (hz : zN1 (mI S) aa) : ma_wp X d w 170 0 [(0, .inr (.inr (some 94))), (1, .inl nw), (2, .inl rf)] [] S (zRj S (fun _ m₉ => zN1 m₉ aa)) := by
  obtain ⟨r_RB, r_QI, r_TP, r_MK, r_WTS, h58⟩ := hz
  exact sp_170um (P := fun o m₉ => zRj S (fun _ m₉ => zN1 m₉ aa) (.inl o) (zst S m₉)) (T := T) (aa := aa) (ro := (mI S 94 11)) (fo := 0) (le := (mI S 94 59)) (ra := 0) (pi := 1) nw rf hV (by omega) r_W r_GW r_GU r_OW r_GG r_RB (fun v m₉ hV₉ q0 => Rj_i v (zov wr_170 (mI S) m₉) ⟨q0, r_QI, r_TP, r_MK, r_WTS, h58⟩) d w S _ hd hw hT rfl (fun _ _ z => z)
theorem n2_170 {X : Nat × (Nat → Int32)} {d w T : Nat} {S : ma_S} {aa : Nat → Nat → Int32} (nw : Int32) (rf : Int32) (hd : 1 ≤ d) (hw : 21 ≤ w) (hT : zT S) (hV : zV (mI S)) (ht : T + 1 ≤ 512) (r_W : zW (mI S 94 7) (mI S 98) (mI S 101) (mI S 102) (mI S 108)) (r_GW : zGW T (mI S 94 55) (mI S 109)) (r_GU : zGU T (mI S 94 46) (mI S 99)) (r_OW : zOw (mI S 99) (mI S 103) (mI S 111)) (r_GG : zGG (mI S 94 58) (mI S 94 56) (mI S 94 57) (mI S 106)) (h8 : (mI S 94 8).toInt = 1) (hp : (mI S 94 10).toInt = 2) (hz : zN2 (mI S) aa) : ma_wp X d w 170 0 [(0, .inr (.inr (some 94))), (1, .inl nw), (2, .inl rf)] [] S (zRj S (fun _ m₉ => zN2 m₉ aa)) := by
  obtain ⟨r_RB, r_HV, r_HL, r_MK, r_WTS, h58⟩ := hz
  exact sp_170um (P := fun o m₉ => zRj S (fun _ m₉ => zN2 m₉ aa) (.inl o) (zst S m₉)) (T := T) (aa := aa) (ro := (aa 87 0)) (fo := 0) (le := 0) (ra := 0) (pi := 1) nw rf hV (by omega) r_W r_GW r_GU r_OW r_GG r_RB (fun v m₉ hV₉ q0 => Rj_i v (zov wr_170 (mI S) m₉) ⟨(RB_87o q0), r_HV, r_HL, r_MK, r_WTS, h58⟩) d w S _ hd hw hT rfl (fun _ _ z => z)
theorem n3_170 {X : Nat × (Nat → Int32)} {d w T : Nat} {S : ma_S} {aa : Nat → Nat → Int32} (nw : Int32) (rf : Int32) (hd : 1 ≤ d) (hw : 21 ≤ w) (hT : zT S) (hV : zV (mI S)) (ht : T + 1 ≤ 512) (r_W : zW (mI S 94 7) (mI S 98) (mI S 101) (mI S 102) (mI S 108)) (r_GW : zGW T (mI S 94 55) (mI S 109)) (r_GU : zGU T (mI S 94 46) (mI S 99)) (r_OW : zOw (mI S 99) (mI S 103) (mI S 111)) (r_GG : zGG (mI S 94 58) (mI S 94 56) (mI S 94 57) (mI S 106)) (h8 : (mI S 94 8).toInt = 1) (hp : (mI S 94 10).toInt = 3) (hz : zN3 (mI S) aa) : ma_wp X d w 170 0 [(0, .inr (.inr (some 94))), (1, .inl nw), (2, .inl rf)] [] S (zRj S (fun _ m₉ => zN3 m₉ aa)) := by
  obtain ⟨r_RB, r_AV, r_AL, r_AGq, r_DT, r_MK, r_WTS, h58⟩ := hz
  exact sp_170um (P := fun o m₉ => zRj S (fun _ m₉ => zN3 m₉ aa) (.inl o) (zst S m₉)) (T := T) (aa := aa) (ro := (aa 87 0)) (fo := 0) (le := 0) (ra := 0) (pi := 1) nw rf hV (by omega) r_W r_GW r_GU r_OW r_GG r_RB (fun v m₉ hV₉ q0 => Rj_i v (zov wr_170 (mI S) m₉) ⟨(RB_87o q0), r_AV, r_AL, r_AGq, r_DT, r_MK, r_WTS, h58⟩) d w S _ hd hw hT rfl (fun _ _ z => z)
theorem n6_170 {X : Nat × (Nat → Int32)} {d w T : Nat} {S : ma_S} {aa : Nat → Nat → Int32} (nw : Int32) (rf : Int32) (hd : 1 ≤ d) (hw : 21 ≤ w) (hT : zT S) (hV : zV (mI S)) (ht : T + 1 ≤ 512) (r_W : zW (mI S 94 7) (mI S 98) (mI S 101) (mI S 102) (mI S 108)) (r_GW : zGW T (mI S 94 55) (mI S 109)) (r_GU : zGU T (mI S 94 46) (mI S 99)) (r_OW : zOw (mI S 99) (mI S 103) (mI S 111)) (r_GG : zGG (mI S 94 58) (mI S 94 56) (mI S 94 57) (mI S 106)) (h8 : (mI S 94 8).toInt = 1) (hp : (mI S 94 10).toInt = 6) (hz : zN6 (mI S) aa) : ma_wp X d w 170 0 [(0, .inr (.inr (some 94))), (1, .inl nw), (2, .inl rf)] [] S (zRj S (fun _ m₉ => zN6 m₉ aa)) := by
  obtain ⟨r_RB, r_RV, r_RL, r_MK, r_WTS, h58⟩ := hz
  exact sp_170um (P := fun o m₉ => zRj S (fun _ m₉ => zN6 m₉ aa) (.inl o) (zst S m₉)) (T := T) (aa := aa) (ro := (aa 87 0)) (fo := 0) (le := 0) (ra := 0) (pi := 1) nw rf hV (by omega) r_W r_GW r_GU r_OW r_GG r_RB (fun v m₉ hV₉ q0 => Rj_i v (zov wr_170 (mI S) m₉) ⟨(RB_87o q0), r_RV, r_RL, r_MK, r_WTS, h58⟩) d w S _ hd hw hT rfl (fun _ _ z => z)
theorem kp_n1 {m m₉ : Nat → Nat → Int32} (hf : (m₉ 98) = (m 98) ∧ (m₉ 99) = (m 99) ∧ (m₉ 100) = (m 100) ∧ (m₉ 101) = (m 101) ∧ (m₉ 102) = (m 102) ∧ (m₉ 103) = (m 103) ∧ (m₉ 104) = (m 104) ∧ (m₉ 107) = (m 107) ∧ (m₉ 108) = (m 108) ∧ (m₉ 109) = (m 109) ∧ (m₉ 111) = (m 111) ∧ (m₉ 112) = (m 112) ∧ (m₉ 113) = (m 113) ∧ (m₉ 114) = (m 114) ∧ (m₉ 116) = (m 116) ∧ (m₉ 117) = (m 117) ∧ (m₉ 94 11) = (m 94 11) ∧ (m₉ 94 13) = (m 94 13) ∧ (m₉ 94 14) = (m 94 14) ∧ (m₉ 94 15) = (m 94 15) ∧ (m₉ 94 16) = (m 94 16) ∧ (m₉ 94 18) = (m 94 18) ∧ (m₉ 94 19) = (m 94 19) ∧ (m₉ 94 45) = (m 94 45) ∧ (m₉ 94 46) = (m 94 46) ∧ (m₉ 94 55) = (m 94 55) ∧ (m₉ 94 58) = (m 94 58) ∧ (m₉ 94 59) = (m 94 59) ∧ (m₉ 94 60) = (m 94 60) ∧ (m₉ 94 61) = (m 94 61) ∧ (m₉ 94 63) = (m 94 63) ∧ (m₉ 94 64) = (m 94 64)) : ∀ aa, zN1 m aa → zN1 m₉ aa := by
  intro aa H
  obtain ⟨r98, r99, r100, r101, r102, r103, r104, r107, r108, r109, r111, r112, r113, r114, r116, r117, f11, f13, f14, f15, f16, f18, f19, f45, f46, f55, f58, f59, f60, f61, f63, f64⟩ := hf
  unfold zN1 at H ⊢
  rw [r98, r99, r100, r101, r102, r103, r107, r108, r109, r111, r112, r113, r114, f11, f45, f46, f55, f58, f59]
  exact H
theorem kp_n2 {m m₉ : Nat → Nat → Int32} (hf : (m₉ 98) = (m 98) ∧ (m₉ 99) = (m 99) ∧ (m₉ 100) = (m 100) ∧ (m₉ 101) = (m 101) ∧ (m₉ 102) = (m 102) ∧ (m₉ 103) = (m 103) ∧ (m₉ 104) = (m 104) ∧ (m₉ 107) = (m 107) ∧ (m₉ 108) = (m 108) ∧ (m₉ 109) = (m 109) ∧ (m₉ 111) = (m 111) ∧ (m₉ 112) = (m 112) ∧ (m₉ 113) = (m 113) ∧ (m₉ 114) = (m 114) ∧ (m₉ 116) = (m 116) ∧ (m₉ 117) = (m 117) ∧ (m₉ 94 11) = (m 94 11) ∧ (m₉ 94 13) = (m 94 13) ∧ (m₉ 94 14) = (m 94 14) ∧ (m₉ 94 15) = (m 94 15) ∧ (m₉ 94 16) = (m 94 16) ∧ (m₉ 94 18) = (m 94 18) ∧ (m₉ 94 19) = (m 94 19) ∧ (m₉ 94 45) = (m 94 45) ∧ (m₉ 94 46) = (m 94 46) ∧ (m₉ 94 55) = (m 94 55) ∧ (m₉ 94 58) = (m 94 58) ∧ (m₉ 94 59) = (m 94 59) ∧ (m₉ 94 60) = (m 94 60) ∧ (m₉ 94 61) = (m 94 61) ∧ (m₉ 94 63) = (m 94 63) ∧ (m₉ 94 64) = (m 94 64)) : ∀ aa, zN2 m aa → zN2 m₉ aa := by
  intro aa H
  obtain ⟨r98, r99, r100, r101, r102, r103, r104, r107, r108, r109, r111, r112, r113, r114, r116, r117, f11, f13, f14, f15, f16, f18, f19, f45, f46, f55, f58, f59, f60, f61, f63, f64⟩ := hf
  unfold zN2 at H ⊢
  rw [r98, r99, r100, r101, r102, r103, r107, r108, r109, r111, r112, r113, r114, f11, f45, f46, f55, f58, f59, f61]
  exact H
theorem kp_n3 {m m₉ : Nat → Nat → Int32} (hf : (m₉ 98) = (m 98) ∧ (m₉ 99) = (m 99) ∧ (m₉ 100) = (m 100) ∧ (m₉ 101) = (m 101) ∧ (m₉ 102) = (m 102) ∧ (m₉ 103) = (m 103) ∧ (m₉ 104) = (m 104) ∧ (m₉ 107) = (m 107) ∧ (m₉ 108) = (m 108) ∧ (m₉ 109) = (m 109) ∧ (m₉ 111) = (m 111) ∧ (m₉ 112) = (m 112) ∧ (m₉ 113) = (m 113) ∧ (m₉ 114) = (m 114) ∧ (m₉ 116) = (m 116) ∧ (m₉ 117) = (m 117) ∧ (m₉ 94 11) = (m 94 11) ∧ (m₉ 94 13) = (m 94 13) ∧ (m₉ 94 14) = (m 94 14) ∧ (m₉ 94 15) = (m 94 15) ∧ (m₉ 94 16) = (m 94 16) ∧ (m₉ 94 18) = (m 94 18) ∧ (m₉ 94 19) = (m 94 19) ∧ (m₉ 94 45) = (m 94 45) ∧ (m₉ 94 46) = (m 94 46) ∧ (m₉ 94 55) = (m 94 55) ∧ (m₉ 94 58) = (m 94 58) ∧ (m₉ 94 59) = (m 94 59) ∧ (m₉ 94 60) = (m 94 60) ∧ (m₉ 94 61) = (m 94 61) ∧ (m₉ 94 63) = (m 94 63) ∧ (m₉ 94 64) = (m 94 64)) : ∀ aa, zN3 m aa → zN3 m₉ aa := by
  intro aa H
  obtain ⟨r98, r99, r100, r101, r102, r103, r104, r107, r108, r109, r111, r112, r113, r114, r116, r117, f11, f13, f14, f15, f16, f18, f19, f45, f46, f55, f58, f59, f60, f61, f63, f64⟩ := hf
  unfold zN3 at H ⊢
  rw [r98, r99, r100, r101, r102, r103, r104, r107, r108, r109, r111, r112, r113, r114, r117, f13, f14, f15, f16, f45, f46, f55, f58, f59, f60, f61]
  exact H
theorem kp_n6 {m m₉ : Nat → Nat → Int32} (hf : (m₉ 98) = (m 98) ∧ (m₉ 99) = (m 99) ∧ (m₉ 100) = (m 100) ∧ (m₉ 101) = (m 101) ∧ (m₉ 102) = (m 102) ∧ (m₉ 103) = (m 103) ∧ (m₉ 104) = (m 104) ∧ (m₉ 107) = (m 107) ∧ (m₉ 108) = (m 108) ∧ (m₉ 109) = (m 109) ∧ (m₉ 111) = (m 111) ∧ (m₉ 112) = (m 112) ∧ (m₉ 113) = (m 113) ∧ (m₉ 114) = (m 114) ∧ (m₉ 116) = (m 116) ∧ (m₉ 117) = (m 117) ∧ (m₉ 94 11) = (m 94 11) ∧ (m₉ 94 13) = (m 94 13) ∧ (m₉ 94 14) = (m 94 14) ∧ (m₉ 94 15) = (m 94 15) ∧ (m₉ 94 16) = (m 94 16) ∧ (m₉ 94 18) = (m 94 18) ∧ (m₉ 94 19) = (m 94 19) ∧ (m₉ 94 45) = (m 94 45) ∧ (m₉ 94 46) = (m 94 46) ∧ (m₉ 94 55) = (m 94 55) ∧ (m₉ 94 58) = (m 94 58) ∧ (m₉ 94 59) = (m 94 59) ∧ (m₉ 94 60) = (m 94 60) ∧ (m₉ 94 61) = (m 94 61) ∧ (m₉ 94 63) = (m 94 63) ∧ (m₉ 94 64) = (m 94 64)) : ∀ aa, zN6 m aa → zN6 m₉ aa := by
  intro aa H
  obtain ⟨r98, r99, r100, r101, r102, r103, r104, r107, r108, r109, r111, r112, r113, r114, r116, r117, f11, f13, f14, f15, f16, f18, f19, f45, f46, f55, f58, f59, f60, f61, f63, f64⟩ := hf
  unfold zN6 at H ⊢
  rw [r98, r99, r100, r101, r102, r103, r107, r108, r109, r111, r112, r113, r114, r116, f18, f19, f45, f46, f55, f58, f63, f64]
  exact H

