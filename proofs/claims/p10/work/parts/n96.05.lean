/-! the reference before the first heap -/
theorem sp_254z {X : Nat × (Nat → Int32)} {P : Option ma_V → (Nat → Nat → Int32) → Prop} {T : Nat} {m : Nat → Nat → Int32} (ob : Int32) (hV : zV m) (hpre0 : (m 94 8).toInt = 0) (r_W : zW (m 94 7) (m 98) (m 101) (m 102) (m 108)) (r_GW : zGW T (m 94 55) (m 109)) (KZ : ∀ v m₉, zV (zov wr_254 m m₉) → ((m 94 8).toInt = 0) → (zW (m 94 7) (m 98) (m 101) (m 102) (m 108)) → (zGW T (m 94 55) (m₉ 109)) → P (some (.inl v)) (zov wr_254 m m₉)) : zm X 5 109 254 0 [(0, .inr (.inr (some 94))), (1, .inl ob)] m P := by
  have K : ∀ v m₉, zF wr_254 m m₉ → zV m₉ → ((m₉ 94 8).toInt = 0) → (zW (m₉ 94 7) (m₉ 98) (m₉ 101) (m₉ 102) (m₉ 108)) → (zGW T (m₉ 94 55) (m₉ 109)) → P (some (.inl v)) m₉ := by
    intro v m₉ hf z q0 q1 q2
    have e := zov_eq hf
    rw [e] at z ⊢
    try rw [e] at q0
    try rw [e] at q1
    try rw [e] at q2
    exact KZ v m₉ z q0 q1 q2
  refine g_254_0 ob ?_
  have f1 : 0 ≤ (m 94 8).toInt ∧ (m 94 8).toInt ≤ 1 := rs_94_8 (m := m) hV
  have li2 : (0 : Int32).toInt = 0 := rfl
  refine zd (fun (h3 : (m 94 8) = (0 : Int32)) => ?_) (fun (h3 : ¬ (m 94 8) = (0 : Int32)) => ?_)
  · skip
    have g4 := i_eq h3
    have hV5 : zV (ma_u m 94 0 (1 : Int32)) := uf_94_0 hV
    exact K ((0 : Int32)) _ (zF_u zF_rfl rfl) hV5 (show (m 94 8).toInt = 0 from by omega) r_W r_GW
  · skip
    have g6 := i_ne h3
    have b7 := i_bd ob
    have hV8 : zV (ma_u m 94 0 (0 : Int32)) := uf_94_0 hV
    refine sp_245 (ob) hV8 r_W (show zDX (m 94 10) (m 99) (m 112) (m 113) (m 114) (m 94 55) (m 98) (m 101) (m 102) (m 108) from by first | (exfalso; omega; done) | (exfalso; contradiction; done)) (fun v2 m1 hV_m1 p0_m1 p1_m1 => zmi_n ?_)
    have p0_m1 : -1 ≤ v2.toInt ∧ v2.toInt ≤ 3099 := p0_m1
    have p1_m1 : v2.toInt < 0 ∨ (m 99) v2.toNatClampNeg ≠ 0 := p1_m1
    have b9 := i_bd v2
    refine zd (fun (h10 : (0 : Int32) ≤ v2) => ?_) (fun (h10 : ¬ (0 : Int32) ≤ v2) => ?_)
    · skip
      have g11 := i_le h10
      have hg12 : (0 ≤ v2 ∧ v2.toNatClampNeg < 3100) := i_ix (by omega) (by omega)
      refine ⟨hg12, ?_⟩
      first | have f13 : 0 ≤ (m 109 v2.toNatClampNeg).toInt ∧ (m 109 v2.toNatClampNeg).toInt ≤ 1 := ra_109 (m := m) hV (k := v2.toNatClampNeg) (i_ix (n := 3100) (by omega) (by omega)).2 | have b14 := i_bd (m 109 v2.toNatClampNeg)
      refine zd (fun (h15 : (m 109 v2.toNatClampNeg) = (0 : Int32)) => ?_) (fun (h15 : ¬ (m 109 v2.toNatClampNeg) = (0 : Int32)) => ?_)
      · skip
        have g16 := i_eq h15
        have hg17 : (0 ≤ v2 ∧ v2.toNatClampNeg < 3100) := i_ix (by omega) (by omega)
        refine ⟨hg17, ?_⟩
        have hV18 : zV (ma_u (zov wr_245 (ma_u m 94 0 (0 : Int32)) m1) 94 0 (0 : Int32)) := uf_94_0 hV_m1
        have li20 : (1 : Int32).toInt = 1 := rfl
        have hV19 : zV (ma_u (ma_u (zov wr_245 (ma_u m 94 0 (0 : Int32)) m1) 94 0 (0 : Int32)) 109 v2.toNatClampNeg (1 : Int32)) := ua_109 hV18 (by omega) (by omega)
        exact K ((1 : Int32)) _ (zF_u (zF_u (zF_zov (zF_u zF_rfl rfl) ws_245_254) rfl) rfl) hV19 (show (m 94 8).toInt = 0 from by omega) r_W (show zGW T (m 94 55) ((ma_u m 109 v2.toNatClampNeg (1 : Int32)) 109) from by first | (exfalso; omega; done) | (exfalso; contradiction; done))
      · skip
        have g21 := i_ne h15
        have hg22 : (0 ≤ v2 ∧ v2.toNatClampNeg < 3100) := i_ix (by omega) (by omega)
        refine ⟨hg22, ?_⟩
        have hV23 : zV (ma_u (zov wr_245 (ma_u m 94 0 (0 : Int32)) m1) 94 0 (0 : Int32)) := uf_94_0 hV_m1
        have li25 : (1 : Int32).toInt = 1 := rfl
        have hV24 : zV (ma_u (ma_u (zov wr_245 (ma_u m 94 0 (0 : Int32)) m1) 94 0 (0 : Int32)) 109 v2.toNatClampNeg (1 : Int32)) := ua_109 hV23 (by omega) (by omega)
        exact K ((0 : Int32)) _ (zF_u (zF_u (zF_zov (zF_u zF_rfl rfl) ws_245_254) rfl) rfl) hV24 (show (m 94 8).toInt = 0 from by omega) r_W (show zGW T (m 94 55) ((ma_u m 109 v2.toNatClampNeg (1 : Int32)) 109) from by first | (exfalso; omega; done) | (exfalso; contradiction; done))
    · skip
      have g26 := i_nle h10
      have hV27 : zV (ma_u (zov wr_245 (ma_u m 94 0 (0 : Int32)) m1) 94 0 (2 : Int32)) := uf_94_0 hV_m1
      exact K ((0 : Int32)) _ (zF_u (zF_zov (zF_u zF_rfl rfl) ws_245_254) rfl) hV27 (show (m 94 8).toInt = 0 from by omega) r_W r_GW
theorem lp_255z_61 {X : Nat × (Nat → Int32)} {P : Option ma_V → (Nat → Nat → Int32) → Prop} {T : Nat} {r1 : Int32} {m0 : Nat → Nat → Int32} (h0 : zV m0) (K : ∀ v m₉, zF wr_255 m0 m₉ → zV m₉ → ((m₉ 94 8).toInt = 0) → (zW (m₉ 94 7) (m₉ 98) (m₉ 101) (m₉ 102) (m₉ 108)) → (zGW T (m₉ 94 55) (m₉ 109)) → P (some (.inl v)) m₉) : ∀ (n : Nat) (m : Nat → Nat → Int32) (l1 : Int32) (l2 : Int32) (l3 : Int32), ((0 : Int)).toNat = n → zF wr_255 m0 m → zV m → ((0 : Int) = 1) → zm X 5 111 255 61 [(0, .inr (.inr (some 94))), (1, .inl l1), (2, .inl l2), (3, .inl l3)] m P := by
  intro n
  induction n using Nat.strongRecOn with
  | _ n IH =>
    intro m l1 l2 l3 hmu hF hV hi0
    refine g_255_61 l1 l2 l3 ?_
    have f1 : 0 ≤ (m 94 55).toInt ∧ (m 94 55).toInt ≤ 3100 := rs_94_55 (m := m) hV
    have b2 := i_bd l3
    refine zd (fun (h3 : (m 94 55) ≤ l3) => ?_) (fun (h3 : ¬ (m 94 55) ≤ l3) => ?_)
    · skip
      have g4 := i_le h3
      have b5 := i_bd l2
      have hg6 : (0 ≤ l2 ∧ l2.toNatClampNeg < 3100) := i_ix (by omega) (by omega)
      refine ⟨hg6, ?_⟩
      have b7 := i_bd l1
      have f8 : 0 ≤ (m 94 58).toInt ∧ (m 94 58).toInt ≤ 1 := rs_94_58 (m := m) hV
      have f9 : 0 ≤ (m 94 10).toInt ∧ (m 94 10).toInt ≤ 6 := rs_94_10 (m := m) hV
      refine sp_238 (l1) (l2) hV (by omega) (by omega) (by omega) (by omega) (show ((m 94 10).toInt = 2 ∨ (m 94 10).toInt = 3) → l2.toInt < 0 ∨ (m 99) l2.toNatClampNeg ≠ 0 from by first | (exfalso; omega; done) | (exfalso; contradiction; done)) (show zW (m 94 7) (m 98) (m 101) (m 102) (m 108) from by first | (exfalso; omega; done) | (exfalso; contradiction; done)) (show zGW T (m 94 55) (m 109) from by first | (exfalso; omega; done) | (exfalso; contradiction; done)) (show zGU T (m 94 46) (m 99) from by first | (exfalso; omega; done) | (exfalso; contradiction; done)) (show zOw (m 99) (m 103) (m 111) from by first | (exfalso; omega; done) | (exfalso; contradiction; done)) (show zDX (m 94 10) (m 99) (m 112) (m 113) (m 114) (m 94 55) (m 98) (m 101) (m 102) (m 108) from by first | (exfalso; omega; done) | (exfalso; contradiction; done)) (show zGG (m 94 58) (m 94 56) (m 94 57) (m 106) from by first | (exact fun z => absurd z (by decide)) | (exact fun z => absurd z (by omega)) | (exfalso; omega; done) | (exfalso; contradiction; done)) (show zHA (m 94 10) (m 94 11) (m 94 13) (m 94 14) (m 94 16) (m 94 61) (m 94 59) (m 94 60) (m 99) (m 102) (m 103) (m 111) (m 117) (m 98) (m 101) (m 108) from by first | (exfalso; omega; done) | (exfalso; contradiction; done)) (show zRG (m 94 10) (m 94 18) (m 94 64) (m 94 63) (m 99) (m 103) (m 102) (m 116) from by first | (exfalso; omega; done) | (exfalso; contradiction; done)) (show (m 94 58).toInt = 0 ∨ (m 94 10).toInt = 5 from by omega) (fun m1 hV_m1 p0_m1 p1_m1 p2_m1 p3_m1 p4_m1 p5_m1 p6_m1 p7_m1 => zmv_n ?_)
      have p0_m1 : zGW T (m1 94 55) (m1 109) := p0_m1
      have p1_m1 : zGU T (m 94 46) (m1 99) := p1_m1
      have p2_m1 : zOw (m1 99) (m 103) (m1 111) := p2_m1
      have p3_m1 : zDX (m 94 10) (m1 99) (m1 112) (m1 113) (m1 114) (m1 94 55) (m 98) (m 101) (m 102) (m 108) := p3_m1
      have p4_m1 : zGG (m 94 58) (m1 94 56) (m 94 57) (m1 106) := p4_m1
      have p5_m1 : zHA (m 94 10) (m 94 11) (m 94 13) (m 94 14) (m 94 16) (m 94 61) (m 94 59) (m 94 60) (m1 99) (m 102) (m 103) (m1 111) (m 117) (m 98) (m 101) (m 108) := p5_m1
      have p6_m1 : zRG (m 94 10) (m 94 18) (m 94 64) (m 94 63) (m1 99) (m 103) (m 102) (m 116) := p6_m1
      have p7_m1 : (m 94 58).toInt = 0 ∨ (m 94 10).toInt = 5 := p7_m1
      refine sp_241 (l2) hV_m1 (by omega) (show zW (m 94 7) (m 98) (m 101) (m 102) (m 108) from by first | (exfalso; omega; done) | (exfalso; contradiction; done)) p0_m1 p1_m1 p2_m1 p3_m1 (fun m3 hV_m3 p0_m3 p1_m3 p2_m3 p3_m3 p4_m3 => zmv_n ?_)
      have p0_m3 : zGW T (m3 94 55) (m3 109) := p0_m3
      have p1_m3 : zGU T (m 94 46) (m3 99) := p1_m3
      have p2_m3 : zOw (m3 99) (m 103) (m3 111) := p2_m3
      have p3_m3 : zDX (m 94 10) (m3 99) (m1 112) (m3 113) (m3 114) (m3 94 55) (m 98) (m 101) (m 102) (m 108) := p3_m3
      have p4_m3 : (m 94 10).toInt ≠ 4 → ((m3 99) = (m1 99) ∧ (m3 111) = (m1 111) ∧ (m3 113) = (m1 113) ∧ (m3 114) = (m1 114) ∧ (m3 94 55) = (m1 94 55) ∧ (m3 109) = (m1 109)) := p4_m3
      first | have f10 : 0 ≤ (m 100 l2.toNatClampNeg).toInt ∧ (m 100 l2.toNatClampNeg).toInt ≤ 100000 := ra_100 (m := m) hV (k := l2.toNatClampNeg) (i_ix (n := 3100) (by omega) (by omega)).2 | have b11 := i_bd (m 100 l2.toNatClampNeg)
      have f12 : 0 ≤ (m 94 8).toInt ∧ (m 94 8).toInt ≤ 1 := rs_94_8 (m := m) hV
      exact K ((m 100 l2.toNatClampNeg)) _ (zF_zov (zF_zov hF ws_238_255) ws_241_255) hV_m3 (show (m 94 8).toInt = 0 from by omega) (show zW (m 94 7) (m 98) (m 101) (m 102) (m 108) from by first | (exfalso; omega; done) | (exfalso; contradiction; done)) p0_m3
    · skip
      have g13 := i_nle h3
      first | have e14 : (l3 + (1 : Int32)).toInt = l3.toInt + (1) := i_addk rfl (by omega) (by omega) | have b15 := i_bd (l3 + (1 : Int32))
      have hg16 : (0 ≤ (l3 + (1 : Int32)) ∧ (l3 + (1 : Int32)).toNatClampNeg < 3100) := i_ix (by omega) (by omega)
      refine ⟨hg16, ?_⟩
      have hg17 : (0 ≤ l3 ∧ l3.toNatClampNeg < 3100) := i_ix (by omega) (by omega)
      refine ⟨hg17, ?_⟩
      first | have f19 : 0 ≤ (m 114 (l3 + (1 : Int32)).toNatClampNeg).toInt ∧ (m 114 (l3 + (1 : Int32)).toNatClampNeg).toInt ≤ 3099 := ra_114 (m := m) hV (k := (l3 + (1 : Int32)).toNatClampNeg) (i_ix (n := 3100) (by omega) (by omega)).2 | have b20 := i_bd (m 114 (l3 + (1 : Int32)).toNatClampNeg)
      have hV18 : zV (ma_u m 114 l3.toNatClampNeg (m 114 (l3 + (1 : Int32)).toNatClampNeg)) := ua_114 hV (by omega) (by omega)
      have b21 := i_bd l1
      have b22 := i_bd l2
      exact IH ((0 : Int)).toNat (by omega) _ (l1) (l2) ((l3 + (1 : Int32))) rfl (zF_u hF rfl) hV18 (show (0 : Int) = 1 from by omega)
theorem sp_255z {X : Nat × (Nat → Int32)} {P : Option ma_V → (Nat → Nat → Int32) → Prop} {T : Nat} {m : Nat → Nat → Int32} (r1 : Int32) (hV : zV m) (hpre0 : (m 94 8).toInt = 0) (r_W : zW (m 94 7) (m 98) (m 101) (m 102) (m 108)) (r_GW : zGW T (m 94 55) (m 109)) (KZ : ∀ v m₉, zV (zov wr_255 m m₉) → ((m 94 8).toInt = 0) → (zW (m 94 7) (m 98) (m 101) (m 102) (m 108)) → (zGW T (m₉ 94 55) (m₉ 109)) → P (some (.inl v)) (zov wr_255 m m₉)) : zm X 5 111 255 0 [(0, .inr (.inr (some 94))), (1, .inl r1)] m P := by
  have K : ∀ v m₉, zF wr_255 m m₉ → zV m₉ → ((m₉ 94 8).toInt = 0) → (zW (m₉ 94 7) (m₉ 98) (m₉ 101) (m₉ 102) (m₉ 108)) → (zGW T (m₉ 94 55) (m₉ 109)) → P (some (.inl v)) m₉ := by
    intro v m₉ hf z q0 q1 q2
    have e := zov_eq hf
    rw [e] at z ⊢
    try rw [e] at q0
    try rw [e] at q1
    try rw [e] at q2
    exact KZ v m₉ z q0 q1 q2
  refine g_255_0 r1 ?_
  have f1 : 0 ≤ (m 94 8).toInt ∧ (m 94 8).toInt ≤ 1 := rs_94_8 (m := m) hV
  have b2 := i_bd r1
  have li3 : (0 : Int32).toInt = 0 := rfl
  refine zd (fun (h4 : r1 < (0 : Int32)) => ?_) (fun (h4 : ¬ r1 < (0 : Int32)) => ?_)
  · skip
    have g5 := i_lt h4
    have hV6 : zV (ma_u m 94 0 (1 : Int32)) := uf_94_0 hV
    exact K ((0 : Int32)) _ (zF_u zF_rfl rfl) hV6 (show (m 94 8).toInt = 0 from by omega) r_W r_GW
  · skip
    have g7 := i_nlt h4
    have li8 : (16 : Int32).toInt = 16 := rfl
    refine zd (fun (h9 : (16 : Int32) ≤ r1) => ?_) (fun (h9 : ¬ (16 : Int32) ≤ r1) => ?_)
    · skip
      have g10 := i_le h9
      have hV11 : zV (ma_u m 94 0 (1 : Int32)) := uf_94_0 hV
      exact K ((0 : Int32)) _ (zF_u zF_rfl rfl) hV11 (show (m 94 8).toInt = 0 from by omega) r_W r_GW
    · skip
      have g12 := i_nle h9
      refine zd (fun (h13 : (m 94 8) = (0 : Int32)) => ?_) (fun (h13 : ¬ (m 94 8) = (0 : Int32)) => ?_)
      · skip
        have g14 := i_eq h13
        have hV15 : zV (ma_u m 94 0 (2 : Int32)) := uf_94_0 hV
        exact K ((0 : Int32)) _ (zF_u zF_rfl rfl) hV15 (show (m 94 8).toInt = 0 from by omega) r_W r_GW
      · skip
        have g16 := i_ne h13
        have f17 : 0 ≤ (m 94 55).toInt ∧ (m 94 55).toInt ≤ 3100 := rs_94_55 (m := m) hV
        refine zd (fun (h18 : (m 94 55) = (0 : Int32)) => ?_) (fun (h18 : ¬ (m 94 55) = (0 : Int32)) => ?_)
        · skip
          have g19 := i_eq h18
          have hV20 : zV (ma_u m 94 0 (0 : Int32)) := uf_94_0 hV
          have li21 : (-1 : Int32).toInt = -1 := rfl
          exact K ((-1 : Int32)) _ (zF_u zF_rfl rfl) hV20 (show (m 94 8).toInt = 0 from by omega) r_W r_GW
        · skip
          have g22 := i_ne h18
          have hV23 : zV (ma_u m 94 0 (0 : Int32)) := uf_94_0 hV
          first | have e25 : ((m 94 55) - (1 : Int32)).toInt = (m 94 55).toInt - (1) := i_subk rfl (by omega) (by omega) | have b26 := i_bd ((m 94 55) - (1 : Int32))
          have hV24 : zV (ma_u (ma_u m 94 0 (0 : Int32)) 94 55 ((m 94 55) - (1 : Int32))) := us_94_55 hV23 (by omega) (by omega)
          have f27 : 0 ≤ (m 114 0).toInt ∧ (m 114 0).toInt ≤ 3099 := ra_114 (m := m) hV (k := 0) (by decide)
          exact lp_255z_61 (r1 := r1) hV K _ _ (r1) ((m 114 0)) ((0 : Int32)) rfl (zF_u (zF_u zF_rfl rfl) rfl) hV24 (show (0 : Int) = 1 from by omega)
theorem sp_256z {X : Nat × (Nat → Int32)} {P : Option ma_V → (Nat → Nat → Int32) → Prop} {T : Nat} {m : Nat → Nat → Int32}  (hV : zV m) (hpre0 : (m 94 8).toInt = 0) (r_W : zW (m 94 7) (m 98) (m 101) (m 102) (m 108)) (r_GW : zGW T (m 94 55) (m 109)) (KZ : ∀ v m₉, zV (zov wr_256 m m₉) → ((m 94 8).toInt = 0) → (zW (m 94 7) (m 98) (m 101) (m 102) (m 108)) → (zGW T (m₉ 94 55) (m₉ 109)) → P (some (.inl v)) (zov wr_256 m m₉)) : zm X 7 152 256 0 [(0, .inr (.inr (some 94)))] m P := by
  have K : ∀ v m₉, zF wr_256 m m₉ → zV m₉ → ((m₉ 94 8).toInt = 0) → (zW (m₉ 94 7) (m₉ 98) (m₉ 101) (m₉ 102) (m₉ 108)) → (zGW T (m₉ 94 55) (m₉ 109)) → P (some (.inl v)) m₉ := by
    intro v m₉ hf z q0 q1 q2
    have e := zov_eq hf
    rw [e] at z ⊢
    try rw [e] at q0
    try rw [e] at q1
    try rw [e] at q2
    exact KZ v m₉ z q0 q1 q2
  refine g_256_0  ?_
  have f1 : 0 ≤ (m 94 8).toInt ∧ (m 94 8).toInt ≤ 1 := rs_94_8 (m := m) hV
  have li2 : (0 : Int32).toInt = 0 := rfl
  refine zd (fun (h3 : (m 94 8) = (0 : Int32)) => ?_) (fun (h3 : ¬ (m 94 8) = (0 : Int32)) => ?_)
  · skip
    have g4 := i_eq h3
    have hV5 : zV (ma_u m 94 0 (1 : Int32)) := uf_94_0 hV
    exact K ((0 : Int32)) _ (zF_u zF_rfl rfl) hV5 (show (m 94 8).toInt = 0 from by omega) r_W r_GW
  · skip
    have g6 := i_ne h3
    have f7 : 0 ≤ (m 94 10).toInt ∧ (m 94 10).toInt ≤ 6 := rs_94_10 (m := m) hV
    have li8 : (1 : Int32).toInt = 1 := rfl
    refine zd (fun (h9 : (m 94 10) = (1 : Int32)) => ?_) (fun (h9 : ¬ (m 94 10) = (1 : Int32)) => ?_)
    · skip
      have g10 := i_eq h9
      have hV11 : zV (ma_u m 94 0 (0 : Int32)) := uf_94_0 hV
      refine sp_186  hV11 r_W r_GW (show zGU T (m 94 46) (m 99) from by first | (exfalso; omega; done) | (exfalso; contradiction; done)) (show zOw (m 99) (m 103) (m 111) from by first | (exfalso; omega; done) | (exfalso; contradiction; done)) (show zDX (m 94 10) (m 99) (m 112) (m 113) (m 114) (m 94 55) (m 98) (m 101) (m 102) (m 108) from by first | (exfalso; omega; done) | (exfalso; contradiction; done)) (fun v2 m1 hV_m1 p0_m1 p1_m1 p2_m1 p3_m1 => zmi_n ?_)
      have p0_m1 : zGW T (m1 94 55) (m1 109) := p0_m1
      have p1_m1 : zGU T (m 94 46) (m1 99) := p1_m1
      have p2_m1 : zOw (m1 99) (m1 103) (m1 111) := p2_m1
      have p3_m1 : zDX (m 94 10) (m1 99) (m 112) (m1 113) (m1 114) (m1 94 55) (m 98) (m 101) (m 102) (m 108) := p3_m1
      have b12 := i_bd v2
      exact K (v2) _ (zF_zov (zF_u zF_rfl rfl) ws_186_256) hV_m1 (show (m 94 8).toInt = 0 from by omega) r_W p0_m1
    · skip
      have g13 := i_ne h9
      have li14 : (2 : Int32).toInt = 2 := rfl
      refine zd (fun (h15 : (m 94 10) = (2 : Int32)) => ?_) (fun (h15 : ¬ (m 94 10) = (2 : Int32)) => ?_)
      · skip
        have g16 := i_eq h15
        have hV17 : zV (ma_u m 94 0 (0 : Int32)) := uf_94_0 hV
        refine sp_206  hV17 r_W r_GW (show zGU T (m 94 46) (m 99) from by first | (exfalso; omega; done) | (exfalso; contradiction; done)) (show zOw (m 99) (m 103) (m 111) from by first | (exfalso; omega; done) | (exfalso; contradiction; done)) (show zDX (m 94 10) (m 99) (m 112) (m 113) (m 114) (m 94 55) (m 98) (m 101) (m 102) (m 108) from by first | (exfalso; omega; done) | (exfalso; contradiction; done)) (show zHA (m 94 10) (m 94 11) (m 94 13) (m 94 14) (m 94 16) (m 94 61) (m 94 59) (m 94 60) (m 99) (m 102) (m 103) (m 111) (m 117) (m 98) (m 101) (m 108) from by first | (exfalso; omega; done) | (exfalso; contradiction; done)) (show (m 94 10).toInt = 2 from by omega) (fun v4 m3 hV_m3 p0_m3 p1_m3 p2_m3 p3_m3 p4_m3 => zmi_n ?_)
        have p0_m3 : zGW T (m3 94 55) (m3 109) := p0_m3
        have p1_m3 : zGU T (m 94 46) (m3 99) := p1_m3
        have p2_m3 : zOw (m3 99) (m3 103) (m3 111) := p2_m3
        have p3_m3 : zDX (m 94 10) (m3 99) (m 112) (m3 113) (m3 114) (m3 94 55) (m 98) (m 101) (m 102) (m 108) := p3_m3
        have p4_m3 : zHA (m 94 10) (m 94 11) (m 94 13) (m 94 14) (m 94 16) (m3 94 61) (m3 94 59) (m3 94 60) (m3 99) (m 102) (m3 103) (m3 111) (m 117) (m 98) (m 101) (m 108) := p4_m3
        have b18 := i_bd v4
        exact K (v4) _ (zF_zov (zF_u zF_rfl rfl) ws_206_256) hV_m3 (show (m 94 8).toInt = 0 from by omega) r_W p0_m3
      · skip
        have g19 := i_ne h15
        have li20 : (3 : Int32).toInt = 3 := rfl
        refine zd (fun (h21 : (m 94 10) = (3 : Int32)) => ?_) (fun (h21 : ¬ (m 94 10) = (3 : Int32)) => ?_)
        · skip
          have g22 := i_eq h21
          have hV23 : zV (ma_u m 94 0 (0 : Int32)) := uf_94_0 hV
          refine sp_211  hV23 r_W r_GW (show zGU T (m 94 46) (m 99) from by first | (exfalso; omega; done) | (exfalso; contradiction; done)) (show zOw (m 99) (m 103) (m 111) from by first | (exfalso; omega; done) | (exfalso; contradiction; done)) (show zDX (m 94 10) (m 99) (m 112) (m 113) (m 114) (m 94 55) (m 98) (m 101) (m 102) (m 108) from by first | (exfalso; omega; done) | (exfalso; contradiction; done)) (show zHA (m 94 10) (m 94 11) (m 94 13) (m 94 14) (m 94 16) (m 94 61) (m 94 59) (m 94 60) (m 99) (m 102) (m 103) (m 111) (m 117) (m 98) (m 101) (m 108) from by first | (exfalso; omega; done) | (exfalso; contradiction; done)) (show (m 94 10).toInt = 3 from by omega) (fun v6 m5 hV_m5 p0_m5 p1_m5 p2_m5 p3_m5 p4_m5 => zmi_n ?_)
          have p0_m5 : zGW T (m5 94 55) (m5 109) := p0_m5
          have p1_m5 : zGU T (m 94 46) (m5 99) := p1_m5
          have p2_m5 : zOw (m5 99) (m5 103) (m5 111) := p2_m5
          have p3_m5 : zDX (m 94 10) (m5 99) (m 112) (m5 113) (m5 114) (m5 94 55) (m 98) (m 101) (m 102) (m 108) := p3_m5
          have p4_m5 : zHA (m 94 10) (m 94 11) (m 94 13) (m 94 14) (m 94 16) (m 94 61) (m 94 59) (m5 94 60) (m5 99) (m 102) (m5 103) (m5 111) (m5 117) (m 98) (m 101) (m 108) := p4_m5
          refine sp_214  hV_m5 r_W p0_m5 p1_m5 p2_m5 p3_m5 p4_m5 (show (m 94 10).toInt = 3 from by omega) (fun v8 m7 hV_m7 p0_m7 p1_m7 p2_m7 p3_m7 p4_m7 => zmi_n ?_)
          have p0_m7 : zGW T (m7 94 55) (m7 109) := p0_m7
          have p1_m7 : zGU T (m 94 46) (m7 99) := p1_m7
          have p2_m7 : zOw (m7 99) (m7 103) (m7 111) := p2_m7
          have p3_m7 : zDX (m 94 10) (m7 99) (m 112) (m7 113) (m7 114) (m7 94 55) (m 98) (m 101) (m 102) (m 108) := p3_m7
          have p4_m7 : zHA (m 94 10) (m 94 11) (m 94 13) (m 94 14) (m 94 16) (m7 94 61) (m7 94 59) (m7 94 60) (m7 99) (m 102) (m7 103) (m7 111) (m7 117) (m 98) (m 101) (m 108) := p4_m7
          have b24 := i_bd v6
          have b25 := i_bd v8
          first | have e26 : (v6 + v8).toInt = v6.toInt + v8.toInt := i_add (by omega) (by omega) | have b27 := i_bd (v6 + v8)
          exact K ((v6 + v8)) _ (zF_zov (zF_zov (zF_u zF_rfl rfl) ws_211_256) ws_214_256) hV_m7 (show (m 94 8).toInt = 0 from by omega) r_W p0_m7
        · skip
          have g28 := i_ne h21
          have li29 : (4 : Int32).toInt = 4 := rfl
          refine zd (fun (h30 : (m 94 10) = (4 : Int32)) => ?_) (fun (h30 : ¬ (m 94 10) = (4 : Int32)) => ?_)
          · skip
            have g31 := i_eq h30
            have hV32 : zV (ma_u m 94 0 (0 : Int32)) := uf_94_0 hV
            refine sp_187  hV32 r_W r_GW (show zGU T (m 94 46) (m 99) from by first | (exfalso; omega; done) | (exfalso; contradiction; done)) (show zOw (m 99) (m 103) (m 111) from by first | (exfalso; omega; done) | (exfalso; contradiction; done)) (show zDX (m 94 10) (m 99) (m 112) (m 113) (m 114) (m 94 55) (m 98) (m 101) (m 102) (m 108) from by first | (exfalso; omega; done) | (exfalso; contradiction; done)) (fun v10 m9 hV_m9 p0_m9 p1_m9 p2_m9 p3_m9 p4_m9 => zmi_n ?_)
            have p0_m9 : zGW T (m9 94 55) (m9 109) := p0_m9
            have p1_m9 : zGU T (m 94 46) (m9 99) := p1_m9
            have p2_m9 : zOw (m9 99) (m 103) (m9 111) := p2_m9
            have p3_m9 : zDX (m 94 10) (m9 99) (m 112) (m9 113) (m9 114) (m9 94 55) (m 98) (m 101) (m 102) (m 108) := p3_m9
            have p4_m9 : zsw (m 99) (m9 99) (m 111) (m9 111) (m 103) := p4_m9
            have b33 := i_bd v10
            exact K (v10) _ (zF_zov (zF_u zF_rfl rfl) ws_187_256) hV_m9 (show (m 94 8).toInt = 0 from by omega) r_W p0_m9
          · skip
            have g34 := i_ne h30
            have li35 : (5 : Int32).toInt = 5 := rfl
            refine zd (fun (h36 : (m 94 10) = (5 : Int32)) => ?_) (fun (h36 : ¬ (m 94 10) = (5 : Int32)) => ?_)
            · skip
              have g37 := i_eq h36
              have f38 : 0 ≤ (m 94 58).toInt ∧ (m 94 58).toInt ≤ 1 := rs_94_58 (m := m) hV
              refine zd (fun (h39 : (m 94 58) = (0 : Int32)) => ?_) (fun (h39 : ¬ (m 94 58) = (0 : Int32)) => ?_)
              · skip
                have g40 := i_eq h39
                have hV41 : zV (ma_u m 94 0 (0 : Int32)) := uf_94_0 hV
                refine sp_219  hV41  (fun m13 hV_m13 p0_m13 p1_m13 => zmv_n ?_)
                have p0_m13 : zG1 (m13 94 56) (m13 94 57) (m13 106) := p0_m13
                have p1_m13 : (m13 94 58).toInt = 1 := p1_m13
                have f42 : 0 ≤ (m13 94 58).toInt ∧ (m13 94 58).toInt ≤ 1 := rs_94_58 (m := (zov wr_219 (ma_u m 94 0 (0 : Int32)) m13)) hV_m13
                refine sp_230  hV_m13 r_W r_GW (show zGU T (m 94 46) (m 99) from by first | (exfalso; omega; done) | (exfalso; contradiction; done)) (show zOw (m 99) (m 103) (m 111) from by first | (exfalso; omega; done) | (exfalso; contradiction; done)) (show zDX (m 94 10) (m 99) (m 112) (m 113) (m 114) (m 94 55) (m 98) (m 101) (m 102) (m 108) from by first | (exfalso; omega; done) | (exfalso; contradiction; done)) (show zGG (m13 94 58) (m13 94 56) (m13 94 57) (m13 106) from by first | (exact fun _ => p0_m13) | (exact fun z => absurd z (by decide)) | (exact fun z => absurd z (by omega)) | (exfalso; omega; done) | (exfalso; contradiction; done)) (show (m 94 10).toInt = 5 from by omega) (fun v16 m15 hV_m15 p0_m15 p1_m15 p2_m15 p3_m15 p4_m15 p5_m15 => zmi_n ?_)
                have p0_m15 : zGW T (m15 94 55) (m15 109) := p0_m15
                have p1_m15 : zGU T (m 94 46) (m15 99) := p1_m15
                have p2_m15 : zOw (m15 99) (m 103) (m15 111) := p2_m15
                have p3_m15 : zDX (m 94 10) (m15 99) (m 112) (m15 113) (m15 114) (m15 94 55) (m 98) (m 101) (m 102) (m 108) := p3_m15
                have p4_m15 : zGG (m15 94 58) (m15 94 56) (m15 94 57) (m15 106) := p4_m15
                have p5_m15 : (m15 94 58).toInt = 0 := p5_m15
                have f43 : 0 ≤ (m15 94 58).toInt ∧ (m15 94 58).toInt ≤ 1 := rs_94_58 (m := (zov wr_230 (zov wr_219 (ma_u m 94 0 (0 : Int32)) m13) m15)) hV_m15
                have b44 := i_bd v16
                exact K (v16) _ (zF_zov (zF_zov (zF_u zF_rfl rfl) ws_219_256) ws_230_256) hV_m15 (show (m 94 8).toInt = 0 from by omega) r_W p0_m15
              · skip
                have g45 := i_ne h39
                have hV46 : zV (ma_u m 94 0 (0 : Int32)) := uf_94_0 hV
                refine sp_230  hV46 r_W r_GW (show zGU T (m 94 46) (m 99) from by first | (exfalso; omega; done) | (exfalso; contradiction; done)) (show zOw (m 99) (m 103) (m 111) from by first | (exfalso; omega; done) | (exfalso; contradiction; done)) (show zDX (m 94 10) (m 99) (m 112) (m 113) (m 114) (m 94 55) (m 98) (m 101) (m 102) (m 108) from by first | (exfalso; omega; done) | (exfalso; contradiction; done)) (show zGG (m 94 58) (m 94 56) (m 94 57) (m 106) from by first | (exact fun z => absurd z (by decide)) | (exact fun z => absurd z (by omega)) | (exfalso; omega; done) | (exfalso; contradiction; done)) (show (m 94 10).toInt = 5 from by omega) (fun v12 m11 hV_m11 p0_m11 p1_m11 p2_m11 p3_m11 p4_m11 p5_m11 => zmi_n ?_)
                have p0_m11 : zGW T (m11 94 55) (m11 109) := p0_m11
                have p1_m11 : zGU T (m 94 46) (m11 99) := p1_m11
                have p2_m11 : zOw (m11 99) (m 103) (m11 111) := p2_m11
                have p3_m11 : zDX (m 94 10) (m11 99) (m 112) (m11 113) (m11 114) (m11 94 55) (m 98) (m 101) (m 102) (m 108) := p3_m11
                have p4_m11 : zGG (m11 94 58) (m11 94 56) (m11 94 57) (m11 106) := p4_m11
                have p5_m11 : (m11 94 58).toInt = 0 := p5_m11
                have f47 : 0 ≤ (m11 94 58).toInt ∧ (m11 94 58).toInt ≤ 1 := rs_94_58 (m := (zov wr_230 (ma_u m 94 0 (0 : Int32)) m11)) hV_m11
                have b48 := i_bd v12
                exact K (v12) _ (zF_zov (zF_u zF_rfl rfl) ws_230_256) hV_m11 (show (m 94 8).toInt = 0 from by omega) r_W p0_m11
            · skip
              have g49 := i_ne h36
              have li50 : (6 : Int32).toInt = 6 := rfl
              refine zd (fun (h51 : (m 94 10) = (6 : Int32)) => ?_) (fun (h51 : ¬ (m 94 10) = (6 : Int32)) => ?_)
              · skip
                have g52 := i_eq h51
                have hV53 : zV (ma_u m 94 0 (0 : Int32)) := uf_94_0 hV
                refine sp_235  hV53 r_W r_GW (show zGU T (m 94 46) (m 99) from by first | (exfalso; omega; done) | (exfalso; contradiction; done)) (show zOw (m 99) (m 103) (m 111) from by first | (exfalso; omega; done) | (exfalso; contradiction; done)) (show zDX (m 94 10) (m 99) (m 112) (m 113) (m 114) (m 94 55) (m 98) (m 101) (m 102) (m 108) from by first | (exfalso; omega; done) | (exfalso; contradiction; done)) (show zRG1 (m 94 18) (m 94 64) (m 94 63) (m 99) (m 103) (m 102) (m 116) from by first | (exfalso; omega; done) | (exfalso; contradiction; done)) (show (m 94 10).toInt = 6 from by omega) (fun v18 m17 hV_m17 p0_m17 p1_m17 p2_m17 p3_m17 p4_m17 => zmi_n ?_)
                have p0_m17 : zGW T (m17 94 55) (m17 109) := p0_m17
                have p1_m17 : zGU T (m 94 46) (m17 99) := p1_m17
                have p2_m17 : zOw (m17 99) (m17 103) (m17 111) := p2_m17
                have p3_m17 : zDX (m 94 10) (m17 99) (m 112) (m17 113) (m17 114) (m17 94 55) (m 98) (m 101) (m 102) (m 108) := p3_m17
                have p4_m17 : zRG1 (m 94 18) (m 94 64) (m17 94 63) (m17 99) (m17 103) (m 102) (m17 116) := p4_m17
                have b54 := i_bd v18
                exact K (v18) _ (zF_zov (zF_u zF_rfl rfl) ws_235_256) hV_m17 (show (m 94 8).toInt = 0 from by omega) r_W p0_m17
              · skip
                have g55 := i_ne h51
                have hV56 : zV (ma_u m 94 0 (0 : Int32)) := uf_94_0 hV
                refine sp_187  hV56 r_W r_GW (show zGU T (m 94 46) (m 99) from by first | (exfalso; omega; done) | (exfalso; contradiction; done)) (show zOw (m 99) (m 103) (m 111) from by first | (exfalso; omega; done) | (exfalso; contradiction; done)) (show zDX (m 94 10) (m 99) (m 112) (m 113) (m 114) (m 94 55) (m 98) (m 101) (m 102) (m 108) from by first | (exfalso; omega; done) | (exfalso; contradiction; done)) (fun v20 m19 hV_m19 p0_m19 p1_m19 p2_m19 p3_m19 p4_m19 => zmi_n ?_)
                have p0_m19 : zGW T (m19 94 55) (m19 109) := p0_m19
                have p1_m19 : zGU T (m 94 46) (m19 99) := p1_m19
                have p2_m19 : zOw (m19 99) (m 103) (m19 111) := p2_m19
                have p3_m19 : zDX (m 94 10) (m19 99) (m 112) (m19 113) (m19 114) (m19 94 55) (m 98) (m 101) (m 102) (m 108) := p3_m19
                have p4_m19 : zsw (m 99) (m19 99) (m 111) (m19 111) (m 103) := p4_m19
                have b57 := i_bd v20
                exact K (v20) _ (zF_zov (zF_u zF_rfl rfl) ws_187_256) hV_m19 (show (m 94 8).toInt = 0 from by omega) r_W p0_m19
