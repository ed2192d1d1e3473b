/-! from 95.o23 -/
/-! the reference under COUNTS (written by wip/tools/gen20s.py) -/
theorem lp_259v_85 {X : Nat × (Nat → Int32)} {P : Option ma_V → (Nat → Nat → Int32) → Prop} {T : Nat} {ix : Int32} {pa : Int32} {m0 : Nat → Nat → Int32} (h0 : zV m0) (K : ∀ v m₉, zF wr_259 m0 m₉ → zV m₉ → ((m₉ 94 8).toInt = 0) → (zW (m₉ 94 7) (m₉ 98) (m₉ 101) (m₉ 102) (m₉ 108)) → (zGW T (m₉ 94 55) (m₉ 109)) → (((pa.toInt < 0 ∨ 1 < pa.toInt) ∧ (m₉ 94 0).toInt = 1) ∨ ((0 ≤ pa.toInt ∧ pa.toInt ≤ 1) ∧ (m₉ 94 0).toInt = 2)) → P (some (.inl v)) m₉) : ∀ (n : Nat) (m : Nat → Nat → Int32) (l1 : Int32) (l2 : Int32) (l4 : Int32) (l5 : Int32), ((0 : Int)).toNat = n → zF wr_259 m0 m → zV m → ((0 : Int) = 1) → zm X 2 45 259 85 [(0, .inr (.inr (some 94))), (1, .inl l1), (2, .inl l2), (4, .inl l4), (5, .inl l5)] m P := by
  intro n
  induction n using Nat.strongRecOn with
  | _ n IH =>
    intro m l1 l2 l4 l5 hmu hF hV hi0
    refine g_259_85 l1 l2 l4 l5 ?_
    have b1 := i_bd l1
    have b2 := i_bd l5
    refine zd (fun (h3 : l1 ≤ l5) => ?_) (fun (h3 : ¬ l1 ≤ l5) => ?_)
    · skip
      have g4 := i_le h3
      have li5 : (0 : Int32).toInt = 0 := rfl
      refine zd (fun (h6 : l1 < (0 : Int32)) => ?_) (fun (h6 : ¬ l1 < (0 : Int32)) => ?_)
      · skip
        have g7 := i_lt h6
        have hV8 : zV (ma_u m 94 0 (4 : Int32)) := uf_94_0 hV
        have f9 : 0 ≤ (m 94 8).toInt ∧ (m 94 8).toInt ≤ 1 := rs_94_8 (m := m) hV
        have li10 : (4 : Int32).toInt = 4 := rfl
        exact K ((0 : Int32)) _ (zF_u hF rfl) hV8 (show (m 94 8).toInt = 0 from by omega) (show zW (m 94 7) (m 98) (m 101) (m 102) (m 108) from by first | (exfalso; omega; done) | (exfalso; contradiction; done)) (show zGW T (m 94 55) (m 109) from by first | (exfalso; omega; done) | (exfalso; contradiction; done)) (show ((pa.toInt < 0 ∨ 1 < pa.toInt) ∧ (4 : Int32).toInt = 1) ∨ ((0 ≤ pa.toInt ∧ pa.toInt ≤ 1) ∧ (4 : Int32).toInt = 2) from by omega)
      · skip
        have g11 := i_nlt h6
        have b12 := i_bd l4
        refine zd (fun (h13 : (0 : Int32) ≤ l4) => ?_) (fun (h13 : ¬ (0 : Int32) ≤ l4) => ?_)
        · skip
          have g14 := i_le h13
          have b15 := i_bd l2
          refine zd (fun (h16 : l2 = (0 : Int32)) => ?_) (fun (h16 : ¬ l2 = (0 : Int32)) => ?_)
          · skip
            have g17 := i_eq h16
            have hV18 : zV (ma_u m 94 0 (0 : Int32)) := uf_94_0 hV
            have f19 : 0 ≤ (m 94 8).toInt ∧ (m 94 8).toInt ≤ 1 := rs_94_8 (m := m) hV
            exact K (l4) _ (zF_u hF rfl) hV18 (show (m 94 8).toInt = 0 from by omega) (show zW (m 94 7) (m 98) (m 101) (m 102) (m 108) from by first | (exfalso; omega; done) | (exfalso; contradiction; done)) (show zGW T (m 94 55) (m 109) from by first | (exfalso; omega; done) | (exfalso; contradiction; done)) (show ((pa.toInt < 0 ∨ 1 < pa.toInt) ∧ (0 : Int32).toInt = 1) ∨ ((0 ≤ pa.toInt ∧ pa.toInt ≤ 1) ∧ (0 : Int32).toInt = 2) from by omega)
          · skip
            have g20 := i_ne h16
            have hV21 : zV (ma_u m 94 0 (0 : Int32)) := uf_94_0 hV
            have f22 : 0 ≤ (m 94 84).toInt ∧ (m 94 84).toInt ≤ 4600 := rs_94_84 (m := m) hV
            have f23 : 0 ≤ (m 94 8).toInt ∧ (m 94 8).toInt ≤ 1 := rs_94_8 (m := m) hV
            exact K ((m 94 84)) _ (zF_u hF rfl) hV21 (show (m 94 8).toInt = 0 from by omega) (show zW (m 94 7) (m 98) (m 101) (m 102) (m 108) from by first | (exfalso; omega; done) | (exfalso; contradiction; done)) (show zGW T (m 94 55) (m 109) from by first | (exfalso; omega; done) | (exfalso; contradiction; done)) (show ((pa.toInt < 0 ∨ 1 < pa.toInt) ∧ (0 : Int32).toInt = 1) ∨ ((0 ≤ pa.toInt ∧ pa.toInt ≤ 1) ∧ (0 : Int32).toInt = 2) from by omega)
        · skip
          have g24 := i_nle h13
          have hV25 : zV (ma_u m 94 0 (4 : Int32)) := uf_94_0 hV
          have f26 : 0 ≤ (m 94 8).toInt ∧ (m 94 8).toInt ≤ 1 := rs_94_8 (m := m) hV
          have li27 : (4 : Int32).toInt = 4 := rfl
          exact K ((0 : Int32)) _ (zF_u hF rfl) hV25 (show (m 94 8).toInt = 0 from by omega) (show zW (m 94 7) (m 98) (m 101) (m 102) (m 108) from by first | (exfalso; omega; done) | (exfalso; contradiction; done)) (show zGW T (m 94 55) (m 109) from by first | (exfalso; omega; done) | (exfalso; contradiction; done)) (show ((pa.toInt < 0 ∨ 1 < pa.toInt) ∧ (4 : Int32).toInt = 1) ∨ ((0 ≤ pa.toInt ∧ pa.toInt ≤ 1) ∧ (4 : Int32).toInt = 2) from by omega)
    · skip
      have g28 := i_nle h3
      have b29 := i_bd l4
      have li30 : (0 : Int32).toInt = 0 := rfl
      refine zd (fun (h31 : l4 < (0 : Int32)) => ?_) (fun (h31 : ¬ l4 < (0 : Int32)) => ?_)
      · skip
        have g32 := i_lt h31
        refine zd (fun (h33 : l1 < (0 : Int32)) => ?_) (fun (h33 : ¬ l1 < (0 : Int32)) => ?_)
        · skip
          have g34 := i_lt h33
          have hV35 : zV (ma_u m 94 0 (4 : Int32)) := uf_94_0 hV
          have f36 : 0 ≤ (m 94 8).toInt ∧ (m 94 8).toInt ≤ 1 := rs_94_8 (m := m) hV
          have li37 : (4 : Int32).toInt = 4 := rfl
          exact K ((0 : Int32)) _ (zF_u hF rfl) hV35 (show (m 94 8).toInt = 0 from by omega) (show zW (m 94 7) (m 98) (m 101) (m 102) (m 108) from by first | (exfalso; omega; done) | (exfalso; contradiction; done)) (show zGW T (m 94 55) (m 109) from by first | (exfalso; omega; done) | (exfalso; contradiction; done)) (show ((pa.toInt < 0 ∨ 1 < pa.toInt) ∧ (4 : Int32).toInt = 1) ∨ ((0 ≤ pa.toInt ∧ pa.toInt ≤ 1) ∧ (4 : Int32).toInt = 2) from by omega)
        · skip
          have g38 := i_nlt h33
          refine zd (fun (h39 : (0 : Int32) ≤ l4) => ?_) (fun (h39 : ¬ (0 : Int32) ≤ l4) => ?_)
          · skip
            have g40 := i_le h39
            have b41 := i_bd l2
            refine zd (fun (h42 : l2 = (0 : Int32)) => ?_) (fun (h42 : ¬ l2 = (0 : Int32)) => ?_)
            · skip
              have g43 := i_eq h42
              have hV44 : zV (ma_u m 94 0 (0 : Int32)) := uf_94_0 hV
              have f45 : 0 ≤ (m 94 8).toInt ∧ (m 94 8).toInt ≤ 1 := rs_94_8 (m := m) hV
              exact K (l4) _ (zF_u hF rfl) hV44 (show (m 94 8).toInt = 0 from by omega) (show zW (m 94 7) (m 98) (m 101) (m 102) (m 108) from by first | (exfalso; omega; done) | (exfalso; contradiction; done)) (show zGW T (m 94 55) (m 109) from by first | (exfalso; omega; done) | (exfalso; contradiction; done)) (show ((pa.toInt < 0 ∨ 1 < pa.toInt) ∧ (0 : Int32).toInt = 1) ∨ ((0 ≤ pa.toInt ∧ pa.toInt ≤ 1) ∧ (0 : Int32).toInt = 2) from by omega)
            · skip
              have g46 := i_ne h42
              have hV47 : zV (ma_u m 94 0 (0 : Int32)) := uf_94_0 hV
              have f48 : 0 ≤ (m 94 84).toInt ∧ (m 94 84).toInt ≤ 4600 := rs_94_84 (m := m) hV
              have f49 : 0 ≤ (m 94 8).toInt ∧ (m 94 8).toInt ≤ 1 := rs_94_8 (m := m) hV
              exact K ((m 94 84)) _ (zF_u hF rfl) hV47 (show (m 94 8).toInt = 0 from by omega) (show zW (m 94 7) (m 98) (m 101) (m 102) (m 108) from by first | (exfalso; omega; done) | (exfalso; contradiction; done)) (show zGW T (m 94 55) (m 109) from by first | (exfalso; omega; done) | (exfalso; contradiction; done)) (show ((pa.toInt < 0 ∨ 1 < pa.toInt) ∧ (0 : Int32).toInt = 1) ∨ ((0 ≤ pa.toInt ∧ pa.toInt ≤ 1) ∧ (0 : Int32).toInt = 2) from by omega)
          · skip
            have g50 := i_nle h39
            have hV51 : zV (ma_u m 94 0 (4 : Int32)) := uf_94_0 hV
            have f52 : 0 ≤ (m 94 8).toInt ∧ (m 94 8).toInt ≤ 1 := rs_94_8 (m := m) hV
            have li53 : (4 : Int32).toInt = 4 := rfl
            exact K ((0 : Int32)) _ (zF_u hF rfl) hV51 (show (m 94 8).toInt = 0 from by omega) (show zW (m 94 7) (m 98) (m 101) (m 102) (m 108) from by first | (exfalso; omega; done) | (exfalso; contradiction; done)) (show zGW T (m 94 55) (m 109) from by first | (exfalso; omega; done) | (exfalso; contradiction; done)) (show ((pa.toInt < 0 ∨ 1 < pa.toInt) ∧ (4 : Int32).toInt = 1) ∨ ((0 ≤ pa.toInt ∧ pa.toInt ≤ 1) ∧ (4 : Int32).toInt = 2) from by omega)
      · skip
        have g54 := i_nlt h31
        have f55 : 0 ≤ (m 94 84).toInt ∧ (m 94 84).toInt ≤ 4600 := rs_94_84 (m := m) hV
        first | have e56 : (l4 + (m 94 84)).toInt = l4.toInt + (m 94 84).toInt := i_add (by omega) (by omega) | have b57 := i_bd (l4 + (m 94 84))
        have f58 : 0 ≤ (m 94 11).toInt ∧ (m 94 11).toInt ≤ 1500 := rs_94_11 (m := m) hV
        refine sp_226 ((l4 + (m 94 84))) ((m 94 11)) hV (by omega) (by omega) (by omega) (fun v2 m1 hV_m1 p0_m1 => zmi_n ?_)
        have p0_m1 : v2.toInt = -1 ∨ ((l4 + (m 94 84)).toInt ≤ v2.toInt ∧ v2.toInt < (m 94 11).toInt ∧ 1 ≤ (m1 94 84).toInt ∧ v2.toInt + (m1 94 84).toInt ≤ (m 94 11).toInt) := p0_m1
        have f59 : 0 ≤ (m1 94 84).toInt ∧ (m1 94 84).toInt ≤ 4600 := rs_94_84 (m := (zov wr_226 m m1)) hV_m1
        have b60 := i_bd l2
        have b61 := i_bd v2
        first | have e62 : (l5 + (1 : Int32)).toInt = l5.toInt + (1) := i_addk rfl (by omega) (by omega) | have b63 := i_bd (l5 + (1 : Int32))
        exact IH ((0 : Int)).toNat (by omega) _ (l1) (l2) (v2) ((l5 + (1 : Int32))) rfl (zF_zov hF ws_226_259) hV_m1 (show (0 : Int) = 1 from by omega)
theorem sp_259v {X : Nat × (Nat → Int32)} {P : Option ma_V → (Nat → Nat → Int32) → Prop} {T : Nat} {m : Nat → Nat → Int32} (ix : Int32) (pa : Int32) (hV : zV m) (hpre0 : (m 94 8).toInt = 0) (r_W : zW (m 94 7) (m 98) (m 101) (m 102) (m 108)) (r_GW : zGW T (m 94 55) (m 109)) (KZ : ∀ v m₉, zV (zov wr_259 m m₉) → ((m 94 8).toInt = 0) → (zW (m 94 7) (m 98) (m 101) (m 102) (m 108)) → (zGW T (m 94 55) (m 109)) → (((pa.toInt < 0 ∨ 1 < pa.toInt) ∧ (m₉ 94 0).toInt = 1) ∨ ((0 ≤ pa.toInt ∧ pa.toInt ≤ 1) ∧ (m₉ 94 0).toInt = 2)) → P (some (.inl v)) (zov wr_259 m m₉)) : zm X 2 45 259 0 [(0, .inr (.inr (some 94))), (1, .inl ix), (2, .inl pa)] m P := by
  have K : ∀ v m₉, zF wr_259 m m₉ → zV m₉ → ((m₉ 94 8).toInt = 0) → (zW (m₉ 94 7) (m₉ 98) (m₉ 101) (m₉ 102) (m₉ 108)) → (zGW T (m₉ 94 55) (m₉ 109)) → (((pa.toInt < 0 ∨ 1 < pa.toInt) ∧ (m₉ 94 0).toInt = 1) ∨ ((0 ≤ pa.toInt ∧ pa.toInt ≤ 1) ∧ (m₉ 94 0).toInt = 2)) → P (some (.inl v)) m₉ := by
    intro v m₉ hf z q0 q1 q2 q3
    have e := zov_eq hf
    rw [e] at z ⊢
    try rw [e] at q0
    try rw [e] at q1
    try rw [e] at q2
    try rw [e] at q3
    exact KZ v m₉ z q0 q1 q2 q3
  refine g_259_0 ix pa ?_
  have f1 : 0 ≤ (m 94 8).toInt ∧ (m 94 8).toInt ≤ 1 := rs_94_8 (m := m) hV
  have f2 : 0 ≤ (m 94 10).toInt ∧ (m 94 10).toInt ≤ 6 := rs_94_10 (m := m) hV
  have li3 : (0 : Int32).toInt = 0 := rfl
  refine zd (fun (h4 : (m 94 10) = (0 : Int32)) => ?_) (fun (h4 : ¬ (m 94 10) = (0 : Int32)) => ?_)
  · skip
    have g5 := i_eq h4
    have b6 := i_bd pa
    refine zd (fun (h7 : pa < (0 : Int32)) => ?_) (fun (h7 : ¬ pa < (0 : Int32)) => ?_)
    · skip
      have g8 := i_lt h7
      have hV9 : zV (ma_u m 94 0 (1 : Int32)) := uf_94_0 hV
      have li10 : (1 : Int32).toInt = 1 := rfl
      exact K ((0 : Int32)) _ (zF_u zF_rfl rfl) hV9 (show (m 94 8).toInt = 0 from by omega) r_W r_GW (show ((pa.toInt < 0 ∨ 1 < pa.toInt) ∧ (1 : Int32).toInt = 1) ∨ ((0 ≤ pa.toInt ∧ pa.toInt ≤ 1) ∧ (1 : Int32).toInt = 2) from by omega)
    · skip
      have g11 := i_nlt h7
      have li12 : (1 : Int32).toInt = 1 := rfl
      refine zd (fun (h13 : pa ≤ (1 : Int32)) => ?_) (fun (h13 : ¬ pa ≤ (1 : Int32)) => ?_)
      · skip
        have g14 := i_le h13
        refine zd (fun (h15 : (m 94 8) = (0 : Int32)) => ?_) (fun (h15 : ¬ (m 94 8) = (0 : Int32)) => ?_)
        · skip
          have g16 := i_eq h15
          have hV17 : zV (ma_u m 94 0 (2 : Int32)) := uf_94_0 hV
          have li18 : (2 : Int32).toInt = 2 := rfl
          exact K ((0 : Int32)) _ (zF_u zF_rfl rfl) hV17 (show (m 94 8).toInt = 0 from by omega) r_W r_GW (show ((pa.toInt < 0 ∨ 1 < pa.toInt) ∧ (2 : Int32).toInt = 1) ∨ ((0 ≤ pa.toInt ∧ pa.toInt ≤ 1) ∧ (2 : Int32).toInt = 2) from by omega)
        · skip
          have g19 := i_ne h15
          have f20 : 0 ≤ (m 94 11).toInt ∧ (m 94 11).toInt ≤ 1500 := rs_94_11 (m := m) hV
          have hV21 : zV (ma_u m 94 0 (0 : Int32)) := uf_94_0 hV
          refine sp_226 ((0 : Int32)) ((m 94 11)) hV21 (by omega) (by omega) (by omega) (fun v2 m1 hV_m1 p0_m1 => zmi_n ?_)
          have p0_m1 : v2.toInt = -1 ∨ ((0 : Int32).toInt ≤ v2.toInt ∧ v2.toInt < (m 94 11).toInt ∧ 1 ≤ (m1 94 84).toInt ∧ v2.toInt + (m1 94 84).toInt ≤ (m 94 11).toInt) := p0_m1
          have f22 : 0 ≤ (m1 94 84).toInt ∧ (m1 94 84).toInt ≤ 4600 := rs_94_84 (m := (zov wr_226 (ma_u m 94 0 (0 : Int32)) m1)) hV_m1
          have b23 := i_bd ix
          have b24 := i_bd v2
          exact lp_259v_85 (ix := ix) (pa := pa) hV K _ _ (ix) (pa) (v2) ((0 : Int32)) rfl (zF_zov (zF_u zF_rfl rfl) ws_226_259) hV_m1 (show (0 : Int) = 1 from by omega)
      · skip
        have g25 := i_nle h13
        have hV26 : zV (ma_u m 94 0 (1 : Int32)) := uf_94_0 hV
        exact K ((0 : Int32)) _ (zF_u zF_rfl rfl) hV26 (show (m 94 8).toInt = 0 from by omega) r_W r_GW (show ((pa.toInt < 0 ∨ 1 < pa.toInt) ∧ (1 : Int32).toInt = 1) ∨ ((0 ≤ pa.toInt ∧ pa.toInt ≤ 1) ∧ (1 : Int32).toInt = 2) from by omega)
  · skip
    have g27 := i_ne h4
    have li28 : (4 : Int32).toInt = 4 := rfl
    refine zd (fun (h29 : (m 94 10) = (4 : Int32)) => ?_) (fun (h29 : ¬ (m 94 10) = (4 : Int32)) => ?_)
    · skip
      have g30 := i_eq h29
      have b31 := i_bd pa
      refine zd (fun (h32 : pa < (0 : Int32)) => ?_) (fun (h32 : ¬ pa < (0 : Int32)) => ?_)
      · skip
        have g33 := i_lt h32
        have hV34 : zV (ma_u m 94 0 (1 : Int32)) := uf_94_0 hV
        have li35 : (1 : Int32).toInt = 1 := rfl
        exact K ((0 : Int32)) _ (zF_u zF_rfl rfl) hV34 (show (m 94 8).toInt = 0 from by omega) r_W r_GW (show ((pa.toInt < 0 ∨ 1 < pa.toInt) ∧ (1 : Int32).toInt = 1) ∨ ((0 ≤ pa.toInt ∧ pa.toInt ≤ 1) ∧ (1 : Int32).toInt = 2) from by omega)
      · skip
        have g36 := i_nlt h32
        have li37 : (1 : Int32).toInt = 1 := rfl
        refine zd (fun (h38 : pa ≤ (1 : Int32)) => ?_) (fun (h38 : ¬ pa ≤ (1 : Int32)) => ?_)
        · skip
          have g39 := i_le h38
          refine zd (fun (h40 : (m 94 8) = (0 : Int32)) => ?_) (fun (h40 : ¬ (m 94 8) = (0 : Int32)) => ?_)
          · skip
            have g41 := i_eq h40
            have hV42 : zV (ma_u m 94 0 (2 : Int32)) := uf_94_0 hV
            have li43 : (2 : Int32).toInt = 2 := rfl
            exact K ((0 : Int32)) _ (zF_u zF_rfl rfl) hV42 (show (m 94 8).toInt = 0 from by omega) r_W r_GW (show ((pa.toInt < 0 ∨ 1 < pa.toInt) ∧ (2 : Int32).toInt = 1) ∨ ((0 ≤ pa.toInt ∧ pa.toInt ≤ 1) ∧ (2 : Int32).toInt = 2) from by omega)
          · skip
            have g44 := i_ne h40
            have f45 : 0 ≤ (m 94 11).toInt ∧ (m 94 11).toInt ≤ 1500 := rs_94_11 (m := m) hV
            have hV46 : zV (ma_u m 94 0 (0 : Int32)) := uf_94_0 hV
            refine sp_226 ((0 : Int32)) ((m 94 11)) hV46 (by omega) (by omega) (by omega) (fun v4 m3 hV_m3 p0_m3 => zmi_n ?_)
            have p0_m3 : v4.toInt = -1 ∨ ((0 : Int32).toInt ≤ v4.toInt ∧ v4.toInt < (m 94 11).toInt ∧ 1 ≤ (m3 94 84).toInt ∧ v4.toInt + (m3 94 84).toInt ≤ (m 94 11).toInt) := p0_m3
            have f47 : 0 ≤ (m3 94 84).toInt ∧ (m3 94 84).toInt ≤ 4600 := rs_94_84 (m := (zov wr_226 (ma_u m 94 0 (0 : Int32)) m3)) hV_m3
            have b48 := i_bd ix
            have b49 := i_bd v4
            exact lp_259v_85 (ix := ix) (pa := pa) hV K _ _ (ix) (pa) (v4) ((0 : Int32)) rfl (zF_zov (zF_u zF_rfl rfl) ws_226_259) hV_m3 (show (0 : Int) = 1 from by omega)
        · skip
          have g50 := i_nle h38
          have hV51 : zV (ma_u m 94 0 (1 : Int32)) := uf_94_0 hV
          exact K ((0 : Int32)) _ (zF_u zF_rfl rfl) hV51 (show (m 94 8).toInt = 0 from by omega) r_W r_GW (show ((pa.toInt < 0 ∨ 1 < pa.toInt) ∧ (1 : Int32).toInt = 1) ∨ ((0 ≤ pa.toInt ∧ pa.toInt ≤ 1) ∧ (1 : Int32).toInt = 2) from by omega)
    · skip
      have g52 := i_ne h29
      have li53 : (5 : Int32).toInt = 5 := rfl
      refine zd (fun (h54 : (m 94 10) = (5 : Int32)) => ?_) (fun (h54 : ¬ (m 94 10) = (5 : Int32)) => ?_)
      · skip
        have g55 := i_eq h54
        have b56 := i_bd pa
        refine zd (fun (h57 : pa < (0 : Int32)) => ?_) (fun (h57 : ¬ pa < (0 : Int32)) => ?_)
        · skip
          have g58 := i_lt h57
          have hV59 : zV (ma_u m 94 0 (1 : Int32)) := uf_94_0 hV
          have li60 : (1 : Int32).toInt = 1 := rfl
          exact K ((0 : Int32)) _ (zF_u zF_rfl rfl) hV59 (show (m 94 8).toInt = 0 from by omega) r_W r_GW (show ((pa.toInt < 0 ∨ 1 < pa.toInt) ∧ (1 : Int32).toInt = 1) ∨ ((0 ≤ pa.toInt ∧ pa.toInt ≤ 1) ∧ (1 : Int32).toInt = 2) from by omega)
        · skip
          have g61 := i_nlt h57
          have li62 : (1 : Int32).toInt = 1 := rfl
          refine zd (fun (h63 : pa ≤ (1 : Int32)) => ?_) (fun (h63 : ¬ pa ≤ (1 : Int32)) => ?_)
          · skip
            have g64 := i_le h63
            refine zd (fun (h65 : (m 94 8) = (0 : Int32)) => ?_) (fun (h65 : ¬ (m 94 8) = (0 : Int32)) => ?_)
            · skip
              have g66 := i_eq h65
              have hV67 : zV (ma_u m 94 0 (2 : Int32)) := uf_94_0 hV
              have li68 : (2 : Int32).toInt = 2 := rfl
              exact K ((0 : Int32)) _ (zF_u zF_rfl rfl) hV67 (show (m 94 8).toInt = 0 from by omega) r_W r_GW (show ((pa.toInt < 0 ∨ 1 < pa.toInt) ∧ (2 : Int32).toInt = 1) ∨ ((0 ≤ pa.toInt ∧ pa.toInt ≤ 1) ∧ (2 : Int32).toInt = 2) from by omega)
            · skip
              have g69 := i_ne h65
              have f70 : 0 ≤ (m 94 11).toInt ∧ (m 94 11).toInt ≤ 1500 := rs_94_11 (m := m) hV
              have hV71 : zV (ma_u m 94 0 (0 : Int32)) := uf_94_0 hV
              refine sp_226 ((0 : Int32)) ((m 94 11)) hV71 (by omega) (by omega) (by omega) (fun v6 m5 hV_m5 p0_m5 => zmi_n ?_)
              have p0_m5 : v6.toInt = -1 ∨ ((0 : Int32).toInt ≤ v6.toInt ∧ v6.toInt < (m 94 11).toInt ∧ 1 ≤ (m5 94 84).toInt ∧ v6.toInt + (m5 94 84).toInt ≤ (m 94 11).toInt) := p0_m5
              have f72 : 0 ≤ (m5 94 84).toInt ∧ (m5 94 84).toInt ≤ 4600 := rs_94_84 (m := (zov wr_226 (ma_u m 94 0 (0 : Int32)) m5)) hV_m5
              have b73 := i_bd ix
              have b74 := i_bd v6
              exact lp_259v_85 (ix := ix) (pa := pa) hV K _ _ (ix) (pa) (v6) ((0 : Int32)) rfl (zF_zov (zF_u zF_rfl rfl) ws_226_259) hV_m5 (show (0 : Int) = 1 from by omega)
          · skip
            have g75 := i_nle h63
            have hV76 : zV (ma_u m 94 0 (1 : Int32)) := uf_94_0 hV
            exact K ((0 : Int32)) _ (zF_u zF_rfl rfl) hV76 (show (m 94 8).toInt = 0 from by omega) r_W r_GW (show ((pa.toInt < 0 ∨ 1 < pa.toInt) ∧ (1 : Int32).toInt = 1) ∨ ((0 ≤ pa.toInt ∧ pa.toInt ≤ 1) ∧ (1 : Int32).toInt = 2) from by omega)
      · skip
        have g77 := i_ne h54
        have b78 := i_bd pa
        refine zd (fun (h79 : pa < (0 : Int32)) => ?_) (fun (h79 : ¬ pa < (0 : Int32)) => ?_)
        · skip
          have g80 := i_lt h79
          have hV81 : zV (ma_u m 94 0 (1 : Int32)) := uf_94_0 hV
          have li82 : (1 : Int32).toInt = 1 := rfl
          exact K ((0 : Int32)) _ (zF_u zF_rfl rfl) hV81 (show (m 94 8).toInt = 0 from by omega) r_W r_GW (show ((pa.toInt < 0 ∨ 1 < pa.toInt) ∧ (1 : Int32).toInt = 1) ∨ ((0 ≤ pa.toInt ∧ pa.toInt ≤ 1) ∧ (1 : Int32).toInt = 2) from by omega)
        · skip
          have g83 := i_nlt h79
          have li84 : (1 : Int32).toInt = 1 := rfl
          refine zd (fun (h85 : pa ≤ (1 : Int32)) => ?_) (fun (h85 : ¬ pa ≤ (1 : Int32)) => ?_)
          · skip
            have g86 := i_le h85
            refine zd (fun (h87 : (m 94 8) = (0 : Int32)) => ?_) (fun (h87 : ¬ (m 94 8) = (0 : Int32)) => ?_)
            · skip
              have g88 := i_eq h87
              have hV89 : zV (ma_u m 94 0 (2 : Int32)) := uf_94_0 hV
              have li90 : (2 : Int32).toInt = 2 := rfl
              exact K ((0 : Int32)) _ (zF_u zF_rfl rfl) hV89 (show (m 94 8).toInt = 0 from by omega) r_W r_GW (show ((pa.toInt < 0 ∨ 1 < pa.toInt) ∧ (2 : Int32).toInt = 1) ∨ ((0 ≤ pa.toInt ∧ pa.toInt ≤ 1) ∧ (2 : Int32).toInt = 2) from by omega)
            · skip
              have g91 := i_ne h87
              have hV92 : zV (ma_u m 94 0 (3 : Int32)) := uf_94_0 hV
              have li93 : (3 : Int32).toInt = 3 := rfl
              exact K ((0 : Int32)) _ (zF_u zF_rfl rfl) hV92 (show (m 94 8).toInt = 0 from by omega) r_W r_GW (show ((pa.toInt < 0 ∨ 1 < pa.toInt) ∧ (3 : Int32).toInt = 1) ∨ ((0 ≤ pa.toInt ∧ pa.toInt ≤ 1) ∧ (3 : Int32).toInt = 2) from by omega)
          · skip
            have g94 := i_nle h85
            have hV95 : zV (ma_u m 94 0 (1 : Int32)) := uf_94_0 hV
            exact K ((0 : Int32)) _ (zF_u zF_rfl rfl) hV95 (show (m 94 8).toInt = 0 from by omega) r_W r_GW (show ((pa.toInt < 0 ∨ 1 < pa.toInt) ∧ (1 : Int32).toInt = 1) ∨ ((0 ≤ pa.toInt ∧ pa.toInt ≤ 1) ∧ (1 : Int32).toInt = 2) from by omega)
theorem sp_257w0 {X : Nat × (Nat → Int32)} {P : Option ma_V → (Nat → Nat → Int32) → Prop} {T : Nat} {m : Nat → Nat → Int32} (nn : Int32) (hV : zV m) (hpre0 : (m 94 8).toInt = 1) (hpre1 : (m 94 10).toInt = 0 ∨ (m 94 10).toInt = 4) (r_W : zW (m 94 7) (m 98) (m 101) (m 102) (m 108)) (r_GW : zGW T (m 94 55) (m 109)) (r_GU : zGU T (m 94 46) (m 99)) (r_OW : zOw (m 99) (m 103) (m 111)) (r_DX : zDX (m 94 10) (m 99) (m 112) (m 113) (m 114) (m 94 55) (m 98) (m 101) (m 102) (m 108)) (r_GG : zGG (m 94 58) (m 94 56) (m 94 57) (m 106)) (r_HA : zHA (m 94 10) (m 94 11) (m 94 13) (m 94 14) (m 94 16) (m 94 61) (m 94 59) (m 94 60) (m 99) (m 102) (m 103) (m 111) (m 117) (m 98) (m 101) (m 108)) (r_RGc : zRG (m 94 10) (m 94 18) (m 94 64) (m 94 63) (m 99) (m 103) (m 102) (m 116)) (hpre10 : (m 94 58).toInt = 0 ∨ (m 94 10).toInt = 5) (KZ : ∀ v m₉, zV (zov wr_257 m m₉) → (zW (m 94 7) (m 98) (m 101) (m 102) (m 108)) → (zGW T (m₉ 94 55) (m₉ 109)) → (zGU T (m 94 46) (m₉ 99)) → (zOw (m₉ 99) (m 103) (m₉ 111)) → (zDX (m 94 10) (m₉ 99) (m 112) (m₉ 113) (m₉ 114) (m₉ 94 55) (m 98) (m 101) (m 102) (m 108)) → (zGG (m₉ 94 58) (m₉ 94 56) (m₉ 94 57) (m₉ 106)) → (zHA (m 94 10) (m 94 11) (m 94 13) (m 94 14) (m 94 16) (m 94 61) (m 94 59) (m 94 60) (m₉ 99) (m 102) (m 103) (m₉ 111) (m 117) (m 98) (m 101) (m 108)) → (zRG (m 94 10) (m 94 18) (m 94 64) (m 94 63) (m₉ 99) (m 103) (m 102) (m 116)) → ((m₉ 94 58).toInt = 0 ∨ (m 94 10).toInt = 5) → (((nn.toInt < 0 ∨ 1000 < nn.toInt) ∧ (m₉ 94 0).toInt = 1) ∨ ((0 ≤ nn.toInt ∧ nn.toInt ≤ 1000) ∧ (m₉ 94 0).toInt = 3)) → ((m 98) = (m 98) ∧ (m₉ 99) = (m 99) ∧ (m 100) = (m 100) ∧ (m 101) = (m 101) ∧ (m 102) = (m 102) ∧ (m 103) = (m 103) ∧ (m₉ 105) = (m 105) ∧ (m 107) = (m 107) ∧ (m 108) = (m 108) ∧ (m₉ 109) = (m 109) ∧ (m₉ 111) = (m 111) ∧ (m 112) = (m 112) ∧ (m₉ 113) = (m 113) ∧ (m₉ 114) = (m 114) ∧ (m₉ 94 55) = (m 94 55) ∧ (m 94 46) = (m 94 46) ∧ (m 94 11) = (m 94 11) ∧ (m 94 12) = (m 94 12) ∧ (m 94 62) = (m 94 62) ∧ (m 94 17) = (m 94 17) ∧ (m 94 9) = (m 94 9) ∧ (m₉ 94 58) = (m 94 58) ∧ (m₉ 94 45) = (m 94 45)) → P (some (.inl v)) (zov wr_257 m m₉)) : zm X 5 109 257 0 [(0, .inr (.inr (some 94))), (1, .inl nn)] m P := by
  have K : ∀ v m₉, zF wr_257 m m₉ → zV m₉ → (zW (m₉ 94 7) (m₉ 98) (m₉ 101) (m₉ 102) (m₉ 108)) → (zGW T (m₉ 94 55) (m₉ 109)) → (zGU T (m₉ 94 46) (m₉ 99)) → (zOw (m₉ 99) (m₉ 103) (m₉ 111)) → (zDX (m₉ 94 10) (m₉ 99) (m₉ 112) (m₉ 113) (m₉ 114) (m₉ 94 55) (m₉ 98) (m₉ 101) (m₉ 102) (m₉ 108)) → (zGG (m₉ 94 58) (m₉ 94 56) (m₉ 94 57) (m₉ 106)) → (zHA (m₉ 94 10) (m₉ 94 11) (m₉ 94 13) (m₉ 94 14) (m₉ 94 16) (m₉ 94 61) (m₉ 94 59) (m₉ 94 60) (m₉ 99) (m₉ 102) (m₉ 103) (m₉ 111) (m₉ 117) (m₉ 98) (m₉ 101) (m₉ 108)) → (zRG (m₉ 94 10) (m₉ 94 18) (m₉ 94 64) (m₉ 94 63) (m₉ 99) (m₉ 103) (m₉ 102) (m₉ 116)) → ((m₉ 94 58).toInt = 0 ∨ (m₉ 94 10).toInt = 5) → (((nn.toInt < 0 ∨ 1000 < nn.toInt) ∧ (m₉ 94 0).toInt = 1) ∨ ((0 ≤ nn.toInt ∧ nn.toInt ≤ 1000) ∧ (m₉ 94 0).toInt = 3)) → ((m₉ 98) = (m 98) ∧ (m₉ 99) = (m 99) ∧ (m₉ 100) = (m 100) ∧ (m₉ 101) = (m 101) ∧ (m₉ 102) = (m 102) ∧ (m₉ 103) = (m 103) ∧ (m₉ 105) = (m 105) ∧ (m₉ 107) = (m 107) ∧ (m₉ 108) = (m 108) ∧ (m₉ 109) = (m 109) ∧ (m₉ 111) = (m 111) ∧ (m₉ 112) = (m 112) ∧ (m₉ 113) = (m 113) ∧ (m₉ 114) = (m 114) ∧ (m₉ 94 55) = (m 94 55) ∧ (m₉ 94 46) = (m 94 46) ∧ (m₉ 94 11) = (m 94 11) ∧ (m₉ 94 12) = (m 94 12) ∧ (m₉ 94 62) = (m 94 62) ∧ (m₉ 94 17) = (m 94 17) ∧ (m₉ 94 9) = (m 94 9) ∧ (m₉ 94 58) = (m 94 58) ∧ (m₉ 94 45) = (m 94 45)) → P (some (.inl v)) m₉ := by
    intro v m₉ hf z q0 q1 q2 q3 q4 q5 q6 q7 q8 q9 q10
    have e := zov_eq hf
    rw [e] at z ⊢
    try rw [e] at q0
    try rw [e] at q1
    try rw [e] at q2
    try rw [e] at q3
    try rw [e] at q4
    try rw [e] at q5
    try rw [e] at q6
    try rw [e] at q7
    try rw [e] at q8
    try rw [e] at q9
    try rw [e] at q10
    exact KZ v m₉ z q0 q1 q2 q3 q4 q5 q6 q7 q8 q9 q10
  refine g_257_0 nn ?_
  have f1 : 0 ≤ (m 94 8).toInt ∧ (m 94 8).toInt ≤ 1 := rs_94_8 (m := m) hV
  have f2 : 0 ≤ (m 94 10).toInt ∧ (m 94 10).toInt ≤ 6 := rs_94_10 (m := m) hV
  have f3 : 0 ≤ (m 94 58).toInt ∧ (m 94 58).toInt ≤ 1 := rs_94_58 (m := m) hV
  have b4 := i_bd nn
  have li5 : (0 : Int32).toInt = 0 := rfl
  refine zd (fun (h6 : nn < (0 : Int32)) => ?_) (fun (h6 : ¬ nn < (0 : Int32)) => ?_)
  · skip
    have g7 := i_lt h6
    have hV8 : zV (ma_u m 94 0 (1 : Int32)) := uf_94_0 hV
    have li9 : (1 : Int32).toInt = 1 := rfl
    exact K ((0 : Int32)) _ (zF_u zF_rfl rfl) hV8 r_W r_GW r_GU r_OW r_DX r_GG r_HA r_RGc (show (m 94 58).toInt = 0 ∨ (m 94 10).toInt = 5 from by omega) (show ((nn.toInt < 0 ∨ 1000 < nn.toInt) ∧ (1 : Int32).toInt = 1) ∨ ((0 ≤ nn.toInt ∧ nn.toInt ≤ 1000) ∧ (1 : Int32).toInt = 3) from by omega) (show (m 98) = (m 98) ∧ (m 99) = (m 99) ∧ (m 100) = (m 100) ∧ (m 101) = (m 101) ∧ (m 102) = (m 102) ∧ (m 103) = (m 103) ∧ (m 105) = (m 105) ∧ (m 107) = (m 107) ∧ (m 108) = (m 108) ∧ (m 109) = (m 109) ∧ (m 111) = (m 111) ∧ (m 112) = (m 112) ∧ (m 113) = (m 113) ∧ (m 114) = (m 114) ∧ (m 94 55) = (m 94 55) ∧ (m 94 46) = (m 94 46) ∧ (m 94 11) = (m 94 11) ∧ (m 94 12) = (m 94 12) ∧ (m 94 62) = (m 94 62) ∧ (m 94 17) = (m 94 17) ∧ (m 94 9) = (m 94 9) ∧ (m 94 58) = (m 94 58) ∧ (m 94 45) = (m 94 45) from by first | (exact ⟨rfl, rfl, rfl, rfl, rfl, rfl, rfl, rfl, rfl, rfl, rfl, rfl, rfl, rfl, rfl, rfl, rfl, rfl, rfl, rfl, rfl, rfl, rfl⟩) | (exfalso; omega; done) | (exfalso; contradiction; done))
  · skip
    have g10 := i_nlt h6
    have li11 : (1000 : Int32).toInt = 1000 := rfl
    refine zd (fun (h12 : nn ≤ (1000 : Int32)) => ?_) (fun (h12 : ¬ nn ≤ (1000 : Int32)) => ?_)
    · skip
      have g13 := i_le h12
      refine zd (fun (h14 : (m 94 8) = (0 : Int32)) => ?_) (fun (h14 : ¬ (m 94 8) = (0 : Int32)) => ?_)
      · skip
        have g15 := i_eq h14
        have hV16 : zV (ma_u m 94 0 (2 : Int32)) := uf_94_0 hV
        have li17 : (2 : Int32).toInt = 2 := rfl
        exact K ((0 : Int32)) _ (zF_u zF_rfl rfl) hV16 r_W r_GW r_GU r_OW r_DX r_GG r_HA r_RGc (show (m 94 58).toInt = 0 ∨ (m 94 10).toInt = 5 from by omega) (show ((nn.toInt < 0 ∨ 1000 < nn.toInt) ∧ (2 : Int32).toInt = 1) ∨ ((0 ≤ nn.toInt ∧ nn.toInt ≤ 1000) ∧ (2 : Int32).toInt = 3) from by omega) (show (m 98) = (m 98) ∧ (m 99) = (m 99) ∧ (m 100) = (m 100) ∧ (m 101) = (m 101) ∧ (m 102) = (m 102) ∧ (m 103) = (m 103) ∧ (m 105) = (m 105) ∧ (m 107) = (m 107) ∧ (m 108) = (m 108) ∧ (m 109) = (m 109) ∧ (m 111) = (m 111) ∧ (m 112) = (m 112) ∧ (m 113) = (m 113) ∧ (m 114) = (m 114) ∧ (m 94 55) = (m 94 55) ∧ (m 94 46) = (m 94 46) ∧ (m 94 11) = (m 94 11) ∧ (m 94 12) = (m 94 12) ∧ (m 94 62) = (m 94 62) ∧ (m 94 17) = (m 94 17) ∧ (m 94 9) = (m 94 9) ∧ (m 94 58) = (m 94 58) ∧ (m 94 45) = (m 94 45) from by first | (exact ⟨rfl, rfl, rfl, rfl, rfl, rfl, rfl, rfl, rfl, rfl, rfl, rfl, rfl, rfl, rfl, rfl, rfl, rfl, rfl, rfl, rfl, rfl, rfl⟩) | (exfalso; omega; done) | (exfalso; contradiction; done))
      · skip
        have g18 := i_ne h14
        have li19 : (5 : Int32).toInt = 5 := rfl
        refine zd (fun (h20 : (m 94 10) = (5 : Int32)) => ?_) (fun (h20 : ¬ (m 94 10) = (5 : Int32)) => ?_)
        · skip
          have g21 := i_eq h20
          refine zd (fun (h22 : (m 94 58) = (0 : Int32)) => ?_) (fun (h22 : ¬ (m 94 58) = (0 : Int32)) => ?_)
          · skip
            have g23 := i_eq h22
            have hV24 : zV (ma_u m 94 0 (0 : Int32)) := uf_94_0 hV
            exact K ((0 : Int32)) _ (zF_u zF_rfl rfl) hV24 r_W r_GW r_GU r_OW r_DX r_GG r_HA r_RGc (show (m 94 58).toInt = 0 ∨ (m 94 10).toInt = 5 from by omega) (show ((nn.toInt < 0 ∨ 1000 < nn.toInt) ∧ (0 : Int32).toInt = 1) ∨ ((0 ≤ nn.toInt ∧ nn.toInt ≤ 1000) ∧ (0 : Int32).toInt = 3) from by omega) (show (m 98) = (m 98) ∧ (m 99) = (m 99) ∧ (m 100) = (m 100) ∧ (m 101) = (m 101) ∧ (m 102) = (m 102) ∧ (m 103) = (m 103) ∧ (m 105) = (m 105) ∧ (m 107) = (m 107) ∧ (m 108) = (m 108) ∧ (m 109) = (m 109) ∧ (m 111) = (m 111) ∧ (m 112) = (m 112) ∧ (m 113) = (m 113) ∧ (m 114) = (m 114) ∧ (m 94 55) = (m 94 55) ∧ (m 94 46) = (m 94 46) ∧ (m 94 11) = (m 94 11) ∧ (m 94 12) = (m 94 12) ∧ (m 94 62) = (m 94 62) ∧ (m 94 17) = (m 94 17) ∧ (m 94 9) = (m 94 9) ∧ (m 94 58) = (m 94 58) ∧ (m 94 45) = (m 94 45) from by first | (exact ⟨rfl, rfl, rfl, rfl, rfl, rfl, rfl, rfl, rfl, rfl, rfl, rfl, rfl, rfl, rfl, rfl, rfl, rfl, rfl, rfl, rfl, rfl, rfl⟩) | (exfalso; omega; done) | (exfalso; contradiction; done))
          · skip
            have g25 := i_ne h22
            have hV26 : zV (ma_u m 94 0 (0 : Int32)) := uf_94_0 hV
            refine sp_222 (nn) hV26 r_W (show zG1 (m 94 56) (m 94 57) (m 106) from by first | (exact G1_0 (by omega) (by omega)) | (exact r_GG (by omega)) | (exfalso; omega; done) | (exfalso; contradiction; done)) (fun v2 m1 hV_m1 p0_m1 p1_m1 p2_m1 => zmi_n ?_)
            have p0_m1 : zG1 (m1 94 56) (m1 94 57) (m1 106) := p0_m1
            have p1_m1 : (m 94 56).toInt ≤ (m1 94 56).toInt := p1_m1
            have p2_m1 : (m 94 57).toInt ≤ (m1 94 57).toInt ∧ ((m1 94 56).toInt ≤ (m1 94 57).toInt ∨ (m 94 57).toInt + nn.toInt ≤ (m1 94 57).toInt) := p2_m1
            have f27 : 0 ≤ (m 94 56).toInt ∧ (m 94 56).toInt ≤ 3100 := rs_94_56 (m := m) hV
            have f28 : 0 ≤ (m1 94 56).toInt ∧ (m1 94 56).toInt ≤ 3100 := rs_94_56 (m := (zov wr_222 (ma_u m 94 0 (0 : Int32)) m1)) hV_m1
            have f29 : 0 ≤ (m 94 57).toInt ∧ (m 94 57).toInt ≤ 3100 := rs_94_57 (m := m) hV
            have f30 : 0 ≤ (m1 94 57).toInt ∧ (m1 94 57).toInt ≤ 3100 := rs_94_57 (m := (zov wr_222 (ma_u m 94 0 (0 : Int32)) m1)) hV_m1
            refine sp_223  hV_m1 r_W r_GW r_GU r_OW r_DX p0_m1 (show (m 94 10).toInt = 5 from by omega) (show (m 94 58).toInt = 1 from by omega) (fun v4 m3 hV_m3 p0_m3 p1_m3 p2_m3 p3_m3 p4_m3 p5_m3 => zmi_n ?_)
            have p0_m3 : zGW T (m3 94 55) (m3 109) := p0_m3
            have p1_m3 : zGU T (m 94 46) (m3 99) := p1_m3
            have p2_m3 : zOw (m3 99) (m 103) (m3 111) := p2_m3
            have p3_m3 : zDX (m 94 10) (m3 99) (m 112) (m3 113) (m3 114) (m3 94 55) (m 98) (m 101) (m 102) (m 108) := p3_m3
            have p4_m3 : zGG (m3 94 58) (m3 94 56) (m1 94 57) (m3 106) := p4_m3
            have p5_m3 : (m3 94 58).toInt = 0 ∨ ((m3 94 58).toInt = 1 ∧ (m1 94 57).toInt < (m3 94 56).toInt ∧ (m1 94 57).toInt = (m1 94 57).toInt) := p5_m3
            have f31 : 0 ≤ (m3 94 58).toInt ∧ (m3 94 58).toInt ≤ 1 := rs_94_58 (m := (zov wr_223 (zov wr_222 (ma_u m 94 0 (0 : Int32)) m1) m3)) hV_m3
            have f32 : 0 ≤ (m3 94 56).toInt ∧ (m3 94 56).toInt ≤ 3100 := rs_94_56 (m := (zov wr_223 (zov wr_222 (ma_u m 94 0 (0 : Int32)) m1) m3)) hV_m3
            have b33 := i_bd v2
            exact K (v2) _ (zF_zov (zF_zov (zF_u zF_rfl rfl) ws_222_257) ws_223_257) hV_m3 r_W p0_m3 p1_m3 p2_m3 p3_m3 p4_m3 (show zHA (m 94 10) (m 94 11) (m 94 13) (m 94 14) (m 94 16) (m 94 61) (m 94 59) (m 94 60) (m3 99) (m 102) (m 103) (m3 111) (m 117) (m 98) (m 101) (m 108) from by first | (exfalso; omega; done) | (exfalso; contradiction; done)) (show zRG (m 94 10) (m 94 18) (m 94 64) (m 94 63) (m3 99) (m 103) (m 102) (m 116) from by first | (exfalso; omega; done) | (exfalso; contradiction; done)) (show (m3 94 58).toInt = 0 ∨ (m 94 10).toInt = 5 from by omega) (show ((nn.toInt < 0 ∨ 1000 < nn.toInt) ∧ (0 : Int32).toInt = 1) ∨ ((0 ≤ nn.toInt ∧ nn.toInt ≤ 1000) ∧ (0 : Int32).toInt = 3) from by omega) (show (m 98) = (m 98) ∧ (m3 99) = (m 99) ∧ (m 100) = (m 100) ∧ (m 101) = (m 101) ∧ (m 102) = (m 102) ∧ (m 103) = (m 103) ∧ (m3 105) = (m 105) ∧ (m 107) = (m 107) ∧ (m 108) = (m 108) ∧ (m3 109) = (m 109) ∧ (m3 111) = (m 111) ∧ (m 112) = (m 112) ∧ (m3 113) = (m 113) ∧ (m3 114) = (m 114) ∧ (m3 94 55) = (m 94 55) ∧ (m 94 46) = (m 94 46) ∧ (m 94 11) = (m 94 11) ∧ (m 94 12) = (m 94 12) ∧ (m 94 62) = (m 94 62) ∧ (m 94 17) = (m 94 17) ∧ (m 94 9) = (m 94 9) ∧ (m3 94 58) = (m 94 58) ∧ (m3 94 45) = (m 94 45) from by first | (exact ⟨rfl, rfl, rfl, rfl, rfl, rfl, rfl, rfl, rfl, rfl, rfl, rfl, rfl, rfl, rfl, rfl, rfl, rfl, rfl, rfl, rfl, rfl, rfl⟩) | (exfalso; omega; done) | (exfalso; contradiction; done))
        · skip
          have g34 := i_ne h20
          have hV35 : zV (ma_u m 94 0 (3 : Int32)) := uf_94_0 hV
          have li36 : (3 : Int32).toInt = 3 := rfl
          exact K ((0 : Int32)) _ (zF_u zF_rfl rfl) hV35 r_W r_GW r_GU r_OW r_DX r_GG r_HA r_RGc (show (m 94 58).toInt = 0 ∨ (m 94 10).toInt = 5 from by omega) (show ((nn.toInt < 0 ∨ 1000 < nn.toInt) ∧ (3 : Int32).toInt = 1) ∨ ((0 ≤ nn.toInt ∧ nn.toInt ≤ 1000) ∧ (3 : Int32).toInt = 3) from by omega) (show (m 98) = (m 98) ∧ (m 99) = (m 99) ∧ (m 100) = (m 100) ∧ (m 101) = (m 101) ∧ (m 102) = (m 102) ∧ (m 103) = (m 103) ∧ (m 105) = (m 105) ∧ (m 107) = (m 107) ∧ (m 108) = (m 108) ∧ (m 109) = (m 109) ∧ (m 111) = (m 111) ∧ (m 112) = (m 112) ∧ (m 113) = (m 113) ∧ (m 114) = (m 114) ∧ (m 94 55) = (m 94 55) ∧ (m 94 46) = (m 94 46) ∧ (m 94 11) = (m 94 11) ∧ (m 94 12) = (m 94 12) ∧ (m 94 62) = (m 94 62) ∧ (m 94 17) = (m 94 17) ∧ (m 94 9) = (m 94 9) ∧ (m 94 58) = (m 94 58) ∧ (m 94 45) = (m 94 45) from by first | (exact ⟨rfl, rfl, rfl, rfl, rfl, rfl, rfl, rfl, rfl, rfl, rfl, rfl, rfl, rfl, rfl, rfl, rfl, rfl, rfl, rfl, rfl, rfl, rfl⟩) | (exfalso; omega; done) | (exfalso; contradiction; done))
    · skip
      have g37 := i_nle h12
      have hV38 : zV (ma_u m 94 0 (1 : Int32)) := uf_94_0 hV
      have li39 : (1 : Int32).toInt = 1 := rfl
      exact K ((0 : Int32)) _ (zF_u zF_rfl rfl) hV38 r_W r_GW r_GU r_OW r_DX r_GG r_HA r_RGc (show (m 94 58).toInt = 0 ∨ (m 94 10).toInt = 5 from by omega) (show ((nn.toInt < 0 ∨ 1000 < nn.toInt) ∧ (1 : Int32).toInt = 1) ∨ ((0 ≤ nn.toInt ∧ nn.toInt ≤ 1000) ∧ (1 : Int32).toInt = 3) from by omega) (show (m 98) = (m 98) ∧ (m 99) = (m 99) ∧ (m 100) = (m 100) ∧ (m 101) = (m 101) ∧ (m 102) = (m 102) ∧ (m 103) = (m 103) ∧ (m 105) = (m 105) ∧ (m 107) = (m 107) ∧ (m 108) = (m 108) ∧ (m 109) = (m 109) ∧ (m 111) = (m 111) ∧ (m 112) = (m 112) ∧ (m 113) = (m 113) ∧ (m 114) = (m 114) ∧ (m 94 55) = (m 94 55) ∧ (m 94 46) = (m 94 46) ∧ (m 94 11) = (m 94 11) ∧ (m 94 12) = (m 94 12) ∧ (m 94 62) = (m 94 62) ∧ (m 94 17) = (m 94 17) ∧ (m 94 9) = (m 94 9) ∧ (m 94 58) = (m 94 58) ∧ (m 94 45) = (m 94 45) from by first | (exact ⟨rfl, rfl, rfl, rfl, rfl, rfl, rfl, rfl, rfl, rfl, rfl, rfl, rfl, rfl, rfl, rfl, rfl, rfl, rfl, rfl, rfl, rfl, rfl⟩) | (exfalso; omega; done) | (exfalso; contradiction; done))

/-! from 95.o24 -/
/-! the reference under COUNTS (written by wip/tools/gen20s.py) -/
theorem sp_170uz {X : Nat × (Nat → Int32)} {P : Option ma_V → (Nat → Nat → Int32) → Prop} {T : Nat} {aa : Nat→Nat→Int32} {m : Nat → Nat → Int32} (nw : Int32) (rf : Int32) (hV : zV m) (hpre0 : T ≤ 512) (r_W : zW (m 94 7) (m 98) (m 101) (m 102) (m 108)) (r_GW : zGW T (m 94 55) (m 109)) (r_GU : zGU T (m 94 46) (m 99)) (r_OW : zOw (m 99) (m 103) (m 111)) (r_GG : zGG (m 94 58) (m 94 56) (m 94 57) (m 106)) (r_RB : qRB (m 99) (m 100) (m 98) (m 101) (m 102) (m 103) (m 107) (m 108) (m 109) (m 111) (m 112) (m 113) (m 114) (m 94 55) (m 94 46) (m 94 11) (m 94 12) (m 94 62) (m 94 17) (m 94 9) aa) (r_QI : qI aa) (r_MK : aa 87 8 = (m 94 58)) (r_WTS : (m 94 45).toInt = sm (zbU (m 99)) (m 102) 3100) (KZ : ∀ v m₉, zV (zov wr_170 m m₉) → (zW (m₉ 94 7) (m₉ 98) (m 101) (m 102) (m 108)) → (zGW T (m 94 55) (m 109)) → (zGU T (m 94 46) (m 99)) → (zOw (m 99) (m 103) (m 111)) → (zGG (m 94 58) (m 94 56) (m 94 57) (m 106)) → (qRB (m 99) (m 100) (m₉ 98) (m 101) (m 102) (m 103) (m 107) (m 108) (m 109) (m 111) (m 112) (m 113) (m 114) (m 94 55) (m 94 46) (m 94 11) (m 94 12) (m 94 62) (m 94 17) (m 94 9) aa) → (qI aa) → (aa 87 8 = (m 94 58)) → ((m 94 45).toInt = sm (zbU (m 99)) (m 102) 3100) → (((nw.toInt < 0 ∨ 8 < nw.toInt ∨ rf.toInt < 0 ∨ ((1 : Int32) <<< (nw &&& 31)).toInt ≤ rf.toInt) ∧ (m₉ 94 0).toInt = 1 ∧ (m₉ 94 7).toInt = (m 94 7).toInt) ∨ (¬ (nw.toInt < 0 ∨ 8 < nw.toInt ∨ rf.toInt < 0 ∨ ((1 : Int32) <<< (nw &&& 31)).toInt ≤ rf.toInt) ∧ (m 94 7).toInt = 16 ∧ (m₉ 94 0).toInt = 2 ∧ (m₉ 94 7).toInt = (m 94 7).toInt) ∨ (¬ (nw.toInt < 0 ∨ 8 < nw.toInt ∨ rf.toInt < 0 ∨ ((1 : Int32) <<< (nw &&& 31)).toInt ≤ rf.toInt) ∧ (m 94 7).toInt < 16 ∧ (m₉ 94 0).toInt = 0 ∧ (m₉ 94 7).toInt = (m 94 7).toInt + 1 ∧ v.toInt = (m 94 7).toInt)) → (((m₉ 94 7).toInt = (m 94 7).toInt ∧ (m₉ 97) = (m 97) ∧ (m₉ 98) = (m 98)) ∨ ((m₉ 94 7).toInt = (m 94 7).toInt + 1 ∧ (m₉ 97) = zUp (m 97) (m 94 7).toNatClampNeg nw ∧ (m₉ 98) = zUp (m 98) (m 94 7).toNatClampNeg rf)) → P (some (.inl v)) (zov wr_170 m m₉)) : zm X 1 21 170 0 [(0, .inr (.inr (some 94))), (1, .inl nw), (2, .inl rf)] m P := by
  have K : ∀ v m₉, zF wr_170 m m₉ → zV m₉ → (zW (m₉ 94 7) (m₉ 98) (m₉ 101) (m₉ 102) (m₉ 108)) → (zGW T (m₉ 94 55) (m₉ 109)) → (zGU T (m₉ 94 46) (m₉ 99)) → (zOw (m₉ 99) (m₉ 103) (m₉ 111)) → (zGG (m₉ 94 58) (m₉ 94 56) (m₉ 94 57) (m₉ 106)) → (qRB (m₉ 99) (m₉ 100) (m₉ 98) (m₉ 101) (m₉ 102) (m₉ 103) (m₉ 107) (m₉ 108) (m₉ 109) (m₉ 111) (m₉ 112) (m₉ 113) (m₉ 114) (m₉ 94 55) (m₉ 94 46) (m₉ 94 11) (m₉ 94 12) (m₉ 94 62) (m₉ 94 17) (m₉ 94 9) aa) → (qI aa) → (aa 87 8 = (m₉ 94 58)) → ((m₉ 94 45).toInt = sm (zbU (m₉ 99)) (m₉ 102) 3100) → (((nw.toInt < 0 ∨ 8 < nw.toInt ∨ rf.toInt < 0 ∨ ((1 : Int32) <<< (nw &&& 31)).toInt ≤ rf.toInt) ∧ (m₉ 94 0).toInt = 1 ∧ (m₉ 94 7).toInt = (m 94 7).toInt) ∨ (¬ (nw.toInt < 0 ∨ 8 < nw.toInt ∨ rf.toInt < 0 ∨ ((1 : Int32) <<< (nw &&& 31)).toInt ≤ rf.toInt) ∧ (m 94 7).toInt = 16 ∧ (m₉ 94 0).toInt = 2 ∧ (m₉ 94 7).toInt = (m 94 7).toInt) ∨ (¬ (nw.toInt < 0 ∨ 8 < nw.toInt ∨ rf.toInt < 0 ∨ ((1 : Int32) <<< (nw &&& 31)).toInt ≤ rf.toInt) ∧ (m 94 7).toInt < 16 ∧ (m₉ 94 0).toInt = 0 ∧ (m₉ 94 7).toInt = (m 94 7).toInt + 1 ∧ v.toInt = (m 94 7).toInt)) → (((m₉ 94 7).toInt = (m 94 7).toInt ∧ (m₉ 97) = (m 97) ∧ (m₉ 98) = (m 98)) ∨ ((m₉ 94 7).toInt = (m 94 7).toInt + 1 ∧ (m₉ 97) = zUp (m 97) (m 94 7).toNatClampNeg nw ∧ (m₉ 98) = zUp (m 98) (m 94 7).toNatClampNeg rf)) → P (some (.inl v)) m₉ := by
    intro v m₉ hf z q0 q1 q2 q3 q4 q5 q6 q7 q8 q9 q10
    have e := zov_eq hf
    rw [e] at z ⊢
    try rw [e] at q0
    try rw [e] at q1
    try rw [e] at q2
    try rw [e] at q3
    try rw [e] at q4
    try rw [e] at q5
    try rw [e] at q6
    try rw [e] at q7
    try rw [e] at q8
    try rw [e] at q9
    try rw [e] at q10
    exact KZ v m₉ z q0 q1 q2 q3 q4 q5 q6 q7 q8 q9 q10
  refine g_170_0 nw rf ?_
  have b1 := i_bd nw
  have li2 : (0 : Int32).toInt = 0 := rfl
  refine zd (fun (h3 : nw < (0 : Int32)) => ?_) (fun (h3 : ¬ nw < (0 : Int32)) => ?_)
  · skip
    have g4 := i_lt h3
    have hV5 : zV (ma_u m 94 0 (1 : Int32)) := uf_94_0 hV
    have li6 : (1 : Int32).toInt = 1 := rfl
    have f7 : 0 ≤ (m 94 7).toInt ∧ (m 94 7).toInt ≤ 16 := rs_94_7 (m := m) hV
    exact K ((0 : Int32)) _ (zF_u zF_rfl rfl) hV5 r_W r_GW r_GU r_OW r_GG r_RB r_QI r_MK r_WTS (show ((nw.toInt < 0 ∨ 8 < nw.toInt ∨ rf.toInt < 0 ∨ ((1 : Int32) <<< (nw &&& 31)).toInt ≤ rf.toInt) ∧ (1 : Int32).toInt = 1 ∧ (m 94 7).toInt = (m 94 7).toInt) ∨ (¬ (nw.toInt < 0 ∨ 8 < nw.toInt ∨ rf.toInt < 0 ∨ ((1 : Int32) <<< (nw &&& 31)).toInt ≤ rf.toInt) ∧ (m 94 7).toInt = 16 ∧ (1 : Int32).toInt = 2 ∧ (m 94 7).toInt = (m 94 7).toInt) ∨ (¬ (nw.toInt < 0 ∨ 8 < nw.toInt ∨ rf.toInt < 0 ∨ ((1 : Int32) <<< (nw &&& 31)).toInt ≤ rf.toInt) ∧ (m 94 7).toInt < 16 ∧ (1 : Int32).toInt = 0 ∧ (m 94 7).toInt = (m 94 7).toInt + 1 ∧ (0 : Int32).toInt = (m 94 7).toInt) from by omega) (show ((m 94 7).toInt = (m 94 7).toInt ∧ (m 97) = (m 97) ∧ (m 98) = (m 98)) ∨ ((m 94 7).toInt = (m 94 7).toInt + 1 ∧ (m 97) = zUp (m 97) (m 94 7).toNatClampNeg nw ∧ (m 98) = zUp (m 98) (m 94 7).toNatClampNeg rf) from by first | (exact Or.inl ⟨rfl, rfl, rfl⟩) | (exfalso; omega; done) | (exfalso; contradiction; done))
  · skip
    have g8 := i_nlt h3
    have li9 : (8 : Int32).toInt = 8 := rfl
    refine zd (fun (h10 : nw ≤ (8 : Int32)) => ?_) (fun (h10 : ¬ nw ≤ (8 : Int32)) => ?_)
    · skip
      have g11 := i_le h10
      have b12 := i_bd rf
      refine zd (fun (h13 : rf < (0 : Int32)) => ?_) (fun (h13 : ¬ rf < (0 : Int32)) => ?_)
      · skip
        have g14 := i_lt h13
        have hV15 : zV (ma_u m 94 0 (1 : Int32)) := uf_94_0 hV
        have li16 : (1 : Int32).toInt = 1 := rfl
        have f17 : 0 ≤ (m 94 7).toInt ∧ (m 94 7).toInt ≤ 16 := rs_94_7 (m := m) hV
        exact K ((0 : Int32)) _ (zF_u zF_rfl rfl) hV15 r_W r_GW r_GU r_OW r_GG r_RB r_QI r_MK r_WTS (show ((nw.toInt < 0 ∨ 8 < nw.toInt ∨ rf.toInt < 0 ∨ ((1 : Int32) <<< (nw &&& 31)).toInt ≤ rf.toInt) ∧ (1 : Int32).toInt = 1 ∧ (m 94 7).toInt = (m 94 7).toInt) ∨ (¬ (nw.toInt < 0 ∨ 8 < nw.toInt ∨ rf.toInt < 0 ∨ ((1 : Int32) <<< (nw &&& 31)).toInt ≤ rf.toInt) ∧ (m 94 7).toInt = 16 ∧ (1 : Int32).toInt = 2 ∧ (m 94 7).toInt = (m 94 7).toInt) ∨ (¬ (nw.toInt < 0 ∨ 8 < nw.toInt ∨ rf.toInt < 0 ∨ ((1 : Int32) <<< (nw &&& 31)).toInt ≤ rf.toInt) ∧ (m 94 7).toInt < 16 ∧ (1 : Int32).toInt = 0 ∧ (m 94 7).toInt = (m 94 7).toInt + 1 ∧ (0 : Int32).toInt = (m 94 7).toInt) from by omega) (show ((m 94 7).toInt = (m 94 7).toInt ∧ (m 97) = (m 97) ∧ (m 98) = (m 98)) ∨ ((m 94 7).toInt = (m 94 7).toInt + 1 ∧ (m 97) = zUp (m 97) (m 94 7).toNatClampNeg nw ∧ (m 98) = zUp (m 98) (m 94 7).toNatClampNeg rf) from by first | (exact Or.inl ⟨rfl, rfl, rfl⟩) | (exfalso; omega; done) | (exfalso; contradiction; done))
      · skip
        have g18 := i_nlt h13
        have b19 := i_bd ((1 : Int32) <<< (nw &&& 31))
        refine zd (fun (h20 : rf < ((1 : Int32) <<< (nw &&& 31))) => ?_) (fun (h20 : ¬ rf < ((1 : Int32) <<< (nw &&& 31))) => ?_)
        · skip
          have g21 := i_lt h20
          have f22 : 0 ≤ (m 94 7).toInt ∧ (m 94 7).toInt ≤ 16 := rs_94_7 (m := m) hV
          have li23 : (16 : Int32).toInt = 16 := rfl
          refine zd (fun (h24 : (m 94 7) = (16 : Int32)) => ?_) (fun (h24 : ¬ (m 94 7) = (16 : Int32)) => ?_)
          · skip
            have g25 := i_eq h24
            have hV26 : zV (ma_u m 94 0 (2 : Int32)) := uf_94_0 hV
            have li27 : (2 : Int32).toInt = 2 := rfl
            exact K ((0 : Int32)) _ (zF_u zF_rfl rfl) hV26 r_W r_GW r_GU r_OW r_GG r_RB r_QI r_MK r_WTS (show ((nw.toInt < 0 ∨ 8 < nw.toInt ∨ rf.toInt < 0 ∨ ((1 : Int32) <<< (nw &&& 31)).toInt ≤ rf.toInt) ∧ (2 : Int32).toInt = 1 ∧ (m 94 7).toInt = (m 94 7).toInt) ∨ (¬ (nw.toInt < 0 ∨ 8 < nw.toInt ∨ rf.toInt < 0 ∨ ((1 : Int32) <<< (nw &&& 31)).toInt ≤ rf.toInt) ∧ (m 94 7).toInt = 16 ∧ (2 : Int32).toInt = 2 ∧ (m 94 7).toInt = (m 94 7).toInt) ∨ (¬ (nw.toInt < 0 ∨ 8 < nw.toInt ∨ rf.toInt < 0 ∨ ((1 : Int32) <<< (nw &&& 31)).toInt ≤ rf.toInt) ∧ (m 94 7).toInt < 16 ∧ (2 : Int32).toInt = 0 ∧ (m 94 7).toInt = (m 94 7).toInt + 1 ∧ (0 : Int32).toInt = (m 94 7).toInt) from by omega) (show ((m 94 7).toInt = (m 94 7).toInt ∧ (m 97) = (m 97) ∧ (m 98) = (m 98)) ∨ ((m 94 7).toInt = (m 94 7).toInt + 1 ∧ (m 97) = zUp (m 97) (m 94 7).toNatClampNeg nw ∧ (m 98) = zUp (m 98) (m 94 7).toNatClampNeg rf) from by first | (exact Or.inl ⟨rfl, rfl, rfl⟩) | (exfalso; omega; done) | (exfalso; contradiction; done))
          · skip
            have g28 := i_ne h24
            have hg29 : (0 ≤ (m 94 7) ∧ (m 94 7).toNatClampNeg < 16) := i_ix (by omega) (by omega)
            refine ⟨hg29, ?_⟩
            try have sh := i_shl8 (n := nw) (by omega) (by omega)
            have hg30 : (0 ≤ (m 94 7) ∧ (m 94 7).toNatClampNeg < 16) := i_ix (by omega) (by omega)
            refine ⟨hg30, ?_⟩
            have hV31 : zV (ma_u m 94 0 (0 : Int32)) := uf_94_0 hV
            have hV32 : zV (ma_u (ma_u m 94 0 (0 : Int32)) 97 (m 94 7).toNatClampNeg nw) := ua_97 hV31 (by omega) (by omega)
            have hV33 : zV (ma_u (ma_u (ma_u m 94 0 (0 : Int32)) 97 (m 94 7).toNatClampNeg nw) 98 (m 94 7).toNatClampNeg rf) := ua_98 hV32 (by omega) (by omega)
            first | have e35 : ((m 94 7) + (1 : Int32)).toInt = (m 94 7).toInt + (1) := i_addk rfl (by omega) (by omega) | have b36 := i_bd ((m 94 7) + (1 : Int32))
            have hV34 : zV (ma_u (ma_u (ma_u (ma_u m 94 0 (0 : Int32)) 97 (m 94 7).toNatClampNeg nw) 98 (m 94 7).toNatClampNeg rf) 94 7 ((m 94 7) + (1 : Int32))) := us_94_7 hV33 (by omega) (by omega)
            first | have e37 : (((m 94 7) + (1 : Int32)) - (1 : Int32)).toInt = ((m 94 7) + (1 : Int32)).toInt - (1) := i_subk rfl (by omega) (by omega) | have b38 := i_bd (((m 94 7) + (1 : Int32)) - (1 : Int32))
            exact K ((((m 94 7) + (1 : Int32)) - (1 : Int32))) _ (zF_u (zF_u (zF_u (zF_u zF_rfl rfl) rfl) rfl) rfl) hV34 (show zW ((m 94 7) + (1 : Int32)) ((ma_u m 98 (m 94 7).toNatClampNeg rf) 98) (m 101) (m 102) (m 108) from by first | (exact W_same r_W (by omega) (zrf_kind r_W (tn_cast (by omega)) (fun t ht => (ra_101 hV ht).1))) | (exfalso; omega; done) | (exfalso; contradiction; done)) r_GW r_GU r_OW r_GG (show qRB (m 99) (m 100) ((ma_u m 98 (m 94 7).toNatClampNeg rf) 98) (m 101) (m 102) (m 103) (m 107) (m 108) (m 109) (m 111) (m 112) (m 113) (m 114) (m 94 55) (m 94 46) (m 94 11) (m 94 12) (m 94 62) (m 94 17) (m 94 9) aa from by first | (exact RB_kd r_RB r_W (tn_cast (by omega)) (fun t ht => (ra_101 hV ht).1)) | (exfalso; omega; done) | (exfalso; contradiction; done)) r_QI r_MK r_WTS (show ((nw.toInt < 0 ∨ 8 < nw.toInt ∨ rf.toInt < 0 ∨ ((1 : Int32) <<< (nw &&& 31)).toInt ≤ rf.toInt) ∧ (0 : Int32).toInt = 1 ∧ ((m 94 7) + (1 : Int32)).toInt = (m 94 7).toInt) ∨ (¬ (nw.toInt < 0 ∨ 8 < nw.toInt ∨ rf.toInt < 0 ∨ ((1 : Int32) <<< (nw &&& 31)).toInt ≤ rf.toInt) ∧ (m 94 7).toInt = 16 ∧ (0 : Int32).toInt = 2 ∧ ((m 94 7) + (1 : Int32)).toInt = (m 94 7).toInt) ∨ (¬ (nw.toInt < 0 ∨ 8 < nw.toInt ∨ rf.toInt < 0 ∨ ((1 : Int32) <<< (nw &&& 31)).toInt ≤ rf.toInt) ∧ (m 94 7).toInt < 16 ∧ (0 : Int32).toInt = 0 ∧ ((m 94 7) + (1 : Int32)).toInt = (m 94 7).toInt + 1 ∧ (((m 94 7) + (1 : Int32)) - (1 : Int32)).toInt = (m 94 7).toInt) from by omega) (show (((m 94 7) + (1 : Int32)).toInt = (m 94 7).toInt ∧ ((ma_u m 97 (m 94 7).toNatClampNeg nw) 97) = (m 97) ∧ ((ma_u m 98 (m 94 7).toNatClampNeg rf) 98) = (m 98)) ∨ (((m 94 7) + (1 : Int32)).toInt = (m 94 7).toInt + 1 ∧ ((ma_u m 97 (m 94 7).toNatClampNeg nw) 97) = zUp (m 97) (m 94 7).toNatClampNeg nw ∧ ((ma_u m 98 (m 94 7).toNatClampNeg rf) 98) = zUp (m 98) (m 94 7).toNatClampNeg rf) from by first | (exact Or.inr ⟨by omega, mu_up, mu_up⟩) | (exfalso; omega; done) | (exfalso; contradiction; done))
        · skip
          have g39 := i_nlt h20
          have hV40 : zV (ma_u m 94 0 (1 : Int32)) := uf_94_0 hV
          have li41 : (1 : Int32).toInt = 1 := rfl
          have f42 : 0 ≤ (m 94 7).toInt ∧ (m 94 7).toInt ≤ 16 := rs_94_7 (m := m) hV
          exact K ((0 : Int32)) _ (zF_u zF_rfl rfl) hV40 r_W r_GW r_GU r_OW r_GG r_RB r_QI r_MK r_WTS (show ((nw.toInt < 0 ∨ 8 < nw.toInt ∨ rf.toInt < 0 ∨ ((1 : Int32) <<< (nw &&& 31)).toInt ≤ rf.toInt) ∧ (1 : Int32).toInt = 1 ∧ (m 94 7).toInt = (m 94 7).toInt) ∨ (¬ (nw.toInt < 0 ∨ 8 < nw.toInt ∨ rf.toInt < 0 ∨ ((1 : Int32) <<< (nw &&& 31)).toInt ≤ rf.toInt) ∧ (m 94 7).toInt = 16 ∧ (1 : Int32).toInt = 2 ∧ (m 94 7).toInt = (m 94 7).toInt) ∨ (¬ (nw.toInt < 0 ∨ 8 < nw.toInt ∨ rf.toInt < 0 ∨ ((1 : Int32) <<< (nw &&& 31)).toInt ≤ rf.toInt) ∧ (m 94 7).toInt < 16 ∧ (1 : Int32).toInt = 0 ∧ (m 94 7).toInt = (m 94 7).toInt + 1 ∧ (0 : Int32).toInt = (m 94 7).toInt) from by omega) (show ((m 94 7).toInt = (m 94 7).toInt ∧ (m 97) = (m 97) ∧ (m 98) = (m 98)) ∨ ((m 94 7).toInt = (m 94 7).toInt + 1 ∧ (m 97) = zUp (m 97) (m 94 7).toNatClampNeg nw ∧ (m 98) = zUp (m 98) (m 94 7).toNatClampNeg rf) from by first | (exact Or.inl ⟨rfl, rfl, rfl⟩) | (exfalso; omega; done) | (exfalso; contradiction; done))
    · skip
      have g43 := i_nle h10
      have hV44 : zV (ma_u m 94 0 (1 : Int32)) := uf_94_0 hV
      have li45 : (1 : Int32).toInt = 1 := rfl
      have f46 : 0 ≤ (m 94 7).toInt ∧ (m 94 7).toInt ≤ 16 := rs_94_7 (m := m) hV
      exact K ((0 : Int32)) _ (zF_u zF_rfl rfl) hV44 r_W r_GW r_GU r_OW r_GG r_RB r_QI r_MK r_WTS (show ((nw.toInt < 0 ∨ 8 < nw.toInt ∨ rf.toInt < 0 ∨ ((1 : Int32) <<< (nw &&& 31)).toInt ≤ rf.toInt) ∧ (1 : Int32).toInt = 1 ∧ (m 94 7).toInt = (m 94 7).toInt) ∨ (¬ (nw.toInt < 0 ∨ 8 < nw.toInt ∨ rf.toInt < 0 ∨ ((1 : Int32) <<< (nw &&& 31)).toInt ≤ rf.toInt) ∧ (m 94 7).toInt = 16 ∧ (1 : Int32).toInt = 2 ∧ (m 94 7).toInt = (m 94 7).toInt) ∨ (¬ (nw.toInt < 0 ∨ 8 < nw.toInt ∨ rf.toInt < 0 ∨ ((1 : Int32) <<< (nw &&& 31)).toInt ≤ rf.toInt) ∧ (m 94 7).toInt < 16 ∧ (1 : Int32).toInt = 0 ∧ (m 94 7).toInt = (m 94 7).toInt + 1 ∧ (0 : Int32).toInt = (m 94 7).toInt) from by omega) (show ((m 94 7).toInt = (m 94 7).toInt ∧ (m 97) = (m 97) ∧ (m 98) = (m 98)) ∨ ((m 94 7).toInt = (m 94 7).toInt + 1 ∧ (m 97) = zUp (m 97) (m 94 7).toNatClampNeg nw ∧ (m 98) = zUp (m 98) (m 94 7).toNatClampNeg rf) from by first | (exact Or.inl ⟨rfl, rfl, rfl⟩) | (exfalso; omega; done) | (exfalso; contradiction; done))

