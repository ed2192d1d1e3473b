/-! the reference before the first heap -/
theorem sp_258z {X : Nat × (Nat → Int32)} {P : Option ma_V → (Nat → Nat → Int32) → Prop} {T : Nat} {m : Nat → Nat → Int32} (ob : Int32) (wh : Int32) (hV : zV m) (hpre0 : (m 94 8).toInt = 0) (r_W : zW (m 94 7) (m 98) (m 101) (m 102) (m 108)) (r_GW : zGW T (m 94 55) (m 109)) (KZ : ∀ v m', zV (zov wr_258 m m') → ((m 94 8).toInt = 0) → (zW (m 94 7) (m 98) (m 101) (m 102) (m 108)) → (zGW T (m 94 55) (m 109)) → P (some (.inl v)) (zov wr_258 m m')) : zm X 5 109 258 0 [(0, .inr (.inr (some 94))), (1, .inl ob), (2, .inl wh)] m P := by
  have K : ∀ v m', zF wr_258 m m' → zV m' → ((m' 94 8).toInt = 0) → (zW (m' 94 7) (m' 98) (m' 101) (m' 102) (m' 108)) → (zGW T (m' 94 55) (m' 109)) → P (some (.inl v)) m' := by
    intro v m' hf z q0 q1 q2
    have e := zov_eq hf
    rw [e] at z ⊢
    try rw [e] at q0
    try rw [e] at q1
    try rw [e] at q2
    exact KZ v m' z q0 q1 q2
  refine g_258_0 ob wh ?_
  have f1 : 0 ≤ (m 94 8).toInt ∧ (m 94 8).toInt ≤ 1 := rs_94_8 (m := m) hV
  have b2 := i_bd wh
  have li3 : (0 : Int32).toInt = 0 := rfl
  refine zd (fun (h4 : wh < (0 : Int32)) => ?_) (fun (h4 : ¬ wh < (0 : Int32)) => ?_)
  · skip
    have g5 := i_lt h4
    have hV6 : zV (ma_u m 94 0 (1 : Int32)) := uf_94_0 hV
    exact K ((0 : Int32)) _ (zF_u zF_rfl rfl) hV6 (show (m 94 8).toInt = 0 from by omega) r_W r_GW
  · skip
    have g7 := i_nlt h4
    have li8 : (7 : Int32).toInt = 7 := rfl
    refine zd (fun (h9 : wh ≤ (7 : Int32)) => ?_) (fun (h9 : ¬ wh ≤ (7 : Int32)) => ?_)
    · skip
      have g10 := i_le h9
      refine zd (fun (h11 : (m 94 8) = (0 : Int32)) => ?_) (fun (h11 : ¬ (m 94 8) = (0 : Int32)) => ?_)
      · skip
        have g12 := i_eq h11
        have hV13 : zV (ma_u m 94 0 (2 : Int32)) := uf_94_0 hV
        exact K ((0 : Int32)) _ (zF_u zF_rfl rfl) hV13 (show (m 94 8).toInt = 0 from by omega) r_W r_GW
      · skip
        have g14 := i_ne h11
        have b15 := i_bd ob
        have hV16 : zV (ma_u m 94 0 (0 : Int32)) := uf_94_0 hV
        refine sp_245 (ob) hV16 r_W (show zDX (m 94 10) (m 99) (m 112) (m 113) (m 114) (m 94 55) (m 98) (m 101) (m 102) (m 108) from by first | (exfalso; omega; done) | (exfalso; contradiction; done)) (fun v2 m1 hV_m1 p0_m1 p1_m1 => zmi_n ?_)
        have p0_m1 : -1 ≤ v2.toInt ∧ v2.toInt ≤ 3099 := p0_m1
        have p1_m1 : v2.toInt < 0 ∨ (m 99) v2.toNatClampNeg ≠ 0 := p1_m1
        have b17 := i_bd v2
        refine zd (fun (h18 : (0 : Int32) ≤ v2) => ?_) (fun (h18 : ¬ (0 : Int32) ≤ v2) => ?_)
        · skip
          have g19 := i_le h18
          refine zd (fun (h20 : wh = (0 : Int32)) => ?_) (fun (h20 : ¬ wh = (0 : Int32)) => ?_)
          · skip
            have g21 := i_eq h20
            have hg22 : (0 ≤ v2 ∧ v2.toNatClampNeg < 3100) := i_ix (by omega) (by omega)
            refine ⟨hg22, ?_⟩
            have hV23 : zV (ma_u (zov wr_245 (ma_u m 94 0 (0 : Int32)) m1) 94 0 (0 : Int32)) := uf_94_0 hV_m1
            first | have f24 : 0 ≤ (m 103 v2.toNatClampNeg).toInt ∧ (m 103 v2.toNatClampNeg).toInt ≤ 4599 := ra_103 (m := m) hV (k := v2.toNatClampNeg) (i_ix (n := 3100) (by omega) (by omega)).2 | have b25 := i_bd (m 103 v2.toNatClampNeg)
            exact K ((m 103 v2.toNatClampNeg)) _ (zF_u (zF_zov (zF_u zF_rfl rfl) ws_245_258) rfl) hV23 (show (m 94 8).toInt = 0 from by omega) r_W r_GW
          · skip
            have g26 := i_ne h20
            have li27 : (1 : Int32).toInt = 1 := rfl
            refine zd (fun (h28 : wh = (1 : Int32)) => ?_) (fun (h28 : ¬ wh = (1 : Int32)) => ?_)
            · skip
              have g29 := i_eq h28
              have hg30 : (0 ≤ v2 ∧ v2.toNatClampNeg < 3100) := i_ix (by omega) (by omega)
              refine ⟨hg30, ?_⟩
              have hV31 : zV (ma_u (zov wr_245 (ma_u m 94 0 (0 : Int32)) m1) 94 0 (0 : Int32)) := uf_94_0 hV_m1
              first | have f32 : 0 ≤ (m 102 v2.toNatClampNeg).toInt ∧ (m 102 v2.toNatClampNeg).toInt ≤ 60 := ra_102 (m := m) hV (k := v2.toNatClampNeg) (i_ix (n := 3100) (by omega) (by omega)).2 | have b33 := i_bd (m 102 v2.toNatClampNeg)
              first | have e34 : ((m 102 v2.toNatClampNeg) + (1 : Int32)).toInt = (m 102 v2.toNatClampNeg).toInt + (1) := i_addk rfl (by omega) (by omega) | have b35 := i_bd ((m 102 v2.toNatClampNeg) + (1 : Int32))
              exact K (((m 102 v2.toNatClampNeg) + (1 : Int32))) _ (zF_u (zF_zov (zF_u zF_rfl rfl) ws_245_258) rfl) hV31 (show (m 94 8).toInt = 0 from by omega) r_W r_GW
            · skip
              have g36 := i_ne h28
              have li37 : (2 : Int32).toInt = 2 := rfl
              refine zd (fun (h38 : wh = (2 : Int32)) => ?_) (fun (h38 : ¬ wh = (2 : Int32)) => ?_)
              · skip
                have g39 := i_eq h38
                have hg40 : (0 ≤ v2 ∧ v2.toNatClampNeg < 3100) := i_ix (by omega) (by omega)
                refine ⟨hg40, ?_⟩
                have hV41 : zV (ma_u (zov wr_245 (ma_u m 94 0 (0 : Int32)) m1) 94 0 (0 : Int32)) := uf_94_0 hV_m1
                first | have f42 : 0 ≤ (m 101 v2.toNatClampNeg).toInt ∧ (m 101 v2.toNatClampNeg).toInt ≤ 17 := ra_101 (m := m) hV (k := v2.toNatClampNeg) (i_ix (n := 3100) (by omega) (by omega)).2 | have b43 := i_bd (m 101 v2.toNatClampNeg)
                exact K ((m 101 v2.toNatClampNeg)) _ (zF_u (zF_zov (zF_u zF_rfl rfl) ws_245_258) rfl) hV41 (show (m 94 8).toInt = 0 from by omega) r_W r_GW
              · skip
                have g44 := i_ne h38
                have li45 : (3 : Int32).toInt = 3 := rfl
                refine zd (fun (h46 : wh = (3 : Int32)) => ?_) (fun (h46 : ¬ wh = (3 : Int32)) => ?_)
                · skip
                  have g47 := i_eq h46
                  have f48 : 0 ≤ (m 94 10).toInt ∧ (m 94 10).toInt ≤ 6 := rs_94_10 (m := m) hV
                  refine zd (fun (h49 : (m 94 10) = (3 : Int32)) => ?_) (fun (h49 : ¬ (m 94 10) = (3 : Int32)) => ?_)
                  · skip
                    have g50 := i_eq h49
                    have hg51 : (0 ≤ v2 ∧ v2.toNatClampNeg < 3100) := i_ix (by omega) (by omega)
                    refine ⟨hg51, ?_⟩
                    have hV52 : zV (ma_u (zov wr_245 (ma_u m 94 0 (0 : Int32)) m1) 94 0 (0 : Int32)) := uf_94_0 hV_m1
                    have b53 := i_bd (m 104 v2.toNatClampNeg)
                    exact K ((m 104 v2.toNatClampNeg)) _ (zF_u (zF_zov (zF_u zF_rfl rfl) ws_245_258) rfl) hV52 (show (m 94 8).toInt = 0 from by omega) r_W r_GW
                  · skip
                    have g54 := i_ne h49
                    have hV55 : zV (ma_u (zov wr_245 (ma_u m 94 0 (0 : Int32)) m1) 94 0 (0 : Int32)) := uf_94_0 hV_m1
                    exact K ((0 : Int32)) _ (zF_u (zF_zov (zF_u zF_rfl rfl) ws_245_258) rfl) hV55 (show (m 94 8).toInt = 0 from by omega) r_W r_GW
                · skip
                  have g56 := i_ne h46
                  have li57 : (4 : Int32).toInt = 4 := rfl
                  refine zd (fun (h58 : wh = (4 : Int32)) => ?_) (fun (h58 : ¬ wh = (4 : Int32)) => ?_)
                  · skip
                    have g59 := i_eq h58
                    have f60 : 0 ≤ (m 94 10).toInt ∧ (m 94 10).toInt ≤ 6 := rs_94_10 (m := m) hV
                    refine zd (fun (h61 : (m 94 10) = (4 : Int32)) => ?_) (fun (h61 : ¬ (m 94 10) = (4 : Int32)) => ?_)
                    · skip
                      have g62 := i_eq h61
                      have hg63 : (0 ≤ v2 ∧ v2.toNatClampNeg < 3100) := i_ix (by omega) (by omega)
                      refine ⟨hg63, ?_⟩
                      have hV64 : zV (ma_u (zov wr_245 (ma_u m 94 0 (0 : Int32)) m1) 94 0 (0 : Int32)) := uf_94_0 hV_m1
                      have b65 := i_bd (m 105 v2.toNatClampNeg)
                      exact K ((m 105 v2.toNatClampNeg)) _ (zF_u (zF_zov (zF_u zF_rfl rfl) ws_245_258) rfl) hV64 (show (m 94 8).toInt = 0 from by omega) r_W r_GW
                    · skip
                      have g66 := i_ne h61
                      have hV67 : zV (ma_u (zov wr_245 (ma_u m 94 0 (0 : Int32)) m1) 94 0 (0 : Int32)) := uf_94_0 hV_m1
                      exact K ((0 : Int32)) _ (zF_u (zF_zov (zF_u zF_rfl rfl) ws_245_258) rfl) hV67 (show (m 94 8).toInt = 0 from by omega) r_W r_GW
                  · skip
                    have g68 := i_ne h58
                    have li69 : (5 : Int32).toInt = 5 := rfl
                    refine zd (fun (h70 : wh = (5 : Int32)) => ?_) (fun (h70 : ¬ wh = (5 : Int32)) => ?_)
                    · skip
                      have g71 := i_eq h70
                      have f72 : 0 ≤ (m 94 58).toInt ∧ (m 94 58).toInt ≤ 1 := rs_94_58 (m := m) hV
                      refine zd (fun (h73 : (m 94 58) = (0 : Int32)) => ?_) (fun (h73 : ¬ (m 94 58) = (0 : Int32)) => ?_)
                      · skip
                        have g74 := i_eq h73
                        have hV75 : zV (ma_u (zov wr_245 (ma_u m 94 0 (0 : Int32)) m1) 94 0 (0 : Int32)) := uf_94_0 hV_m1
                        exact K ((0 : Int32)) _ (zF_u (zF_zov (zF_u zF_rfl rfl) ws_245_258) rfl) hV75 (show (m 94 8).toInt = 0 from by omega) r_W r_GW
                      · skip
                        have g76 := i_ne h73
                        have hg77 : (0 ≤ v2 ∧ v2.toNatClampNeg < 3100) := i_ix (by omega) (by omega)
                        refine ⟨hg77, ?_⟩
                        have hV78 : zV (ma_u (zov wr_245 (ma_u m 94 0 (0 : Int32)) m1) 94 0 (0 : Int32)) := uf_94_0 hV_m1
                        have b79 := i_bd (m 106 v2.toNatClampNeg)
                        exact K ((m 106 v2.toNatClampNeg)) _ (zF_u (zF_zov (zF_u zF_rfl rfl) ws_245_258) rfl) hV78 (show (m 94 8).toInt = 0 from by omega) r_W r_GW
                    · skip
                      have g80 := i_ne h70
                      have li81 : (6 : Int32).toInt = 6 := rfl
                      refine zd (fun (h82 : wh = (6 : Int32)) => ?_) (fun (h82 : ¬ wh = (6 : Int32)) => ?_)
                      · skip
                        have g83 := i_eq h82
                        have hg84 : (0 ≤ v2 ∧ v2.toNatClampNeg < 3100) := i_ix (by omega) (by omega)
                        refine ⟨hg84, ?_⟩
                        have hV85 : zV (ma_u (zov wr_245 (ma_u m 94 0 (0 : Int32)) m1) 94 0 (0 : Int32)) := uf_94_0 hV_m1
                        have b86 := i_bd (m 107 v2.toNatClampNeg)
                        exact K ((m 107 v2.toNatClampNeg)) _ (zF_u (zF_zov (zF_u zF_rfl rfl) ws_245_258) rfl) hV85 (show (m 94 8).toInt = 0 from by omega) r_W r_GW
                      · skip
                        have g87 := i_ne h82
                        have hg88 : (0 ≤ v2 ∧ v2.toNatClampNeg < 3100) := i_ix (by omega) (by omega)
                        refine ⟨hg88, ?_⟩
                        first | have f89 : 0 ≤ (m 109 v2.toNatClampNeg).toInt ∧ (m 109 v2.toNatClampNeg).toInt ≤ 1 := ra_109 (m := m) hV (k := v2.toNatClampNeg) (i_ix (n := 3100) (by omega) (by omega)).2 | have b90 := i_bd (m 109 v2.toNatClampNeg)
                        refine zd (fun (h91 : (m 109 v2.toNatClampNeg) = (0 : Int32)) => ?_) (fun (h91 : ¬ (m 109 v2.toNatClampNeg) = (0 : Int32)) => ?_)
                        · skip
                          have g92 := i_eq h91
                          have hV93 : zV (ma_u (zov wr_245 (ma_u m 94 0 (0 : Int32)) m1) 94 0 (0 : Int32)) := uf_94_0 hV_m1
                          exact K ((0 : Int32)) _ (zF_u (zF_zov (zF_u zF_rfl rfl) ws_245_258) rfl) hV93 (show (m 94 8).toInt = 0 from by omega) r_W r_GW
                        · skip
                          have g94 := i_ne h91
                          have hV95 : zV (ma_u (zov wr_245 (ma_u m 94 0 (0 : Int32)) m1) 94 0 (0 : Int32)) := uf_94_0 hV_m1
                          exact K ((1 : Int32)) _ (zF_u (zF_zov (zF_u zF_rfl rfl) ws_245_258) rfl) hV95 (show (m 94 8).toInt = 0 from by omega) r_W r_GW
        · skip
          have g96 := i_nle h18
          have hV97 : zV (ma_u (zov wr_245 (ma_u m 94 0 (0 : Int32)) m1) 94 0 (3 : Int32)) := uf_94_0 hV_m1
          exact K ((0 : Int32)) _ (zF_u (zF_zov (zF_u zF_rfl rfl) ws_245_258) rfl) hV97 (show (m 94 8).toInt = 0 from by omega) r_W r_GW
    · skip
      have g98 := i_nle h9
      have hV99 : zV (ma_u m 94 0 (1 : Int32)) := uf_94_0 hV
      exact K ((0 : Int32)) _ (zF_u zF_rfl rfl) hV99 (show (m 94 8).toInt = 0 from by omega) r_W r_GW
theorem lp_259z_85 {X : Nat × (Nat → Int32)} {P : Option ma_V → (Nat → Nat → Int32) → Prop} {T : Nat} {ix : Int32} {pa : Int32} {m0 : Nat → Nat → Int32} (h0 : zV m0) (K : ∀ v m', zF wr_259 m0 m' → zV m' → ((m' 94 8).toInt = 0) → (zW (m' 94 7) (m' 98) (m' 101) (m' 102) (m' 108)) → (zGW T (m' 94 55) (m' 109)) → P (some (.inl v)) m') : ∀ (n : Nat) (m : Nat → Nat → Int32) (l1 : Int32) (l2 : Int32) (l4 : Int32) (l5 : Int32), ((0 : Int)).toNat = n → zF wr_259 m0 m → zV m → ((0 : Int) = 1) → zm X 2 45 259 85 [(0, .inr (.inr (some 94))), (1, .inl l1), (2, .inl l2), (4, .inl l4), (5, .inl l5)] m P := by
  intro n
  induction n using Nat.strongRecOn with
  | _ n IH =>
    intro m l1 l2 l4 l5 hmu hF hV hi0
    refine g_259_85 l1 l2 l4 l5 ?_
    have b1 := i_bd l1
    have b2 := i_bd l5
    refine zd (fun (h3 : l1 ≤ l5) => ?_) (fun (h3 : ¬ l1 ≤ l5) => ?_)
    · skip
      have g4 := i_le h3
      have li5 : (0 : Int32).toInt = 0 := rfl
      refine zd (fun (h6 : l1 < (0 : Int32)) => ?_) (fun (h6 : ¬ l1 < (0 : Int32)) => ?_)
      · skip
        have g7 := i_lt h6
        have hV8 : zV (ma_u m 94 0 (4 : Int32)) := uf_94_0 hV
        have f9 : 0 ≤ (m 94 8).toInt ∧ (m 94 8).toInt ≤ 1 := rs_94_8 (m := m) hV
        exact K ((0 : Int32)) _ (zF_u hF rfl) hV8 (show (m 94 8).toInt = 0 from by omega) (show zW (m 94 7) (m 98) (m 101) (m 102) (m 108) from by first | (exfalso; omega; done) | (exfalso; contradiction; done)) (show zGW T (m 94 55) (m 109) from by first | (exfalso; omega; done) | (exfalso; contradiction; done))
      · skip
        have g10 := i_nlt h6
        have b11 := i_bd l4
        refine zd (fun (h12 : (0 : Int32) ≤ l4) => ?_) (fun (h12 : ¬ (0 : Int32) ≤ l4) => ?_)
        · skip
          have g13 := i_le h12
          have b14 := i_bd l2
          refine zd (fun (h15 : l2 = (0 : Int32)) => ?_) (fun (h15 : ¬ l2 = (0 : Int32)) => ?_)
          · skip
            have g16 := i_eq h15
            have hV17 : zV (ma_u m 94 0 (0 : Int32)) := uf_94_0 hV
            have f18 : 0 ≤ (m 94 8).toInt ∧ (m 94 8).toInt ≤ 1 := rs_94_8 (m := m) hV
            exact K (l4) _ (zF_u hF rfl) hV17 (show (m 94 8).toInt = 0 from by omega) (show zW (m 94 7) (m 98) (m 101) (m 102) (m 108) from by first | (exfalso; omega; done) | (exfalso; contradiction; done)) (show zGW T (m 94 55) (m 109) from by first | (exfalso; omega; done) | (exfalso; contradiction; done))
          · skip
            have g19 := i_ne h15
            have hV20 : zV (ma_u m 94 0 (0 : Int32)) := uf_94_0 hV
            have f21 : 0 ≤ (m 94 84).toInt ∧ (m 94 84).toInt ≤ 4600 := rs_94_84 (m := m) hV
            have f22 : 0 ≤ (m 94 8).toInt ∧ (m 94 8).toInt ≤ 1 := rs_94_8 (m := m) hV
            exact K ((m 94 84)) _ (zF_u hF rfl) hV20 (show (m 94 8).toInt = 0 from by omega) (show zW (m 94 7) (m 98) (m 101) (m 102) (m 108) from by first | (exfalso; omega; done) | (exfalso; contradiction; done)) (show zGW T (m 94 55) (m 109) from by first | (exfalso; omega; done) | (exfalso; contradiction; done))
        · skip
          have g23 := i_nle h12
          have hV24 : zV (ma_u m 94 0 (4 : Int32)) := uf_94_0 hV
          have f25 : 0 ≤ (m 94 8).toInt ∧ (m 94 8).toInt ≤ 1 := rs_94_8 (m := m) hV
          exact K ((0 : Int32)) _ (zF_u hF rfl) hV24 (show (m 94 8).toInt = 0 from by omega) (show zW (m 94 7) (m 98) (m 101) (m 102) (m 108) from by first | (exfalso; omega; done) | (exfalso; contradiction; done)) (show zGW T (m 94 55) (m 109) from by first | (exfalso; omega; done) | (exfalso; contradiction; done))
    · skip
      have g26 := i_nle h3
      have b27 := i_bd l4
      have li28 : (0 : Int32).toInt = 0 := rfl
      refine zd (fun (h29 : l4 < (0 : Int32)) => ?_) (fun (h29 : ¬ l4 < (0 : Int32)) => ?_)
      · skip
        have g30 := i_lt h29
        refine zd (fun (h31 : l1 < (0 : Int32)) => ?_) (fun (h31 : ¬ l1 < (0 : Int32)) => ?_)
        · skip
          have g32 := i_lt h31
          have hV33 : zV (ma_u m 94 0 (4 : Int32)) := uf_94_0 hV
          have f34 : 0 ≤ (m 94 8).toInt ∧ (m 94 8).toInt ≤ 1 := rs_94_8 (m := m) hV
          exact K ((0 : Int32)) _ (zF_u hF rfl) hV33 (show (m 94 8).toInt = 0 from by omega) (show zW (m 94 7) (m 98) (m 101) (m 102) (m 108) from by first | (exfalso; omega; done) | (exfalso; contradiction; done)) (show zGW T (m 94 55) (m 109) from by first | (exfalso; omega; done) | (exfalso; contradiction; done))
        · skip
          have g35 := i_nlt h31
          refine zd (fun (h36 : (0 : Int32) ≤ l4) => ?_) (fun (h36 : ¬ (0 : Int32) ≤ l4) => ?_)
          · skip
            have g37 := i_le h36
            have b38 := i_bd l2
            refine zd (fun (h39 : l2 = (0 : Int32)) => ?_) (fun (h39 : ¬ l2 = (0 : Int32)) => ?_)
            · skip
              have g40 := i_eq h39
              have hV41 : zV (ma_u m 94 0 (0 : Int32)) := uf_94_0 hV
              have f42 : 0 ≤ (m 94 8).toInt ∧ (m 94 8).toInt ≤ 1 := rs_94_8 (m := m) hV
              exact K (l4) _ (zF_u hF rfl) hV41 (show (m 94 8).toInt = 0 from by omega) (show zW (m 94 7) (m 98) (m 101) (m 102) (m 108) from by first | (exfalso; omega; done) | (exfalso; contradiction; done)) (show zGW T (m 94 55) (m 109) from by first | (exfalso; omega; done) | (exfalso; contradiction; done))
            · skip
              have g43 := i_ne h39
              have hV44 : zV (ma_u m 94 0 (0 : Int32)) := uf_94_0 hV
              have f45 : 0 ≤ (m 94 84).toInt ∧ (m 94 84).toInt ≤ 4600 := rs_94_84 (m := m) hV
              have f46 : 0 ≤ (m 94 8).toInt ∧ (m 94 8).toInt ≤ 1 := rs_94_8 (m := m) hV
              exact K ((m 94 84)) _ (zF_u hF rfl) hV44 (show (m 94 8).toInt = 0 from by omega) (show zW (m 94 7) (m 98) (m 101) (m 102) (m 108) from by first | (exfalso; omega; done) | (exfalso; contradiction; done)) (show zGW T (m 94 55) (m 109) from by first | (exfalso; omega; done) | (exfalso; contradiction; done))
          · skip
            have g47 := i_nle h36
            have hV48 : zV (ma_u m 94 0 (4 : Int32)) := uf_94_0 hV
            have f49 : 0 ≤ (m 94 8).toInt ∧ (m 94 8).toInt ≤ 1 := rs_94_8 (m := m) hV
            exact K ((0 : Int32)) _ (zF_u hF rfl) hV48 (show (m 94 8).toInt = 0 from by omega) (show zW (m 94 7) (m 98) (m 101) (m 102) (m 108) from by first | (exfalso; omega; done) | (exfalso; contradiction; done)) (show zGW T (m 94 55) (m 109) from by first | (exfalso; omega; done) | (exfalso; contradiction; done))
      · skip
        have g50 := i_nlt h29
        have f51 : 0 ≤ (m 94 84).toInt ∧ (m 94 84).toInt ≤ 4600 := rs_94_84 (m := m) hV
        first | have e52 : (l4 + (m 94 84)).toInt = l4.toInt + (m 94 84).toInt := i_add (by omega) (by omega) | have b53 := i_bd (l4 + (m 94 84))
        have f54 : 0 ≤ (m 94 11).toInt ∧ (m 94 11).toInt ≤ 1500 := rs_94_11 (m := m) hV
        refine sp_226 ((l4 + (m 94 84))) ((m 94 11)) hV (by omega) (by omega) (by omega) (fun v2 m1 hV_m1 p0_m1 => zmi_n ?_)
        have p0_m1 : v2.toInt = -1 ∨ ((l4 + (m 94 84)).toInt ≤ v2.toInt ∧ v2.toInt < (m 94 11).toInt ∧ 1 ≤ (m1 94 84).toInt ∧ v2.toInt + (m1 94 84).toInt ≤ (m 94 11).toInt) := p0_m1
        have f55 : 0 ≤ (m1 94 84).toInt ∧ (m1 94 84).toInt ≤ 4600 := rs_94_84 (m := (zov wr_226 m m1)) hV_m1
        have b56 := i_bd l2
        have b57 := i_bd v2
        first | have e58 : (l5 + (1 : Int32)).toInt = l5.toInt + (1) := i_addk rfl (by omega) (by omega) | have b59 := i_bd (l5 + (1 : Int32))
        exact IH ((0 : Int)).toNat (by omega) _ (l1) (l2) (v2) ((l5 + (1 : Int32))) rfl (zF_zov hF ws_226_259) hV_m1 (show (0 : Int) = 1 from by omega)
theorem sp_259z {X : Nat × (Nat → Int32)} {P : Option ma_V → (Nat → Nat → Int32) → Prop} {T : Nat} {m : Nat → Nat → Int32} (ix : Int32) (pa : Int32) (hV : zV m) (hpre0 : (m 94 8).toInt = 0) (r_W : zW (m 94 7) (m 98) (m 101) (m 102) (m 108)) (r_GW : zGW T (m 94 55) (m 109)) (KZ : ∀ v m', zV (zov wr_259 m m') → ((m 94 8).toInt = 0) → (zW (m 94 7) (m 98) (m 101) (m 102) (m 108)) → (zGW T (m 94 55) (m 109)) → P (some (.inl v)) (zov wr_259 m m')) : zm X 2 45 259 0 [(0, .inr (.inr (some 94))), (1, .inl ix), (2, .inl pa)] m P := by
  have K : ∀ v m', zF wr_259 m m' → zV m' → ((m' 94 8).toInt = 0) → (zW (m' 94 7) (m' 98) (m' 101) (m' 102) (m' 108)) → (zGW T (m' 94 55) (m' 109)) → P (some (.inl v)) m' := by
    intro v m' hf z q0 q1 q2
    have e := zov_eq hf
    rw [e] at z ⊢
    try rw [e] at q0
    try rw [e] at q1
    try rw [e] at q2
    exact KZ v m' z q0 q1 q2
  refine g_259_0 ix pa ?_
  have f1 : 0 ≤ (m 94 8).toInt ∧ (m 94 8).toInt ≤ 1 := rs_94_8 (m := m) hV
  have f2 : 0 ≤ (m 94 10).toInt ∧ (m 94 10).toInt ≤ 6 := rs_94_10 (m := m) hV
  have li3 : (0 : Int32).toInt = 0 := rfl
  refine zd (fun (h4 : (m 94 10) = (0 : Int32)) => ?_) (fun (h4 : ¬ (m 94 10) = (0 : Int32)) => ?_)
  · skip
    have g5 := i_eq h4
    have b6 := i_bd pa
    refine zd (fun (h7 : pa < (0 : Int32)) => ?_) (fun (h7 : ¬ pa < (0 : Int32)) => ?_)
    · skip
      have g8 := i_lt h7
      have hV9 : zV (ma_u m 94 0 (1 : Int32)) := uf_94_0 hV
      exact K ((0 : Int32)) _ (zF_u zF_rfl rfl) hV9 (show (m 94 8).toInt = 0 from by omega) r_W r_GW
    · skip
      have g10 := i_nlt h7
      have li11 : (1 : Int32).toInt = 1 := rfl
      refine zd (fun (h12 : pa ≤ (1 : Int32)) => ?_) (fun (h12 : ¬ pa ≤ (1 : Int32)) => ?_)
      · skip
        have g13 := i_le h12
        refine zd (fun (h14 : (m 94 8) = (0 : Int32)) => ?_) (fun (h14 : ¬ (m 94 8) = (0 : Int32)) => ?_)
        · skip
          have g15 := i_eq h14
          have hV16 : zV (ma_u m 94 0 (2 : Int32)) := uf_94_0 hV
          exact K ((0 : Int32)) _ (zF_u zF_rfl rfl) hV16 (show (m 94 8).toInt = 0 from by omega) r_W r_GW
        · skip
          have g17 := i_ne h14
          have f18 : 0 ≤ (m 94 11).toInt ∧ (m 94 11).toInt ≤ 1500 := rs_94_11 (m := m) hV
          have hV19 : zV (ma_u m 94 0 (0 : Int32)) := uf_94_0 hV
          refine sp_226 ((0 : Int32)) ((m 94 11)) hV19 (by omega) (by omega) (by omega) (fun v2 m1 hV_m1 p0_m1 => zmi_n ?_)
          have p0_m1 : v2.toInt = -1 ∨ ((0 : Int32).toInt ≤ v2.toInt ∧ v2.toInt < (m 94 11).toInt ∧ 1 ≤ (m1 94 84).toInt ∧ v2.toInt + (m1 94 84).toInt ≤ (m 94 11).toInt) := p0_m1
          have f20 : 0 ≤ (m1 94 84).toInt ∧ (m1 94 84).toInt ≤ 4600 := rs_94_84 (m := (zov wr_226 (ma_u m 94 0 (0 : Int32)) m1)) hV_m1
          have b21 := i_bd ix
          have b22 := i_bd v2
          exact lp_259z_85 (ix := ix) (pa := pa) hV K _ _ (ix) (pa) (v2) ((0 : Int32)) rfl (zF_zov (zF_u zF_rfl rfl) ws_226_259) hV_m1 (show (0 : Int) = 1 from by omega)
      · skip
        have g23 := i_nle h12
        have hV24 : zV (ma_u m 94 0 (1 : Int32)) := uf_94_0 hV
        exact K ((0 : Int32)) _ (zF_u zF_rfl rfl) hV24 (show (m 94 8).toInt = 0 from by omega) r_W r_GW
  · skip
    have g25 := i_ne h4
    have li26 : (4 : Int32).toInt = 4 := rfl
    refine zd (fun (h27 : (m 94 10) = (4 : Int32)) => ?_) (fun (h27 : ¬ (m 94 10) = (4 : Int32)) => ?_)
    · skip
      have g28 := i_eq h27
      have b29 := i_bd pa
      refine zd (fun (h30 : pa < (0 : Int32)) => ?_) (fun (h30 : ¬ pa < (0 : Int32)) => ?_)
      · skip
        have g31 := i_lt h30
        have hV32 : zV (ma_u m 94 0 (1 : Int32)) := uf_94_0 hV
        exact K ((0 : Int32)) _ (zF_u zF_rfl rfl) hV32 (show (m 94 8).toInt = 0 from by omega) r_W r_GW
      · skip
        have g33 := i_nlt h30
        have li34 : (1 : Int32).toInt = 1 := rfl
        refine zd (fun (h35 : pa ≤ (1 : Int32)) => ?_) (fun (h35 : ¬ pa ≤ (1 : Int32)) => ?_)
        · skip
          have g36 := i_le h35
          refine zd (fun (h37 : (m 94 8) = (0 : Int32)) => ?_) (fun (h37 : ¬ (m 94 8) = (0 : Int32)) => ?_)
          · skip
            have g38 := i_eq h37
            have hV39 : zV (ma_u m 94 0 (2 : Int32)) := uf_94_0 hV
            exact K ((0 : Int32)) _ (zF_u zF_rfl rfl) hV39 (show (m 94 8).toInt = 0 from by omega) r_W r_GW
          · skip
            have g40 := i_ne h37
            have f41 : 0 ≤ (m 94 11).toInt ∧ (m 94 11).toInt ≤ 1500 := rs_94_11 (m := m) hV
            have hV42 : zV (ma_u m 94 0 (0 : Int32)) := uf_94_0 hV
            refine sp_226 ((0 : Int32)) ((m 94 11)) hV42 (by omega) (by omega) (by omega) (fun v4 m3 hV_m3 p0_m3 => zmi_n ?_)
            have p0_m3 : v4.toInt = -1 ∨ ((0 : Int32).toInt ≤ v4.toInt ∧ v4.toInt < (m 94 11).toInt ∧ 1 ≤ (m3 94 84).toInt ∧ v4.toInt + (m3 94 84).toInt ≤ (m 94 11).toInt) := p0_m3
            have f43 : 0 ≤ (m3 94 84).toInt ∧ (m3 94 84).toInt ≤ 4600 := rs_94_84 (m := (zov wr_226 (ma_u m 94 0 (0 : Int32)) m3)) hV_m3
            have b44 := i_bd ix
            have b45 := i_bd v4
            exact lp_259z_85 (ix := ix) (pa := pa) hV K _ _ (ix) (pa) (v4) ((0 : Int32)) rfl (zF_zov (zF_u zF_rfl rfl) ws_226_259) hV_m3 (show (0 : Int) = 1 from by omega)
        · skip
          have g46 := i_nle h35
          have hV47 : zV (ma_u m 94 0 (1 : Int32)) := uf_94_0 hV
          exact K ((0 : Int32)) _ (zF_u zF_rfl rfl) hV47 (show (m 94 8).toInt = 0 from by omega) r_W r_GW
    · skip
      have g48 := i_ne h27
      have li49 : (5 : Int32).toInt = 5 := rfl
      refine zd (fun (h50 : (m 94 10) = (5 : Int32)) => ?_) (fun (h50 : ¬ (m 94 10) = (5 : Int32)) => ?_)
      · skip
        have g51 := i_eq h50
        have b52 := i_bd pa
        refine zd (fun (h53 : pa < (0 : Int32)) => ?_) (fun (h53 : ¬ pa < (0 : Int32)) => ?_)
        · skip
          have g54 := i_lt h53
          have hV55 : zV (ma_u m 94 0 (1 : Int32)) := uf_94_0 hV
          exact K ((0 : Int32)) _ (zF_u zF_rfl rfl) hV55 (show (m 94 8).toInt = 0 from by omega) r_W r_GW
        · skip
          have g56 := i_nlt h53
          have li57 : (1 : Int32).toInt = 1 := rfl
          refine zd (fun (h58 : pa ≤ (1 : Int32)) => ?_) (fun (h58 : ¬ pa ≤ (1 : Int32)) => ?_)
          · skip
            have g59 := i_le h58
            refine zd (fun (h60 : (m 94 8) = (0 : Int32)) => ?_) (fun (h60 : ¬ (m 94 8) = (0 : Int32)) => ?_)
            · skip
              have g61 := i_eq h60
              have hV62 : zV (ma_u m 94 0 (2 : Int32)) := uf_94_0 hV
              exact K ((0 : Int32)) _ (zF_u zF_rfl rfl) hV62 (show (m 94 8).toInt = 0 from by omega) r_W r_GW
            · skip
              have g63 := i_ne h60
              have f64 : 0 ≤ (m 94 11).toInt ∧ (m 94 11).toInt ≤ 1500 := rs_94_11 (m := m) hV
              have hV65 : zV (ma_u m 94 0 (0 : Int32)) := uf_94_0 hV
              refine sp_226 ((0 : Int32)) ((m 94 11)) hV65 (by omega) (by omega) (by omega) (fun v6 m5 hV_m5 p0_m5 => zmi_n ?_)
              have p0_m5 : v6.toInt = -1 ∨ ((0 : Int32).toInt ≤ v6.toInt ∧ v6.toInt < (m 94 11).toInt ∧ 1 ≤ (m5 94 84).toInt ∧ v6.toInt + (m5 94 84).toInt ≤ (m 94 11).toInt) := p0_m5
              have f66 : 0 ≤ (m5 94 84).toInt ∧ (m5 94 84).toInt ≤ 4600 := rs_94_84 (m := (zov wr_226 (ma_u m 94 0 (0 : Int32)) m5)) hV_m5
              have b67 := i_bd ix
              have b68 := i_bd v6
              exact lp_259z_85 (ix := ix) (pa := pa) hV K _ _ (ix) (pa) (v6) ((0 : Int32)) rfl (zF_zov (zF_u zF_rfl rfl) ws_226_259) hV_m5 (show (0 : Int) = 1 from by omega)
          · skip
            have g69 := i_nle h58
            have hV70 : zV (ma_u m 94 0 (1 : Int32)) := uf_94_0 hV
            exact K ((0 : Int32)) _ (zF_u zF_rfl rfl) hV70 (show (m 94 8).toInt = 0 from by omega) r_W r_GW
      · skip
        have g71 := i_ne h50
        have b72 := i_bd pa
        refine zd (fun (h73 : pa < (0 : Int32)) => ?_) (fun (h73 : ¬ pa < (0 : Int32)) => ?_)
        · skip
          have g74 := i_lt h73
          have hV75 : zV (ma_u m 94 0 (1 : Int32)) := uf_94_0 hV
          exact K ((0 : Int32)) _ (zF_u zF_rfl rfl) hV75 (show (m 94 8).toInt = 0 from by omega) r_W r_GW
        · skip
          have g76 := i_nlt h73
          have li77 : (1 : Int32).toInt = 1 := rfl
          refine zd (fun (h78 : pa ≤ (1 : Int32)) => ?_) (fun (h78 : ¬ pa ≤ (1 : Int32)) => ?_)
          · skip
            have g79 := i_le h78
            refine zd (fun (h80 : (m 94 8) = (0 : Int32)) => ?_) (fun (h80 : ¬ (m 94 8) = (0 : Int32)) => ?_)
            · skip
              have g81 := i_eq h80
              have hV82 : zV (ma_u m 94 0 (2 : Int32)) := uf_94_0 hV
              exact K ((0 : Int32)) _ (zF_u zF_rfl rfl) hV82 (show (m 94 8).toInt = 0 from by omega) r_W r_GW
            · skip
              have g83 := i_ne h80
              have hV84 : zV (ma_u m 94 0 (3 : Int32)) := uf_94_0 hV
              exact K ((0 : Int32)) _ (zF_u zF_rfl rfl) hV84 (show (m 94 8).toInt = 0 from by omega) r_W r_GW
          · skip
            have g85 := i_nle h78
            have hV86 : zV (ma_u m 94 0 (1 : Int32)) := uf_94_0 hV
            exact K ((0 : Int32)) _ (zF_u zF_rfl rfl) hV86 (show (m 94 8).toInt = 0 from by omega) r_W r_GW
