/-! the reference before the first heap -/
theorem sp_258z {X : Nat × (Nat → Int32)} {P : Option ma_V → (Nat → Nat → Int32) → Prop} {T : Nat} {m : Nat → Nat → Int32} (ob : Int32) (wh : Int32) (hV : zV m) (hpre0 : (m 94 8).toInt = 0) (r_W : zW (m 94 7) (m 98) (m 101) (m 102) (m 108)) (r_GW : zGW T (m 94 55) (m 109)) (KZ : ∀ v m₉, zV (zov wr_258 m m₉) → ((m 94 8).toInt = 0) → (zW (m 94 7) (m 98) (m 101) (m 102) (m 108)) → (zGW T (m 94 55) (m 109)) → P (some (.inl v)) (zov wr_258 m m₉)) : zm X 5 109 258 0 [(0, .inr (.inr (some 94))), (1, .inl ob), (2, .inl wh)] m P := by
  have K : ∀ v m₉, zF wr_258 m m₉ → zV m₉ → ((m₉ 94 8).toInt = 0) → (zW (m₉ 94 7) (m₉ 98) (m₉ 101) (m₉ 102) (m₉ 108)) → (zGW T (m₉ 94 55) (m₉ 109)) → P (some (.inl v)) m₉ := by
    intro v m₉ hf z q0 q1 q2
    have e := zov_eq hf
    rw [e] at z ⊢
    try rw [e] at q0
    try rw [e] at q1
    try rw [e] at q2
    exact KZ v m₉ z q0 q1 q2
  refine g_258_0 ob wh ?_
  have f1 : 0 ≤ (m 94 8).toInt ∧ (m 94 8).toInt ≤ 1 := rs_94_8 (m := m) hV
  have b2 := i_bd wh
  have li3 : (0 : Int32).toInt = 0 := rfl
  refine zd (fun (h4 : wh < (0 : Int32)) => ?_) (fun (h4 : ¬ wh < (0 : Int32)) => ?_)
  · skip
    have g5 := i_lt h4
    have hV6 : zV (ma_u m 94 0 (1 : Int32)) := uf_94_0 hV
    exact K ((0 : Int32)) _ (zF_u zF_rfl rfl) hV6 (show (m 94 8).toInt = 0 from by omega) r_W r_GW
  · skip
    have g7 := i_nlt h4
    have li8 : (7 : Int32).toInt = 7 := rfl
    refine zd (fun (h9 : wh ≤ (7 : Int32)) => ?_) (fun (h9 : ¬ wh ≤ (7 : Int32)) => ?_)
    · skip
      have g10 := i_le h9
      refine zd (fun (h11 : (m 94 8) = (0 : Int32)) => ?_) (fun (h11 : ¬ (m 94 8) = (0 : Int32)) => ?_)
      · skip
        have g12 := i_eq h11
        have hV13 : zV (ma_u m 94 0 (2 : Int32)) := uf_94_0 hV
        exact K ((0 : Int32)) _ (zF_u zF_rfl rfl) hV13 (show (m 94 8).toInt = 0 from by omega) r_W r_GW
      · skip
        have g14 := i_ne h11
        have b15 := i_bd ob
        have hV16 : zV (ma_u m 94 0 (0 : Int32)) := uf_94_0 hV
        refine sp_245 (ob) hV16 r_W (show zDX (m 94 10) (m 99) (m 112) (m 113) (m 114) (m 94 55) (m 98) (m 101) (m 102) (m 108) from by first | (exfalso; omega; done) | (exfalso; contradiction; done)) (fun v2 m1 hV_m1 p0_m1 p1_m1 => zmi_n ?_)
        have p0_m1 : -1 ≤ v2.toInt ∧ v2.toInt ≤ 3099 := p0_m1
        have p1_m1 : v2.toInt < 0 ∨ (m 99) v2.toNatClampNeg ≠ 0 := p1_m1
        have b17 := i_bd v2
        refine zd (fun (h18 : (0 : Int32) ≤ v2) => ?_) (fun (h18 : ¬ (0 : Int32) ≤ v2) => ?_)
        · skip
          have g19 := i_le h18
          refine zd (fun (h20 : wh = (0 : Int32)) => ?_) (fun (h20 : ¬ wh = (0 : Int32)) => ?_)
          · skip
            have g21 := i_eq h20
            have hg22 : (0 ≤ v2 ∧ v2.toNatClampNeg < 3100) := i_ix (by omega) (by omega)
            refine ⟨hg22, ?_⟩
            have hV23 : zV (ma_u (zov wr_245 (ma_u m 94 0 (0 : Int32)) m1) 94 0 (0 : Int32)) := uf_94_0 hV_m1
            first | have f24 : 0 ≤ (m 103 v2.toNatClampNeg).toInt ∧ (m 103 v2.toNatClampNeg).toInt ≤ 4599 := ra_103 (m := m) hV (k := v2.toNatClampNeg) (i_ix (n := 3100) (by omega) (by omega)).2 | have b25 := i_bd (m 103 v2.toNatClampNeg)
            exact K ((m 103 v2.toNatClampNeg)) _ (zF_u (zF_zov (zF_u zF_rfl rfl) ws_245_258) rfl) hV23 (show (m 94 8).toInt = 0 from by omega) r_W r_GW
          · skip
            have g26 := i_ne h20
            have li27 : (1 : Int32).toInt = 1 := rfl
            refine zd (fun (h28 : wh = (1 : Int32)) => ?_) (fun (h28 : ¬ wh = (1 : Int32)) => ?_)
            · skip
              have g29 := i_eq h28
              have hg30 : (0 ≤ v2 ∧ v2.toNatClampNeg < 3100) := i_ix (by omega) (by omega)
              refine ⟨hg30, ?_⟩
              have hV31 : zV (ma_u (zov wr_245 (ma_u m 94 0 (0 : Int32)) m1) 94 0 (0 : Int32)) := uf_94_0 hV_m1
              first | have f32 : 0 ≤ (m 102 v2.toNatClampNeg).toInt ∧ (m 102 v2.toNatClampNeg).toInt ≤ 60 := ra_102 (m := m) hV (k := v2.toNatClampNeg) (i_ix (n := 3100) (by omega) (by omega)).2 | have b33 := i_bd (m 102 v2.toNatClampNeg)
              first | have e34 : ((m 102 v2.toNatClampNeg) + (1 : Int32)).toInt = (m 102 v2.toNatClampNeg).toInt + (1) := i_addk rfl (by omega) (by omega) | have b35 := i_bd ((m 102 v2.toNatClampNeg) + (1 : Int32))
              exact K (((m 102 v2.toNatClampNeg) + (1 : Int32))) _ (zF_u (zF_zov (zF_u zF_rfl rfl) ws_245_258) rfl) hV31 (show (m 94 8).toInt = 0 from by omega) r_W r_GW
            · skip
              have g36 := i_ne h28
              have li37 : (2 : Int32).toInt = 2 := rfl
              refine zd (fun (h38 : wh = (2 : Int32)) => ?_) (fun (h38 : ¬ wh = (2 : Int32)) => ?_)
              · skip
                have g39 := i_eq h38
                have hg40 : (0 ≤ v2 ∧ v2.toNatClampNeg < 3100) := i_ix (by omega) (by omega)
                refine ⟨hg40, ?_⟩
                have hV41 : zV (ma_u (zov wr_245 (ma_u m 94 0 (0 : Int32)) m1) 94 0 (0 : Int32)) := uf_94_0 hV_m1
                first | have f42 : 0 ≤ (m 101 v2.toNatClampNeg).toInt ∧ (m 101 v2.toNatClampNeg).toInt ≤ 17 := ra_101 (m := m) hV (k := v2.toNatClampNeg) (i_ix (n := 3100) (by omega) (by omega)).2 | have b43 := i_bd (m 101 v2.toNatClampNeg)
                exact K ((m 101 v2.toNatClampNeg)) _ (zF_u (zF_zov (zF_u zF_rfl rfl) ws_245_258) rfl) hV41 (show (m 94 8).toInt = 0 from by omega) r_W r_GW
              · skip
                have g44 := i_ne h38
                have li45 : (3 : Int32).toInt = 3 := rfl
                refine zd (fun (h46 : wh = (3 : Int32)) => ?_) (fun (h46 : ¬ wh = (3 : Int32)) => ?_)
                · skip
                  have g47 := i_eq h46
                  have f48 : 0 ≤ (m 94 10).toInt ∧ (m 94 10).toInt ≤ 6 := rs_94_10 (m := m) hV
                  refine zd (fun (h49 : (m 94 10) = (3 : Int32)) => ?_) (fun (h49 : ¬ (m 94 10) = (3 : Int32)) => ?_)
                  · skip
                    have g50 := i_eq h49
                    have hg51 : (0 ≤ v2 ∧ v2.toNatClampNeg < 3100) := i_ix (by omega) (by omega)
                    refine ⟨hg51, ?_⟩
                    have hV52 : zV (ma_u (zov wr_245 (ma_u m 94 0 (0 : Int32)) m1) 94 0 (0 : Int32)) := uf_94_0 hV_m1
                    have b53 := i_bd (m 104 v2.toNatClampNeg)
                    exact K ((m 104 v2.toNatClampNeg)) _ (zF_u (zF_zov (zF_u zF_rfl rfl) ws_245_258) rfl) hV52 (show (m 94 8).toInt = 0 from by omega) r_W r_GW
                  · skip
                    have g54 := i_ne h49
                    have hV55 : zV (ma_u (zov wr_245 (ma_u m 94 0 (0 : Int32)) m1) 94 0 (0 : Int32)) := uf_94_0 hV_m1
                    exact K ((0 : Int32)) _ (zF_u (zF_zov (zF_u zF_rfl rfl) ws_245_258) rfl) hV55 (show (m 94 8).toInt = 0 from by omega) r_W r_GW
                · skip
                  have g56 := i_ne h46
                  have li57 : (4 : Int32).toInt = 4 := rfl
                  refine zd (fun (h58 : wh = (4 : Int32)) => ?_) (fun (h58 : ¬ wh = (4 : Int32)) => ?_)
                  · skip
                    have g59 := i_eq h58
                    have f60 : 0 ≤ (m 94 10).toInt ∧ (m 94 10).toInt ≤ 6 := rs_94_10 (m := m) hV
                    refine zd (fun (h61 : (m 94 10) = (4 : Int32)) => ?_) (fun (h61 : ¬ (m 94 10) = (4 : Int32)) => ?_)
                    · skip
                      have g62 := i_eq h61
                      have hg63 : (0 ≤ v2 ∧ v2.toNatClampNeg < 3100) := i_ix (by omega) (by omega)
                      refine ⟨hg63, ?_⟩
                      have hV64 : zV (ma_u (zov wr_245 (ma_u m 94 0 (0 : Int32)) m1) 94 0 (0 : Int32)) := uf_94_0 hV_m1
                      have b65 := i_bd (m 105 v2.toNatClampNeg)
                      exact K ((m 105 v2.toNatClampNeg)) _ (zF_u (zF_zov (zF_u zF_rfl rfl) ws_245_258) rfl) hV64 (show (m 94 8).toInt = 0 from by omega) r_W r_GW
                    · skip
                      have g66 := i_ne h61
                      have hV67 : zV (ma_u (zov wr_245 (ma_u m 94 0 (0 : Int32)) m1) 94 0 (0 : Int32)) := uf_94_0 hV_m1
                      exact K ((0 : Int32)) _ (zF_u (zF_zov (zF_u zF_rfl rfl) ws_245_258) rfl) hV67 (show (m 94 8).toInt = 0 from by omega) r_W r_GW
                  · skip
                    have g68 := i_ne h58
                    have li69 : (5 : Int32).toInt = 5 := rfl
                    refine zd (fun (h70 : wh = (5 : Int32)) => ?_) (fun (h70 : ¬ wh = (5 : Int32)) => ?_)
                    · skip
                      have g71 := i_eq h70
                      have f72 : 0 ≤ (m 94 58).toInt ∧ (m 94 58).toInt ≤ 1 := rs_94_58 (m := m) hV
                      refine zd (fun (h73 : (m 94 58) = (0 : Int32)) => ?_) (fun (h73 : ¬ (m 94 58) = (0 : Int32)) => ?_)
                      · skip
                        have g74 := i_eq h73
                        have hV75 : zV (ma_u (zov wr_245 (ma_u m 94 0 (0 : Int32)) m1) 94 0 (0 : Int32)) := uf_94_0 hV_m1
                        exact K ((0 : Int32)) _ (zF_u (zF_zov (zF_u zF_rfl rfl) ws_245_258) rfl) hV75 (show (m 94 8).toInt = 0 from by omega) r_W r_GW
                      · skip
                        have g76 := i_ne h73
                        have hg77 : (0 ≤ v2 ∧ v2.toNatClampNeg < 3100) := i_ix (by omega) (by omega)
                        refine ⟨hg77, ?_⟩
                        have hV78 : zV (ma_u (zov wr_245 (ma_u m 94 0 (0 : Int32)) m1) 94 0 (0 : Int32)) := uf_94_0 hV_m1
                        have b79 := i_bd (m 106 v2.toNatClampNeg)
                        exact K ((m 106 v2.toNatClampNeg)) _ (zF_u (zF_zov (zF_u zF_rfl rfl) ws_245_258) rfl) hV78 (show (m 94 8).toInt = 0 from by omega) r_W r_GW
                    · skip
                      have g80 := i_ne h70
                      have li81 : (6 : Int32).toInt = 6 := rfl
                      refine zd (fun (h82 : wh = (6 : Int32)) => ?_) (fun (h82 : ¬ wh = (6 : Int32)) => ?_)
                      · skip
                        have g83 := i_eq h82
                        have hg84 : (0 ≤ v2 ∧ v2.toNatClampNeg < 3100) := i_ix (by omega) (by omega)
                        refine ⟨hg84, ?_⟩
                        have hV85 : zV (ma_u (zov wr_245 (ma_u m 94 0 (0 : Int32)) m1) 94 0 (0 : Int32)) := uf_94_0 hV_m1
                        have b86 := i_bd (m 107 v2.toNatClampNeg)
                        exact K ((m 107 v2.toNatClampNeg)) _ (zF_u (zF_zov (zF_u zF_rfl rfl) ws_245_258) rfl) hV85 (show (m 94 8).toInt = 0 from by omega) r_W r_GW
                      · skip
                        have g87 := i_ne h82
                        have hg88 : (0 ≤ v2 ∧ v2.toNatClampNeg < 3100) := i_ix (by omega) (by omega)
                        refine ⟨hg88, ?_⟩
                        first | have f89 : 0 ≤ (m 109 v2.toNatClampNeg).toInt ∧ (m 109 v2.toNatClampNeg).toInt ≤ 1 := ra_109 (m := m) hV (k := v2.toNatClampNeg) (i_ix (n := 3100) (by omega) (by omega)).2 | have b90 := i_bd (m 109 v2.toNatClampNeg)
                        refine zd (fun (h91 : (m 109 v2.toNatClampNeg) = (0 : Int32)) => ?_) (fun (h91 : ¬ (m 109 v2.toNatClampNeg) = (0 : Int32)) => ?_)
                        · skip
                          have g92 := i_eq h91
                          have hV93 : zV (ma_u (zov wr_245 (ma_u m 94 0 (0 : Int32)) m1) 94 0 (0 : Int32)) := uf_94_0 hV_m1
                          exact K ((0 : Int32)) _ (zF_u (zF_zov (zF_u zF_rfl rfl) ws_245_258) rfl) hV93 (show (m 94 8).toInt = 0 from by omega) r_W r_GW
                        · skip
                          have g94 := i_ne h91
                          have hV95 : zV (ma_u (zov wr_245 (ma_u m 94 0 (0 : Int32)) m1) 94 0 (0 : Int32)) := uf_94_0 hV_m1
                          exact K ((1 : Int32)) _ (zF_u (zF_zov (zF_u zF_rfl rfl) ws_245_258) rfl) hV95 (show (m 94 8).toInt = 0 from by omega) r_W r_GW
        · skip
          have g96 := i_nle h18
          have hV97 : zV (ma_u (zov wr_245 (ma_u m 94 0 (0 : Int32)) m1) 94 0 (3 : Int32)) := uf_94_0 hV_m1
          exact K ((0 : Int32)) _ (zF_u (zF_zov (zF_u zF_rfl rfl) ws_245_258) rfl) hV97 (show (m 94 8).toInt = 0 from by omega) r_W r_GW
    · skip
      have g98 := i_nle h9
      have hV99 : zV (ma_u m 94 0 (1 : Int32)) := uf_94_0 hV
      exact K ((0 : Int32)) _ (zF_u zF_rfl rfl) hV99 (show (m 94 8).toInt = 0 from by omega) r_W r_GW
