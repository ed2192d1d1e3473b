/-! from 95.t06 -/
/-! REGIONS, the reference (written by wip/tools/gen15t.py) -/
set_option maxHeartbeats 8000000 in
theorem sp_231rz {X : Nat × (Nat → Int32)} {P : Option ma_V → (Nat → Nat → Int32) → Prop} {T : Nat} {aa : Nat→Nat→Int32} {ro : Int32} {m : Nat → Nat → Int32} (nw : Int32) (hV : zV m) (hpre0 : 1 ≤ nw.toInt) (hpre1 : nw.toInt ≤ 61) (hpre2 : T ≤ 512) (r_W : zW (m 94 7) (m 98) (m 101) (m 102) (m 108)) (r_GW : zGW T (m 94 55) (m 109)) (r_GU : zGU T (m 94 46) (m 99)) (r_OW : zOw (m 99) (m 103) (m 111)) (hpre7 : (m 94 10).toInt = 6 ∧ (m 94 58).toInt = 0) (r_RB : qRB (m 99) (m 100) (m 98) (m 101) (m 102) (m 103) (m 107) (m 108) (m 109) (m 111) (m 112) (m 113) (m 114) (m 94 55) (m 94 46) ro 0 0 0 1 aa) (r_RV : qRv aa) (r_RL : qRL aa (m 94 18) (m 94 64) (m 94 19) (m 94 63) (m 116)) (r_WTS : (m 94 45).toInt = sm (zbU (m 99)) (m 102) 3100) (KZ : ∀ v m₉, zV (zov wr_231 m m₉) → (zGW T (m₉ 94 55) (m₉ 109)) → (zGU T (m 94 46) (m₉ 99)) → (zOw (m₉ 99) (m₉ 103) (m₉ 111)) → (-1 ≤ v.toInt ∧ v.toInt ≤ 1500) → (qRB (m₉ 99) (m 100) (m 98) (m 101) (m 102) (m₉ 103) (m 107) (m 108) (m₉ 109) (m₉ 111) (m 112) (m₉ 113) (m₉ 114) (m₉ 94 55) (m 94 46) ro 0 0 0 1 (rGt aa nw v)) → (qRv (rGt aa nw v)) → (qRL (rGt aa nw v) (m 94 18) (m 94 64) (m 94 19) (m₉ 94 63) (m₉ 116)) → (qEq v.toInt (rRp aa nw.toInt)) → (qRv (rRs aa nw.toInt)) → ((m₉ 94 45).toInt = sm (zbU (m₉ 99)) (m 102) 3100) → P (some (.inl v)) (zov wr_231 m m₉)) : zm X 6 137 231 0 [(0, .inr (.inr (some 94))), (1, .inl nw)] m P := by
  have K : ∀ v m₉, zF wr_231 m m₉ → zV m₉ → (zGW T (m₉ 94 55) (m₉ 109)) → (zGU T (m₉ 94 46) (m₉ 99)) → (zOw (m₉ 99) (m₉ 103) (m₉ 111)) → (-1 ≤ v.toInt ∧ v.toInt ≤ 1500) → (qRB (m₉ 99) (m₉ 100) (m₉ 98) (m₉ 101) (m₉ 102) (m₉ 103) (m₉ 107) (m₉ 108) (m₉ 109) (m₉ 111) (m₉ 112) (m₉ 113) (m₉ 114) (m₉ 94 55) (m₉ 94 46) ro 0 0 0 1 (rGt aa nw v)) → (qRv (rGt aa nw v)) → (qRL (rGt aa nw v) (m₉ 94 18) (m₉ 94 64) (m₉ 94 19) (m₉ 94 63) (m₉ 116)) → (qEq v.toInt (rRp aa nw.toInt)) → (qRv (rRs aa nw.toInt)) → ((m₉ 94 45).toInt = sm (zbU (m₉ 99)) (m₉ 102) 3100) → P (some (.inl v)) m₉ := by
    intro v m₉ hf z q0 q1 q2 q3 q4 q5 q6 q7 q8 q9
    have e := zov_eq hf
    rw [e] at z ⊢
    try rw [e] at q0
    try rw [e] at q1
    try rw [e] at q2
    try rw [e] at q3
    try rw [e] at q4
    try rw [e] at q5
    try rw [e] at q6
    try rw [e] at q7
    try rw [e] at q8
    try rw [e] at q9
    exact KZ v m₉ z q0 q1 q2 q3 q4 q5 q6 q7 q8 q9
  refine g_231_0 nw ?_
  have f1 : 0 ≤ (m 94 10).toInt ∧ (m 94 10).toInt ≤ 6 := rs_94_10 (m := m) hV
  have f2 : 0 ≤ (m 94 58).toInt ∧ (m 94 58).toInt ≤ 1 := rs_94_58 (m := m) hV
  have b3 := i_bd nw
  have f4 : 0 ≤ (m 94 18).toInt ∧ (m 94 18).toInt ≤ 256 := rs_94_18 (m := m) hV
  refine zd (fun (h5 : nw ≤ (m 94 18)) => ?_) (fun (h5 : ¬ nw ≤ (m 94 18)) => ?_)
  · skip
    have g6 := i_le h5
    try have rlb := RL_b r_RL r_RV
    refine sp_232rz (aa := aa) (nw) hV (by omega) (by omega) r_RV r_RL (fun v2 m1 hV_m1 p0_m1 p1_m1 p2_m1 => zmi_n ?_)
    have p0_m1 : qRL (rFt aa nw v2) (m 94 18) (m 94 64) (m 94 19) (m 94 63) (m1 116) := p0_m1
    have p1_m1 : qFI aa nw.toInt v2.toInt := p1_m1
    have p2_m1 : -1 ≤ v2.toInt ∧ v2.toInt ≤ 1500 := p2_m1
    have b7 := i_bd v2
    have li8 : (0 : Int32).toInt = 0 := rfl
    refine zd (fun (h9 : v2 < (0 : Int32)) => ?_) (fun (h9 : ¬ v2 < (0 : Int32)) => ?_)
    · skip
      have g10 := i_lt h9
      try have rlb := RL_b r_RL r_RV
      refine sp_233rz (aa := aa)  hV_m1 r_RV (show qRL aa (m 94 18) (m 94 64) (m 94 19) (m 94 63) (m1 116) from by first | (exact (show qRL aa _ _ _ _ _ from by have q := p0_m1; rw [rFt_n (by omega)] at q; exact q)) | (exact p0_m1) | (exfalso; omega; done) | (exfalso; contradiction; done)) (fun v4 m3 hV_m3 p0_m3 p1_m3 => zmi_n ?_)
      have p0_m3 : v4.toInt ≤ 0 ∨ ∃ r : Nat, (r : Int) < (m 94 64).toInt ∧ (m1 116) r = 0 := p0_m3
      have p1_m3 : qEq v4.toInt (rEf aa 93) := p1_m3
      have b11 := i_bd v4
      have li12 : (2 : Int32).toInt = 2 := rfl
      refine zd (fun (h13 : v4 < (2 : Int32)) => ?_) (fun (h13 : ¬ v4 < (2 : Int32)) => ?_)
      · skip
        have g14 := i_lt h13
        try have rlb := RL_b r_RL r_RV
        refine sp_235rz (aa := aa)  hV_m3 (by omega) r_W r_GW r_GU r_OW (show (m 94 10).toInt = 6 ∧ (m 94 58).toInt = 0 from by omega) r_RB r_RV (show qRL aa (m 94 18) (m 94 64) (m 94 19) (m 94 63) (m1 116) from by first | (exact (show qRL aa _ _ _ _ _ from by have q := p0_m1; rw [rFt_n (by omega)] at q; exact q)) | (exact p0_m1) | (exfalso; omega; done) | (exfalso; contradiction; done)) (show zRG1 (m 94 18) (m 94 64) (m 94 63) (m 99) (m 103) (m 102) (m1 116) from by first | (exact RG_of r_RB r_RV (show qRL aa _ _ _ _ _ from by have q := p0_m1; rw [rFt_n (by omega)] at q; exact q)) | (exfalso; omega; done) | (exfalso; contradiction; done)) r_WTS (fun v6 m5 hV_m5 p0_m5 p1_m5 p2_m5 p3_m5 p4_m5 p5_m5 p6_m5 p7_m5 => zmi_n ?_)
        have p0_m5 : zGW T (m5 94 55) (m5 109) := p0_m5
        have p1_m5 : zGU T (m 94 46) (m5 99) := p1_m5
        have p2_m5 : zOw (m5 99) (m5 103) (m5 111) := p2_m5
        have p3_m5 : zRG1 (m 94 18) (m 94 64) (m5 94 63) (m5 99) (m5 103) (m 102) (m5 116) := p3_m5
        have p4_m5 : qRB (m5 99) (m 100) (m 98) (m 101) (m 102) (m5 103) (m 107) (m 108) (m5 109) (m5 111) (m 112) (m5 113) (m5 114) (m5 94 55) (m 94 46) ro 0 0 0 1 (rCl aa) := p4_m5
        have p5_m5 : qRv (rCl aa) := p5_m5
        have p6_m5 : qRL (rCl aa) (m 94 18) (m 94 64) (m 94 19) (m5 94 63) (m5 116) := p6_m5
        have p7_m5 : (m5 94 45).toInt = sm (zbU (m5 99)) (m 102) 3100 := p7_m5
        try have rlb := RL_b r_RL r_RV
        refine sp_232rz (aa := (rCl aa)) (nw) hV_m5 (by omega) (by omega) p5_m5 p6_m5 (fun v8 m7 hV_m7 p0_m7 p1_m7 p2_m7 => zmi_n ?_)
        have p0_m7 : qRL (rFt (rCl aa) nw v8) (m 94 18) (m 94 64) (m 94 19) (m5 94 63) (m7 116) := p0_m7
        have p1_m7 : qFI (rCl aa) nw.toInt v8.toInt := p1_m7
        have p2_m7 : -1 ≤ v8.toInt ∧ v8.toInt ≤ 1500 := p2_m7
        have b15 := i_bd v8
        refine zd (fun (h16 : v8 < (0 : Int32)) => ?_) (fun (h16 : ¬ v8 < (0 : Int32)) => ?_)
        · skip
          have g17 := i_lt h16
          try have rlb := RL_b r_RL r_RV
          refine sp_234rz (aa := (rCl aa))  hV_m7 p5_m5 (show qRL (rCl aa) (m 94 18) (m 94 64) (m 94 19) (m5 94 63) (m7 116) from by first | (exact (show qRL (rCl aa) _ _ _ _ _ from by have q := p0_m7; rw [rFt_n (by omega)] at q; exact q)) | (exact p0_m7) | (exfalso; omega; done) | (exfalso; contradiction; done)) (fun v10 m9 hV_m9 p0_m9 p1_m9 => zmi_n ?_)
          have p0_m9 : zLE (m7 116) (m 94 64) v10 := p0_m9
          have p1_m9 : qEq v10.toInt (rLe (rCl aa)) := p1_m9
          try have rgb := rs_94_64 hV
          try have lel := LE_lo p0_m9
          try have lex := LE_ex p0_m9 (p0_m3.elim (fun z => by omega) id)
          try have lex3 := LE_ex p0_m9 (lexi (by omega))
          try have lexi := LE_some p0_m9
          try have lqq := qE p1_m9
          have b18 := i_bd v10
          refine zd (fun (h19 : (0 : Int32) ≤ v10) => ?_) (fun (h19 : ¬ (0 : Int32) ≤ v10) => ?_)
          · skip
            have g20 := i_le h19
            try have rlb := RL_b r_RL r_RV
            refine sp_234rz (aa := (rCl aa))  hV_m9 p5_m5 (show qRL (rCl aa) (m 94 18) (m 94 64) (m 94 19) (m5 94 63) (m7 116) from by first | (exact (show qRL (rCl aa) _ _ _ _ _ from by have q := p0_m7; rw [rFt_n (by omega)] at q; exact q)) | (exact p0_m7) | (exfalso; omega; done) | (exfalso; contradiction; done)) (fun v12 m11 hV_m11 p0_m11 p1_m11 => zmi_n ?_)
            have p0_m11 : zLE (m7 116) (m 94 64) v12 := p0_m11
            have p1_m11 : qEq v12.toInt (rLe (rCl aa)) := p1_m11
            try have rgb := rs_94_64 hV
            try have lel := LE_lo p0_m11
            try have lex := LE_ex p0_m11 (p0_m3.elim (fun z => by omega) id)
            try have lex3 := LE_ex p0_m11 (lexi (by omega))
            try have lexi := LE_some p0_m11
            try have lqq := qE p1_m11
            have b22 := i_bd v12
            have hV21 : zV (ma_u (zov wr_234 (zov wr_234 (zov wr_232 (zov wr_235 (zov wr_233 (zov wr_232 m m1) m3) m5) m7) m9) m11) 94 63 v12) := us_94_63 hV_m11 (by omega) (by omega)
            try have rlb := RL_b r_RL r_RV
            refine sp_232rz (aa := (ma_u (rCl aa) 87 9 v12)) (nw) hV21 (by omega) (by omega) (show qRv (ma_u (rCl aa) 87 9 v12) from by first | (have lq := qE p1_m11; have ly := Le_y (a := (rCl aa)) (by have := LE_lo p0_m11; omega); exact Rv_9 p5_m5 (by omega) (by omega); done) | (exact p5_m5) | (exfalso; omega; done) | (exfalso; contradiction; done)) (show qRL (ma_u (rCl aa) 87 9 v12) (m 94 18) (m 94 64) (m 94 19) v12 (m7 116) from by first | (exact RL_9 (show qRL (rCl aa) _ _ _ _ _ from by have q := p0_m7; rw [rFt_n (by omega)] at q; exact q)) | (exact p0_m7) | (exfalso; omega; done) | (exfalso; contradiction; done)) (fun v14 m13 hV_m13 p0_m13 p1_m13 p2_m13 => zmi_n ?_)
            have p0_m13 : qRL (rFt (ma_u (rCl aa) 87 9 v12) nw v14) (m 94 18) (m 94 64) (m 94 19) v12 (m13 116) := p0_m13
            have p1_m13 : qFI (ma_u (rCl aa) 87 9 v12) nw.toInt v14.toInt := p1_m13
            have p2_m13 : -1 ≤ v14.toInt ∧ v14.toInt ≤ 1500 := p2_m13
            try have rlb := RL_b r_RL r_RV
            have b23 := i_bd v14
            exact K (v14) _ (zF_zov (zF_u (zF_zov (zF_zov (zF_zov (zF_zov (zF_zov (zF_zov zF_rfl ws_232_231) ws_233_231) ws_235_231) ws_232_231) ws_234_231) ws_234_231) rfl) ws_232_231) hV_m13 p0_m5 p1_m5 p2_m5 (show -1 ≤ v14.toInt ∧ v14.toInt ≤ 1500 from by omega) (show qRB (m5 99) (m 100) (m 98) (m 101) (m 102) (m5 103) (m 107) (m 108) (m5 109) (m5 111) (m 112) (m5 113) (m5 114) (m5 94 55) (m 94 46) ro 0 0 0 1 (rGt aa nw v14) from by first | (have E := (FS (by rw [r_RL.1]; omega) (R1_c (FI_no p1_m1 (by omega)) (by have ef := qE p1_m3; omega)) (R2_l (FI_no p1_m7 (by omega)) (qE p1_m11) (by have := LE_lo p0_m11; omega)) p1_m13); unfold rGt; rw [E.1]; exact RB_ft (RB_87k p4_m5 (by decide) (by decide) (by decide) (by decide) (by decide)); done) | (exfalso; omega; done) | (exfalso; contradiction; done)) (show qRv (rGt aa nw v14) from by first | (have E := (FS (by rw [r_RL.1]; omega) (R1_c (FI_no p1_m1 (by omega)) (by have ef := qE p1_m3; omega)) (R2_l (FI_no p1_m7 (by omega)) (qE p1_m11) (by have := LE_lo p0_m11; omega)) p1_m13); unfold rGt; rw [E.1]; exact Rv_ft (Rv_9 p5_m5 (by have lq := qE p1_m11; have ly := Le_y (a := (rCl aa)) (by have := LE_lo p0_m11; omega); omega) (by have lq := qE p1_m11; have ly := Le_y (a := (rCl aa)) (by have := LE_lo p0_m11; omega); omega)) E.2.2 (by omega); done) | (exact p5_m5) | (exfalso; omega; done) | (exfalso; contradiction; done)) (show qRL (rGt aa nw v14) (m 94 18) (m 94 64) (m 94 19) v12 (m13 116) from by first | (have E := (FS (by rw [r_RL.1]; omega) (R1_c (FI_no p1_m1 (by omega)) (by have ef := qE p1_m3; omega)) (R2_l (FI_no p1_m7 (by omega)) (qE p1_m11) (by have := LE_lo p0_m11; omega)) p1_m13); unfold rGt; rw [E.1]; exact p0_m13; done) | (exact p0_m13) | (exfalso; omega; done) | (exfalso; contradiction; done)) (show qEq v14.toInt (rRp aa nw.toInt) from by first | (have E := (FS (by rw [r_RL.1]; omega) (R1_c (FI_no p1_m1 (by omega)) (by have ef := qE p1_m3; omega)) (R2_l (FI_no p1_m7 (by omega)) (qE p1_m11) (by have := LE_lo p0_m11; omega)) p1_m13); exact E.2.1; done) | (exfalso; omega; done) | (exfalso; contradiction; done)) (show qRv (rRs aa nw.toInt) from by first | (have E := (FS (by rw [r_RL.1]; omega) (R1_c (FI_no p1_m1 (by omega)) (by have ef := qE p1_m3; omega)) (R2_l (FI_no p1_m7 (by omega)) (qE p1_m11) (by have := LE_lo p0_m11; omega)) p1_m13); rw [E.1]; exact (Rv_9 p5_m5 (by have lq := qE p1_m11; have ly := Le_y (a := (rCl aa)) (by have := LE_lo p0_m11; omega); omega) (by have lq := qE p1_m11; have ly := Le_y (a := (rCl aa)) (by have := LE_lo p0_m11; omega); omega)); done) | (exfalso; omega; done) | (exfalso; contradiction; done)) p7_m5
          · skip
            have g24 := i_nle h19
            try have rlb := RL_b r_RL r_RV
            have li25 : (-1 : Int32).toInt = -1 := rfl
            exact K ((-1 : Int32)) _ (zF_zov (zF_zov (zF_zov (zF_zov (zF_zov zF_rfl ws_232_231) ws_233_231) ws_235_231) ws_232_231) ws_234_231) hV_m9 p0_m5 p1_m5 p2_m5 (show -1 ≤ (-1 : Int32).toInt ∧ (-1 : Int32).toInt ≤ 1500 from by omega) (show qRB (m5 99) (m 100) (m 98) (m 101) (m 102) (m5 103) (m 107) (m 108) (m5 109) (m5 111) (m 112) (m5 113) (m5 114) (m5 94 55) (m 94 46) ro 0 0 0 1 (rGt aa nw (-1 : Int32)) from by first | (have E := (FS (v := (-1 : Int32)) (by rw [r_RL.1]; omega) (R1_c (FI_no p1_m1 (by omega)) (by have ef := qE p1_m3; omega)) (R2_n (FI_no p1_m7 (by omega)) (by have lq := qE p1_m9; have := LE_lo p0_m9; omega)) (Or.inl ⟨rfl, FI_no p1_m7 (by omega)⟩)); unfold rGt; rw [E.1]; exact RB_ft p4_m5; done) | (exfalso; omega; done) | (exfalso; contradiction; done)) (show qRv (rGt aa nw (-1 : Int32)) from by first | (have E := (FS (v := (-1 : Int32)) (by rw [r_RL.1]; omega) (R1_c (FI_no p1_m1 (by omega)) (by have ef := qE p1_m3; omega)) (R2_n (FI_no p1_m7 (by omega)) (by have lq := qE p1_m9; have := LE_lo p0_m9; omega)) (Or.inl ⟨rfl, FI_no p1_m7 (by omega)⟩)); unfold rGt; rw [E.1]; exact Rv_ft p5_m5 E.2.2 (by omega); done) | (exact p5_m5) | (exfalso; omega; done) | (exfalso; contradiction; done)) (show qRL (rGt aa nw (-1 : Int32)) (m 94 18) (m 94 64) (m 94 19) (m5 94 63) (m7 116) from by first | (have E := (FS (v := (-1 : Int32)) (by rw [r_RL.1]; omega) (R1_c (FI_no p1_m1 (by omega)) (by have ef := qE p1_m3; omega)) (R2_n (FI_no p1_m7 (by omega)) (by have lq := qE p1_m9; have := LE_lo p0_m9; omega)) (Or.inl ⟨rfl, FI_no p1_m7 (by omega)⟩)); unfold rGt; rw [E.1, rFt_n (by decide)]; have q := p0_m7; rw [rFt_n (by omega)] at q; exact q; done) | (exact p0_m7) | (exfalso; omega; done) | (exfalso; contradiction; done)) (show qEq (-1 : Int32).toInt (rRp aa nw.toInt) from by first | (have E := (FS (v := (-1 : Int32)) (by rw [r_RL.1]; omega) (R1_c (FI_no p1_m1 (by omega)) (by have ef := qE p1_m3; omega)) (R2_n (FI_no p1_m7 (by omega)) (by have lq := qE p1_m9; have := LE_lo p0_m9; omega)) (Or.inl ⟨rfl, FI_no p1_m7 (by omega)⟩)); exact E.2.1; done) | (exfalso; omega; done) | (exfalso; contradiction; done)) (show qRv (rRs aa nw.toInt) from by first | (have E := (FS (v := (-1 : Int32)) (by rw [r_RL.1]; omega) (R1_c (FI_no p1_m1 (by omega)) (by have ef := qE p1_m3; omega)) (R2_n (FI_no p1_m7 (by omega)) (by have lq := qE p1_m9; have := LE_lo p0_m9; omega)) (Or.inl ⟨rfl, FI_no p1_m7 (by omega)⟩)); rw [E.1]; exact p5_m5; done) | (exfalso; omega; done) | (exfalso; contradiction; done)) p7_m5
        · skip
          have g26 := i_nlt h16
          try have rlb := RL_b r_RL r_RV
          exact K (v8) _ (zF_zov (zF_zov (zF_zov (zF_zov zF_rfl ws_232_231) ws_233_231) ws_235_231) ws_232_231) hV_m7 p0_m5 p1_m5 p2_m5 (show -1 ≤ v8.toInt ∧ v8.toInt ≤ 1500 from by omega) (show qRB (m5 99) (m 100) (m 98) (m 101) (m 102) (m5 103) (m 107) (m 108) (m5 109) (m5 111) (m 112) (m5 113) (m5 114) (m5 94 55) (m 94 46) ro 0 0 0 1 (rGt aa nw v8) from by first | (have E := (FS (by rw [r_RL.1]; omega) (R1_c (FI_no p1_m1 (by omega)) (by have ef := qE p1_m3; omega)) (R2_y (FI_ye p1_m7 (by omega))) p1_m7); unfold rGt; rw [E.1]; exact RB_ft p4_m5; done) | (exfalso; omega; done) | (exfalso; contradiction; done)) (show qRv (rGt aa nw v8) from by first | (have E := (FS (by rw [r_RL.1]; omega) (R1_c (FI_no p1_m1 (by omega)) (by have ef := qE p1_m3; omega)) (R2_y (FI_ye p1_m7 (by omega))) p1_m7); unfold rGt; rw [E.1]; exact Rv_ft p5_m5 E.2.2 (by omega); done) | (exact p5_m5) | (exfalso; omega; done) | (exfalso; contradiction; done)) (show qRL (rGt aa nw v8) (m 94 18) (m 94 64) (m 94 19) (m5 94 63) (m7 116) from by first | (have E := (FS (by rw [r_RL.1]; omega) (R1_c (FI_no p1_m1 (by omega)) (by have ef := qE p1_m3; omega)) (R2_y (FI_ye p1_m7 (by omega))) p1_m7); unfold rGt; rw [E.1]; exact p0_m7; done) | (exact p0_m7) | (exfalso; omega; done) | (exfalso; contradiction; done)) (show qEq v8.toInt (rRp aa nw.toInt) from by first | (have E := (FS (by rw [r_RL.1]; omega) (R1_c (FI_no p1_m1 (by omega)) (by have ef := qE p1_m3; omega)) (R2_y (FI_ye p1_m7 (by omega))) p1_m7); exact E.2.1; done) | (exfalso; omega; done) | (exfalso; contradiction; done)) (show qRv (rRs aa nw.toInt) from by first | (have E := (FS (by rw [r_RL.1]; omega) (R1_c (FI_no p1_m1 (by omega)) (by have ef := qE p1_m3; omega)) (R2_y (FI_ye p1_m7 (by omega))) p1_m7); rw [E.1]; exact p5_m5; done) | (exfalso; omega; done) | (exfalso; contradiction; done)) p7_m5
      · skip
        have g27 := i_nlt h13
        try have rlb := RL_b r_RL r_RV
        refine sp_234rz (aa := aa)  hV_m3 r_RV (show qRL aa (m 94 18) (m 94 64) (m 94 19) (m 94 63) (m1 116) from by first | (exact (show qRL aa _ _ _ _ _ from by have q := p0_m1; rw [rFt_n (by omega)] at q; exact q)) | (exact p0_m1) | (exfalso; omega; done) | (exfalso; contradiction; done)) (fun v16 m15 hV_m15 p0_m15 p1_m15 => zmi_n ?_)
        have p0_m15 : zLE (m1 116) (m 94 64) v16 := p0_m15
        have p1_m15 : qEq v16.toInt (rLe aa) := p1_m15
        try have rgb := rs_94_64 hV
        try have lel := LE_lo p0_m15
        try have lex := LE_ex p0_m15 (p0_m3.elim (fun z => by omega) id)
        try have lex3 := LE_ex p0_m15 (lexi (by omega))
        try have lexi := LE_some p0_m15
        try have lqq := qE p1_m15
        have b29 := i_bd v16
        have hV28 : zV (ma_u (zov wr_234 (zov wr_233 (zov wr_232 m m1) m3) m15) 94 63 v16) := us_94_63 hV_m15 (by omega) (by omega)
        try have rlb := RL_b r_RL r_RV
        refine sp_232rz (aa := (ma_u aa 87 9 v16)) (nw) hV28 (by omega) (by omega) (show qRv (ma_u aa 87 9 v16) from by first | (have lq := qE p1_m15; have ly := Le_y (a := aa) (by have := LE_lo p0_m15; omega); exact Rv_9 r_RV (by omega) (by omega); done) | (exact r_RV) | (exfalso; omega; done) | (exfalso; contradiction; done)) (show qRL (ma_u aa 87 9 v16) (m 94 18) (m 94 64) (m 94 19) v16 (m1 116) from by first | (exact RL_9 (show qRL aa _ _ _ _ _ from by have q := p0_m1; rw [rFt_n (by omega)] at q; exact q)) | (exact p0_m1) | (exfalso; omega; done) | (exfalso; contradiction; done)) (fun v18 m17 hV_m17 p0_m17 p1_m17 p2_m17 => zmi_n ?_)
        have p0_m17 : qRL (rFt (ma_u aa 87 9 v16) nw v18) (m 94 18) (m 94 64) (m 94 19) v16 (m17 116) := p0_m17
        have p1_m17 : qFI (ma_u aa 87 9 v16) nw.toInt v18.toInt := p1_m17
        have p2_m17 : -1 ≤ v18.toInt ∧ v18.toInt ≤ 1500 := p2_m17
        try have rlb := RL_b r_RL r_RV
        have b30 := i_bd v18
        exact K (v18) _ (zF_zov (zF_u (zF_zov (zF_zov (zF_zov zF_rfl ws_232_231) ws_233_231) ws_234_231) rfl) ws_232_231) hV_m17 r_GW r_GU r_OW (show -1 ≤ v18.toInt ∧ v18.toInt ≤ 1500 from by omega) (show qRB (m 99) (m 100) (m 98) (m 101) (m 102) (m 103) (m 107) (m 108) (m 109) (m 111) (m 112) (m 113) (m 114) (m 94 55) (m 94 46) ro 0 0 0 1 (rGt aa nw v18) from by first | (have E := (FS (by rw [r_RL.1]; omega) (R1_n (FI_no p1_m1 (by omega)) (by have ef := qE p1_m3; omega)) (R2_l (FI_no p1_m1 (by omega)) (qE p1_m15) (by have := LE_lo p0_m15; omega)) p1_m17); unfold rGt; rw [E.1]; exact RB_ft (RB_87k r_RB (by decide) (by decide) (by decide) (by decide) (by decide)); done) | (exfalso; omega; done) | (exfalso; contradiction; done)) (show qRv (rGt aa nw v18) from by first | (have E := (FS (by rw [r_RL.1]; omega) (R1_n (FI_no p1_m1 (by omega)) (by have ef := qE p1_m3; omega)) (R2_l (FI_no p1_m1 (by omega)) (qE p1_m15) (by have := LE_lo p0_m15; omega)) p1_m17); unfold rGt; rw [E.1]; exact Rv_ft (Rv_9 r_RV (by have lq := qE p1_m15; have ly := Le_y (a := aa) (by have := LE_lo p0_m15; omega); omega) (by have lq := qE p1_m15; have ly := Le_y (a := aa) (by have := LE_lo p0_m15; omega); omega)) E.2.2 (by omega); done) | (exact r_RV) | (exfalso; omega; done) | (exfalso; contradiction; done)) (show qRL (rGt aa nw v18) (m 94 18) (m 94 64) (m 94 19) v16 (m17 116) from by first | (have E := (FS (by rw [r_RL.1]; omega) (R1_n (FI_no p1_m1 (by omega)) (by have ef := qE p1_m3; omega)) (R2_l (FI_no p1_m1 (by omega)) (qE p1_m15) (by have := LE_lo p0_m15; omega)) p1_m17); unfold rGt; rw [E.1]; exact p0_m17; done) | (exact p0_m17) | (exfalso; omega; done) | (exfalso; contradiction; done)) (show qEq v18.toInt (rRp aa nw.toInt) from by first | (have E := (FS (by rw [r_RL.1]; omega) (R1_n (FI_no p1_m1 (by omega)) (by have ef := qE p1_m3; omega)) (R2_l (FI_no p1_m1 (by omega)) (qE p1_m15) (by have := LE_lo p0_m15; omega)) p1_m17); exact E.2.1; done) | (exfalso; omega; done) | (exfalso; contradiction; done)) (show qRv (rRs aa nw.toInt) from by first | (have E := (FS (by rw [r_RL.1]; omega) (R1_n (FI_no p1_m1 (by omega)) (by have ef := qE p1_m3; omega)) (R2_l (FI_no p1_m1 (by omega)) (qE p1_m15) (by have := LE_lo p0_m15; omega)) p1_m17); rw [E.1]; exact (Rv_9 r_RV (by have lq := qE p1_m15; have ly := Le_y (a := aa) (by have := LE_lo p0_m15; omega); omega) (by have lq := qE p1_m15; have ly := Le_y (a := aa) (by have := LE_lo p0_m15; omega); omega)); done) | (exfalso; omega; done) | (exfalso; contradiction; done)) r_WTS
    · skip
      have g31 := i_nlt h9
      try have rlb := RL_b r_RL r_RV
      exact K (v2) _ (zF_zov zF_rfl ws_232_231) hV_m1 r_GW r_GU r_OW (show -1 ≤ v2.toInt ∧ v2.toInt ≤ 1500 from by omega) (show qRB (m 99) (m 100) (m 98) (m 101) (m 102) (m 103) (m 107) (m 108) (m 109) (m 111) (m 112) (m 113) (m 114) (m 94 55) (m 94 46) ro 0 0 0 1 (rGt aa nw v2) from by first | (have E := (FS (by rw [r_RL.1]; omega) (R1_y (FI_ye p1_m1 (by omega))) (R2_y (FI_ye p1_m1 (by omega))) p1_m1); unfold rGt; rw [E.1]; exact RB_ft r_RB; done) | (exfalso; omega; done) | (exfalso; contradiction; done)) (show qRv (rGt aa nw v2) from by first | (have E := (FS (by rw [r_RL.1]; omega) (R1_y (FI_ye p1_m1 (by omega))) (R2_y (FI_ye p1_m1 (by omega))) p1_m1); unfold rGt; rw [E.1]; exact Rv_ft r_RV E.2.2 (by omega); done) | (exact r_RV) | (exfalso; omega; done) | (exfalso; contradiction; done)) (show qRL (rGt aa nw v2) (m 94 18) (m 94 64) (m 94 19) (m 94 63) (m1 116) from by first | (have E := (FS (by rw [r_RL.1]; omega) (R1_y (FI_ye p1_m1 (by omega))) (R2_y (FI_ye p1_m1 (by omega))) p1_m1); unfold rGt; rw [E.1]; exact p0_m1; done) | (exact p0_m1) | (exfalso; omega; done) | (exfalso; contradiction; done)) (show qEq v2.toInt (rRp aa nw.toInt) from by first | (have E := (FS (by rw [r_RL.1]; omega) (R1_y (FI_ye p1_m1 (by omega))) (R2_y (FI_ye p1_m1 (by omega))) p1_m1); exact E.2.1; done) | (exfalso; omega; done) | (exfalso; contradiction; done)) (show qRv (rRs aa nw.toInt) from by first | (have E := (FS (by rw [r_RL.1]; omega) (R1_y (FI_ye p1_m1 (by omega))) (R2_y (FI_ye p1_m1 (by omega))) p1_m1); rw [E.1]; exact r_RV; done) | (exfalso; omega; done) | (exfalso; contradiction; done)) r_WTS
  · skip
    have g32 := i_nle h5
    try have rlb := RL_b r_RL r_RV
    have li33 : (-1 : Int32).toInt = -1 := rfl
    exact K ((-1 : Int32)) _ zF_rfl hV r_GW r_GU r_OW (show -1 ≤ (-1 : Int32).toInt ∧ (-1 : Int32).toInt ≤ 1500 from by omega) (show qRB (m 99) (m 100) (m 98) (m 101) (m 102) (m 103) (m 107) (m 108) (m 109) (m 111) (m 112) (m 113) (m 114) (m 94 55) (m 94 46) ro 0 0 0 1 (rGt aa nw (-1 : Int32)) from by first | (have sz := congrArg Int32.toInt r_RL.1; have s := Rs_s (a := aa) (z := nw.toInt) (by omega); rw [rGt_n (by decide), s.1]; exact r_RB; done) | (exfalso; omega; done) | (exfalso; contradiction; done)) (show qRv (rGt aa nw (-1 : Int32)) from by first | (have sz := congrArg Int32.toInt r_RL.1; have s := Rs_s (a := aa) (z := nw.toInt) (by omega); rw [rGt_n (by decide), s.1]; exact r_RV; done) | (exact r_RV) | (exfalso; omega; done) | (exfalso; contradiction; done)) (show qRL (rGt aa nw (-1 : Int32)) (m 94 18) (m 94 64) (m 94 19) (m 94 63) (m 116) from by first | (have sz := congrArg Int32.toInt r_RL.1; have s := Rs_s (a := aa) (z := nw.toInt) (by omega); rw [rGt_n (by decide), s.1]; exact r_RL; done) | (exact r_RL) | (exfalso; omega; done) | (exfalso; contradiction; done)) (show qEq (-1 : Int32).toInt (rRp aa nw.toInt) from by first | (have sz := congrArg Int32.toInt r_RL.1; have s := Rs_s (a := aa) (z := nw.toInt) (by omega); show _ = _; rw [s.2]; rfl; done) | (exfalso; omega; done) | (exfalso; contradiction; done)) (show qRv (rRs aa nw.toInt) from by first | (have sz := congrArg Int32.toInt r_RL.1; have s := Rs_s (a := aa) (z := nw.toInt) (by omega); rw [s.1]; exact r_RV; done) | (exfalso; omega; done) | (exfalso; contradiction; done)) r_WTS
set_option maxHeartbeats 8000000 in
theorem sp_184rz {X : Nat × (Nat → Int32)} {P : Option ma_V → (Nat → Nat → Int32) → Prop} {T : Nat} {aa : Nat→Nat→Int32} {ro : Int32} {m : Nat → Nat → Int32} (nz : Int32) (hV : zV m) (hpre0 : 1 ≤ nz.toInt) (hpre1 : nz.toInt ≤ 61) (hpre2 : T ≤ 512) (r_W : zW (m 94 7) (m 98) (m 101) (m 102) (m 108)) (r_GW : zGW T (m 94 55) (m 109)) (r_GU : zGU T (m 94 46) (m 99)) (r_OW : zOw (m 99) (m 103) (m 111)) (r_GG : zGG (m 94 58) (m 94 56) (m 94 57) (m 106)) (hpre8 : (m 94 10).toInt = 6 ∧ (m 94 58).toInt = 0) (r_RB : qRB (m 99) (m 100) (m 98) (m 101) (m 102) (m 103) (m 107) (m 108) (m 109) (m 111) (m 112) (m 113) (m 114) (m 94 55) (m 94 46) ro 0 0 0 1 aa) (r_RV : qRv aa) (r_RL : qRL aa (m 94 18) (m 94 64) (m 94 19) (m 94 63) (m 116)) (r_MG : qMG (m 94 58) (m 106) (m 115) (m 94 57) (m 94 56) (m 99) (m 100) aa) (r_MK : aa 87 8 = (m 94 58)) (r_WTS : (m 94 45).toInt = sm (zbU (m 99)) (m 102) 3100) (KZ : ∀ v m₉, zV (zov wr_184 m m₉) → (zGW T (m₉ 94 55) (m₉ 109)) → (zGU T (m 94 46) (m₉ 99)) → (zOw (m₉ 99) (m₉ 103) (m₉ 111)) → (zGG (m₉ 94 58) (m₉ 94 56) (m₉ 94 57) (m₉ 106)) → (-1 ≤ v.toInt ∧ v.toInt ≤ 1500) → (qRB (m₉ 99) (m 100) (m 98) (m 101) (m 102) (m₉ 103) (m 107) (m 108) (m₉ 109) (m₉ 111) (m 112) (m₉ 113) (m₉ 114) (m₉ 94 55) (m 94 46) ro 0 0 0 1 (rGt aa nz v)) → (qRv (rGt aa nz v)) → (qRL (rGt aa nz v) (m 94 18) (m 94 64) (m 94 19) (m₉ 94 63) (m₉ 116)) → (qI (rGt aa nz v)) → (qMG (m₉ 94 58) (m₉ 106) (m₉ 115) (m₉ 94 57) (m₉ 94 56) (m₉ 99) (m 100) (rGt aa nz v)) → ((rGt aa nz v) 87 8 = (m₉ 94 58)) → ((m₉ 94 45).toInt = sm (zbU (m₉ 99)) (m 102) 3100) → (qEq v.toInt (rRp aa nz.toInt)) → (qRv (rRs aa nz.toInt)) → ((m₉ 94 58).toInt = 0) → P (some (.inl v)) (zov wr_184 m m₉)) : zm X 8 175 184 0 [(0, .inr (.inr (some 94))), (1, .inl nz)] m P := by
  have K : ∀ v m₉, zF wr_184 m m₉ → zV m₉ → (zGW T (m₉ 94 55) (m₉ 109)) → (zGU T (m₉ 94 46) (m₉ 99)) → (zOw (m₉ 99) (m₉ 103) (m₉ 111)) → (zGG (m₉ 94 58) (m₉ 94 56) (m₉ 94 57) (m₉ 106)) → (-1 ≤ v.toInt ∧ v.toInt ≤ 1500) → (qRB (m₉ 99) (m₉ 100) (m₉ 98) (m₉ 101) (m₉ 102) (m₉ 103) (m₉ 107) (m₉ 108) (m₉ 109) (m₉ 111) (m₉ 112) (m₉ 113) (m₉ 114) (m₉ 94 55) (m₉ 94 46) ro 0 0 0 1 (rGt aa nz v)) → (qRv (rGt aa nz v)) → (qRL (rGt aa nz v) (m₉ 94 18) (m₉ 94 64) (m₉ 94 19) (m₉ 94 63) (m₉ 116)) → (qI (rGt aa nz v)) → (qMG (m₉ 94 58) (m₉ 106) (m₉ 115) (m₉ 94 57) (m₉ 94 56) (m₉ 99) (m₉ 100) (rGt aa nz v)) → ((rGt aa nz v) 87 8 = (m₉ 94 58)) → ((m₉ 94 45).toInt = sm (zbU (m₉ 99)) (m₉ 102) 3100) → (qEq v.toInt (rRp aa nz.toInt)) → (qRv (rRs aa nz.toInt)) → ((m₉ 94 58).toInt = 0) → P (some (.inl v)) m₉ := by
    intro v m₉ hf z q0 q1 q2 q3 q4 q5 q6 q7 q8 q9 q10 q11 q12 q13 q14
    have e := zov_eq hf
    rw [e] at z ⊢
    try rw [e] at q0
    try rw [e] at q1
    try rw [e] at q2
    try rw [e] at q3
    try rw [e] at q4
    try rw [e] at q5
    try rw [e] at q6
    try rw [e] at q7
    try rw [e] at q8
    try rw [e] at q9
    try rw [e] at q10
    try rw [e] at q11
    try rw [e] at q12
    try rw [e] at q13
    try rw [e] at q14
    exact KZ v m₉ z q0 q1 q2 q3 q4 q5 q6 q7 q8 q9 q10 q11 q12 q13 q14
  refine g_184_0 nz ?_
  have f1 : 0 ≤ (m 94 10).toInt ∧ (m 94 10).toInt ≤ 6 := rs_94_10 (m := m) hV
  have f2 : 0 ≤ (m 94 58).toInt ∧ (m 94 58).toInt ≤ 1 := rs_94_58 (m := m) hV
  have li3 : (1 : Int32).toInt = 1 := rfl
  refine zd (fun (h4 : (m 94 10) = (1 : Int32)) => ?_) (fun (h4 : ¬ (m 94 10) = (1 : Int32)) => ?_)
  · skip
    have g5 := i_eq h4
    exfalso; omega
  · skip
    have g6 := i_ne h4
    have li7 : (2 : Int32).toInt = 2 := rfl
    refine zd (fun (h8 : (m 94 10) = (2 : Int32)) => ?_) (fun (h8 : ¬ (m 94 10) = (2 : Int32)) => ?_)
    · skip
      have g9 := i_eq h8
      exfalso; omega
    · skip
      have g10 := i_ne h8
      have li11 : (3 : Int32).toInt = 3 := rfl
      refine zd (fun (h12 : (m 94 10) = (3 : Int32)) => ?_) (fun (h12 : ¬ (m 94 10) = (3 : Int32)) => ?_)
      · skip
        have g13 := i_eq h12
        exfalso; omega
      · skip
        have g14 := i_ne h12
        have li15 : (4 : Int32).toInt = 4 := rfl
        refine zd (fun (h16 : (m 94 10) = (4 : Int32)) => ?_) (fun (h16 : ¬ (m 94 10) = (4 : Int32)) => ?_)
        · skip
          have g17 := i_eq h16
          exfalso; omega
        · skip
          have g18 := i_ne h16
          have li19 : (5 : Int32).toInt = 5 := rfl
          refine zd (fun (h20 : (m 94 10) = (5 : Int32)) => ?_) (fun (h20 : ¬ (m 94 10) = (5 : Int32)) => ?_)
          · skip
            have g21 := i_eq h20
            exfalso; omega
          · skip
            have g22 := i_ne h20
            have li23 : (6 : Int32).toInt = 6 := rfl
            refine zd (fun (h24 : (m 94 10) = (6 : Int32)) => ?_) (fun (h24 : ¬ (m 94 10) = (6 : Int32)) => ?_)
            · skip
              have g25 := i_eq h24
              have b26 := i_bd nz
              refine sp_231rz (aa := aa) (nz) hV (by omega) (by omega) (by omega) r_W r_GW r_GU r_OW (show (m 94 10).toInt = 6 ∧ (m 94 58).toInt = 0 from by omega) r_RB r_RV r_RL r_WTS (fun v16 m15 hV_m15 p0_m15 p1_m15 p2_m15 p3_m15 p4_m15 p5_m15 p6_m15 p7_m15 p8_m15 p9_m15 => zmi_n ?_)
              have p0_m15 : zGW T (m15 94 55) (m15 109) := p0_m15
              have p1_m15 : zGU T (m 94 46) (m15 99) := p1_m15
              have p2_m15 : zOw (m15 99) (m15 103) (m15 111) := p2_m15
              have p3_m15 : -1 ≤ v16.toInt ∧ v16.toInt ≤ 1500 := p3_m15
              have p4_m15 : qRB (m15 99) (m 100) (m 98) (m 101) (m 102) (m15 103) (m 107) (m 108) (m15 109) (m15 111) (m 112) (m15 113) (m15 114) (m15 94 55) (m 94 46) ro 0 0 0 1 (rGt aa nz v16) := p4_m15
              have p5_m15 : qRv (rGt aa nz v16) := p5_m15
              have p6_m15 : qRL (rGt aa nz v16) (m 94 18) (m 94 64) (m 94 19) (m15 94 63) (m15 116) := p6_m15
              have p7_m15 : qEq v16.toInt (rRp aa nz.toInt) := p7_m15
              have p8_m15 : qRv (rRs aa nz.toInt) := p8_m15
              have p9_m15 : (m15 94 45).toInt = sm (zbU (m15 99)) (m 102) 3100 := p9_m15
              have b27 := i_bd v16
              exact K (v16) _ (zF_zov zF_rfl ws_231_184) hV_m15 p0_m15 p1_m15 p2_m15 r_GG (show -1 ≤ v16.toInt ∧ v16.toInt ≤ 1500 from by omega) p4_m15 p5_m15 p6_m15 (show qI (rGt aa nz v16) from by first | (exact p5_m15.1) | (exfalso; omega; done) | (exfalso; contradiction; done)) (show qMG (m 94 58) (m 106) (m 115) (m 94 57) (m 94 56) (m15 99) (m 100) (rGt aa nz v16) from by first | (exact fun z => absurd (by omega) z) | (exfalso; omega; done) | (exfalso; contradiction; done)) (show (rGt aa nz v16) 87 8 = (m 94 58) from by first | (rw [Gt_7 (by decide)]; exact r_MK; done) | (exfalso; omega; done) | (exfalso; contradiction; done)) p9_m15 p7_m15 p8_m15 (show (m 94 58).toInt = 0 from by omega)
            · skip
              have g28 := i_ne h24
              exfalso; omega
set_option maxHeartbeats 8000000 in
theorem sp_256rz {X : Nat × (Nat → Int32)} {P : Option ma_V → (Nat → Nat → Int32) → Prop} {T : Nat} {aa : Nat→Nat→Int32} {ro : Int32} {m : Nat → Nat → Int32}  (hV : zV m) (hpre0 : T ≤ 512) (r_W : zW (m 94 7) (m 98) (m 101) (m 102) (m 108)) (r_GW : zGW T (m 94 55) (m 109)) (r_GU : zGU T (m 94 46) (m 99)) (r_OW : zOw (m 99) (m 103) (m 111)) (r_GG : zGG (m 94 58) (m 94 56) (m 94 57) (m 106)) (hpre6 : (m 94 10).toInt = 6 ∧ (m 94 58).toInt = 0) (hpre7 : (m 94 8).toInt = 1) (r_RB : qRB (m 99) (m 100) (m 98) (m 101) (m 102) (m 103) (m 107) (m 108) (m 109) (m 111) (m 112) (m 113) (m 114) (m 94 55) (m 94 46) ro 0 0 0 1 aa) (r_RV : qRv aa) (r_RL : qRL aa (m 94 18) (m 94 64) (m 94 19) (m 94 63) (m 116)) (r_MG : qMG (m 94 58) (m 106) (m 115) (m 94 57) (m 94 56) (m 99) (m 100) aa) (r_MK : aa 87 8 = (m 94 58)) (r_WTS : (m 94 45).toInt = sm (zbU (m 99)) (m 102) 3100) (KZ : ∀ v m₉, zV (zov wr_256 m m₉) → (zW (m 94 7) (m 98) (m 101) (m 102) (m 108)) → (zGW T (m₉ 94 55) (m₉ 109)) → (zGU T (m 94 46) (m₉ 99)) → (zOw (m₉ 99) (m₉ 103) (m₉ 111)) → (zGG (m₉ 94 58) (m₉ 94 56) (m₉ 94 57) (m₉ 106)) → (qRB (m₉ 99) (m 100) (m 98) (m 101) (m 102) (m₉ 103) (m 107) (m 108) (m₉ 109) (m₉ 111) (m 112) (m₉ 113) (m₉ 114) (m₉ 94 55) (m 94 46) ro 0 0 0 1 (rCl aa)) → (qRv (rCl aa)) → (qRL (rCl aa) (m 94 18) (m 94 64) (m 94 19) (m₉ 94 63) (m₉ 116)) → (qMG (m₉ 94 58) (m₉ 106) (m₉ 115) (m₉ 94 57) (m₉ 94 56) (m₉ 99) (m 100) (rCl aa)) → ((rCl aa) 87 8 = (m₉ 94 58)) → ((m₉ 94 45).toInt = sm (zbU (m₉ 99)) (m 102) 3100) → ((m₉ 94 58).toInt = 0) → P (some (.inl v)) (zov wr_256 m m₉)) : zm X 7 152 256 0 [(0, .inr (.inr (some 94)))] m P := by
  have K : ∀ v m₉, zF wr_256 m m₉ → zV m₉ → (zW (m₉ 94 7) (m₉ 98) (m₉ 101) (m₉ 102) (m₉ 108)) → (zGW T (m₉ 94 55) (m₉ 109)) → (zGU T (m₉ 94 46) (m₉ 99)) → (zOw (m₉ 99) (m₉ 103) (m₉ 111)) → (zGG (m₉ 94 58) (m₉ 94 56) (m₉ 94 57) (m₉ 106)) → (qRB (m₉ 99) (m₉ 100) (m₉ 98) (m₉ 101) (m₉ 102) (m₉ 103) (m₉ 107) (m₉ 108) (m₉ 109) (m₉ 111) (m₉ 112) (m₉ 113) (m₉ 114) (m₉ 94 55) (m₉ 94 46) ro 0 0 0 1 (rCl aa)) → (qRv (rCl aa)) → (qRL (rCl aa) (m₉ 94 18) (m₉ 94 64) (m₉ 94 19) (m₉ 94 63) (m₉ 116)) → (qMG (m₉ 94 58) (m₉ 106) (m₉ 115) (m₉ 94 57) (m₉ 94 56) (m₉ 99) (m₉ 100) (rCl aa)) → ((rCl aa) 87 8 = (m₉ 94 58)) → ((m₉ 94 45).toInt = sm (zbU (m₉ 99)) (m₉ 102) 3100) → ((m₉ 94 58).toInt = 0) → P (some (.inl v)) m₉ := by
    intro v m₉ hf z q0 q1 q2 q3 q4 q5 q6 q7 q8 q9 q10 q11
    have e := zov_eq hf
    rw [e] at z ⊢
    try rw [e] at q0
    try rw [e] at q1
    try rw [e] at q2
    try rw [e] at q3
    try rw [e] at q4
    try rw [e] at q5
    try rw [e] at q6
    try rw [e] at q7
    try rw [e] at q8
    try rw [e] at q9
    try rw [e] at q10
    try rw [e] at q11
    exact KZ v m₉ z q0 q1 q2 q3 q4 q5 q6 q7 q8 q9 q10 q11
  refine g_256_0  ?_
  have f1 : 0 ≤ (m 94 10).toInt ∧ (m 94 10).toInt ≤ 6 := rs_94_10 (m := m) hV
  have f2 : 0 ≤ (m 94 58).toInt ∧ (m 94 58).toInt ≤ 1 := rs_94_58 (m := m) hV
  have f3 : 0 ≤ (m 94 8).toInt ∧ (m 94 8).toInt ≤ 1 := rs_94_8 (m := m) hV
  have li4 : (0 : Int32).toInt = 0 := rfl
  refine zd (fun (h5 : (m 94 8) = (0 : Int32)) => ?_) (fun (h5 : ¬ (m 94 8) = (0 : Int32)) => ?_)
  · skip
    have g6 := i_eq h5
    exfalso; omega
  · skip
    have g7 := i_ne h5
    have li8 : (1 : Int32).toInt = 1 := rfl
    refine zd (fun (h9 : (m 94 10) = (1 : Int32)) => ?_) (fun (h9 : ¬ (m 94 10) = (1 : Int32)) => ?_)
    · skip
      have g10 := i_eq h9
      exfalso; omega
    · skip
      have g11 := i_ne h9
      have li12 : (2 : Int32).toInt = 2 := rfl
      refine zd (fun (h13 : (m 94 10) = (2 : Int32)) => ?_) (fun (h13 : ¬ (m 94 10) = (2 : Int32)) => ?_)
      · skip
        have g14 := i_eq h13
        exfalso; omega
      · skip
        have g15 := i_ne h13
        have li16 : (3 : Int32).toInt = 3 := rfl
        refine zd (fun (h17 : (m 94 10) = (3 : Int32)) => ?_) (fun (h17 : ¬ (m 94 10) = (3 : Int32)) => ?_)
        · skip
          have g18 := i_eq h17
          exfalso; omega
        · skip
          have g19 := i_ne h17
          have li20 : (4 : Int32).toInt = 4 := rfl
          refine zd (fun (h21 : (m 94 10) = (4 : Int32)) => ?_) (fun (h21 : ¬ (m 94 10) = (4 : Int32)) => ?_)
          · skip
            have g22 := i_eq h21
            exfalso; omega
          · skip
            have g23 := i_ne h21
            have li24 : (5 : Int32).toInt = 5 := rfl
            refine zd (fun (h25 : (m 94 10) = (5 : Int32)) => ?_) (fun (h25 : ¬ (m 94 10) = (5 : Int32)) => ?_)
            · skip
              have g26 := i_eq h25
              exfalso; omega
            · skip
              have g27 := i_ne h25
              have li28 : (6 : Int32).toInt = 6 := rfl
              refine zd (fun (h29 : (m 94 10) = (6 : Int32)) => ?_) (fun (h29 : ¬ (m 94 10) = (6 : Int32)) => ?_)
              · skip
                have g30 := i_eq h29
                have hV31 : zV (ma_u m 94 0 (0 : Int32)) := uf_94_0 hV
                refine sp_235rz (aa := aa)  hV31 (by omega) r_W r_GW r_GU r_OW (show (m 94 10).toInt = 6 ∧ (m 94 58).toInt = 0 from by omega) r_RB r_RV r_RL (show zRG1 (m 94 18) (m 94 64) (m 94 63) (m 99) (m 103) (m 102) (m 116) from by first | (exact RG_of r_RB r_RV r_RL) | (exfalso; omega; done) | (exfalso; contradiction; done)) r_WTS (fun v18 m17 hV_m17 p0_m17 p1_m17 p2_m17 p3_m17 p4_m17 p5_m17 p6_m17 p7_m17 => zmi_n ?_)
                have p0_m17 : zGW T (m17 94 55) (m17 109) := p0_m17
                have p1_m17 : zGU T (m 94 46) (m17 99) := p1_m17
                have p2_m17 : zOw (m17 99) (m17 103) (m17 111) := p2_m17
                have p3_m17 : zRG1 (m 94 18) (m 94 64) (m17 94 63) (m17 99) (m17 103) (m 102) (m17 116) := p3_m17
                have p4_m17 : qRB (m17 99) (m 100) (m 98) (m 101) (m 102) (m17 103) (m 107) (m 108) (m17 109) (m17 111) (m 112) (m17 113) (m17 114) (m17 94 55) (m 94 46) ro 0 0 0 1 (rCl aa) := p4_m17
                have p5_m17 : qRv (rCl aa) := p5_m17
                have p6_m17 : qRL (rCl aa) (m 94 18) (m 94 64) (m 94 19) (m17 94 63) (m17 116) := p6_m17
                have p7_m17 : (m17 94 45).toInt = sm (zbU (m17 99)) (m 102) 3100 := p7_m17
                have b32 := i_bd v18
                exact K (v18) _ (zF_zov (zF_u zF_rfl rfl) ws_235_256) hV_m17 r_W p0_m17 p1_m17 p2_m17 r_GG p4_m17 p5_m17 p6_m17 (show qMG (m 94 58) (m 106) (m 115) (m 94 57) (m 94 56) (m17 99) (m 100) (rCl aa) from by first | (exact fun z => absurd (by omega) z) | (exfalso; omega; done) | (exfalso; contradiction; done)) (show (rCl aa) 87 8 = (m 94 58) from by first | (rw [rCl_87 (by decide)]; exact r_MK; done) | (exfalso; omega; done) | (exfalso; contradiction; done)) p7_m17 (show (m 94 58).toInt = 0 from by omega)
              · skip
                have g33 := i_ne h29
                exfalso; omega

