/-! a call of each kind, and the loop -/
theorem la_10 {X : Nat × (Nat → Int32)} {C0 Z0 T : Nat} {S : ma_S} {Q : Option ma_V → ma_S → Prop} (i : Int32) (H0 : zLx C0 Z0 T S) (ht : T + 1 ≤ 512) (gd : ∀ j : Int32, (j = 1 ∨ j = 2 ∨ j = 3 ∨ j = 4 ∨ j = 5) → 0 ≤ i + j ∧ (i + j).toNatClampNeg < X.1) (K : ∀ S₉, zLx C0 Z0 (T + 1) S₉ → ma_fp X 0 13 494 957 [(0, .inr (.inr (some 30))), (1, .inr (.inr (some 64))), (2, .inr (.inr (some 94))), (3, .inr (.inr (some 125))), (4, .inl i)] [] S₉ Q) : ma_fp X 0 13 494 613 [(0, .inr (.inr (some 30))), (1, .inr (.inr (some 64))), (2, .inr (.inr (some 94))), (3, .inr (.inr (some 125))), (4, .inl i)] [] S Q := by
  obtain ⟨H, HW⟩ := H0
  refine gl_613 i (by decide) (by decide) H.1.1.1 ?_
  refine ⟨gd 1 (by decide), gd 2 (by decide), ?_⟩
  refine fw_10 (T := T) _ _ (by decide) (by decide) H.1 (lw_xb H) (lw_cc H) (lw_iv H) ht (fun v S2 hc hpr hte hke h65 h67 h87 h79 h84 h80 h81 h82 h91 => zfi_n ⟨hc.1.1.1, gd 1 (by decide), gd 2 (by decide), ?_⟩)
  refine wp_with (uw_251 _ _ (by decide) (by decide) H hc ht) ?_
  by_cases e : mR S 64 11 = some 87
  · obtain ⟨hB, aa, hsm, hz⟩ := H.2.2.2.2.2.2.2.2.2.1.1 e
    have k5 := K_5 hz
    have e5 := e5_of H hc e
    exact rs_251 _ _ (by decide) (by decide) hc.1.1.1 (ref_tr H.2.1 hc.2.1) ht e5.1 e5.2 (z5_tr hz hc.2.1) (fun v2 m₉ hr ho h3 h7 h95 e8 e10 e97 e98 e17 e27 hz₉ y3 e3 ha => zi_n ⟨hc.1.1.1, K _ (lx_of (fun hL => wl_st H HW hL hc hpr ho (fun w => pw_10 H ht h87 h79 h84 h80 h81 h82 h91 (cq_st hL hc hpr ho w) w) ha) (lw_q H hc hpr hte hke h65 h67 hr ho h3 h7 h95 e8 e10 e97 e98 e17 e27 (md_87 e (s5_st hc (h87 e).1 ho (by rw [(h87 e).2]; exact Sm_we hsm) hz₉))))⟩)
  by_cases e79 : mR S 64 11 = some 79
  · obtain ⟨hB, aa, hq, hz⟩ := H.2.2.2.2.2.2.2.2.2.1.2.1 e79
    have e5 := e0_of H hc e79
    exact r0_251 _ _ (by decide) (by decide) hc.1.1.1 (ref_tr H.2.1 hc.2.1) ht e5.1 e5.2 (zz_tr hz hc.2.1) (zz_58 (zz_tr hz hc.2.1) (Q_80 hq)) (fun v2 m₉ hr ho h3 h7 h95 e8 e10 e97 e98 e17 e27 hz₉ y3 e3 ha => zi_n ⟨hc.1.1.1, K _ (lx_of (fun hL => wl_st H HW hL hc hpr ho (fun w => pw_10 H ht h87 h79 h84 h80 h81 h82 h91 (cq_st hL hc hpr ho w) w) ha) (lw_q H hc hpr hte hke h65 h67 hr ho h3 h7 h95 e8 e10 e97 e98 e17 e27 (md_79 e79 (s0_st hc (h79 e79).1 ho (by exact Q_A hq (Ax_we (Q_88o hq)) (h79 e79).2.1 (h79 e79).2.2) hz₉))))⟩)
  by_cases e84 : mR S 64 11 = some 84
  · obtain ⟨hB, hC, aa, hq, hz, hk⟩ := H.2.2.2.2.2.2.2.2.2.1.2.2.1 e84
    have hv : cV aa [] (T : Int) := V_0 (C_o8 (O8_sy (Q_8 hq)) hC)
    have e5 := e4_of H hc e84
    exact r4_251 _ _ (by decide) (by decide) hc.1.1.1 (ref_tr H.2.1 hc.2.1) ht e5.1 e5.2 (zz_tr hz hc.2.1) (zk_tr hk hc.2.1) hv (zz_58 (zz_tr hz hc.2.1) (Q_80 hq)) (fun v2 m₉ hr ho h3 h7 h95 e8 e10 e97 e98 e17 e27 hz₉ hk₉ y3 e3 ha => zi_n ⟨hc.1.1.1, K _ (lx_of (fun hL => wl_st H HW hL hc hpr ho (fun w => pw_10 H ht h87 h79 h84 h80 h81 h82 h91 (cq_st hL hc hpr ho w) w) ha) (lw_q H hc hpr hte hke h65 h67 hr ho h3 h7 h95 e8 e10 e97 e98 e17 e27 (md_84 e84 (s4_st hc (h84 e84).1 ho (C_T (C_up (C_o8 (O8_sy T_88) (h84 e84).2.2.2))) (Q_A hq (Ax_we (Q_88o hq)) (h84 e84).2.1 (h84 e84).2.2.1) hz₉ hk₉))))⟩)
  by_cases e80 : mR S 64 11 = some 80
  · have hz := H.2.2.2.2.2.2.2.2.2.1.2.2.2.1 e80
    exact r1_251 _ _ (by decide) (by decide) hc.1.1.1 (ref_tr H.2.1 hc.2.1) ht (e80_of H hc e80).1 (e80_of H hc e80).2 (n1_tr hz.2 hc.2.1) (fun v2 m₉ hr ho h3 h7 h95 e8 e10 e97 e98 e17 e27 hz₉ y3 e3 ha => zi_n ⟨hc.1.1.1, K _ (lx_of (fun hL => wl_st H HW hL hc hpr ho (fun w => pw_10 H ht h87 h79 h84 h80 h81 h82 h91 (cq_st hL hc hpr ho w) w) ha) (lw_q H hc hpr hte hke h65 h67 hr ho h3 h7 h95 e8 e10 e97 e98 e17 e27 (md_80 e80 (s1_mst hc.1.1 (h80 e80).1 ho (h80 e80).2 hz₉))))⟩)
  by_cases e81 : mR S 64 11 = some 81
  · have hz := H.2.2.2.2.2.2.2.2.2.1.2.2.2.2.1 e81
    exact r2_251 _ _ (by decide) (by decide) hc.1.1.1 (ref_tr H.2.1 hc.2.1) ht (e81_of H hc e81).1 (e81_of H hc e81).2 (n2_tr hz.2 hc.2.1) (fun v2 m₉ hr ho h3 h7 h95 e8 e10 e97 e98 e17 e27 hz₉ y3 e3 ha => zi_n ⟨hc.1.1.1, K _ (lx_of (fun hL => wl_st H HW hL hc hpr ho (fun w => pw_10 H ht h87 h79 h84 h80 h81 h82 h91 (cq_st hL hc hpr ho w) w) ha) (lw_q H hc hpr hte hke h65 h67 hr ho h3 h7 h95 e8 e10 e97 e98 e17 e27 (md_81 e81 (s2_mst hc.1.1 (h81 e81).1 ho (h81 e81).2 hz₉))))⟩)
  by_cases e82 : mR S 64 11 = some 82
  · have hz := H.2.2.2.2.2.2.2.2.2.1.2.2.2.2.2.1 e82
    exact r3_251 _ _ (by decide) (by decide) hc.1.1.1 (ref_tr H.2.1 hc.2.1) ht (e82_of H hc e82).1 (e82_of H hc e82).2 (n3_tr hz.2 hc.2.1) (fun v2 m₉ hr ho h3 h7 h95 e8 e10 e97 e98 e17 e27 hz₉ y3 e3 ha => zi_n ⟨hc.1.1.1, K _ (lx_of (fun hL => wl_st H HW hL hc hpr ho (fun w => pw_10 H ht h87 h79 h84 h80 h81 h82 h91 (cq_st hL hc hpr ho w) w) ha) (lw_q H hc hpr hte hke h65 h67 hr ho h3 h7 h95 e8 e10 e97 e98 e17 e27 (md_82 e82 (s3_mst hc.1.1 (h82 e82).1 ho (h82 e82).2 hz₉))))⟩)
  by_cases e91 : mR S 64 11 = some 91
  · have hz := H.2.2.2.2.2.2.2.2.2.1.2.2.2.2.2.2 e91
    exact r6_251 _ _ (by decide) (by decide) hc.1.1.1 (ref_tr H.2.1 hc.2.1) ht (e91_of H hc e91).1 (e91_of H hc e91).2 (n6_tr hz.2 hc.2.1) (fun v2 m₉ hr ho h3 h7 h95 e8 e10 e97 e98 e17 e27 hz₉ y3 e3 ha => zi_n ⟨hc.1.1.1, K _ (lx_of (fun hL => wl_st H HW hL hc hpr ho (fun w => pw_10 H ht h87 h79 h84 h80 h81 h82 h91 (cq_st hL hc hpr ho w) w) ha) (lw_q H hc hpr hte hke h65 h67 hr ho h3 h7 h95 e8 e10 e97 e98 e17 e27 (md_91 e91 (s6_mst hc.1.1 (h91 e91).1 ho (h91 e91).2 hz₉))))⟩)
  exact rf_251 _ _ (by decide) (by decide) hc.1.1.1 (ref_tr H.2.1 hc.2.1) ht (fun v2 m₉ hr ho h3 h7 h95 e8 e10 e97 e98 e17 e27 y3 e3 ha => zi_n ⟨hc.1.1.1, K _ (lx_of (fun hL => wl_st H HW hL hc hpr ho (fun w => pw_10 H ht h87 h79 h84 h80 h81 h82 h91 (cq_st hL hc hpr ho w) w) ha) (lw_q H hc hpr hte hke h65 h67 hr ho h3 h7 h95 e8 e10 e97 e98 e17 e27 (md_no e e79 e84 e80 e81 e82 e91)))⟩)
theorem la_11 {X : Nat × (Nat → Int32)} {C0 Z0 T : Nat} {S : ma_S} {Q : Option ma_V → ma_S → Prop} (i : Int32) (H0 : zLx C0 Z0 T S) (ht : T + 1 ≤ 512) (gd : ∀ j : Int32, (j = 1 ∨ j = 2 ∨ j = 3 ∨ j = 4 ∨ j = 5) → 0 ≤ i + j ∧ (i + j).toNatClampNeg < X.1) (K : ∀ S₉, zLx C0 Z0 (T + 1) S₉ → ma_fp X 0 13 494 957 [(0, .inr (.inr (some 30))), (1, .inr (.inr (some 64))), (2, .inr (.inr (some 94))), (3, .inr (.inr (some 125))), (4, .inl i)] [] S₉ Q) : ma_fp X 0 13 494 653 [(0, .inr (.inr (some 30))), (1, .inr (.inr (some 64))), (2, .inr (.inr (some 94))), (3, .inr (.inr (some 125))), (4, .inl i)] [] S Q := by
  obtain ⟨H, HW⟩ := H0
  refine gl_653 i (by decide) (by decide) H.1.1.1 ?_
  refine ⟨gd 1 (by decide), gd 2 (by decide), ?_⟩
  refine fw_11 (T := T) _ _ (by decide) (by decide) H.1 (lw_xb H) (lw_cc H) (lw_iv H) ht (fun v S2 hc hpr hte hke h65 h67 h87 h79 h84 h80 h81 h82 h91 => zfi_n ⟨hc.1.1.1, gd 1 (by decide), gd 2 (by decide), ?_⟩)
  refine wp_with (uw_252 _ _ (by decide) (by decide) H hc ht) ?_
  by_cases e : mR S 64 11 = some 87
  · obtain ⟨hB, aa, hsm, hz⟩ := H.2.2.2.2.2.2.2.2.2.1.1 e
    have k5 := K_5 hz
    have e5 := e5_of H hc e
    exact rs_252 _ _ (by decide) (by decide) hc.1.1.1 (ref_tr H.2.1 hc.2.1) ht e5.1 e5.2 (z5_tr hz hc.2.1) (fun v2 m₉ hr ho h3 h7 h95 e8 e10 e97 e98 e17 e27 hz₉ y3 e3 ha => zi_n ⟨hc.1.1.1, K _ (lx_of (fun hL => wl_st H HW hL hc hpr ho (fun w => pw_11 H ht h87 h79 h84 h80 h81 h82 h91 (cq_st hL hc hpr ho w) w) ha) (lw_q H hc hpr hte hke h65 h67 hr ho h3 h7 h95 e8 e10 e97 e98 e17 e27 (md_87 e (s5_st hc (h87 e).1 ho (by rw [(h87 e).2]; exact Sm_xg hsm) hz₉))))⟩)
  by_cases e79 : mR S 64 11 = some 79
  · obtain ⟨hB, aa, hq, hz⟩ := H.2.2.2.2.2.2.2.2.2.1.2.1 e79
    have e5 := e0_of H hc e79
    exact r0_252 _ _ (by decide) (by decide) hc.1.1.1 (ref_tr H.2.1 hc.2.1) ht e5.1 e5.2 (zz_tr hz hc.2.1) (zz_58 (zz_tr hz hc.2.1) (Q_80 hq)) (fun v2 m₉ hr ho h3 h7 h95 e8 e10 e97 e98 e17 e27 hz₉ y3 e3 ha => zi_n ⟨hc.1.1.1, K _ (lx_of (fun hL => wl_st H HW hL hc hpr ho (fun w => pw_11 H ht h87 h79 h84 h80 h81 h82 h91 (cq_st hL hc hpr ho w) w) ha) (lw_q H hc hpr hte hke h65 h67 hr ho h3 h7 h95 e8 e10 e97 e98 e17 e27 (md_79 e79 (s0_st hc (h79 e79).1 ho (by rw [Sg_o (Q_80 hq)]; exact Q_A hq (Ax_sg (Q_88o hq)) (h79 e79).2.1 (h79 e79).2.2) hz₉))))⟩)
  by_cases e84 : mR S 64 11 = some 84
  · obtain ⟨hB, hC, aa, hq, hz, hk⟩ := H.2.2.2.2.2.2.2.2.2.1.2.2.1 e84
    have hv : cV aa [] (T : Int) := V_0 (C_o8 (O8_sy (Q_8 hq)) hC)
    have e5 := e4_of H hc e84
    exact r4_252 _ _ (by decide) (by decide) hc.1.1.1 (ref_tr H.2.1 hc.2.1) ht e5.1 e5.2 (zz_tr hz hc.2.1) (zk_tr hk hc.2.1) hv (zz_58 (zz_tr hz hc.2.1) (Q_80 hq)) (fun v2 m₉ hr ho h3 h7 h95 e8 e10 e97 e98 e17 e27 hz₉ hk₉ y3 e3 ha => zi_n ⟨hc.1.1.1, K _ (lx_of (fun hL => wl_st H HW hL hc hpr ho (fun w => pw_11 H ht h87 h79 h84 h80 h81 h82 h91 (cq_st hL hc hpr ho w) w) ha) (lw_q H hc hpr hte hke h65 h67 hr ho h3 h7 h95 e8 e10 e97 e98 e17 e27 (md_84 e84 (s4_st hc (h84 e84).1 ho (C_T (C_up (C_o8 (O8_sy T_88) (h84 e84).2.2.2))) (Q_A hq (Ax_ksg (Q_88o hq) hv) (h84 e84).2.1 (h84 e84).2.2.1) hz₉ hk₉))))⟩)
  by_cases e80 : mR S 64 11 = some 80
  · have hz := H.2.2.2.2.2.2.2.2.2.1.2.2.2.1 e80
    exact r1_252 _ _ (by decide) (by decide) hc.1.1.1 (ref_tr H.2.1 hc.2.1) ht (e80_of H hc e80).1 (e80_of H hc e80).2 (n1_tr hz.2 hc.2.1) (fun v2 m₉ hr ho h3 h7 h95 e8 e10 e97 e98 e17 e27 hz₉ y3 e3 ha => zi_n ⟨hc.1.1.1, K _ (lx_of (fun hL => wl_st H HW hL hc hpr ho (fun w => pw_11 H ht h87 h79 h84 h80 h81 h82 h91 (cq_st hL hc hpr ho w) w) ha) (lw_q H hc hpr hte hke h65 h67 hr ho h3 h7 h95 e8 e10 e97 e98 e17 e27 (md_80 e80 (s1_mst hc.1.1 (h80 e80).1 ho (h80 e80).2 hz₉))))⟩)
  by_cases e81 : mR S 64 11 = some 81
  · have hz := H.2.2.2.2.2.2.2.2.2.1.2.2.2.2.1 e81
    exact r2_252 _ _ (by decide) (by decide) hc.1.1.1 (ref_tr H.2.1 hc.2.1) ht (e81_of H hc e81).1 (e81_of H hc e81).2 (n2_tr hz.2 hc.2.1) (fun v2 m₉ hr ho h3 h7 h95 e8 e10 e97 e98 e17 e27 hz₉ y3 e3 ha => zi_n ⟨hc.1.1.1, K _ (lx_of (fun hL => wl_st H HW hL hc hpr ho (fun w => pw_11 H ht h87 h79 h84 h80 h81 h82 h91 (cq_st hL hc hpr ho w) w) ha) (lw_q H hc hpr hte hke h65 h67 hr ho h3 h7 h95 e8 e10 e97 e98 e17 e27 (md_81 e81 (s2_mst hc.1.1 (h81 e81).1 ho (h81 e81).2 hz₉))))⟩)
  by_cases e82 : mR S 64 11 = some 82
  · have hz := H.2.2.2.2.2.2.2.2.2.1.2.2.2.2.2.1 e82
    exact r3_252 _ _ (by decide) (by decide) hc.1.1.1 (ref_tr H.2.1 hc.2.1) ht (e82_of H hc e82).1 (e82_of H hc e82).2 (n3_tr hz.2 hc.2.1) (fun v2 m₉ hr ho h3 h7 h95 e8 e10 e97 e98 e17 e27 hz₉ y3 e3 ha => zi_n ⟨hc.1.1.1, K _ (lx_of (fun hL => wl_st H HW hL hc hpr ho (fun w => pw_11 H ht h87 h79 h84 h80 h81 h82 h91 (cq_st hL hc hpr ho w) w) ha) (lw_q H hc hpr hte hke h65 h67 hr ho h3 h7 h95 e8 e10 e97 e98 e17 e27 (md_82 e82 (s3_mst hc.1.1 (h82 e82).1 ho (h82 e82).2 hz₉))))⟩)
  by_cases e91 : mR S 64 11 = some 91
  · have hz := H.2.2.2.2.2.2.2.2.2.1.2.2.2.2.2.2 e91
    exact r6_252 _ _ (by decide) (by decide) hc.1.1.1 (ref_tr H.2.1 hc.2.1) ht (e91_of H hc e91).1 (e91_of H hc e91).2 (n6_tr hz.2 hc.2.1) (fun v2 m₉ hr ho h3 h7 h95 e8 e10 e97 e98 e17 e27 hz₉ y3 e3 ha => zi_n ⟨hc.1.1.1, K _ (lx_of (fun hL => wl_st H HW hL hc hpr ho (fun w => pw_11 H ht h87 h79 h84 h80 h81 h82 h91 (cq_st hL hc hpr ho w) w) ha) (lw_q H hc hpr hte hke h65 h67 hr ho h3 h7 h95 e8 e10 e97 e98 e17 e27 (md_91 e91 (s6_mst hc.1.1 (h91 e91).1 ho (h91 e91).2 hz₉))))⟩)
  exact rf_252 _ _ (by decide) (by decide) hc.1.1.1 (ref_tr H.2.1 hc.2.1) ht (fun v2 m₉ hr ho h3 h7 h95 e8 e10 e97 e98 e17 e27 y3 e3 ha => zi_n ⟨hc.1.1.1, K _ (lx_of (fun hL => wl_st H HW hL hc hpr ho (fun w => pw_11 H ht h87 h79 h84 h80 h81 h82 h91 (cq_st hL hc hpr ho w) w) ha) (lw_q H hc hpr hte hke h65 h67 hr ho h3 h7 h95 e8 e10 e97 e98 e17 e27 (md_no e e79 e84 e80 e81 e82 e91)))⟩)
theorem la_12 {X : Nat × (Nat → Int32)} {C0 Z0 T : Nat} {S : ma_S} {Q : Option ma_V → ma_S → Prop} (i : Int32) (H0 : zLx C0 Z0 T S) (ht : T + 1 ≤ 512) (gd : ∀ j : Int32, (j = 1 ∨ j = 2 ∨ j = 3 ∨ j = 4 ∨ j = 5) → 0 ≤ i + j ∧ (i + j).toNatClampNeg < X.1) (K : ∀ S₉, zLx C0 Z0 (T + 1) S₉ → ma_fp X 0 13 494 957 [(0, .inr (.inr (some 30))), (1, .inr (.inr (some 64))), (2, .inr (.inr (some 94))), (3, .inr (.inr (some 125))), (4, .inl i)] [] S₉ Q) : ma_fp X 0 13 494 693 [(0, .inr (.inr (some 30))), (1, .inr (.inr (some 64))), (2, .inr (.inr (some 94))), (3, .inr (.inr (some 125))), (4, .inl i)] [] S Q := by
  obtain ⟨H, HW⟩ := H0
  refine gl_693 i (by decide) (by decide) H.1.1.1 ?_
  refine ⟨gd 1 (by decide), gd 2 (by decide), zd (fun hb => ?_) (fun hb => ?_)⟩
  · refine fw_12 (T := T) _ _ (by decide) (by decide) H.1 (Or.inl rfl) (lw_xb H) (lw_cc H) (lw_iv H) ht (fun v S2 hc hpr hte hke h65 h67 h87 h79 h84 h80 h81 h82 h91 => zfi_n ⟨hc.1.1.1, gd 1 (by decide), gd 2 (by decide), zt hb ?_⟩)
    refine wp_with (uw_253 _ _ (by decide) (by decide) H hc ht) ?_
    by_cases e : mR S 64 11 = some 87
    · obtain ⟨hB, aa, hsm, hz⟩ := H.2.2.2.2.2.2.2.2.2.1.1 e
      have k5 := K_5 hz
      have e5 := e5_of H hc e
      exact rs_253 _ _ (by decide) (by decide) hc.1.1.1 (ref_tr H.2.1 hc.2.1) ht e5.1 e5.2 (z5_tr hz hc.2.1) (by decide) (by decide) (fun v2 m₉ hr ho h3 h7 h95 e8 e10 e97 e98 e17 e27 hz₉ y3 e3 ha => zi_n ⟨hc.1.1.1, K _ (lx_of (fun hL => wl_st H HW hL hc hpr ho (fun w => pw_12 H ht h87 h79 h84 h80 h81 h82 h91 (cq_st hL hc hpr ho w) w) ha) (lw_q H hc hpr hte hke h65 h67 hr ho h3 h7 h95 e8 e10 e97 e98 e17 e27 (md_87 e (s5_st hc (h87 e).1 ho (by rw [(h87 e).2]; exact Sm_ho hsm) hz₉))))⟩)
    by_cases e79 : mR S 64 11 = some 79
    · obtain ⟨hB, aa, hq, hz⟩ := H.2.2.2.2.2.2.2.2.2.1.2.1 e79
      have e5 := e0_of H hc e79
      exact r0_253 _ _ (by decide) (by decide) hc.1.1.1 (ref_tr H.2.1 hc.2.1) ht e5.1 e5.2 (zz_tr hz hc.2.1) (zz_58 (zz_tr hz hc.2.1) (Q_80 hq)) (by decide) (by decide) (fun v2 m₉ hr ho h3 h7 h95 e8 e10 e97 e98 e17 e27 hz₉ y3 e3 ha => zi_n ⟨hc.1.1.1, K _ (lx_of (fun hL => wl_st H HW hL hc hpr ho (fun w => pw_12 H ht h87 h79 h84 h80 h81 h82 h91 (cq_st hL hc hpr ho w) w) ha) (lw_q H hc hpr hte hke h65 h67 hr ho h3 h7 h95 e8 e10 e97 e98 e17 e27 (md_79 e79 (s0_st hc (h79 e79).1 ho (by exact Q_A hq (Ax_ho (Q_88o hq)) (h79 e79).2.1 (h79 e79).2.2) hz₉))))⟩)
    by_cases e84 : mR S 64 11 = some 84
    · obtain ⟨hB, hC, aa, hq, hz, hk⟩ := H.2.2.2.2.2.2.2.2.2.1.2.2.1 e84
      have hv : cV aa [] (T : Int) := V_0 (C_o8 (O8_sy (Q_8 hq)) hC)
      have e5 := e4_of H hc e84
      exact r4_253 _ _ (by decide) (by decide) hc.1.1.1 (ref_tr H.2.1 hc.2.1) ht e5.1 e5.2 (zz_tr hz hc.2.1) (zk_tr hk hc.2.1) hv (zz_58 (zz_tr hz hc.2.1) (Q_80 hq)) (by decide) (by decide) (fun v2 m₉ hr ho h3 h7 h95 e8 e10 e97 e98 e17 e27 hz₉ hk₉ y3 e3 ha => zi_n ⟨hc.1.1.1, K _ (lx_of (fun hL => wl_st H HW hL hc hpr ho (fun w => pw_12 H ht h87 h79 h84 h80 h81 h82 h91 (cq_st hL hc hpr ho w) w) ha) (lw_q H hc hpr hte hke h65 h67 hr ho h3 h7 h95 e8 e10 e97 e98 e17 e27 (md_84 e84 (s4_st hc (h84 e84).1 ho (C_T (C_o8 (O8_sy T_88) (h84 e84).2.2.2)) (Q_A hq (Ax_kho (Q_88o hq) hv (by omega)) (h84 e84).2.1 (h84 e84).2.2.1) hz₉ hk₉))))⟩)
    by_cases e80 : mR S 64 11 = some 80
    · have hz := H.2.2.2.2.2.2.2.2.2.1.2.2.2.1 e80
      exact r1_253 _ _ (by decide) (by decide) hc.1.1.1 (ref_tr H.2.1 hc.2.1) ht (e80_of H hc e80).1 (e80_of H hc e80).2 (n1_tr hz.2 hc.2.1) (by decide) (by decide) (fun v2 m₉ hr ho h3 h7 h95 e8 e10 e97 e98 e17 e27 hz₉ y3 e3 ha => zi_n ⟨hc.1.1.1, K _ (lx_of (fun hL => wl_st H HW hL hc hpr ho (fun w => pw_12 H ht h87 h79 h84 h80 h81 h82 h91 (cq_st hL hc hpr ho w) w) ha) (lw_q H hc hpr hte hke h65 h67 hr ho h3 h7 h95 e8 e10 e97 e98 e17 e27 (md_80 e80 (s1_mst hc.1.1 (h80 e80).1 ho (h80 e80).2 hz₉))))⟩)
    by_cases e81 : mR S 64 11 = some 81
    · have hz := H.2.2.2.2.2.2.2.2.2.1.2.2.2.2.1 e81
      exact r2_253 _ _ (by decide) (by decide) hc.1.1.1 (ref_tr H.2.1 hc.2.1) ht (e81_of H hc e81).1 (e81_of H hc e81).2 (n2_tr hz.2 hc.2.1) (by decide) (by decide) (fun v2 m₉ hr ho h3 h7 h95 e8 e10 e97 e98 e17 e27 hz₉ y3 e3 ha => zi_n ⟨hc.1.1.1, K _ (lx_of (fun hL => wl_st H HW hL hc hpr ho (fun w => pw_12 H ht h87 h79 h84 h80 h81 h82 h91 (cq_st hL hc hpr ho w) w) ha) (lw_q H hc hpr hte hke h65 h67 hr ho h3 h7 h95 e8 e10 e97 e98 e17 e27 (md_81 e81 (s2_mst hc.1.1 (h81 e81).1 ho (h81 e81).2 hz₉))))⟩)
    by_cases e82 : mR S 64 11 = some 82
    · have hz := H.2.2.2.2.2.2.2.2.2.1.2.2.2.2.2.1 e82
      exact r3_253 _ _ (by decide) (by decide) hc.1.1.1 (ref_tr H.2.1 hc.2.1) ht (e82_of H hc e82).1 (e82_of H hc e82).2 (n3_tr hz.2 hc.2.1) (by decide) (by decide) (fun v2 m₉ hr ho h3 h7 h95 e8 e10 e97 e98 e17 e27 hz₉ y3 e3 ha => zi_n ⟨hc.1.1.1, K _ (lx_of (fun hL => wl_st H HW hL hc hpr ho (fun w => pw_12 H ht h87 h79 h84 h80 h81 h82 h91 (cq_st hL hc hpr ho w) w) ha) (lw_q H hc hpr hte hke h65 h67 hr ho h3 h7 h95 e8 e10 e97 e98 e17 e27 (md_82 e82 (s3_mst hc.1.1 (h82 e82).1 ho (h82 e82).2 hz₉))))⟩)
    by_cases e91 : mR S 64 11 = some 91
    · have hz := H.2.2.2.2.2.2.2.2.2.1.2.2.2.2.2.2 e91
      exact r6_253 _ _ (by decide) (by decide) hc.1.1.1 (ref_tr H.2.1 hc.2.1) ht (e91_of H hc e91).1 (e91_of H hc e91).2 (n6_tr hz.2 hc.2.1) (by decide) (by decide) (fun v2 m₉ hr ho h3 h7 h95 e8 e10 e97 e98 e17 e27 hz₉ y3 e3 ha => zi_n ⟨hc.1.1.1, K _ (lx_of (fun hL => wl_st H HW hL hc hpr ho (fun w => pw_12 H ht h87 h79 h84 h80 h81 h82 h91 (cq_st hL hc hpr ho w) w) ha) (lw_q H hc hpr hte hke h65 h67 hr ho h3 h7 h95 e8 e10 e97 e98 e17 e27 (md_91 e91 (s6_mst hc.1.1 (h91 e91).1 ho (h91 e91).2 hz₉))))⟩)
    exact rf_253 _ _ (by decide) (by decide) hc.1.1.1 (ref_tr H.2.1 hc.2.1) ht (fun v2 m₉ hr ho h3 h7 h95 e8 e10 e97 e98 e17 e27 y3 e3 ha => zi_n ⟨hc.1.1.1, K _ (lx_of (fun hL => wl_st H HW hL hc hpr ho (fun w => pw_12 H ht h87 h79 h84 h80 h81 h82 h91 (cq_st hL hc hpr ho w) w) ha) (lw_q H hc hpr hte hke h65 h67 hr ho h3 h7 h95 e8 e10 e97 e98 e17 e27 (md_no e e79 e84 e80 e81 e82 e91)))⟩)
  · refine fw_12 (T := T) _ _ (by decide) (by decide) H.1 (Or.inr rfl) (lw_xb H) (lw_cc H) (lw_iv H) ht (fun v S2 hc hpr hte hke h65 h67 h87 h79 h84 h80 h81 h82 h91 => zfi_n ⟨hc.1.1.1, gd 1 (by decide), gd 2 (by decide), zf hb ?_⟩)
    refine wp_with (uw_253 _ _ (by decide) (by decide) H hc ht) ?_
    by_cases e : mR S 64 11 = some 87
    · obtain ⟨hB, aa, hsm, hz⟩ := H.2.2.2.2.2.2.2.2.2.1.1 e
      have k5 := K_5 hz
      have e5 := e5_of H hc e
      exact rs_253 _ _ (by decide) (by decide) hc.1.1.1 (ref_tr H.2.1 hc.2.1) ht e5.1 e5.2 (z5_tr hz hc.2.1) (by decide) (by decide) (fun v2 m₉ hr ho h3 h7 h95 e8 e10 e97 e98 e17 e27 hz₉ y3 e3 ha => zi_n ⟨hc.1.1.1, K _ (lx_of (fun hL => wl_st H HW hL hc hpr ho (fun w => pw_12 H ht h87 h79 h84 h80 h81 h82 h91 (cq_st hL hc hpr ho w) w) ha) (lw_q H hc hpr hte hke h65 h67 hr ho h3 h7 h95 e8 e10 e97 e98 e17 e27 (md_87 e (s5_st hc (h87 e).1 ho (by rw [(h87 e).2]; exact Sm_ho hsm) hz₉))))⟩)
    by_cases e79 : mR S 64 11 = some 79
    · obtain ⟨hB, aa, hq, hz⟩ := H.2.2.2.2.2.2.2.2.2.1.2.1 e79
      have e5 := e0_of H hc e79
      exact r0_253 _ _ (by decide) (by decide) hc.1.1.1 (ref_tr H.2.1 hc.2.1) ht e5.1 e5.2 (zz_tr hz hc.2.1) (zz_58 (zz_tr hz hc.2.1) (Q_80 hq)) (by decide) (by decide) (fun v2 m₉ hr ho h3 h7 h95 e8 e10 e97 e98 e17 e27 hz₉ y3 e3 ha => zi_n ⟨hc.1.1.1, K _ (lx_of (fun hL => wl_st H HW hL hc hpr ho (fun w => pw_12 H ht h87 h79 h84 h80 h81 h82 h91 (cq_st hL hc hpr ho w) w) ha) (lw_q H hc hpr hte hke h65 h67 hr ho h3 h7 h95 e8 e10 e97 e98 e17 e27 (md_79 e79 (s0_st hc (h79 e79).1 ho (by exact Q_A hq (Ax_ho (Q_88o hq)) (h79 e79).2.1 (h79 e79).2.2) hz₉))))⟩)
    by_cases e84 : mR S 64 11 = some 84
    · obtain ⟨hB, hC, aa, hq, hz, hk⟩ := H.2.2.2.2.2.2.2.2.2.1.2.2.1 e84
      have hv : cV aa [] (T : Int) := V_0 (C_o8 (O8_sy (Q_8 hq)) hC)
      have e5 := e4_of H hc e84
      exact r4_253 _ _ (by decide) (by decide) hc.1.1.1 (ref_tr H.2.1 hc.2.1) ht e5.1 e5.2 (zz_tr hz hc.2.1) (zk_tr hk hc.2.1) hv (zz_58 (zz_tr hz hc.2.1) (Q_80 hq)) (by decide) (by decide) (fun v2 m₉ hr ho h3 h7 h95 e8 e10 e97 e98 e17 e27 hz₉ hk₉ y3 e3 ha => zi_n ⟨hc.1.1.1, K _ (lx_of (fun hL => wl_st H HW hL hc hpr ho (fun w => pw_12 H ht h87 h79 h84 h80 h81 h82 h91 (cq_st hL hc hpr ho w) w) ha) (lw_q H hc hpr hte hke h65 h67 hr ho h3 h7 h95 e8 e10 e97 e98 e17 e27 (md_84 e84 (s4_st hc (h84 e84).1 ho (C_T (C_o8 (O8_sy T_88) (h84 e84).2.2.2)) (Q_A hq (Ax_kho (Q_88o hq) hv (by omega)) (h84 e84).2.1 (h84 e84).2.2.1) hz₉ hk₉))))⟩)
    by_cases e80 : mR S 64 11 = some 80
    · have hz := H.2.2.2.2.2.2.2.2.2.1.2.2.2.1 e80
      exact r1_253 _ _ (by decide) (by decide) hc.1.1.1 (ref_tr H.2.1 hc.2.1) ht (e80_of H hc e80).1 (e80_of H hc e80).2 (n1_tr hz.2 hc.2.1) (by decide) (by decide) (fun v2 m₉ hr ho h3 h7 h95 e8 e10 e97 e98 e17 e27 hz₉ y3 e3 ha => zi_n ⟨hc.1.1.1, K _ (lx_of (fun hL => wl_st H HW hL hc hpr ho (fun w => pw_12 H ht h87 h79 h84 h80 h81 h82 h91 (cq_st hL hc hpr ho w) w) ha) (lw_q H hc hpr hte hke h65 h67 hr ho h3 h7 h95 e8 e10 e97 e98 e17 e27 (md_80 e80 (s1_mst hc.1.1 (h80 e80).1 ho (h80 e80).2 hz₉))))⟩)
    by_cases e81 : mR S 64 11 = some 81
    · have hz := H.2.2.2.2.2.2.2.2.2.1.2.2.2.2.1 e81
      exact r2_253 _ _ (by decide) (by decide) hc.1.1.1 (ref_tr H.2.1 hc.2.1) ht (e81_of H hc e81).1 (e81_of H hc e81).2 (n2_tr hz.2 hc.2.1) (by decide) (by decide) (fun v2 m₉ hr ho h3 h7 h95 e8 e10 e97 e98 e17 e27 hz₉ y3 e3 ha => zi_n ⟨hc.1.1.1, K _ (lx_of (fun hL => wl_st H HW hL hc hpr ho (fun w => pw_12 H ht h87 h79 h84 h80 h81 h82 h91 (cq_st hL hc hpr ho w) w) ha) (lw_q H hc hpr hte hke h65 h67 hr ho h3 h7 h95 e8 e10 e97 e98 e17 e27 (md_81 e81 (s2_mst hc.1.1 (h81 e81).1 ho (h81 e81).2 hz₉))))⟩)
    by_cases e82 : mR S 64 11 = some 82
    · have hz := H.2.2.2.2.2.2.2.2.2.1.2.2.2.2.2.1 e82
      exact r3_253 _ _ (by decide) (by decide) hc.1.1.1 (ref_tr H.2.1 hc.2.1) ht (e82_of H hc e82).1 (e82_of H hc e82).2 (n3_tr hz.2 hc.2.1) (by decide) (by decide) (fun v2 m₉ hr ho h3 h7 h95 e8 e10 e97 e98 e17 e27 hz₉ y3 e3 ha => zi_n ⟨hc.1.1.1, K _ (lx_of (fun hL => wl_st H HW hL hc hpr ho (fun w => pw_12 H ht h87 h79 h84 h80 h81 h82 h91 (cq_st hL hc hpr ho w) w) ha) (lw_q H hc hpr hte hke h65 h67 hr ho h3 h7 h95 e8 e10 e97 e98 e17 e27 (md_82 e82 (s3_mst hc.1.1 (h82 e82).1 ho (h82 e82).2 hz₉))))⟩)
    by_cases e91 : mR S 64 11 = some 91
    · have hz := H.2.2.2.2.2.2.2.2.2.1.2.2.2.2.2.2 e91
      exact r6_253 _ _ (by decide) (by decide) hc.1.1.1 (ref_tr H.2.1 hc.2.1) ht (e91_of H hc e91).1 (e91_of H hc e91).2 (n6_tr hz.2 hc.2.1) (by decide) (by decide) (fun v2 m₉ hr ho h3 h7 h95 e8 e10 e97 e98 e17 e27 hz₉ y3 e3 ha => zi_n ⟨hc.1.1.1, K _ (lx_of (fun hL => wl_st H HW hL hc hpr ho (fun w => pw_12 H ht h87 h79 h84 h80 h81 h82 h91 (cq_st hL hc hpr ho w) w) ha) (lw_q H hc hpr hte hke h65 h67 hr ho h3 h7 h95 e8 e10 e97 e98 e17 e27 (md_91 e91 (s6_mst hc.1.1 (h91 e91).1 ho (h91 e91).2 hz₉))))⟩)
    exact rf_253 _ _ (by decide) (by decide) hc.1.1.1 (ref_tr H.2.1 hc.2.1) ht (fun v2 m₉ hr ho h3 h7 h95 e8 e10 e97 e98 e17 e27 y3 e3 ha => zi_n ⟨hc.1.1.1, K _ (lx_of (fun hL => wl_st H HW hL hc hpr ho (fun w => pw_12 H ht h87 h79 h84 h80 h81 h82 h91 (cq_st hL hc hpr ho w) w) ha) (lw_q H hc hpr hte hke h65 h67 hr ho h3 h7 h95 e8 e10 e97 e98 e17 e27 (md_no e e79 e84 e80 e81 e82 e91)))⟩)
theorem la_13 {X : Nat × (Nat → Int32)} {C0 Z0 T : Nat} {S : ma_S} {Q : Option ma_V → ma_S → Prop} (i : Int32) (H0 : zLx C0 Z0 T S) (ht : T + 1 ≤ 512) (gd : ∀ j : Int32, (j = 1 ∨ j = 2 ∨ j = 3 ∨ j = 4 ∨ j = 5) → 0 ≤ i + j ∧ (i + j).toNatClampNeg < X.1) (K : ∀ S₉, zLx C0 Z0 (T + 1) S₉ → ma_fp X 0 13 494 957 [(0, .inr (.inr (some 30))), (1, .inr (.inr (some 64))), (2, .inr (.inr (some 94))), (3, .inr (.inr (some 125))), (4, .inl i)] [] S₉ Q) : ma_fp X 0 13 494 749 [(0, .inr (.inr (some 30))), (1, .inr (.inr (some 64))), (2, .inr (.inr (some 94))), (3, .inr (.inr (some 125))), (4, .inl i)] [] S Q := by
  obtain ⟨H, HW⟩ := H0
  refine gl_749 i (by decide) (by decide) H.1.1.1 ?_
  refine ⟨gd 1 (by decide), ?_⟩
  refine fw_13 (T := T) _ (by decide) (by decide) H.1 (lw_xb H) (lw_cc H) (lw_iv H) ht (fun v S2 hc hpr hte hke h65 h67 h87 h79 h84 h80 h81 h82 h91 => zfi_n ⟨hc.1.1.1, gd 1 (by decide), ?_⟩)
  refine wp_with (uw_254 _ (by decide) (by decide) H hc ht) ?_
  by_cases e : mR S 64 11 = some 87
  · obtain ⟨hB, aa, hsm, hz⟩ := H.2.2.2.2.2.2.2.2.2.1.1 e
    have k5 := K_5 hz
    have e5 := e5_of H hc e
    exact rs_254 _ (by decide) (by decide) hc.1.1.1 (ref_tr H.2.1 hc.2.1) ht e5.1 e5.2 (z5_tr hz hc.2.1) (fun v2 m₉ hr ho h3 h7 h95 e8 e10 e97 e98 e17 e27 hz₉ y3 e3 ha => zi_n ⟨hc.1.1.1, K _ (lx_of (fun hL => wl_st H HW hL hc hpr ho (fun w => pw_13 H ht h87 h79 h84 h80 h81 h82 h91 (cq_st hL hc hpr ho w) w) ha) (lw_q H hc hpr hte hke h65 h67 hr ho h3 h7 h95 e8 e10 e97 e98 e17 e27 (md_87 e (s5_st hc (h87 e).1 ho (by rw [(h87 e).2]; exact Sm_wi hsm) hz₉))))⟩)
  by_cases e79 : mR S 64 11 = some 79
  · obtain ⟨hB, aa, hq, hz⟩ := H.2.2.2.2.2.2.2.2.2.1.2.1 e79
    have e5 := e0_of H hc e79
    exact r0_254 _ (by decide) (by decide) hc.1.1.1 (ref_tr H.2.1 hc.2.1) ht e5.1 e5.2 (zz_tr hz hc.2.1) (zz_58 (zz_tr hz hc.2.1) (Q_80 hq)) (fun v2 m₉ hr ho h3 h7 h95 e8 e10 e97 e98 e17 e27 hz₉ y3 e3 ha => zi_n ⟨hc.1.1.1, K _ (lx_of (fun hL => wl_st H HW hL hc hpr ho (fun w => pw_13 H ht h87 h79 h84 h80 h81 h82 h91 (cq_st hL hc hpr ho w) w) ha) (lw_q H hc hpr hte hke h65 h67 hr ho h3 h7 h95 e8 e10 e97 e98 e17 e27 (md_79 e79 (s0_st hc (h79 e79).1 ho (by exact Q_A hq (Ax_wi (Q_88o hq)) (h79 e79).2.1 (h79 e79).2.2) hz₉))))⟩)
  by_cases e84 : mR S 64 11 = some 84
  · obtain ⟨hB, hC, aa, hq, hz, hk⟩ := H.2.2.2.2.2.2.2.2.2.1.2.2.1 e84
    have hv : cV aa [] (T : Int) := V_0 (C_o8 (O8_sy (Q_8 hq)) hC)
    have e5 := e4_of H hc e84
    exact r4_254 _ (by decide) (by decide) hc.1.1.1 (ref_tr H.2.1 hc.2.1) ht e5.1 e5.2 (zz_tr hz hc.2.1) (zk_tr hk hc.2.1) hv (zz_58 (zz_tr hz hc.2.1) (Q_80 hq)) (fun v2 m₉ hr ho h3 h7 h95 e8 e10 e97 e98 e17 e27 hz₉ hk₉ y3 e3 ha => zi_n ⟨hc.1.1.1, K _ (lx_of (fun hL => wl_st H HW hL hc hpr ho (fun w => pw_13 H ht h87 h79 h84 h80 h81 h82 h91 (cq_st hL hc hpr ho w) w) ha) (lw_q H hc hpr hte hke h65 h67 hr ho h3 h7 h95 e8 e10 e97 e98 e17 e27 (md_84 e84 (s4_st hc (h84 e84).1 ho (C_T (C_up (C_o8 (O8_sy T_88) (h84 e84).2.2.2))) (Q_A hq (Ax_wi (Q_88o hq)) (h84 e84).2.1 (h84 e84).2.2.1) hz₉ hk₉))))⟩)
  by_cases e80 : mR S 64 11 = some 80
  · have hz := H.2.2.2.2.2.2.2.2.2.1.2.2.2.1 e80
    exact r1_254 _ (by decide) (by decide) hc.1.1.1 (ref_tr H.2.1 hc.2.1) ht (e80_of H hc e80).1 (e80_of H hc e80).2 (n1_tr hz.2 hc.2.1) (fun v2 m₉ hr ho h3 h7 h95 e8 e10 e97 e98 e17 e27 hz₉ y3 e3 ha => zi_n ⟨hc.1.1.1, K _ (lx_of (fun hL => wl_st H HW hL hc hpr ho (fun w => pw_13 H ht h87 h79 h84 h80 h81 h82 h91 (cq_st hL hc hpr ho w) w) ha) (lw_q H hc hpr hte hke h65 h67 hr ho h3 h7 h95 e8 e10 e97 e98 e17 e27 (md_80 e80 (s1_mst hc.1.1 (h80 e80).1 ho (h80 e80).2 hz₉))))⟩)
  by_cases e81 : mR S 64 11 = some 81
  · have hz := H.2.2.2.2.2.2.2.2.2.1.2.2.2.2.1 e81
    exact r2_254 _ (by decide) (by decide) hc.1.1.1 (ref_tr H.2.1 hc.2.1) ht (e81_of H hc e81).1 (e81_of H hc e81).2 (n2_tr hz.2 hc.2.1) (fun v2 m₉ hr ho h3 h7 h95 e8 e10 e97 e98 e17 e27 hz₉ y3 e3 ha => zi_n ⟨hc.1.1.1, K _ (lx_of (fun hL => wl_st H HW hL hc hpr ho (fun w => pw_13 H ht h87 h79 h84 h80 h81 h82 h91 (cq_st hL hc hpr ho w) w) ha) (lw_q H hc hpr hte hke h65 h67 hr ho h3 h7 h95 e8 e10 e97 e98 e17 e27 (md_81 e81 (s2_mst hc.1.1 (h81 e81).1 ho (h81 e81).2 hz₉))))⟩)
  by_cases e82 : mR S 64 11 = some 82
  · have hz := H.2.2.2.2.2.2.2.2.2.1.2.2.2.2.2.1 e82
    exact r3_254 _ (by decide) (by decide) hc.1.1.1 (ref_tr H.2.1 hc.2.1) ht (e82_of H hc e82).1 (e82_of H hc e82).2 (n3_tr hz.2 hc.2.1) (fun v2 m₉ hr ho h3 h7 h95 e8 e10 e97 e98 e17 e27 hz₉ y3 e3 ha => zi_n ⟨hc.1.1.1, K _ (lx_of (fun hL => wl_st H HW hL hc hpr ho (fun w => pw_13 H ht h87 h79 h84 h80 h81 h82 h91 (cq_st hL hc hpr ho w) w) ha) (lw_q H hc hpr hte hke h65 h67 hr ho h3 h7 h95 e8 e10 e97 e98 e17 e27 (md_82 e82 (s3_mst hc.1.1 (h82 e82).1 ho (h82 e82).2 hz₉))))⟩)
  by_cases e91 : mR S 64 11 = some 91
  · have hz := H.2.2.2.2.2.2.2.2.2.1.2.2.2.2.2.2 e91
    exact r6_254 _ (by decide) (by decide) hc.1.1.1 (ref_tr H.2.1 hc.2.1) ht (e91_of H hc e91).1 (e91_of H hc e91).2 (n6_tr hz.2 hc.2.1) (fun v2 m₉ hr ho h3 h7 h95 e8 e10 e97 e98 e17 e27 hz₉ y3 e3 ha => zi_n ⟨hc.1.1.1, K _ (lx_of (fun hL => wl_st H HW hL hc hpr ho (fun w => pw_13 H ht h87 h79 h84 h80 h81 h82 h91 (cq_st hL hc hpr ho w) w) ha) (lw_q H hc hpr hte hke h65 h67 hr ho h3 h7 h95 e8 e10 e97 e98 e17 e27 (md_91 e91 (s6_mst hc.1.1 (h91 e91).1 ho (h91 e91).2 hz₉))))⟩)
  exact rf_254 _ (by decide) (by decide) hc.1.1.1 (ref_tr H.2.1 hc.2.1) ht (fun v2 m₉ hr ho h3 h7 h95 e8 e10 e97 e98 e17 e27 y3 e3 ha => zi_n ⟨hc.1.1.1, K _ (lx_of (fun hL => wl_st H HW hL hc hpr ho (fun w => pw_13 H ht h87 h79 h84 h80 h81 h82 h91 (cq_st hL hc hpr ho w) w) ha) (lw_q H hc hpr hte hke h65 h67 hr ho h3 h7 h95 e8 e10 e97 e98 e17 e27 (md_no e e79 e84 e80 e81 e82 e91)))⟩)
theorem la_14 {X : Nat × (Nat → Int32)} {C0 Z0 T : Nat} {S : ma_S} {Q : Option ma_V → ma_S → Prop} (i : Int32) (H0 : zLx C0 Z0 T S) (ht : T + 1 ≤ 512) (gd : ∀ j : Int32, (j = 1 ∨ j = 2 ∨ j = 3 ∨ j = 4 ∨ j = 5) → 0 ≤ i + j ∧ (i + j).toNatClampNeg < X.1) (K : ∀ S₉, zLx C0 Z0 (T + 1) S₉ → ma_fp X 0 13 494 957 [(0, .inr (.inr (some 30))), (1, .inr (.inr (some 64))), (2, .inr (.inr (some 94))), (3, .inr (.inr (some 125))), (4, .inl i)] [] S₉ Q) : ma_fp X 0 13 494 777 [(0, .inr (.inr (some 30))), (1, .inr (.inr (some 64))), (2, .inr (.inr (some 94))), (3, .inr (.inr (some 125))), (4, .inl i)] [] S Q := by
  obtain ⟨H, HW⟩ := H0
  refine gl_777 i (by decide) (by decide) H.1.1.1 ?_
  refine ⟨gd 1 (by decide), ?_⟩
  refine fw_14 (T := T) _ (by decide) (by decide) H.1 (lw_xb H) (lw_cc H) (lw_iv H) ht (fun v S2 hc hpr hte hke h65 h67 h87 h79 h84 h80 h81 h82 h91 => zfi_n ⟨hc.1.1.1, gd 1 (by decide), ?_⟩)
  refine wp_with (uw_255 _ (by decide) (by decide) H hc ht) ?_
  by_cases e : mR S 64 11 = some 87
  · obtain ⟨hB, aa, hsm, hz⟩ := H.2.2.2.2.2.2.2.2.2.1.1 e
    have k5 := K_5 hz
    have e5 := e5_of H hc e
    exact rs_255 _ (by decide) (by decide) hc.1.1.1 (ref_tr H.2.1 hc.2.1) ht e5.1 e5.2 (z5_tr hz hc.2.1) (fun v2 m₉ hr ho h3 h7 h95 e8 e10 e97 e98 e17 e27 hz₉ y3 e3 ha => zi_n ⟨hc.1.1.1, K _ (lx_of (fun hL => wl_st H HW hL hc hpr ho (fun w => pw_14 H ht h87 h79 h84 h80 h81 h82 h91 (cq_st hL hc hpr ho w) w) ha) (lw_q H hc hpr hte hke h65 h67 hr ho h3 h7 h95 e8 e10 e97 e98 e17 e27 (md_87 e (s5_st hc (h87 e).1 ho (by rw [(h87 e).2]; exact Sm_gr hsm) hz₉))))⟩)
  by_cases e79 : mR S 64 11 = some 79
  · obtain ⟨hB, aa, hq, hz⟩ := H.2.2.2.2.2.2.2.2.2.1.2.1 e79
    have e5 := e0_of H hc e79
    exact r0_255 _ (by decide) (by decide) hc.1.1.1 (ref_tr H.2.1 hc.2.1) ht e5.1 e5.2 (zz_tr hz hc.2.1) (zz_58 (zz_tr hz hc.2.1) (Q_80 hq)) (fun v2 m₉ hr ho h3 h7 h95 e8 e10 e97 e98 e17 e27 hz₉ y3 e3 ha => zi_n ⟨hc.1.1.1, K _ (lx_of (fun hL => wl_st H HW hL hc hpr ho (fun w => pw_14 H ht h87 h79 h84 h80 h81 h82 h91 (cq_st hL hc hpr ho w) w) ha) (lw_q H hc hpr hte hke h65 h67 hr ho h3 h7 h95 e8 e10 e97 e98 e17 e27 (md_79 e79 (s0_st hc (h79 e79).1 ho (by rw [Gr_o (Q_80 hq)]; exact Q_A hq (Ax_gr (Q_88o hq)) (h79 e79).2.1 (h79 e79).2.2) hz₉))))⟩)
  by_cases e84 : mR S 64 11 = some 84
  · obtain ⟨hB, hC, aa, hq, hz, hk⟩ := H.2.2.2.2.2.2.2.2.2.1.2.2.1 e84
    have hv : cV aa [] (T : Int) := V_0 (C_o8 (O8_sy (Q_8 hq)) hC)
    have e5 := e4_of H hc e84
    exact r4_255 _ (by decide) (by decide) hc.1.1.1 (ref_tr H.2.1 hc.2.1) ht e5.1 e5.2 (zz_tr hz hc.2.1) (zk_tr hk hc.2.1) hv (zz_58 (zz_tr hz hc.2.1) (Q_80 hq)) (fun v2 m₉ hr ho h3 h7 h95 e8 e10 e97 e98 e17 e27 hz₉ hk₉ y3 e3 ha => zi_n ⟨hc.1.1.1, K _ (lx_of (fun hL => wl_st H HW hL hc hpr ho (fun w => pw_14 H ht h87 h79 h84 h80 h81 h82 h91 (cq_st hL hc hpr ho w) w) ha) (lw_q H hc hpr hte hke h65 h67 hr ho h3 h7 h95 e8 e10 e97 e98 e17 e27 (md_84 e84 (s4_st hc (h84 e84).1 ho (C_T (C_up (C_o8 (O8_sy T_88) (h84 e84).2.2.2))) (Q_A hq (Ax_kgr (Q_88o hq) hv) (h84 e84).2.1 (h84 e84).2.2.1) hz₉ hk₉))))⟩)
  by_cases e80 : mR S 64 11 = some 80
  · have hz := H.2.2.2.2.2.2.2.2.2.1.2.2.2.1 e80
    exact r1_255 _ (by decide) (by decide) hc.1.1.1 (ref_tr H.2.1 hc.2.1) ht (e80_of H hc e80).1 (e80_of H hc e80).2 (n1_tr hz.2 hc.2.1) (fun v2 m₉ hr ho h3 h7 h95 e8 e10 e97 e98 e17 e27 hz₉ y3 e3 ha => zi_n ⟨hc.1.1.1, K _ (lx_of (fun hL => wl_st H HW hL hc hpr ho (fun w => pw_14 H ht h87 h79 h84 h80 h81 h82 h91 (cq_st hL hc hpr ho w) w) ha) (lw_q H hc hpr hte hke h65 h67 hr ho h3 h7 h95 e8 e10 e97 e98 e17 e27 (md_80 e80 (s1_mst hc.1.1 (h80 e80).1 ho (h80 e80).2 hz₉))))⟩)
  by_cases e81 : mR S 64 11 = some 81
  · have hz := H.2.2.2.2.2.2.2.2.2.1.2.2.2.2.1 e81
    exact r2_255 _ (by decide) (by decide) hc.1.1.1 (ref_tr H.2.1 hc.2.1) ht (e81_of H hc e81).1 (e81_of H hc e81).2 (n2_tr hz.2 hc.2.1) (fun v2 m₉ hr ho h3 h7 h95 e8 e10 e97 e98 e17 e27 hz₉ y3 e3 ha => zi_n ⟨hc.1.1.1, K _ (lx_of (fun hL => wl_st H HW hL hc hpr ho (fun w => pw_14 H ht h87 h79 h84 h80 h81 h82 h91 (cq_st hL hc hpr ho w) w) ha) (lw_q H hc hpr hte hke h65 h67 hr ho h3 h7 h95 e8 e10 e97 e98 e17 e27 (md_81 e81 (s2_mst hc.1.1 (h81 e81).1 ho (h81 e81).2 hz₉))))⟩)
  by_cases e82 : mR S 64 11 = some 82
  · have hz := H.2.2.2.2.2.2.2.2.2.1.2.2.2.2.2.1 e82
    exact r3_255 _ (by decide) (by decide) hc.1.1.1 (ref_tr H.2.1 hc.2.1) ht (e82_of H hc e82).1 (e82_of H hc e82).2 (n3_tr hz.2 hc.2.1) (fun v2 m₉ hr ho h3 h7 h95 e8 e10 e97 e98 e17 e27 hz₉ y3 e3 ha => zi_n ⟨hc.1.1.1, K _ (lx_of (fun hL => wl_st H HW hL hc hpr ho (fun w => pw_14 H ht h87 h79 h84 h80 h81 h82 h91 (cq_st hL hc hpr ho w) w) ha) (lw_q H hc hpr hte hke h65 h67 hr ho h3 h7 h95 e8 e10 e97 e98 e17 e27 (md_82 e82 (s3_mst hc.1.1 (h82 e82).1 ho (h82 e82).2 hz₉))))⟩)
  by_cases e91 : mR S 64 11 = some 91
  · have hz := H.2.2.2.2.2.2.2.2.2.1.2.2.2.2.2.2 e91
    exact r6_255 _ (by decide) (by decide) hc.1.1.1 (ref_tr H.2.1 hc.2.1) ht (e91_of H hc e91).1 (e91_of H hc e91).2 (n6_tr hz.2 hc.2.1) (fun v2 m₉ hr ho h3 h7 h95 e8 e10 e97 e98 e17 e27 hz₉ y3 e3 ha => zi_n ⟨hc.1.1.1, K _ (lx_of (fun hL => wl_st H HW hL hc hpr ho (fun w => pw_14 H ht h87 h79 h84 h80 h81 h82 h91 (cq_st hL hc hpr ho w) w) ha) (lw_q H hc hpr hte hke h65 h67 hr ho h3 h7 h95 e8 e10 e97 e98 e17 e27 (md_91 e91 (s6_mst hc.1.1 (h91 e91).1 ho (h91 e91).2 hz₉))))⟩)
  exact rf_255 _ (by decide) (by decide) hc.1.1.1 (ref_tr H.2.1 hc.2.1) ht (fun v2 m₉ hr ho h3 h7 h95 e8 e10 e97 e98 e17 e27 y3 e3 ha => zi_n ⟨hc.1.1.1, K _ (lx_of (fun hL => wl_st H HW hL hc hpr ho (fun w => pw_14 H ht h87 h79 h84 h80 h81 h82 h91 (cq_st hL hc hpr ho w) w) ha) (lw_q H hc hpr hte hke h65 h67 hr ho h3 h7 h95 e8 e10 e97 e98 e17 e27 (md_no e e79 e84 e80 e81 e82 e91)))⟩)
theorem la_15 {X : Nat × (Nat → Int32)} {C0 Z0 T : Nat} {S : ma_S} {Q : Option ma_V → ma_S → Prop} (i : Int32) (H0 : zLx C0 Z0 T S) (ht : T + 1 ≤ 512) (gd : ∀ j : Int32, (j = 1 ∨ j = 2 ∨ j = 3 ∨ j = 4 ∨ j = 5) → 0 ≤ i + j ∧ (i + j).toNatClampNeg < X.1) (K : ∀ S₉, zLx C0 Z0 (T + 1) S₉ → ma_fp X 0 13 494 957 [(0, .inr (.inr (some 30))), (1, .inr (.inr (some 64))), (2, .inr (.inr (some 94))), (3, .inr (.inr (some 125))), (4, .inl i)] [] S₉ Q) : ma_fp X 0 13 494 805 [(0, .inr (.inr (some 30))), (1, .inr (.inr (some 64))), (2, .inr (.inr (some 94))), (3, .inr (.inr (some 125))), (4, .inl i)] [] S Q := by
  obtain ⟨H, HW⟩ := H0
  refine gl_805 i (by decide) (by decide) H.1.1.1 ?_
  refine fw_15 (T := T)  (by decide) (by decide) H.1 (lw_xb H) (lw_cc H) (lw_iv H) ht (fun v S2 hc hpr hte hke h65 h67 h87 h79 h84 h80 h81 h82 h91 => zfi_n ⟨hc.1.1.1, ?_⟩)
  refine wp_with (uw_256  (by decide) (by decide) H hc ht) ?_
  by_cases e : mR S 64 11 = some 87
  · obtain ⟨hB, aa, hsm, hz⟩ := H.2.2.2.2.2.2.2.2.2.1.1 e
    have k5 := K_5 hz
    have e5 := e5_of H hc e
    exact rs_256  (by decide) (by decide) hc.1.1.1 (ref_tr H.2.1 hc.2.1) ht e5.1 e5.2 (z5_tr hz hc.2.1) (fun v2 m₉ hr ho h3 h7 h95 e8 e10 e97 e98 e17 e27 hz₉ y3 e3 ha => zi_n ⟨hc.1.1.1, K _ (lx_of (fun hL => wl_st H HW hL hc hpr ho (fun w => pw_15 H ht h87 h79 h84 h80 h81 h82 h91 (cq_st hL hc hpr ho w) w) ha) (lw_q H hc hpr hte hke h65 h67 hr ho h3 h7 h95 e8 e10 e97 e98 e17 e27 (md_87 e (s5_st hc (h87 e).1 ho (by rw [(h87 e).2]; exact (Sm_cl hsm k5.1).1) hz₉))))⟩)
  by_cases e79 : mR S 64 11 = some 79
  · obtain ⟨hB, aa, hq, hz⟩ := H.2.2.2.2.2.2.2.2.2.1.2.1 e79
    have e5 := e0_of H hc e79
    exact r0_256  (by decide) (by decide) hc.1.1.1 (ref_tr H.2.1 hc.2.1) ht e5.1 e5.2 (zz_tr hz hc.2.1) (zz_58 (zz_tr hz hc.2.1) (Q_80 hq)) (fun v2 m₉ hr ho h3 h7 h95 e8 e10 e97 e98 e17 e27 hz₉ y3 e3 ha => zi_n ⟨hc.1.1.1, K _ (lx_of (fun hL => wl_st H HW hL hc hpr ho (fun w => pw_15 H ht h87 h79 h84 h80 h81 h82 h91 (cq_st hL hc hpr ho w) w) ha) (lw_q H hc hpr hte hke h65 h67 hr ho h3 h7 h95 e8 e10 e97 e98 e17 e27 (md_79 e79 (s0_st hc (h79 e79).1 ho (by rw [(h79 e79).2]; exact (Q_sw hq hz.2.1).1) hz₉))))⟩)
  by_cases e84 : mR S 64 11 = some 84
  · obtain ⟨hB, hC, aa, hq, hz, hk⟩ := H.2.2.2.2.2.2.2.2.2.1.2.2.1 e84
    have hv : cV aa [] (T : Int) := V_0 (C_o8 (O8_sy (Q_8 hq)) hC)
    have e5 := e4_of H hc e84
    exact r4_256  (by decide) (by decide) hc.1.1.1 (ref_tr H.2.1 hc.2.1) ht e5.1 e5.2 (zz_tr hz hc.2.1) (zk_tr hk hc.2.1) hv (zz_58 (zz_tr hz hc.2.1) (Q_80 hq)) (fun v2 m₉ hr ho h3 h7 h95 e8 e10 e97 e98 e17 e27 hz₉ hk₉ y3 e3 ha => zi_n ⟨hc.1.1.1, K _ (lx_of (fun hL => wl_st H HW hL hc hpr ho (fun w => pw_15 H ht h87 h79 h84 h80 h81 h82 h91 (cq_st hL hc hpr ho w) w) ha) (lw_q H hc hpr hte hke h65 h67 hr ho h3 h7 h95 e8 e10 e97 e98 e17 e27 (md_84 e84 (s4_st hc (h84 e84).1 ho (C_T (C_up (h84 e84).2.2)) (by rw [(h84 e84).2.1]; exact (Q_sw hq hz.2.1).1) hz₉ hk₉))))⟩)
  by_cases e80 : mR S 64 11 = some 80
  · have hz := H.2.2.2.2.2.2.2.2.2.1.2.2.2.1 e80
    exact r1_256  (by decide) (by decide) hc.1.1.1 (ref_tr H.2.1 hc.2.1) ht (e80_of H hc e80).1 (e80_of H hc e80).2 (n1_tr hz.2 hc.2.1) (fun v2 m₉ hr ho h3 h7 h95 e8 e10 e97 e98 e17 e27 hz₉ y3 e3 ha => zi_n ⟨hc.1.1.1, K _ (lx_of (fun hL => wl_st H HW hL hc hpr ho (fun w => pw_15 H ht h87 h79 h84 h80 h81 h82 h91 (cq_st hL hc hpr ho w) w) ha) (lw_q H hc hpr hte hke h65 h67 hr ho h3 h7 h95 e8 e10 e97 e98 e17 e27 (md_80 e80 (s1_mst hc.1.1 (h80 e80).1 ho (h80 e80).2 hz₉))))⟩)
  by_cases e81 : mR S 64 11 = some 81
  · have hz := H.2.2.2.2.2.2.2.2.2.1.2.2.2.2.1 e81
    exact r2_256  (by decide) (by decide) hc.1.1.1 (ref_tr H.2.1 hc.2.1) ht (e81_of H hc e81).1 (e81_of H hc e81).2 (n2_tr hz.2 hc.2.1) (fun v2 m₉ hr ho h3 h7 h95 e8 e10 e97 e98 e17 e27 hz₉ y3 e3 ha => zi_n ⟨hc.1.1.1, K _ (lx_of (fun hL => wl_st H HW hL hc hpr ho (fun w => pw_15 H ht h87 h79 h84 h80 h81 h82 h91 (cq_st hL hc hpr ho w) w) ha) (lw_q H hc hpr hte hke h65 h67 hr ho h3 h7 h95 e8 e10 e97 e98 e17 e27 (md_81 e81 (s2_mst hc.1.1 (h81 e81).1 ho (h81 e81).2 hz₉))))⟩)
  by_cases e82 : mR S 64 11 = some 82
  · have hz := H.2.2.2.2.2.2.2.2.2.1.2.2.2.2.2.1 e82
    exact r3_256  (by decide) (by decide) hc.1.1.1 (ref_tr H.2.1 hc.2.1) ht (e82_of H hc e82).1 (e82_of H hc e82).2 (n3_tr hz.2 hc.2.1) (fun v2 m₉ hr ho h3 h7 h95 e8 e10 e97 e98 e17 e27 hz₉ y3 e3 ha => zi_n ⟨hc.1.1.1, K _ (lx_of (fun hL => wl_st H HW hL hc hpr ho (fun w => pw_15 H ht h87 h79 h84 h80 h81 h82 h91 (cq_st hL hc hpr ho w) w) ha) (lw_q H hc hpr hte hke h65 h67 hr ho h3 h7 h95 e8 e10 e97 e98 e17 e27 (md_82 e82 (s3_mst hc.1.1 (h82 e82).1 ho (h82 e82).2 hz₉))))⟩)
  by_cases e91 : mR S 64 11 = some 91
  · have hz := H.2.2.2.2.2.2.2.2.2.1.2.2.2.2.2.2 e91
    exact r6_256  (by decide) (by decide) hc.1.1.1 (ref_tr H.2.1 hc.2.1) ht (e91_of H hc e91).1 (e91_of H hc e91).2 (n6_tr hz.2 hc.2.1) (fun v2 m₉ hr ho h3 h7 h95 e8 e10 e97 e98 e17 e27 hz₉ y3 e3 ha => zi_n ⟨hc.1.1.1, K _ (lx_of (fun hL => wl_st H HW hL hc hpr ho (fun w => pw_15 H ht h87 h79 h84 h80 h81 h82 h91 (cq_st hL hc hpr ho w) w) ha) (lw_q H hc hpr hte hke h65 h67 hr ho h3 h7 h95 e8 e10 e97 e98 e17 e27 (md_91 e91 (s6_mst' hc.1.1 (h91 e91).1 ho (h91 e91).2 hz₉))))⟩)
  exact rf_256  (by decide) (by decide) hc.1.1.1 (ref_tr H.2.1 hc.2.1) ht (fun v2 m₉ hr ho h3 h7 h95 e8 e10 e97 e98 e17 e27 y3 e3 ha => zi_n ⟨hc.1.1.1, K _ (lx_of (fun hL => wl_st H HW hL hc hpr ho (fun w => pw_15 H ht h87 h79 h84 h80 h81 h82 h91 (cq_st hL hc hpr ho w) w) ha) (lw_q H hc hpr hte hke h65 h67 hr ho h3 h7 h95 e8 e10 e97 e98 e17 e27 (md_no e e79 e84 e80 e81 e82 e91)))⟩)
theorem la_16 {X : Nat × (Nat → Int32)} {C0 Z0 T : Nat} {S : ma_S} {Q : Option ma_V → ma_S → Prop} (i : Int32) (H0 : zLx C0 Z0 T S) (ht : T + 1 ≤ 512) (gd : ∀ j : Int32, (j = 1 ∨ j = 2 ∨ j = 3 ∨ j = 4 ∨ j = 5) → 0 ≤ i + j ∧ (i + j).toNatClampNeg < X.1) (K : ∀ S₉, zLx C0 Z0 (T + 1) S₉ → ma_fp X 0 13 494 957 [(0, .inr (.inr (some 30))), (1, .inr (.inr (some 64))), (2, .inr (.inr (some 94))), (3, .inr (.inr (some 125))), (4, .inl i)] [] S₉ Q) : ma_fp X 0 13 494 821 [(0, .inr (.inr (some 30))), (1, .inr (.inr (some 64))), (2, .inr (.inr (some 94))), (3, .inr (.inr (some 125))), (4, .inl i)] [] S Q := by
  obtain ⟨H, HW⟩ := H0
  refine gl_821 i (by decide) (by decide) H.1.1.1 ?_
  refine ⟨gd 1 (by decide), ?_⟩
  refine fw_16 (T := T) _ (by decide) (by decide) H.1 (lw_xb H) (lw_cc H) (lw_iv H) ht (fun v S2 hc hpr hte hke h65 h67 e hn hB2 hq1 => zfi_n ⟨hc.1.1.1, gd 1 (by decide), ?_⟩) (fun v S2 hc hpr hte hke h65 h67 hv h87 hkp => zfi_n ⟨hc.1.1.1, gd 1 (by decide), ?_⟩)
  · refine wp_with (uw_257 _ (by decide) (by decide) H hc ht) ?_
    obtain ⟨hB, aa, hsm, hz⟩ := H.2.2.2.2.2.2.2.2.2.1.1 e
    have k5 := K_5 hz
    have e5 := e5_of H hc e
    have go := Sm_go (n := (X.2 (i + 1).toNatClampNeg).toInt.toNat) hsm k5.1
    have hsim : qSm (aS 88 S2) (xSp aa (X.2 (i + 1).toNatClampNeg)) := by
      unfold xSp
      rw [hq1, qIf_y hn]
      exact go.1
    exact rs_257 _ (by decide) (by decide) hc.1.1.1 (ref_tr H.2.1 hc.2.1) ht e5.1 e5.2 (z5_tr hz hc.2.1) (fun v2 m₉ hr ho h3 h7 h95 e8 e10 e97 e98 e17 e27 hz₉ _ y3 e3 ha => zi_n ⟨hc.1.1.1, K _ (lx_of (fun hL => wl_st H HW hL hc hpr ho (fun w => pw_sk H hq1 w) ha) (lw_q H hc hpr hte hke h65 h67 hr ho h3 h7 h95 e8 e10 e97 e98 e17 e27 (md_87 e (s5_st hc hB2 ho hsim hz₉))))⟩)
  · refine wp_with (uw_257 _ (by decide) (by decide) H hc ht) ?_
    by_cases e : mR S 64 11 = some 87
    · obtain ⟨hB, aa, hsm, hz⟩ := H.2.2.2.2.2.2.2.2.2.1.1 e
      have e5 := e5_of H hc e
      have hv3 : (X.2 (i + 1).toNatClampNeg).toInt < 0 ∨ 1000 < (X.2 (i + 1).toNatClampNeg).toInt := hv.elim id (fun w => absurd e w)
      have hsim : qSm (aS 88 S2) (xSp aa (X.2 (i + 1).toNatClampNeg)) := by
        unfold xSp
        rw [(h87 e).2, qIf_n (fun w => by omega)]
        exact hsm
      exact rs_257 _ (by decide) (by decide) hc.1.1.1 (ref_tr H.2.1 hc.2.1) ht e5.1 e5.2 (z5_tr hz hc.2.1) (fun v2 m₉ hr ho h3 h7 h95 e8 e10 e97 e98 e17 e27 hz₉ _ y3 e3 ha => zi_n ⟨hc.1.1.1, K _ (lx_of (fun hL => wl_st H HW hL hc hpr ho (fun w => pw_sx h87 hkp w) ha) (lw_q H hc hpr hte hke h65 h67 hr ho h3 h7 h95 e8 e10 e97 e98 e17 e27 (md_87 e (s5_st hc (h87 e).1 ho hsim hz₉))))⟩)
    by_cases e79 : mR S 64 11 = some 79
    · have hH := hkp (fun w => absurd (e79.symm.trans w) (by decide)) e
      exact r0_257 _ (by decide) (by decide) hc.1.1.1 (ref_tr H.2.1 hc.2.1) ht (e0_of H hc e79).1 (Or.inl (e0_of H hc e79).2) (fun v2 m₉ hr ho h3 h7 h95 e8 e10 e97 e98 e17 e27 _ kps y3 e3 ha => zi_n ⟨hc.1.1.1, K _ (lx_of (fun hL => wl_st H HW hL hc hpr ho (fun w => pw_sx h87 hkp w) ha) (lw_q H hc hpr hte hke h65 h67 hr ho h3 h7 h95 e8 e10 e97 e98 e17 e27 (md_79 e79 (k0_st H e79 hc ho hH.1 (kp_zz kps)))))⟩)
    by_cases e84 : mR S 64 11 = some 84
    · have hH := hkp (fun w => absurd (e84.symm.trans w) (by decide)) e
      exact r0_257 _ (by decide) (by decide) hc.1.1.1 (ref_tr H.2.1 hc.2.1) ht (e4_of H hc e84).1 (Or.inr (e4_of H hc e84).2) (fun v2 m₉ hr ho h3 h7 h95 e8 e10 e97 e98 e17 e27 _ kps y3 e3 ha => zi_n ⟨hc.1.1.1, K _ (lx_of (fun hL => wl_st H HW hL hc hpr ho (fun w => pw_sx h87 hkp w) ha) (lw_q H hc hpr hte hke h65 h67 hr ho h3 h7 h95 e8 e10 e97 e98 e17 e27 (md_84 e84 (k4_st H e84 hc ho hH.1 (kp_zz kps) (kp_zk kps)))))⟩)
    by_cases e80 : mR S 64 11 = some 80
    · have hH := hkp (fun w => absurd (e80.symm.trans w) (by decide)) e
      have hz := H.2.2.2.2.2.2.2.2.2.1.2.2.2.1 e80
      exact rm_257 _ (by decide) (by decide) hc.1.1.1 (ref_tr H.2.1 hc.2.1) ht (e80_of H hc e80).1 (Or.inl (e80_of H hc e80).2) (fun v2 m₉ hr ho h3 h7 h95 e8 e10 e97 e98 e17 e27 _ kps y3 e3 ha => zi_n ⟨hc.1.1.1, K _ (lx_of (fun hL => wl_st H HW hL hc hpr ho (fun w => pw_sx h87 hkp w) ha) (lw_q H hc hpr hte hke h65 h67 hr ho h3 h7 h95 e8 e10 e97 e98 e17 e27 (md_80 e80 (s1_kp hz hH.2 hc.1.1 ho (kp_n1 kps _ (n1_tr hz.2 hc.2.1))))))⟩)
    by_cases e81 : mR S 64 11 = some 81
    · have hH := hkp (fun w => absurd (e81.symm.trans w) (by decide)) e
      have hz := H.2.2.2.2.2.2.2.2.2.1.2.2.2.2.1 e81
      exact rm_257 _ (by decide) (by decide) hc.1.1.1 (ref_tr H.2.1 hc.2.1) ht (e81_of H hc e81).1 (Or.inr (Or.inl (e81_of H hc e81).2)) (fun v2 m₉ hr ho h3 h7 h95 e8 e10 e97 e98 e17 e27 _ kps y3 e3 ha => zi_n ⟨hc.1.1.1, K _ (lx_of (fun hL => wl_st H HW hL hc hpr ho (fun w => pw_sx h87 hkp w) ha) (lw_q H hc hpr hte hke h65 h67 hr ho h3 h7 h95 e8 e10 e97 e98 e17 e27 (md_81 e81 (s2_kp hz hH.2 hc.1.1 ho (kp_n2 kps _ (n2_tr hz.2 hc.2.1))))))⟩)
    by_cases e82 : mR S 64 11 = some 82
    · have hH := hkp (fun w => absurd (e82.symm.trans w) (by decide)) e
      have hz := H.2.2.2.2.2.2.2.2.2.1.2.2.2.2.2.1 e82
      exact rm_257 _ (by decide) (by decide) hc.1.1.1 (ref_tr H.2.1 hc.2.1) ht (e82_of H hc e82).1 (Or.inr (Or.inr (Or.inl (e82_of H hc e82).2))) (fun v2 m₉ hr ho h3 h7 h95 e8 e10 e97 e98 e17 e27 _ kps y3 e3 ha => zi_n ⟨hc.1.1.1, K _ (lx_of (fun hL => wl_st H HW hL hc hpr ho (fun w => pw_sx h87 hkp w) ha) (lw_q H hc hpr hte hke h65 h67 hr ho h3 h7 h95 e8 e10 e97 e98 e17 e27 (md_82 e82 (s3_kp hz hH.2 hc.1.1 ho (kp_n3 kps _ (n3_tr hz.2 hc.2.1))))))⟩)
    by_cases e91 : mR S 64 11 = some 91
    · have hH := hkp (fun w => absurd (e91.symm.trans w) (by decide)) e
      have hz := H.2.2.2.2.2.2.2.2.2.1.2.2.2.2.2.2 e91
      exact rm_257 _ (by decide) (by decide) hc.1.1.1 (ref_tr H.2.1 hc.2.1) ht (e91_of H hc e91).1 (Or.inr (Or.inr (Or.inr (e91_of H hc e91).2))) (fun v2 m₉ hr ho h3 h7 h95 e8 e10 e97 e98 e17 e27 _ kps y3 e3 ha => zi_n ⟨hc.1.1.1, K _ (lx_of (fun hL => wl_st H HW hL hc hpr ho (fun w => pw_sx h87 hkp w) ha) (lw_q H hc hpr hte hke h65 h67 hr ho h3 h7 h95 e8 e10 e97 e98 e17 e27 (md_91 e91 (s6_kp hz hH.2 hc.1.1 ho (kp_n6 kps _ (n6_tr hz.2 hc.2.1))))))⟩)
    have n5 : (mI S2 94 8).toInt ≠ 0 → (mI S2 94 10).toInt ≠ 5 := fun w1 w2 => e (H.2.2.2.2.2.2.2.2.1.2.1.mpr ⟨by rw [← hc.2.1 94 8 (by decide) (by decide)]; exact w1, by rw [← hc.2.1 94 10 (by decide) (by decide)]; exact w2⟩)
    exact rf_257 _ (by decide) (by decide) hc.1.1.1 (ref_tr H.2.1 hc.2.1) ht n5 (fun v2 m₉ hr ho h3 h7 h95 e8 e10 e97 e98 e17 e27 _ y3 e3 ha => zi_n ⟨hc.1.1.1, K _ (lx_of (fun hL => wl_st H HW hL hc hpr ho (fun w => pw_sx h87 hkp w) ha) (lw_q H hc hpr hte hke h65 h67 hr ho h3 h7 h95 e8 e10 e97 e98 e17 e27 (md_no e e79 e84 e80 e81 e82 e91)))⟩)
theorem la_17 {X : Nat × (Nat → Int32)} {C0 Z0 T : Nat} {S : ma_S} {Q : Option ma_V → ma_S → Prop} (i : Int32) (H0 : zLx C0 Z0 T S) (ht : T + 1 ≤ 512) (gd : ∀ j : Int32, (j = 1 ∨ j = 2 ∨ j = 3 ∨ j = 4 ∨ j = 5) → 0 ≤ i + j ∧ (i + j).toNatClampNeg < X.1) (K : ∀ S₉, zLx C0 Z0 (T + 1) S₉ → ma_fp X 0 13 494 957 [(0, .inr (.inr (some 30))), (1, .inr (.inr (some 64))), (2, .inr (.inr (some 94))), (3, .inr (.inr (some 125))), (4, .inl i)] [] S₉ Q) : ma_fp X 0 13 494 849 [(0, .inr (.inr (some 30))), (1, .inr (.inr (some 64))), (2, .inr (.inr (some 94))), (3, .inr (.inr (some 125))), (4, .inl i)] [] S Q := by
  obtain ⟨H, HW⟩ := H0
  refine gl_849 i (by decide) (by decide) H.1.1.1 ?_
  refine ⟨gd 1 (by decide), gd 2 (by decide), ?_⟩
  refine fw_17 (T := T) _ _ (by decide) (by decide) H.1 (lw_xb H) (lw_cc H) (lw_iv H) ht (fun v S2 hc hpr hte hke h65 h67 h87 h79 h84 h80 h81 h82 h91 => zfi_n ⟨hc.1.1.1, gd 1 (by decide), gd 2 (by decide), ?_⟩)
  refine wp_with (uw_258 _ _ (by decide) (by decide) H hc ht) ?_
  refine rf_258 _ _ (by decide) (by decide) hc.1.1.1 (ref_tr H.2.1 hc.2.1) ht (fun v2 m₉ hr ho h3 h7 h95 e8 e10 e97 e98 e17 e27 fz fy fx fn y3 e3 ha => zi_n ⟨hc.1.1.1, K _ (lx_of (fun hL => wl_st H HW hL hc hpr ho (fun w => pw_17 H ht h87 h79 h84 h80 h81 h82 h91 (cq_st hL hc hpr ho w) w) ha) (lw_q H hc hpr hte hke h65 h67 hr ho h3 h7 h95 e8 e10 e97 e98 e17 e27 ⟨fun e => ?_, fun e => ?_, fun e => ?_, fun e => ?_, fun e => ?_, fun e => ?_, fun e => ?_⟩))⟩)
  · obtain ⟨hB, aa, hsm, hz⟩ := H.2.2.2.2.2.2.2.2.2.1.1 e
    exact s5_st hc (h87 e).1 ho (by rw [(h87 e).2]; exact hsm) (fz aa (z5_tr hz hc.2.1))
  · obtain ⟨hB, aa, hq, hz⟩ := H.2.2.2.2.2.2.2.2.2.1.2.1 e
    exact s0_st hc (h79 e).1 ho (Q_A hq (Ax_0 (Q_88o hq)) (h79 e).2.1 (h79 e).2.2) (fy aa (zz_tr hz hc.2.1))
  · obtain ⟨hB, hC, aa, hq, hz, hk⟩ := H.2.2.2.2.2.2.2.2.2.1.2.2.1 e
    exact s4_st hc (h84 e).1 ho (C_T (C_up (C_o8 (O8_sy T_88) (h84 e).2.2.2))) (Q_A hq (Ax_0 (Q_88o hq)) (h84 e).2.1 (h84 e).2.2.1) (fy aa (zz_tr hz hc.2.1)) (fx aa (zk_tr hk hc.2.1))
  · exact s1_mst hc.1.1 (h80 e).1 ho (h80 e).2 (fn.1 _ (n1_tr (H.2.2.2.2.2.2.2.2.2.1.2.2.2.1 e).2 hc.2.1))
  · exact s2_mst hc.1.1 (h81 e).1 ho (h81 e).2 (fn.2.1 _ (n2_tr (H.2.2.2.2.2.2.2.2.2.1.2.2.2.2.1 e).2 hc.2.1))
  · exact s3_mst hc.1.1 (h82 e).1 ho (h82 e).2 (fn.2.2.1 _ (n3_tr (H.2.2.2.2.2.2.2.2.2.1.2.2.2.2.2.1 e).2 hc.2.1))
  · exact s6_mst hc.1.1 (h91 e).1 ho (h91 e).2 (fn.2.2.2 _ (n6_tr (H.2.2.2.2.2.2.2.2.2.1.2.2.2.2.2.2 e).2 hc.2.1))
theorem la_18 {X : Nat × (Nat → Int32)} {C0 Z0 T : Nat} {S : ma_S} {Q : Option ma_V → ma_S → Prop} (i : Int32) (H0 : zLx C0 Z0 T S) (ht : T + 1 ≤ 512) (gd : ∀ j : Int32, (j = 1 ∨ j = 2 ∨ j = 3 ∨ j = 4 ∨ j = 5) → 0 ≤ i + j ∧ (i + j).toNatClampNeg < X.1) (K : ∀ S₉, zLx C0 Z0 (T + 1) S₉ → ma_fp X 0 13 494 957 [(0, .inr (.inr (some 30))), (1, .inr (.inr (some 64))), (2, .inr (.inr (some 94))), (3, .inr (.inr (some 125))), (4, .inl i)] [] S₉ Q) : ma_fp X 0 13 494 889 [(0, .inr (.inr (some 30))), (1, .inr (.inr (some 64))), (2, .inr (.inr (some 94))), (3, .inr (.inr (some 125))), (4, .inl i)] [] S Q := by
  obtain ⟨H, HW⟩ := H0
  refine gl_889 i (by decide) (by decide) H.1.1.1 ?_
  refine ⟨gd 1 (by decide), gd 2 (by decide), ?_⟩
  refine fw_18 (T := T) _ _ (by decide) (by decide) H.1 (lw_xb H) (lw_cc H) (lw_iv H) ht (fun v S2 hc hpr hte hke h65 h67 k87 k79 k84 km => zfi_n ⟨hc.1.1.1, gd 1 (by decide), gd 2 (by decide), ?_⟩)
  refine wp_with (uw_259 _ _ (by decide) (by decide) H hc ht) ?_
  by_cases hw : mR S 64 11 = some 87 ∨ mR S 64 11 = some 79 ∨ mR S 64 11 = some 84
  · obtain ⟨bb, hz, h8, ph⟩ := bk_of H hc hw
    exact rb_259 _ _ (by decide) (by decide) hc.1.1.1 (ref_tr H.2.1 hc.2.1) ht h8 ph hz (fun v2 m₉ hr ho h3 h7 h95 e8 e10 e97 e98 e17 e27 fz fy fx fn _ y3 e3 ha => zi_n ⟨hc.1.1.1, K _ (lx_of (fun hL => wl_st H HW hL hc hpr ho (fun w => pw_bk H k87 k79 k84 km w) ha) (lw_q H hc hpr hte hke h65 h67 hr ho h3 h7 h95 e8 e10 e97 e98 e17 e27 (bk_mod H hc ho k87 k79 k84 km fz fy fx fn)))⟩)
  · have n5 := bk_n H hc (fun w => hw (Or.inl w)) (fun w => hw (Or.inr (Or.inl w))) (fun w => hw (Or.inr (Or.inr w)))
    exact rf_259 _ _ (by decide) (by decide) hc.1.1.1 (ref_tr H.2.1 hc.2.1) ht n5 (fun v2 m₉ hr ho h3 h7 h95 e8 e10 e97 e98 e17 e27 fz fy fx fn _ y3 e3 ha => zi_n ⟨hc.1.1.1, K _ (lx_of (fun hL => wl_st H HW hL hc hpr ho (fun w => pw_bk H k87 k79 k84 km w) ha) (lw_q H hc hpr hte hke h65 h67 hr ho h3 h7 h95 e8 e10 e97 e98 e17 e27 (bk_mod H hc ho k87 k79 k84 km fz fy fx fn)))⟩)
theorem la_19 {X : Nat × (Nat → Int32)} {C0 Z0 T : Nat} {S : ma_S} {Q : Option ma_V → ma_S → Prop} (i : Int32) (H0 : zLx C0 Z0 T S) (ht : T + 1 ≤ 512) (gd : ∀ j : Int32, (j = 1 ∨ j = 2 ∨ j = 3 ∨ j = 4 ∨ j = 5) → 0 ≤ i + j ∧ (i + j).toNatClampNeg < X.1) (K : ∀ S₉, zLx C0 Z0 (T + 1) S₉ → ma_fp X 0 13 494 957 [(0, .inr (.inr (some 30))), (1, .inr (.inr (some 64))), (2, .inr (.inr (some 94))), (3, .inr (.inr (some 125))), (4, .inl i)] [] S₉ Q) : ma_fp X 0 13 494 929 [(0, .inr (.inr (some 30))), (1, .inr (.inr (some 64))), (2, .inr (.inr (some 94))), (3, .inr (.inr (some 125))), (4, .inl i)] [] S Q := by
  obtain ⟨H, HW⟩ := H0
  refine gl_929 i (by decide) (by decide) H.1.1.1 ?_
  refine ⟨gd 1 (by decide), ?_⟩
  refine fw_19 (T := T) _ (by decide) (by decide) H.1 (lw_xb H) (lw_cc H) (lw_iv H) ht (fun v S2 hc hpr hte hke h65 h67 h87 h79 h84 h80 h81 h82 h91 => zfi_n ⟨hc.1.1.1, gd 1 (by decide), ?_⟩)
  refine wp_with (uw_260 _ (by decide) (by decide) H hc ht) ?_
  refine rf_260 _ (by decide) (by decide) hc.1.1.1 (ref_tr H.2.1 hc.2.1) ht (fun v2 m₉ hr ho h3 h7 h95 e8 e10 e97 e98 e17 e27 fz fy fx fn y3 e3 ha => zi_n ⟨hc.1.1.1, K _ (lx_of (fun hL => wl_st H HW hL hc hpr ho (fun w => pw_19 H ht h87 h79 h84 h80 h81 h82 h91 (cq_st hL hc hpr ho w) w) ha) (lw_q H hc hpr hte hke h65 h67 hr ho h3 h7 h95 e8 e10 e97 e98 e17 e27 ⟨fun e => ?_, fun e => ?_, fun e => ?_, fun e => ?_, fun e => ?_, fun e => ?_, fun e => ?_⟩))⟩)
  · obtain ⟨hB, aa, hsm, hz⟩ := H.2.2.2.2.2.2.2.2.2.1.1 e
    exact s5_st hc (h87 e).1 ho (by rw [(h87 e).2]; exact hsm) (fz aa (z5_tr hz hc.2.1))
  · obtain ⟨hB, aa, hq, hz⟩ := H.2.2.2.2.2.2.2.2.2.1.2.1 e
    exact s0_st hc (h79 e).1 ho (Q_A hq (Ax_0 (Q_88o hq)) (h79 e).2.1 (h79 e).2.2) (fy aa (zz_tr hz hc.2.1))
  · obtain ⟨hB, hC, aa, hq, hz, hk⟩ := H.2.2.2.2.2.2.2.2.2.1.2.2.1 e
    exact s4_st hc (h84 e).1 ho (C_T (C_up (C_o8 (O8_sy T_88) (h84 e).2.2.2))) (Q_A hq (Ax_0 (Q_88o hq)) (h84 e).2.1 (h84 e).2.2.1) (fy aa (zz_tr hz hc.2.1)) (fx aa (zk_tr hk hc.2.1))
  · exact s1_mst hc.1.1 (h80 e).1 ho (h80 e).2 (fn.1 _ (n1_tr (H.2.2.2.2.2.2.2.2.2.1.2.2.2.1 e).2 hc.2.1))
  · exact s2_mst hc.1.1 (h81 e).1 ho (h81 e).2 (fn.2.1 _ (n2_tr (H.2.2.2.2.2.2.2.2.2.1.2.2.2.2.1 e).2 hc.2.1))
  · exact s3_mst hc.1.1 (h82 e).1 ho (h82 e).2 (fn.2.2.1 _ (n3_tr (H.2.2.2.2.2.2.2.2.2.1.2.2.2.2.2.1 e).2 hc.2.1))
  · exact s6_mst hc.1.1 (h91 e).1 ho (h91 e).2 (fn.2.2.2 _ (n6_tr (H.2.2.2.2.2.2.2.2.2.1.2.2.2.2.2.2 e).2 hc.2.1))
theorem la_any {X : Nat × (Nat → Int32)} {C0 Z0 T : Nat} {S : ma_S} {Q : Option ma_V → ma_S → Prop} (i : Int32) (H : zLx C0 Z0 T S) (ht : T + 1 ≤ 512) (hX : X.1 ≤ 3072) (hi0 : 0 ≤ i.toInt) (hi : i.toInt + 6 ≤ (X.1 : Int)) (K : ∀ S₉, zLx C0 Z0 (T + 1) S₉ → ma_fp X 0 13 494 957 [(0, .inr (.inr (some 30))), (1, .inr (.inr (some 64))), (2, .inr (.inr (some 94))), (3, .inr (.inr (some 125))), (4, .inl i)] [] S₉ Q) : ma_fp X 0 13 494 23 [(0, .inr (.inr (some 30))), (1, .inr (.inr (some 64))), (2, .inr (.inr (some 94))), (3, .inr (.inr (some 125))), (4, .inl i)] [] S Q := by
  have gd : ∀ j : Int32, (j = 1 ∨ j = 2 ∨ j = 3 ∨ j = 4 ∨ j = 5) → 0 ≤ i + j ∧ (i + j).toNatClampNeg < X.1 := by
    intro j hj
    have e : 1 ≤ j.toInt ∧ j.toInt ≤ 5 := by rcases hj with rfl | rfl | rfl | rfl | rfl <;> decide
    have e2 : (i + j).toInt = i.toInt + j.toInt := i_add (by omega) (by omega)
    exact i_ix (by omega) (by omega)
  have eX : (Int32.ofNat X.1).toInt = (X.1 : Int) := Int32.toInt_ofNat_of_lt (by omega)
  have e6 : ((Int32.ofNat X.1) - (6 : Int32)).toInt = (X.1 : Int) - 6 := by
    rw [i_subk (k := 6) rfl (by omega) (by omega), eX]
  refine gl_23 i (by decide) (by decide) H.1.1.1.1 (zf (fun z => by have := i_lt z; omega) ⟨i_ix (by omega) (by omega), ?_⟩)
  refine zd (fun _ => la_0 i H ht gd K) (fun _ => ?_)
  refine zd (fun _ => la_1 i H ht gd K) (fun _ => ?_)
  refine zd (fun _ => la_2 i H ht gd K) (fun _ => ?_)
  refine zd (fun _ => la_3 i H ht gd K) (fun _ => ?_)
  refine zd (fun _ => la_4 i H ht gd K) (fun _ => ?_)
  refine zd (fun _ => la_5 i H ht gd K) (fun _ => ?_)
  refine zd (fun _ => la_6 i H ht gd K) (fun _ => ?_)
  refine zd (fun _ => la_7 i H ht gd K) (fun _ => ?_)
  refine zd (fun _ => la_8 i H ht gd K) (fun _ => ?_)
  refine zd (fun _ => la_9 i H ht gd K) (fun _ => ?_)
  refine zd (fun _ => la_10 i H ht gd K) (fun _ => ?_)
  refine zd (fun _ => la_11 i H ht gd K) (fun _ => ?_)
  refine zd (fun _ => la_12 i H ht gd K) (fun _ => ?_)
  refine zd (fun _ => la_13 i H ht gd K) (fun _ => ?_)
  refine zd (fun _ => la_14 i H ht gd K) (fun _ => ?_)
  refine zd (fun _ => la_15 i H ht gd K) (fun _ => ?_)
  refine zd (fun _ => la_16 i H ht gd K) (fun _ => ?_)
  refine zd (fun _ => la_17 i H ht gd K) (fun _ => ?_)
  refine zd (fun _ => la_18 i H ht gd K) (fun _ => ?_)
  refine zd (fun _ => la_19 i H ht gd K) (fun _ => ?_)
  exact K S ⟨lw_more H.1 ht, H.2⟩
theorem la_loop {X : Nat × (Nat → Int32)} {C0 Z0 : Nat} {Q : Option ma_V → ma_S → Prop} (hX : X.1 ≤ 3072) (K : ∀ S₉ T, T ≤ 600 → zLx C0 Z0 T S₉ → Q (some (.inl (1 : Int32))) S₉) : ∀ (n : Nat) (T : Nat) (i : Int32) (S : ma_S), 3078 - i.toInt.toNat = n → 0 ≤ i.toInt → i.toInt = 6 * (T : Int) → i.toInt ≤ 3078 → zLx C0 Z0 T S → ma_fp X 0 13 494 23 [(0, .inr (.inr (some 30))), (1, .inr (.inr (some 64))), (2, .inr (.inr (some 94))), (3, .inr (.inr (some 125))), (4, .inl i)] [] S Q := by
  intro n
  induction n using Nat.strongRecOn with
  | _ n IH =>
    intro T i S hn h0 hT hi H
    by_cases hx : i.toInt + 6 ≤ (X.1 : Int)
    · refine la_any i H (by omega) hX h0 hx (fun S₉ H₉ => ?_)
      have e : (i + (6 : Int32)).toInt = i.toInt + 6 := i_addk rfl (by omega) (by omega)
      refine gl_957 i (by decide) (by decide) H₉.1.1.1.1 ?_
      exact IH _ (by omega) (T + 1) (i + (6 : Int32)) S₉ rfl (by omega) (by omega) (by omega) H₉
    · have eX : (Int32.ofNat X.1).toInt = (X.1 : Int) := Int32.toInt_ofNat_of_lt (by omega)
      have e6 : ((Int32.ofNat X.1) - (6 : Int32)).toInt = (X.1 : Int) - 6 := by
        rw [i_subk (k := 6) rfl (by omega) (by omega), eX]
      exact gl_23 i (by decide) (by decide) H.1.1.1.1 (zt (Int32.lt_iff_toInt_lt.mpr (by omega)) (K S T (by omega) H))
