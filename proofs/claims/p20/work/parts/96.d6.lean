/-! a call of each kind, and the loop -/
theorem la_10 {X : Nat × (Nat → Int32)} {C0 Z0 T : Nat} {S : ma_S} {Q : Option ma_V → ma_S → Prop} (i : Int32) (H : zLw C0 Z0 T S) (ht : T + 1 ≤ 512) (gd : ∀ j : Int32, (j = 1 ∨ j = 2 ∨ j = 3 ∨ j = 4 ∨ j = 5) → 0 ≤ i + j ∧ (i + j).toNatClampNeg < X.1) (K : ∀ S', zLw C0 Z0 (T + 1) S' → ma_fp X 0 13 494 957 [(0, .inr (.inr (some 30))), (1, .inr (.inr (some 64))), (2, .inr (.inr (some 94))), (3, .inr (.inr (some 125))), (4, .inl i)] [] S' Q) : ma_fp X 0 13 494 585 [(0, .inr (.inr (some 30))), (1, .inr (.inr (some 64))), (2, .inr (.inr (some 94))), (3, .inr (.inr (some 125))), (4, .inl i)] [] S Q := by
  refine gl_585 i (by decide) (by decide) H.1.1.1 ?_
  refine ⟨gd 1 (by decide), gd 2 (by decide), ?_⟩
  refine fw_10 (T := T) _ _ (by decide) (by decide) H.1 (lw_xb H) (lw_cc H) ht (fun v S2 hc hpr hte hke h65 h67 h87 h79 h84 => zfi_n ⟨hc.1.1.1, gd 1 (by decide), gd 2 (by decide), ?_⟩)
  by_cases e : mR S 64 11 = some 87
  · obtain ⟨hB, aa, hsm, hz⟩ := H.2.2.2.2.2.2.2.2.2.2.2.2.1.1 e
    have k5 := K_5 hz
    have e5 := e5_of H hc e
    exact rs_251 _ _ (by decide) (by decide) hc.1.1.1 (ref_tr H.2.1 hc.2.1) ht e5.1 e5.2 (z5_tr hz hc.2.1) (fun v2 m' hr ho h3 h7 h95 e8 e10 e97 e98 e17 e27 hz' => zi_n ⟨hc.1.1.1, K _ (lw_q H hc hpr hte hke h65 h67 hr ho h3 h7 h95 e8 e10 e97 e98 e17 e27 (md_87 e (s5_st hc (h87 e).1 ho (by rw [(h87 e).2]; exact Sm_we hsm) hz')))⟩)
  by_cases e79 : mR S 64 11 = some 79
  · obtain ⟨hB, aa, hq, hz⟩ := H.2.2.2.2.2.2.2.2.2.2.2.2.1.2.1 e79
    have e5 := e0_of H hc e79
    exact r0_251 _ _ (by decide) (by decide) hc.1.1.1 (ref_tr H.2.1 hc.2.1) ht e5.1 e5.2 (zz_tr hz hc.2.1) (zz_58 (zz_tr hz hc.2.1) (Q_80 hq)) (fun v2 m' hr ho h3 h7 h95 e8 e10 e97 e98 e17 e27 hz' => zi_n ⟨hc.1.1.1, K _ (lw_q H hc hpr hte hke h65 h67 hr ho h3 h7 h95 e8 e10 e97 e98 e17 e27 (md_79 e79 (s0_st hc (h79 e79).1 ho (by exact Q_A hq (Ax_we (Q_88o hq)) (h79 e79).2.1 (h79 e79).2.2) hz')))⟩)
  by_cases e84 : mR S 64 11 = some 84
  · obtain ⟨hB, hC, aa, hq, hz, hk⟩ := H.2.2.2.2.2.2.2.2.2.2.2.2.1.2.2 e84
    have hv : cV aa [] (T : Int) := V_0 (C_o8 (O8_sy (Q_8 hq)) hC)
    have e5 := e4_of H hc e84
    exact r4_251 _ _ (by decide) (by decide) hc.1.1.1 (ref_tr H.2.1 hc.2.1) ht e5.1 e5.2 (zz_tr hz hc.2.1) (zk_tr hk hc.2.1) hv (zz_58 (zz_tr hz hc.2.1) (Q_80 hq)) (fun v2 m' hr ho h3 h7 h95 e8 e10 e97 e98 e17 e27 hz' hk' => zi_n ⟨hc.1.1.1, K _ (lw_q H hc hpr hte hke h65 h67 hr ho h3 h7 h95 e8 e10 e97 e98 e17 e27 (md_84 e84 (s4_st hc (h84 e84).1 ho (C_T (C_up (C_o8 (O8_sy T_88) (h84 e84).2.2.2))) (Q_A hq (Ax_we (Q_88o hq)) (h84 e84).2.1 (h84 e84).2.2.1) hz' hk')))⟩)
  exact rf_251 _ _ (by decide) (by decide) hc.1.1.1 (ref_tr H.2.1 hc.2.1) ht (fun v2 m' hr ho h3 h7 h95 e8 e10 e97 e98 e17 e27 => zi_n ⟨hc.1.1.1, K _ (lw_q H hc hpr hte hke h65 h67 hr ho h3 h7 h95 e8 e10 e97 e98 e17 e27 (md_no e e79 e84))⟩)
theorem la_11 {X : Nat × (Nat → Int32)} {C0 Z0 T : Nat} {S : ma_S} {Q : Option ma_V → ma_S → Prop} (i : Int32) (H : zLw C0 Z0 T S) (ht : T + 1 ≤ 512) (gd : ∀ j : Int32, (j = 1 ∨ j = 2 ∨ j = 3 ∨ j = 4 ∨ j = 5) → 0 ≤ i + j ∧ (i + j).toNatClampNeg < X.1) (K : ∀ S', zLw C0 Z0 (T + 1) S' → ma_fp X 0 13 494 957 [(0, .inr (.inr (some 30))), (1, .inr (.inr (some 64))), (2, .inr (.inr (some 94))), (3, .inr (.inr (some 125))), (4, .inl i)] [] S' Q) : ma_fp X 0 13 494 625 [(0, .inr (.inr (some 30))), (1, .inr (.inr (some 64))), (2, .inr (.inr (some 94))), (3, .inr (.inr (some 125))), (4, .inl i)] [] S Q := by
  refine gl_625 i (by decide) (by decide) H.1.1.1 ?_
  refine ⟨gd 1 (by decide), gd 2 (by decide), ?_⟩
  refine fw_11 (T := T) _ _ (by decide) (by decide) H.1 (lw_xb H) (lw_cc H) ht (fun v S2 hc hpr hte hke h65 h67 h87 h79 h84 => zfi_n ⟨hc.1.1.1, gd 1 (by decide), gd 2 (by decide), ?_⟩)
  by_cases e : mR S 64 11 = some 87
  · obtain ⟨hB, aa, hsm, hz⟩ := H.2.2.2.2.2.2.2.2.2.2.2.2.1.1 e
    have k5 := K_5 hz
    have e5 := e5_of H hc e
    exact rs_252 _ _ (by decide) (by decide) hc.1.1.1 (ref_tr H.2.1 hc.2.1) ht e5.1 e5.2 (z5_tr hz hc.2.1) (fun v2 m' hr ho h3 h7 h95 e8 e10 e97 e98 e17 e27 hz' => zi_n ⟨hc.1.1.1, K _ (lw_q H hc hpr hte hke h65 h67 hr ho h3 h7 h95 e8 e10 e97 e98 e17 e27 (md_87 e (s5_st hc (h87 e).1 ho (by rw [(h87 e).2]; exact Sm_xg hsm) hz')))⟩)
  by_cases e79 : mR S 64 11 = some 79
  · obtain ⟨hB, aa, hq, hz⟩ := H.2.2.2.2.2.2.2.2.2.2.2.2.1.2.1 e79
    have e5 := e0_of H hc e79
    exact r0_252 _ _ (by decide) (by decide) hc.1.1.1 (ref_tr H.2.1 hc.2.1) ht e5.1 e5.2 (zz_tr hz hc.2.1) (zz_58 (zz_tr hz hc.2.1) (Q_80 hq)) (fun v2 m' hr ho h3 h7 h95 e8 e10 e97 e98 e17 e27 hz' => zi_n ⟨hc.1.1.1, K _ (lw_q H hc hpr hte hke h65 h67 hr ho h3 h7 h95 e8 e10 e97 e98 e17 e27 (md_79 e79 (s0_st hc (h79 e79).1 ho (by rw [Sg_o (Q_80 hq)]; exact Q_A hq (Ax_sg (Q_88o hq)) (h79 e79).2.1 (h79 e79).2.2) hz')))⟩)
  by_cases e84 : mR S 64 11 = some 84
  · obtain ⟨hB, hC, aa, hq, hz, hk⟩ := H.2.2.2.2.2.2.2.2.2.2.2.2.1.2.2 e84
    have hv : cV aa [] (T : Int) := V_0 (C_o8 (O8_sy (Q_8 hq)) hC)
    have e5 := e4_of H hc e84
    exact r4_252 _ _ (by decide) (by decide) hc.1.1.1 (ref_tr H.2.1 hc.2.1) ht e5.1 e5.2 (zz_tr hz hc.2.1) (zk_tr hk hc.2.1) hv (zz_58 (zz_tr hz hc.2.1) (Q_80 hq)) (fun v2 m' hr ho h3 h7 h95 e8 e10 e97 e98 e17 e27 hz' hk' => zi_n ⟨hc.1.1.1, K _ (lw_q H hc hpr hte hke h65 h67 hr ho h3 h7 h95 e8 e10 e97 e98 e17 e27 (md_84 e84 (s4_st hc (h84 e84).1 ho (C_T (C_up (C_o8 (O8_sy T_88) (h84 e84).2.2.2))) (Q_A hq (Ax_ksg (Q_88o hq) hv) (h84 e84).2.1 (h84 e84).2.2.1) hz' hk')))⟩)
  exact rf_252 _ _ (by decide) (by decide) hc.1.1.1 (ref_tr H.2.1 hc.2.1) ht (fun v2 m' hr ho h3 h7 h95 e8 e10 e97 e98 e17 e27 => zi_n ⟨hc.1.1.1, K _ (lw_q H hc hpr hte hke h65 h67 hr ho h3 h7 h95 e8 e10 e97 e98 e17 e27 (md_no e e79 e84))⟩)
theorem la_12 {X : Nat × (Nat → Int32)} {C0 Z0 T : Nat} {S : ma_S} {Q : Option ma_V → ma_S → Prop} (i : Int32) (H : zLw C0 Z0 T S) (ht : T + 1 ≤ 512) (gd : ∀ j : Int32, (j = 1 ∨ j = 2 ∨ j = 3 ∨ j = 4 ∨ j = 5) → 0 ≤ i + j ∧ (i + j).toNatClampNeg < X.1) (K : ∀ S', zLw C0 Z0 (T + 1) S' → ma_fp X 0 13 494 957 [(0, .inr (.inr (some 30))), (1, .inr (.inr (some 64))), (2, .inr (.inr (some 94))), (3, .inr (.inr (some 125))), (4, .inl i)] [] S' Q) : ma_fp X 0 13 494 665 [(0, .inr (.inr (some 30))), (1, .inr (.inr (some 64))), (2, .inr (.inr (some 94))), (3, .inr (.inr (some 125))), (4, .inl i)] [] S Q := by
  refine gl_665 i (by decide) (by decide) H.1.1.1 ?_
  refine ⟨gd 1 (by decide), gd 2 (by decide), zd (fun hb => ?_) (fun hb => ?_)⟩
  · refine fw_12 (T := T) _ _ (by decide) (by decide) H.1 (Or.inl rfl) (lw_xb H) (lw_cc H) ht (fun v S2 hc hpr hte hke h65 h67 h87 h79 h84 => zfi_n ⟨hc.1.1.1, gd 1 (by decide), gd 2 (by decide), zt hb ?_⟩)
    by_cases e : mR S 64 11 = some 87
    · obtain ⟨hB, aa, hsm, hz⟩ := H.2.2.2.2.2.2.2.2.2.2.2.2.1.1 e
      have k5 := K_5 hz
      have e5 := e5_of H hc e
      exact rs_253 _ _ (by decide) (by decide) hc.1.1.1 (ref_tr H.2.1 hc.2.1) ht e5.1 e5.2 (z5_tr hz hc.2.1) (by decide) (by decide) (fun v2 m' hr ho h3 h7 h95 e8 e10 e97 e98 e17 e27 hz' => zi_n ⟨hc.1.1.1, K _ (lw_q H hc hpr hte hke h65 h67 hr ho h3 h7 h95 e8 e10 e97 e98 e17 e27 (md_87 e (s5_st hc (h87 e).1 ho (by rw [(h87 e).2]; exact Sm_ho hsm) hz')))⟩)
    by_cases e79 : mR S 64 11 = some 79
    · obtain ⟨hB, aa, hq, hz⟩ := H.2.2.2.2.2.2.2.2.2.2.2.2.1.2.1 e79
      have e5 := e0_of H hc e79
      exact r0_253 _ _ (by decide) (by decide) hc.1.1.1 (ref_tr H.2.1 hc.2.1) ht e5.1 e5.2 (zz_tr hz hc.2.1) (zz_58 (zz_tr hz hc.2.1) (Q_80 hq)) (by decide) (by decide) (fun v2 m' hr ho h3 h7 h95 e8 e10 e97 e98 e17 e27 hz' => zi_n ⟨hc.1.1.1, K _ (lw_q H hc hpr hte hke h65 h67 hr ho h3 h7 h95 e8 e10 e97 e98 e17 e27 (md_79 e79 (s0_st hc (h79 e79).1 ho (by exact Q_A hq (Ax_ho (Q_88o hq)) (h79 e79).2.1 (h79 e79).2.2) hz')))⟩)
    by_cases e84 : mR S 64 11 = some 84
    · obtain ⟨hB, hC, aa, hq, hz, hk⟩ := H.2.2.2.2.2.2.2.2.2.2.2.2.1.2.2 e84
      have hv : cV aa [] (T : Int) := V_0 (C_o8 (O8_sy (Q_8 hq)) hC)
      have e5 := e4_of H hc e84
      exact r4_253 _ _ (by decide) (by decide) hc.1.1.1 (ref_tr H.2.1 hc.2.1) ht e5.1 e5.2 (zz_tr hz hc.2.1) (zk_tr hk hc.2.1) hv (zz_58 (zz_tr hz hc.2.1) (Q_80 hq)) (by decide) (by decide) (fun v2 m' hr ho h3 h7 h95 e8 e10 e97 e98 e17 e27 hz' hk' => zi_n ⟨hc.1.1.1, K _ (lw_q H hc hpr hte hke h65 h67 hr ho h3 h7 h95 e8 e10 e97 e98 e17 e27 (md_84 e84 (s4_st hc (h84 e84).1 ho (C_T (C_o8 (O8_sy T_88) (h84 e84).2.2.2)) (Q_A hq (Ax_kho (Q_88o hq) hv (by omega)) (h84 e84).2.1 (h84 e84).2.2.1) hz' hk')))⟩)
    exact rf_253 _ _ (by decide) (by decide) hc.1.1.1 (ref_tr H.2.1 hc.2.1) ht (fun v2 m' hr ho h3 h7 h95 e8 e10 e97 e98 e17 e27 => zi_n ⟨hc.1.1.1, K _ (lw_q H hc hpr hte hke h65 h67 hr ho h3 h7 h95 e8 e10 e97 e98 e17 e27 (md_no e e79 e84))⟩)
  · refine fw_12 (T := T) _ _ (by decide) (by decide) H.1 (Or.inr rfl) (lw_xb H) (lw_cc H) ht (fun v S2 hc hpr hte hke h65 h67 h87 h79 h84 => zfi_n ⟨hc.1.1.1, gd 1 (by decide), gd 2 (by decide), zf hb ?_⟩)
    by_cases e : mR S 64 11 = some 87
    · obtain ⟨hB, aa, hsm, hz⟩ := H.2.2.2.2.2.2.2.2.2.2.2.2.1.1 e
      have k5 := K_5 hz
      have e5 := e5_of H hc e
      exact rs_253 _ _ (by decide) (by decide) hc.1.1.1 (ref_tr H.2.1 hc.2.1) ht e5.1 e5.2 (z5_tr hz hc.2.1) (by decide) (by decide) (fun v2 m' hr ho h3 h7 h95 e8 e10 e97 e98 e17 e27 hz' => zi_n ⟨hc.1.1.1, K _ (lw_q H hc hpr hte hke h65 h67 hr ho h3 h7 h95 e8 e10 e97 e98 e17 e27 (md_87 e (s5_st hc (h87 e).1 ho (by rw [(h87 e).2]; exact Sm_ho hsm) hz')))⟩)
    by_cases e79 : mR S 64 11 = some 79
    · obtain ⟨hB, aa, hq, hz⟩ := H.2.2.2.2.2.2.2.2.2.2.2.2.1.2.1 e79
      have e5 := e0_of H hc e79
      exact r0_253 _ _ (by decide) (by decide) hc.1.1.1 (ref_tr H.2.1 hc.2.1) ht e5.1 e5.2 (zz_tr hz hc.2.1) (zz_58 (zz_tr hz hc.2.1) (Q_80 hq)) (by decide) (by decide) (fun v2 m' hr ho h3 h7 h95 e8 e10 e97 e98 e17 e27 hz' => zi_n ⟨hc.1.1.1, K _ (lw_q H hc hpr hte hke h65 h67 hr ho h3 h7 h95 e8 e10 e97 e98 e17 e27 (md_79 e79 (s0_st hc (h79 e79).1 ho (by exact Q_A hq (Ax_ho (Q_88o hq)) (h79 e79).2.1 (h79 e79).2.2) hz')))⟩)
    by_cases e84 : mR S 64 11 = some 84
    · obtain ⟨hB, hC, aa, hq, hz, hk⟩ := H.2.2.2.2.2.2.2.2.2.2.2.2.1.2.2 e84
      have hv : cV aa [] (T : Int) := V_0 (C_o8 (O8_sy (Q_8 hq)) hC)
      have e5 := e4_of H hc e84
      exact r4_253 _ _ (by decide) (by decide) hc.1.1.1 (ref_tr H.2.1 hc.2.1) ht e5.1 e5.2 (zz_tr hz hc.2.1) (zk_tr hk hc.2.1) hv (zz_58 (zz_tr hz hc.2.1) (Q_80 hq)) (by decide) (by decide) (fun v2 m' hr ho h3 h7 h95 e8 e10 e97 e98 e17 e27 hz' hk' => zi_n ⟨hc.1.1.1, K _ (lw_q H hc hpr hte hke h65 h67 hr ho h3 h7 h95 e8 e10 e97 e98 e17 e27 (md_84 e84 (s4_st hc (h84 e84).1 ho (C_T (C_o8 (O8_sy T_88) (h84 e84).2.2.2)) (Q_A hq (Ax_kho (Q_88o hq) hv (by omega)) (h84 e84).2.1 (h84 e84).2.2.1) hz' hk')))⟩)
    exact rf_253 _ _ (by decide) (by decide) hc.1.1.1 (ref_tr H.2.1 hc.2.1) ht (fun v2 m' hr ho h3 h7 h95 e8 e10 e97 e98 e17 e27 => zi_n ⟨hc.1.1.1, K _ (lw_q H hc hpr hte hke h65 h67 hr ho h3 h7 h95 e8 e10 e97 e98 e17 e27 (md_no e e79 e84))⟩)
theorem la_13 {X : Nat × (Nat → Int32)} {C0 Z0 T : Nat} {S : ma_S} {Q : Option ma_V → ma_S → Prop} (i : Int32) (H : zLw C0 Z0 T S) (ht : T + 1 ≤ 512) (gd : ∀ j : Int32, (j = 1 ∨ j = 2 ∨ j = 3 ∨ j = 4 ∨ j = 5) → 0 ≤ i + j ∧ (i + j).toNatClampNeg < X.1) (K : ∀ S', zLw C0 Z0 (T + 1) S' → ma_fp X 0 13 494 957 [(0, .inr (.inr (some 30))), (1, .inr (.inr (some 64))), (2, .inr (.inr (some 94))), (3, .inr (.inr (some 125))), (4, .inl i)] [] S' Q) : ma_fp X 0 13 494 721 [(0, .inr (.inr (some 30))), (1, .inr (.inr (some 64))), (2, .inr (.inr (some 94))), (3, .inr (.inr (some 125))), (4, .inl i)] [] S Q := by
  refine gl_721 i (by decide) (by decide) H.1.1.1 ?_
  refine ⟨gd 1 (by decide), ?_⟩
  refine fw_13 (T := T) _ (by decide) (by decide) H.1 (lw_xb H) (lw_cc H) ht (fun v S2 hc hpr hte hke h65 h67 h87 h79 h84 => zfi_n ⟨hc.1.1.1, gd 1 (by decide), ?_⟩)
  by_cases e : mR S 64 11 = some 87
  · obtain ⟨hB, aa, hsm, hz⟩ := H.2.2.2.2.2.2.2.2.2.2.2.2.1.1 e
    have k5 := K_5 hz
    have e5 := e5_of H hc e
    exact rs_254 _ (by decide) (by decide) hc.1.1.1 (ref_tr H.2.1 hc.2.1) ht e5.1 e5.2 (z5_tr hz hc.2.1) (fun v2 m' hr ho h3 h7 h95 e8 e10 e97 e98 e17 e27 hz' => zi_n ⟨hc.1.1.1, K _ (lw_q H hc hpr hte hke h65 h67 hr ho h3 h7 h95 e8 e10 e97 e98 e17 e27 (md_87 e (s5_st hc (h87 e).1 ho (by rw [(h87 e).2]; exact Sm_wi hsm) hz')))⟩)
  by_cases e79 : mR S 64 11 = some 79
  · obtain ⟨hB, aa, hq, hz⟩ := H.2.2.2.2.2.2.2.2.2.2.2.2.1.2.1 e79
    have e5 := e0_of H hc e79
    exact r0_254 _ (by decide) (by decide) hc.1.1.1 (ref_tr H.2.1 hc.2.1) ht e5.1 e5.2 (zz_tr hz hc.2.1) (zz_58 (zz_tr hz hc.2.1) (Q_80 hq)) (fun v2 m' hr ho h3 h7 h95 e8 e10 e97 e98 e17 e27 hz' => zi_n ⟨hc.1.1.1, K _ (lw_q H hc hpr hte hke h65 h67 hr ho h3 h7 h95 e8 e10 e97 e98 e17 e27 (md_79 e79 (s0_st hc (h79 e79).1 ho (by exact Q_A hq (Ax_wi (Q_88o hq)) (h79 e79).2.1 (h79 e79).2.2) hz')))⟩)
  by_cases e84 : mR S 64 11 = some 84
  · obtain ⟨hB, hC, aa, hq, hz, hk⟩ := H.2.2.2.2.2.2.2.2.2.2.2.2.1.2.2 e84
    have hv : cV aa [] (T : Int) := V_0 (C_o8 (O8_sy (Q_8 hq)) hC)
    have e5 := e4_of H hc e84
    exact r4_254 _ (by decide) (by decide) hc.1.1.1 (ref_tr H.2.1 hc.2.1) ht e5.1 e5.2 (zz_tr hz hc.2.1) (zk_tr hk hc.2.1) hv (zz_58 (zz_tr hz hc.2.1) (Q_80 hq)) (fun v2 m' hr ho h3 h7 h95 e8 e10 e97 e98 e17 e27 hz' hk' => zi_n ⟨hc.1.1.1, K _ (lw_q H hc hpr hte hke h65 h67 hr ho h3 h7 h95 e8 e10 e97 e98 e17 e27 (md_84 e84 (s4_st hc (h84 e84).1 ho (C_T (C_up (C_o8 (O8_sy T_88) (h84 e84).2.2.2))) (Q_A hq (Ax_wi (Q_88o hq)) (h84 e84).2.1 (h84 e84).2.2.1) hz' hk')))⟩)
  exact rf_254 _ (by decide) (by decide) hc.1.1.1 (ref_tr H.2.1 hc.2.1) ht (fun v2 m' hr ho h3 h7 h95 e8 e10 e97 e98 e17 e27 => zi_n ⟨hc.1.1.1, K _ (lw_q H hc hpr hte hke h65 h67 hr ho h3 h7 h95 e8 e10 e97 e98 e17 e27 (md_no e e79 e84))⟩)
theorem la_14 {X : Nat × (Nat → Int32)} {C0 Z0 T : Nat} {S : ma_S} {Q : Option ma_V → ma_S → Prop} (i : Int32) (H : zLw C0 Z0 T S) (ht : T + 1 ≤ 512) (gd : ∀ j : Int32, (j = 1 ∨ j = 2 ∨ j = 3 ∨ j = 4 ∨ j = 5) → 0 ≤ i + j ∧ (i + j).toNatClampNeg < X.1) (K : ∀ S', zLw C0 Z0 (T + 1) S' → ma_fp X 0 13 494 957 [(0, .inr (.inr (some 30))), (1, .inr (.inr (some 64))), (2, .inr (.inr (some 94))), (3, .inr (.inr (some 125))), (4, .inl i)] [] S' Q) : ma_fp X 0 13 494 749 [(0, .inr (.inr (some 30))), (1, .inr (.inr (some 64))), (2, .inr (.inr (some 94))), (3, .inr (.inr (some 125))), (4, .inl i)] [] S Q := by
  refine gl_749 i (by decide) (by decide) H.1.1.1 ?_
  refine ⟨gd 1 (by decide), ?_⟩
  refine fw_14 (T := T) _ (by decide) (by decide) H.1 (lw_xb H) (lw_cc H) ht (fun v S2 hc hpr hte hke h65 h67 h87 h79 h84 => zfi_n ⟨hc.1.1.1, gd 1 (by decide), ?_⟩)
  by_cases e : mR S 64 11 = some 87
  · obtain ⟨hB, aa, hsm, hz⟩ := H.2.2.2.2.2.2.2.2.2.2.2.2.1.1 e
    have k5 := K_5 hz
    have e5 := e5_of H hc e
    exact rs_255 _ (by decide) (by decide) hc.1.1.1 (ref_tr H.2.1 hc.2.1) ht e5.1 e5.2 (z5_tr hz hc.2.1) (fun v2 m' hr ho h3 h7 h95 e8 e10 e97 e98 e17 e27 hz' => zi_n ⟨hc.1.1.1, K _ (lw_q H hc hpr hte hke h65 h67 hr ho h3 h7 h95 e8 e10 e97 e98 e17 e27 (md_87 e (s5_st hc (h87 e).1 ho (by rw [(h87 e).2]; exact Sm_gr hsm) hz')))⟩)
  by_cases e79 : mR S 64 11 = some 79
  · obtain ⟨hB, aa, hq, hz⟩ := H.2.2.2.2.2.2.2.2.2.2.2.2.1.2.1 e79
    have e5 := e0_of H hc e79
    exact r0_255 _ (by decide) (by decide) hc.1.1.1 (ref_tr H.2.1 hc.2.1) ht e5.1 e5.2 (zz_tr hz hc.2.1) (zz_58 (zz_tr hz hc.2.1) (Q_80 hq)) (fun v2 m' hr ho h3 h7 h95 e8 e10 e97 e98 e17 e27 hz' => zi_n ⟨hc.1.1.1, K _ (lw_q H hc hpr hte hke h65 h67 hr ho h3 h7 h95 e8 e10 e97 e98 e17 e27 (md_79 e79 (s0_st hc (h79 e79).1 ho (by rw [Gr_o (Q_80 hq)]; exact Q_A hq (Ax_gr (Q_88o hq)) (h79 e79).2.1 (h79 e79).2.2) hz')))⟩)
  by_cases e84 : mR S 64 11 = some 84
  · obtain ⟨hB, hC, aa, hq, hz, hk⟩ := H.2.2.2.2.2.2.2.2.2.2.2.2.1.2.2 e84
    have hv : cV aa [] (T : Int) := V_0 (C_o8 (O8_sy (Q_8 hq)) hC)
    have e5 := e4_of H hc e84
    exact r4_255 _ (by decide) (by decide) hc.1.1.1 (ref_tr H.2.1 hc.2.1) ht e5.1 e5.2 (zz_tr hz hc.2.1) (zk_tr hk hc.2.1) hv (zz_58 (zz_tr hz hc.2.1) (Q_80 hq)) (fun v2 m' hr ho h3 h7 h95 e8 e10 e97 e98 e17 e27 hz' hk' => zi_n ⟨hc.1.1.1, K _ (lw_q H hc hpr hte hke h65 h67 hr ho h3 h7 h95 e8 e10 e97 e98 e17 e27 (md_84 e84 (s4_st hc (h84 e84).1 ho (C_T (C_up (C_o8 (O8_sy T_88) (h84 e84).2.2.2))) (Q_A hq (Ax_kgr (Q_88o hq) hv) (h84 e84).2.1 (h84 e84).2.2.1) hz' hk')))⟩)
  exact rf_255 _ (by decide) (by decide) hc.1.1.1 (ref_tr H.2.1 hc.2.1) ht (fun v2 m' hr ho h3 h7 h95 e8 e10 e97 e98 e17 e27 => zi_n ⟨hc.1.1.1, K _ (lw_q H hc hpr hte hke h65 h67 hr ho h3 h7 h95 e8 e10 e97 e98 e17 e27 (md_no e e79 e84))⟩)
theorem la_15 {X : Nat × (Nat → Int32)} {C0 Z0 T : Nat} {S : ma_S} {Q : Option ma_V → ma_S → Prop} (i : Int32) (H : zLw C0 Z0 T S) (ht : T + 1 ≤ 512) (gd : ∀ j : Int32, (j = 1 ∨ j = 2 ∨ j = 3 ∨ j = 4 ∨ j = 5) → 0 ≤ i + j ∧ (i + j).toNatClampNeg < X.1) (K : ∀ S', zLw C0 Z0 (T + 1) S' → ma_fp X 0 13 494 957 [(0, .inr (.inr (some 30))), (1, .inr (.inr (some 64))), (2, .inr (.inr (some 94))), (3, .inr (.inr (some 125))), (4, .inl i)] [] S' Q) : ma_fp X 0 13 494 777 [(0, .inr (.inr (some 30))), (1, .inr (.inr (some 64))), (2, .inr (.inr (some 94))), (3, .inr (.inr (some 125))), (4, .inl i)] [] S Q := by
  refine gl_777 i (by decide) (by decide) H.1.1.1 ?_
  refine fw_15 (T := T)  (by decide) (by decide) H.1 (lw_xb H) (lw_cc H) ht (fun v S2 hc hpr hte hke h65 h67 h87 h79 h84 => zfi_n ⟨hc.1.1.1, ?_⟩)
  by_cases e : mR S 64 11 = some 87
  · obtain ⟨hB, aa, hsm, hz⟩ := H.2.2.2.2.2.2.2.2.2.2.2.2.1.1 e
    have k5 := K_5 hz
    have e5 := e5_of H hc e
    exact rs_256  (by decide) (by decide) hc.1.1.1 (ref_tr H.2.1 hc.2.1) ht e5.1 e5.2 (z5_tr hz hc.2.1) (fun v2 m' hr ho h3 h7 h95 e8 e10 e97 e98 e17 e27 hz' => zi_n ⟨hc.1.1.1, K _ (lw_q H hc hpr hte hke h65 h67 hr ho h3 h7 h95 e8 e10 e97 e98 e17 e27 (md_87 e (s5_st hc (h87 e).1 ho (by rw [(h87 e).2]; exact (Sm_cl hsm k5.1).1) hz')))⟩)
  by_cases e79 : mR S 64 11 = some 79
  · obtain ⟨hB, aa, hq, hz⟩ := H.2.2.2.2.2.2.2.2.2.2.2.2.1.2.1 e79
    have e5 := e0_of H hc e79
    exact r0_256  (by decide) (by decide) hc.1.1.1 (ref_tr H.2.1 hc.2.1) ht e5.1 e5.2 (zz_tr hz hc.2.1) (zz_58 (zz_tr hz hc.2.1) (Q_80 hq)) (fun v2 m' hr ho h3 h7 h95 e8 e10 e97 e98 e17 e27 hz' => zi_n ⟨hc.1.1.1, K _ (lw_q H hc hpr hte hke h65 h67 hr ho h3 h7 h95 e8 e10 e97 e98 e17 e27 (md_79 e79 (s0_st hc (h79 e79).1 ho (by rw [(h79 e79).2]; exact (Q_sw hq hz.2.1).1) hz')))⟩)
  by_cases e84 : mR S 64 11 = some 84
  · obtain ⟨hB, hC, aa, hq, hz, hk⟩ := H.2.2.2.2.2.2.2.2.2.2.2.2.1.2.2 e84
    have hv : cV aa [] (T : Int) := V_0 (C_o8 (O8_sy (Q_8 hq)) hC)
    have e5 := e4_of H hc e84
    exact r4_256  (by decide) (by decide) hc.1.1.1 (ref_tr H.2.1 hc.2.1) ht e5.1 e5.2 (zz_tr hz hc.2.1) (zk_tr hk hc.2.1) hv (zz_58 (zz_tr hz hc.2.1) (Q_80 hq)) (fun v2 m' hr ho h3 h7 h95 e8 e10 e97 e98 e17 e27 hz' hk' => zi_n ⟨hc.1.1.1, K _ (lw_q H hc hpr hte hke h65 h67 hr ho h3 h7 h95 e8 e10 e97 e98 e17 e27 (md_84 e84 (s4_st hc (h84 e84).1 ho (C_T (C_up (h84 e84).2.2)) (by rw [(h84 e84).2.1]; exact (Q_sw hq hz.2.1).1) hz' hk')))⟩)
  exact rf_256  (by decide) (by decide) hc.1.1.1 (ref_tr H.2.1 hc.2.1) ht (fun v2 m' hr ho h3 h7 h95 e8 e10 e97 e98 e17 e27 => zi_n ⟨hc.1.1.1, K _ (lw_q H hc hpr hte hke h65 h67 hr ho h3 h7 h95 e8 e10 e97 e98 e17 e27 (md_no e e79 e84))⟩)
theorem la_16 {X : Nat × (Nat → Int32)} {C0 Z0 T : Nat} {S : ma_S} {Q : Option ma_V → ma_S → Prop} (i : Int32) (H : zLw C0 Z0 T S) (ht : T + 1 ≤ 512) (gd : ∀ j : Int32, (j = 1 ∨ j = 2 ∨ j = 3 ∨ j = 4 ∨ j = 5) → 0 ≤ i + j ∧ (i + j).toNatClampNeg < X.1) (K : ∀ S', zLw C0 Z0 (T + 1) S' → ma_fp X 0 13 494 957 [(0, .inr (.inr (some 30))), (1, .inr (.inr (some 64))), (2, .inr (.inr (some 94))), (3, .inr (.inr (some 125))), (4, .inl i)] [] S' Q) : ma_fp X 0 13 494 793 [(0, .inr (.inr (some 30))), (1, .inr (.inr (some 64))), (2, .inr (.inr (some 94))), (3, .inr (.inr (some 125))), (4, .inl i)] [] S Q := by
  refine gl_793 i (by decide) (by decide) H.1.1.1 ?_
  refine ⟨gd 1 (by decide), ?_⟩
  refine fw_16 (T := T) _ (by decide) (by decide) H.1 (lw_xb H) (lw_cc H) ht (fun v S2 hc hpr hte hke h65 h67 e hn hB2 hq1 => zfi_n ⟨hc.1.1.1, gd 1 (by decide), ?_⟩) (fun v S2 hc hpr hte hke h65 h67 hv h87 hkp => zfi_n ⟨hc.1.1.1, gd 1 (by decide), ?_⟩)
  · obtain ⟨hB, aa, hsm, hz⟩ := H.2.2.2.2.2.2.2.2.2.2.2.2.1.1 e
    have k5 := K_5 hz
    have e5 := e5_of H hc e
    have go := Sm_go (n := (X.2 (i + 1).toNatClampNeg).toInt.toNat) hsm k5.1
    have hsim : qSm (aS 88 S2) (xSp aa (X.2 (i + 1).toNatClampNeg)) := by
      unfold xSp
      rw [hq1, qIf_y hn]
      exact go.1
    exact rs_257 _ (by decide) (by decide) hc.1.1.1 (ref_tr H.2.1 hc.2.1) ht e5.1 e5.2 (z5_tr hz hc.2.1) (fun v2 m' hr ho h3 h7 h95 e8 e10 e97 e98 e17 e27 hz' _ => zi_n ⟨hc.1.1.1, K _ (lw_q H hc hpr hte hke h65 h67 hr ho h3 h7 h95 e8 e10 e97 e98 e17 e27 (md_87 e (s5_st hc hB2 ho hsim hz')))⟩)
  · by_cases e : mR S 64 11 = some 87
    · obtain ⟨hB, aa, hsm, hz⟩ := H.2.2.2.2.2.2.2.2.2.2.2.2.1.1 e
      have e5 := e5_of H hc e
      have hv3 : (X.2 (i + 1).toNatClampNeg).toInt < 0 ∨ 1000 < (X.2 (i + 1).toNatClampNeg).toInt := hv.elim id (fun w => absurd e w)
      have hsim : qSm (aS 88 S2) (xSp aa (X.2 (i + 1).toNatClampNeg)) := by
        unfold xSp
        rw [(h87 e).2, qIf_n (fun w => by omega)]
        exact hsm
      exact rs_257 _ (by decide) (by decide) hc.1.1.1 (ref_tr H.2.1 hc.2.1) ht e5.1 e5.2 (z5_tr hz hc.2.1) (fun v2 m' hr ho h3 h7 h95 e8 e10 e97 e98 e17 e27 hz' _ => zi_n ⟨hc.1.1.1, K _ (lw_q H hc hpr hte hke h65 h67 hr ho h3 h7 h95 e8 e10 e97 e98 e17 e27 (md_87 e (s5_st hc (h87 e).1 ho hsim hz')))⟩)
    · by_cases e79 : mR S 64 11 = some 79
      · have hH := hkp (Or.inl e79)
        exact r0_257 _ (by decide) (by decide) hc.1.1.1 (ref_tr H.2.1 hc.2.1) ht (e0_of H hc e79).1 (Or.inl (e0_of H hc e79).2) (fun v2 m' hr ho h3 h7 h95 e8 e10 e97 e98 e17 e27 _ kps => zi_n ⟨hc.1.1.1, K _ (lw_q H hc hpr hte hke h65 h67 hr ho h3 h7 h95 e8 e10 e97 e98 e17 e27 (kp_mo2 H hc ho hH e (kp_zz kps) (kp_zk kps)))⟩)
      · by_cases e84 : mR S 64 11 = some 84
        · have hH := hkp (Or.inr e84)
          exact r0_257 _ (by decide) (by decide) hc.1.1.1 (ref_tr H.2.1 hc.2.1) ht (e4_of H hc e84).1 (Or.inr (e4_of H hc e84).2) (fun v2 m' hr ho h3 h7 h95 e8 e10 e97 e98 e17 e27 _ kps => zi_n ⟨hc.1.1.1, K _ (lw_q H hc hpr hte hke h65 h67 hr ho h3 h7 h95 e8 e10 e97 e98 e17 e27 (kp_mo2 H hc ho hH e (kp_zz kps) (kp_zk kps)))⟩)
        · have n5 : (mI S2 94 8).toInt ≠ 0 → (mI S2 94 10).toInt ≠ 5 := fun w1 w2 => e (H.2.2.2.2.2.2.2.2.2.1.mpr ⟨by rw [← hc.2.1 94 8 (by decide) (by decide)]; exact w1, by rw [← hc.2.1 94 10 (by decide) (by decide)]; exact w2⟩)
          exact rf_257 _ (by decide) (by decide) hc.1.1.1 (ref_tr H.2.1 hc.2.1) ht n5 (fun v2 m' hr ho h3 h7 h95 e8 e10 e97 e98 e17 e27 _ => zi_n ⟨hc.1.1.1, K _ (lw_q H hc hpr hte hke h65 h67 hr ho h3 h7 h95 e8 e10 e97 e98 e17 e27 (md_no e e79 e84))⟩)
theorem la_17 {X : Nat × (Nat → Int32)} {C0 Z0 T : Nat} {S : ma_S} {Q : Option ma_V → ma_S → Prop} (i : Int32) (H : zLw C0 Z0 T S) (ht : T + 1 ≤ 512) (gd : ∀ j : Int32, (j = 1 ∨ j = 2 ∨ j = 3 ∨ j = 4 ∨ j = 5) → 0 ≤ i + j ∧ (i + j).toNatClampNeg < X.1) (K : ∀ S', zLw C0 Z0 (T + 1) S' → ma_fp X 0 13 494 957 [(0, .inr (.inr (some 30))), (1, .inr (.inr (some 64))), (2, .inr (.inr (some 94))), (3, .inr (.inr (some 125))), (4, .inl i)] [] S' Q) : ma_fp X 0 13 494 821 [(0, .inr (.inr (some 30))), (1, .inr (.inr (some 64))), (2, .inr (.inr (some 94))), (3, .inr (.inr (some 125))), (4, .inl i)] [] S Q := by
  refine gl_821 i (by decide) (by decide) H.1.1.1 ?_
  refine ⟨gd 1 (by decide), gd 2 (by decide), ?_⟩
  refine fw_17 (T := T) _ _ (by decide) (by decide) H.1 (lw_xb H) (lw_cc H) ht (fun v S2 hc hpr hte hke h65 h67 h87 h79 h84 => zfi_n ⟨hc.1.1.1, gd 1 (by decide), gd 2 (by decide), ?_⟩)
  refine rf_258 _ _ (by decide) (by decide) hc.1.1.1 (ref_tr H.2.1 hc.2.1) ht (fun v2 m' hr ho h3 h7 h95 e8 e10 e97 e98 e17 e27 fz fy fx => zi_n ⟨hc.1.1.1, K _ (lw_q H hc hpr hte hke h65 h67 hr ho h3 h7 h95 e8 e10 e97 e98 e17 e27 ⟨fun e => ?_, fun e => ?_, fun e => ?_⟩)⟩)
  · obtain ⟨hB, aa, hsm, hz⟩ := H.2.2.2.2.2.2.2.2.2.2.2.2.1.1 e
    exact s5_st hc (h87 e).1 ho (by rw [(h87 e).2]; exact hsm) (fz aa (z5_tr hz hc.2.1))
  · obtain ⟨hB, aa, hq, hz⟩ := H.2.2.2.2.2.2.2.2.2.2.2.2.1.2.1 e
    exact s0_st hc (h79 e).1 ho (Q_A hq (Ax_0 (Q_88o hq)) (h79 e).2.1 (h79 e).2.2) (fy aa (zz_tr hz hc.2.1))
  · obtain ⟨hB, hC, aa, hq, hz, hk⟩ := H.2.2.2.2.2.2.2.2.2.2.2.2.1.2.2 e
    exact s4_st hc (h84 e).1 ho (C_T (C_up (C_o8 (O8_sy T_88) (h84 e).2.2.2))) (Q_A hq (Ax_0 (Q_88o hq)) (h84 e).2.1 (h84 e).2.2.1) (fy aa (zz_tr hz hc.2.1)) (fx aa (zk_tr hk hc.2.1))
theorem la_18 {X : Nat × (Nat → Int32)} {C0 Z0 T : Nat} {S : ma_S} {Q : Option ma_V → ma_S → Prop} (i : Int32) (H : zLw C0 Z0 T S) (ht : T + 1 ≤ 512) (gd : ∀ j : Int32, (j = 1 ∨ j = 2 ∨ j = 3 ∨ j = 4 ∨ j = 5) → 0 ≤ i + j ∧ (i + j).toNatClampNeg < X.1) (K : ∀ S', zLw C0 Z0 (T + 1) S' → ma_fp X 0 13 494 957 [(0, .inr (.inr (some 30))), (1, .inr (.inr (some 64))), (2, .inr (.inr (some 94))), (3, .inr (.inr (some 125))), (4, .inl i)] [] S' Q) : ma_fp X 0 13 494 861 [(0, .inr (.inr (some 30))), (1, .inr (.inr (some 64))), (2, .inr (.inr (some 94))), (3, .inr (.inr (some 125))), (4, .inl i)] [] S Q := by
  refine gl_861 i (by decide) (by decide) H.1.1.1 ?_
  refine ⟨gd 1 (by decide), gd 2 (by decide), ?_⟩
  refine fw_18 (T := T) _ _ (by decide) (by decide) H.1 (lw_xb H) (lw_cc H) ht (fun v S2 hc hpr hte hke h65 h67 hl hw by87 by79 by84 k87 k79 k84 => zfi_n ⟨hc.1.1.1, gd 1 (by decide), gd 2 (by decide), ?_⟩) (fun v S2 hc hpr hte hke h65 h67 hv k87 k79 k84 => zfi_n ⟨hc.1.1.1, gd 1 (by decide), gd 2 (by decide), ?_⟩)
  · obtain ⟨bb, hz, h8, ph, hby⟩ := bk_of H hc hw by87 by79 by84
    refine rb_259 _ _ (by decide) (by decide) hc.1.1.1 (ref_tr H.2.1 hc.2.1) ht h8 ph hz (fun v2 m' hr ho h3 h7 h95 e8 e10 e97 e98 e17 e27 fz fy fx hbl => zi_n ⟨hc.1.1.1, ?_⟩)
    have hx0 := bl_y hby hbl
    refine sp_164 (P := fun o m'' => zi (fun v6 S5 => zT S5 ∧ (if v6 = 0 then (if (0 : Int32) = 0 then (if (lg_cmp (mL S5 125 0) (v2.toInt64)) = 0 then (ma_fp X 0 13 494 957 [(0, .inr (.inr (some 30))), (1, .inr (.inr (some 64))), (2, .inr (.inr (some 94))), (3, .inr (.inr (some 125))), (4, .inl i)] [] S5 Q) else (Q (some (.inl (0 : Int32))) S5)) else (ma_fp X 0 13 494 957 [(0, .inr (.inr (some 30))), (1, .inr (.inr (some 64))), (2, .inr (.inr (some 94))), (3, .inr (.inr (some 125))), (4, .inl i)] [] S5 Q)) else (Q (some (.inl (0 : Int32))) S5))) (fun _ _ => False) (.inl o) (zst (zst S2 m') m'')) hr.1 (fun v6 m'' hV' q0 => zi_n ⟨hc.1.1.1, ?_⟩) _ _ _ _ (by decide) (by decide) hc.1.1.1 rfl (fun _ _ z => z)
    have e6 : v6 = 0 := Int32.toInt_inj.mp (show v6.toInt = 0 by rw [q0]; exact hx0.1)
    have ez : zst (zst S2 m') (zov wr_164 m' m'') = zst S2 m' := rfl
    have ev : v = v2 := Int32.toInt_inj.mp hx0.2.symm
    refine zt e6 (zt rfl (zt ?_ ?_))
    · show lg_cmp (mL S2 125 0) v2.toInt64 = 0
      rw [hl, ev]
      exact lg_refl _
    rw [ez]
    exact K _ (lw_q H hc hpr hte hke h65 h67 hr ho h3 h7 h95 e8 e10 e97 e98 e17 e27 (bk_mod H hc ho k87 k79 k84 fz fy fx))
  · by_cases hw : mR S 64 11 = some 87 ∨ mR S 64 11 = some 79 ∨ mR S 64 11 = some 84
    · obtain ⟨bb, hz, h8, ph, hb0⟩ := bk_ox H hc hw hv
      rcases hb0 with ⟨rfl, hb1⟩ | ⟨rfl, hb1, hb2⟩
      · refine rb_259 _ _ (by decide) (by decide) hc.1.1.1 (ref_tr H.2.1 hc.2.1) ht h8 ph hz (fun v2 m' hr ho h3 h7 h95 e8 e10 e97 e98 e17 e27 fz fy fx hbl => zi_n ⟨hc.1.1.1, ?_⟩)
        have hx0 : (m' 94 0).toInt = 1 := bl_x hb1 hbl
        refine sp_164 (P := fun o m'' => zi (fun v6 S5 => zT S5 ∧ (if v6 = 1 then (if (1 : Int32) = 0 then (if (lg_cmp (mL S5 125 0) (v2.toInt64)) = 0 then (ma_fp X 0 13 494 957 [(0, .inr (.inr (some 30))), (1, .inr (.inr (some 64))), (2, .inr (.inr (some 94))), (3, .inr (.inr (some 125))), (4, .inl i)] [] S5 Q) else (Q (some (.inl (0 : Int32))) S5)) else (ma_fp X 0 13 494 957 [(0, .inr (.inr (some 30))), (1, .inr (.inr (some 64))), (2, .inr (.inr (some 94))), (3, .inr (.inr (some 125))), (4, .inl i)] [] S5 Q)) else (Q (some (.inl (0 : Int32))) S5))) (fun _ _ => False) (.inl o) (zst (zst S2 m') m'')) hr.1 (fun v6 m'' hV' q0 => zi_n ⟨hc.1.1.1, ?_⟩) _ _ _ _ (by decide) (by decide) hc.1.1.1 rfl (fun _ _ z => z)
        have e6 : v6 = 1 := Int32.toInt_inj.mp (show v6.toInt = 1 by rw [q0]; exact hx0)
        have ez : zst (zst S2 m') (zov wr_164 m' m'') = zst S2 m' := rfl
        refine zt e6 (zf (by decide) ?_)
        rw [ez]
        exact K _ (lw_q H hc hpr hte hke h65 h67 hr ho h3 h7 h95 e8 e10 e97 e98 e17 e27 (bk_mod H hc ho k87 k79 k84 fz fy fx))
      · refine rb_259 _ _ (by decide) (by decide) hc.1.1.1 (ref_tr H.2.1 hc.2.1) ht h8 ph hz (fun v2 m' hr ho h3 h7 h95 e8 e10 e97 e98 e17 e27 fz fy fx hbl => zi_n ⟨hc.1.1.1, ?_⟩)
        have hx0 : (m' 94 0).toInt = 4 := bl_z hb1 hb2 hbl
        refine sp_164 (P := fun o m'' => zi (fun v6 S5 => zT S5 ∧ (if v6 = 4 then (if (4 : Int32) = 0 then (if (lg_cmp (mL S5 125 0) (v2.toInt64)) = 0 then (ma_fp X 0 13 494 957 [(0, .inr (.inr (some 30))), (1, .inr (.inr (some 64))), (2, .inr (.inr (some 94))), (3, .inr (.inr (some 125))), (4, .inl i)] [] S5 Q) else (Q (some (.inl (0 : Int32))) S5)) else (ma_fp X 0 13 494 957 [(0, .inr (.inr (some 30))), (1, .inr (.inr (some 64))), (2, .inr (.inr (some 94))), (3, .inr (.inr (some 125))), (4, .inl i)] [] S5 Q)) else (Q (some (.inl (0 : Int32))) S5))) (fun _ _ => False) (.inl o) (zst (zst S2 m') m'')) hr.1 (fun v6 m'' hV' q0 => zi_n ⟨hc.1.1.1, ?_⟩) _ _ _ _ (by decide) (by decide) hc.1.1.1 rfl (fun _ _ z => z)
        have e6 : v6 = 4 := Int32.toInt_inj.mp (show v6.toInt = 4 by rw [q0]; exact hx0)
        have ez : zst (zst S2 m') (zov wr_164 m' m'') = zst S2 m' := rfl
        refine zt e6 (zf (by decide) ?_)
        rw [ez]
        exact K _ (lw_q H hc hpr hte hke h65 h67 hr ho h3 h7 h95 e8 e10 e97 e98 e17 e27 (bk_mod H hc ho k87 k79 k84 fz fy fx))
    · have n87 : mR S 64 11 ≠ some 87 := fun w => hw (Or.inl w)
      have n79 : mR S 64 11 ≠ some 79 := fun w => hw (Or.inr (Or.inl w))
      have n84 : mR S 64 11 ≠ some 84 := fun w => hw (Or.inr (Or.inr w))
      have n5 := bk_n H hc n87 n79 n84
      have n8 : mR S 64 11 = none ↔ (mI S2 94 8).toInt = 0 := by
        rw [hc.2.1 94 8 (by decide) (by decide)]
        exact H.2.2.2.2.2.2.2.2.1
      rcases hv with ⟨rfl, hv⟩ | ⟨_, _, hv, _⟩ | ⟨rfl, hv⟩ | ⟨rfl, hv⟩
      · refine rf_259 _ _ (by decide) (by decide) hc.1.1.1 (ref_tr H.2.1 hc.2.1) ht n5 (fun v2 m' hr ho h3 h7 h95 e8 e10 e97 e98 e17 e27 fz fy fx hst => zi_n ⟨hc.1.1.1, ?_⟩)
        have hx0 : (m' 94 0).toInt = 1 := by
            rcases hst with w | w
            · exact w.2
            · exact absurd w.1 hv
        refine sp_164 (P := fun o m'' => zi (fun v6 S5 => zT S5 ∧ (if v6 = 1 then (if (1 : Int32) = 0 then (if (lg_cmp (mL S5 125 0) (v2.toInt64)) = 0 then (ma_fp X 0 13 494 957 [(0, .inr (.inr (some 30))), (1, .inr (.inr (some 64))), (2, .inr (.inr (some 94))), (3, .inr (.inr (some 125))), (4, .inl i)] [] S5 Q) else (Q (some (.inl (0 : Int32))) S5)) else (ma_fp X 0 13 494 957 [(0, .inr (.inr (some 30))), (1, .inr (.inr (some 64))), (2, .inr (.inr (some 94))), (3, .inr (.inr (some 125))), (4, .inl i)] [] S5 Q)) else (Q (some (.inl (0 : Int32))) S5))) (fun _ _ => False) (.inl o) (zst (zst S2 m') m'')) hr.1 (fun v6 m'' hV' q0 => zi_n ⟨hc.1.1.1, ?_⟩) _ _ _ _ (by decide) (by decide) hc.1.1.1 rfl (fun _ _ z => z)
        have e6 : v6 = 1 := Int32.toInt_inj.mp (show v6.toInt = 1 by rw [q0]; exact hx0)
        have ez : zst (zst S2 m') (zov wr_164 m' m'') = zst S2 m' := rfl
        refine zt e6 (zf (by decide) ?_)
        rw [ez]
        exact K _ (lw_q H hc hpr hte hke h65 h67 hr ho h3 h7 h95 e8 e10 e97 e98 e17 e27 (md_no n87 n79 n84))
      · exact absurd hv hw
      · refine rf_259 _ _ (by decide) (by decide) hc.1.1.1 (ref_tr H.2.1 hc.2.1) ht n5 (fun v2 m' hr ho h3 h7 h95 e8 e10 e97 e98 e17 e27 fz fy fx hst => zi_n ⟨hc.1.1.1, ?_⟩)
        have hx0 : (m' 94 0).toInt = 2 := by
            have z8 := n8.mp hv.1
            rcases hst with w | w
            · exfalso
              have := w.1
              have := hv.2
              omega
            · exact w.2.elim (fun q => q.2) (fun q => absurd z8 q.1)
        refine sp_164 (P := fun o m'' => zi (fun v6 S5 => zT S5 ∧ (if v6 = 2 then (if (2 : Int32) = 0 then (if (lg_cmp (mL S5 125 0) (v2.toInt64)) = 0 then (ma_fp X 0 13 494 957 [(0, .inr (.inr (some 30))), (1, .inr (.inr (some 64))), (2, .inr (.inr (some 94))), (3, .inr (.inr (some 125))), (4, .inl i)] [] S5 Q) else (Q (some (.inl (0 : Int32))) S5)) else (ma_fp X 0 13 494 957 [(0, .inr (.inr (some 30))), (1, .inr (.inr (some 64))), (2, .inr (.inr (some 94))), (3, .inr (.inr (some 125))), (4, .inl i)] [] S5 Q)) else (Q (some (.inl (0 : Int32))) S5))) (fun _ _ => False) (.inl o) (zst (zst S2 m') m'')) hr.1 (fun v6 m'' hV' q0 => zi_n ⟨hc.1.1.1, ?_⟩) _ _ _ _ (by decide) (by decide) hc.1.1.1 rfl (fun _ _ z => z)
        have e6 : v6 = 2 := Int32.toInt_inj.mp (show v6.toInt = 2 by rw [q0]; exact hx0)
        have ez : zst (zst S2 m') (zov wr_164 m' m'') = zst S2 m' := rfl
        refine zt e6 (zf (by decide) ?_)
        rw [ez]
        exact K _ (lw_q H hc hpr hte hke h65 h67 hr ho h3 h7 h95 e8 e10 e97 e98 e17 e27 (md_no n87 n79 n84))
      · refine rf_259 _ _ (by decide) (by decide) hc.1.1.1 (ref_tr H.2.1 hc.2.1) ht n5 (fun v2 m' hr ho h3 h7 h95 e8 e10 e97 e98 e17 e27 fz fy fx hst => zi_n ⟨hc.1.1.1, ?_⟩)
        have hx0 : (m' 94 0).toInt = 3 := by
            have z8 : ¬ (mI S2 94 8).toInt = 0 := fun q => hv.1 (n8.mpr q)
            rcases hst with w | w
            · exfalso
              have := w.1
              have := hv.2.2.2.2
              omega
            · exact w.2.elim (fun q => absurd q.1 z8) (fun q => q.2)
        refine sp_164 (P := fun o m'' => zi (fun v6 S5 => zT S5 ∧ (if v6 = 3 then (if (3 : Int32) = 0 then (if (lg_cmp (mL S5 125 0) (v2.toInt64)) = 0 then (ma_fp X 0 13 494 957 [(0, .inr (.inr (some 30))), (1, .inr (.inr (some 64))), (2, .inr (.inr (some 94))), (3, .inr (.inr (some 125))), (4, .inl i)] [] S5 Q) else (Q (some (.inl (0 : Int32))) S5)) else (ma_fp X 0 13 494 957 [(0, .inr (.inr (some 30))), (1, .inr (.inr (some 64))), (2, .inr (.inr (some 94))), (3, .inr (.inr (some 125))), (4, .inl i)] [] S5 Q)) else (Q (some (.inl (0 : Int32))) S5))) (fun _ _ => False) (.inl o) (zst (zst S2 m') m'')) hr.1 (fun v6 m'' hV' q0 => zi_n ⟨hc.1.1.1, ?_⟩) _ _ _ _ (by decide) (by decide) hc.1.1.1 rfl (fun _ _ z => z)
        have e6 : v6 = 3 := Int32.toInt_inj.mp (show v6.toInt = 3 by rw [q0]; exact hx0)
        have ez : zst (zst S2 m') (zov wr_164 m' m'') = zst S2 m' := rfl
        refine zt e6 (zf (by decide) ?_)
        rw [ez]
        exact K _ (lw_q H hc hpr hte hke h65 h67 hr ho h3 h7 h95 e8 e10 e97 e98 e17 e27 (md_no n87 n79 n84))
theorem la_19 {X : Nat × (Nat → Int32)} {C0 Z0 T : Nat} {S : ma_S} {Q : Option ma_V → ma_S → Prop} (i : Int32) (H : zLw C0 Z0 T S) (ht : T + 1 ≤ 512) (gd : ∀ j : Int32, (j = 1 ∨ j = 2 ∨ j = 3 ∨ j = 4 ∨ j = 5) → 0 ≤ i + j ∧ (i + j).toNatClampNeg < X.1) (K : ∀ S', zLw C0 Z0 (T + 1) S' → ma_fp X 0 13 494 957 [(0, .inr (.inr (some 30))), (1, .inr (.inr (some 64))), (2, .inr (.inr (some 94))), (3, .inr (.inr (some 125))), (4, .inl i)] [] S' Q) : ma_fp X 0 13 494 929 [(0, .inr (.inr (some 30))), (1, .inr (.inr (some 64))), (2, .inr (.inr (some 94))), (3, .inr (.inr (some 125))), (4, .inl i)] [] S Q := by
  refine gl_929 i (by decide) (by decide) H.1.1.1 ?_
  refine ⟨gd 1 (by decide), ?_⟩
  refine fw_19 (T := T) _ (by decide) (by decide) H.1 (lw_xb H) (lw_cc H) ht (fun v S2 hc hpr hte hke h65 h67 h87 h79 h84 => zfi_n ⟨hc.1.1.1, gd 1 (by decide), ?_⟩)
  refine rf_260 _ (by decide) (by decide) hc.1.1.1 (ref_tr H.2.1 hc.2.1) ht (fun v2 m' hr ho h3 h7 h95 e8 e10 e97 e98 e17 e27 fz fy fx => zi_n ⟨hc.1.1.1, K _ (lw_q H hc hpr hte hke h65 h67 hr ho h3 h7 h95 e8 e10 e97 e98 e17 e27 ⟨fun e => ?_, fun e => ?_, fun e => ?_⟩)⟩)
  · obtain ⟨hB, aa, hsm, hz⟩ := H.2.2.2.2.2.2.2.2.2.2.2.2.1.1 e
    exact s5_st hc (h87 e).1 ho (by rw [(h87 e).2]; exact hsm) (fz aa (z5_tr hz hc.2.1))
  · obtain ⟨hB, aa, hq, hz⟩ := H.2.2.2.2.2.2.2.2.2.2.2.2.1.2.1 e
    exact s0_st hc (h79 e).1 ho (Q_A hq (Ax_0 (Q_88o hq)) (h79 e).2.1 (h79 e).2.2) (fy aa (zz_tr hz hc.2.1))
  · obtain ⟨hB, hC, aa, hq, hz, hk⟩ := H.2.2.2.2.2.2.2.2.2.2.2.2.1.2.2 e
    exact s4_st hc (h84 e).1 ho (C_T (C_up (C_o8 (O8_sy T_88) (h84 e).2.2.2))) (Q_A hq (Ax_0 (Q_88o hq)) (h84 e).2.1 (h84 e).2.2.1) (fy aa (zz_tr hz hc.2.1)) (fx aa (zk_tr hk hc.2.1))
theorem la_any {X : Nat × (Nat → Int32)} {C0 Z0 T : Nat} {S : ma_S} {Q : Option ma_V → ma_S → Prop} (i : Int32) (H : zLw C0 Z0 T S) (ht : T + 1 ≤ 512) (hX : X.1 ≤ 3072) (hi0 : 0 ≤ i.toInt) (hi : i.toInt + 6 ≤ (X.1 : Int)) (K : ∀ S', zLw C0 Z0 (T + 1) S' → ma_fp X 0 13 494 957 [(0, .inr (.inr (some 30))), (1, .inr (.inr (some 64))), (2, .inr (.inr (some 94))), (3, .inr (.inr (some 125))), (4, .inl i)] [] S' Q) : ma_fp X 0 13 494 23 [(0, .inr (.inr (some 30))), (1, .inr (.inr (some 64))), (2, .inr (.inr (some 94))), (3, .inr (.inr (some 125))), (4, .inl i)] [] S Q := by
  have gd : ∀ j : Int32, (j = 1 ∨ j = 2 ∨ j = 3 ∨ j = 4 ∨ j = 5) → 0 ≤ i + j ∧ (i + j).toNatClampNeg < X.1 := by
    intro j hj
    have e : 1 ≤ j.toInt ∧ j.toInt ≤ 5 := by rcases hj with rfl | rfl | rfl | rfl | rfl <;> decide
    have e2 : (i + j).toInt = i.toInt + j.toInt := i_add (by omega) (by omega)
    exact i_ix (by omega) (by omega)
  have eX : (Int32.ofNat X.1).toInt = (X.1 : Int) := Int32.toInt_ofNat_of_lt (by omega)
  have e6 : ((Int32.ofNat X.1) - (6 : Int32)).toInt = (X.1 : Int) - 6 := by
    rw [i_subk (k := 6) rfl (by omega) (by omega), eX]
  refine gl_23 i (by decide) (by decide) H.1.1.1 (zf (fun z => by have := i_lt z; omega) ⟨i_ix (by omega) (by omega), ?_⟩)
  refine zd (fun _ => la_0 i H ht gd K) (fun _ => ?_)
  refine zd (fun _ => la_1 i H ht gd K) (fun _ => ?_)
  refine zd (fun _ => la_2 i H ht gd K) (fun _ => ?_)
  refine zd (fun _ => la_3 i H ht gd K) (fun _ => ?_)
  refine zd (fun _ => la_4 i H ht gd K) (fun _ => ?_)
  refine zd (fun _ => la_5 i H ht gd K) (fun _ => ?_)
  refine zd (fun _ => la_6 i H ht gd K) (fun _ => ?_)
  refine zd (fun _ => la_7 i H ht gd K) (fun _ => ?_)
  refine zd (fun _ => la_8 i H ht gd K) (fun _ => ?_)
  refine zd (fun _ => la_9 i H ht gd K) (fun _ => ?_)
  refine zd (fun _ => la_10 i H ht gd K) (fun _ => ?_)
  refine zd (fun _ => la_11 i H ht gd K) (fun _ => ?_)
  refine zd (fun _ => la_12 i H ht gd K) (fun _ => ?_)
  refine zd (fun _ => la_13 i H ht gd K) (fun _ => ?_)
  refine zd (fun _ => la_14 i H ht gd K) (fun _ => ?_)
  refine zd (fun _ => la_15 i H ht gd K) (fun _ => ?_)
  refine zd (fun _ => la_16 i H ht gd K) (fun _ => ?_)
  refine zd (fun _ => la_17 i H ht gd K) (fun _ => ?_)
  refine zd (fun _ => la_18 i H ht gd K) (fun _ => ?_)
  refine zd (fun _ => la_19 i H ht gd K) (fun _ => ?_)
  exact K S (lw_more H ht)
theorem la_loop {X : Nat × (Nat → Int32)} {C0 Z0 : Nat} {Q : Option ma_V → ma_S → Prop} (hX : X.1 ≤ 3072) (K : ∀ S' T, T ≤ 600 → zLw C0 Z0 T S' → Q (some (.inl (1 : Int32))) S') : ∀ (n : Nat) (T : Nat) (i : Int32) (S : ma_S), 3078 - i.toInt.toNat = n → 0 ≤ i.toInt → i.toInt = 6 * (T : Int) → i.toInt ≤ 3078 → zLw C0 Z0 T S → ma_fp X 0 13 494 23 [(0, .inr (.inr (some 30))), (1, .inr (.inr (some 64))), (2, .inr (.inr (some 94))), (3, .inr (.inr (some 125))), (4, .inl i)] [] S Q := by
  intro n
  induction n using Nat.strongRecOn with
  | _ n IH =>
    intro T i S hn h0 hT hi H
    by_cases hx : i.toInt + 6 ≤ (X.1 : Int)
    · refine la_any i H (by omega) hX h0 hx (fun S' H' => ?_)
      have e : (i + (6 : Int32)).toInt = i.toInt + 6 := i_addk rfl (by omega) (by omega)
      refine gl_957 i (by decide) (by decide) H'.1.1.1 ?_
      exact IH _ (by omega) (T + 1) (i + (6 : Int32)) S' rfl (by omega) (by omega) (by omega) H'
    · have eX : (Int32.ofNat X.1).toInt = (X.1 : Int) := Int32.toInt_ofNat_of_lt (by omega)
      have e6 : ((Int32.ofNat X.1) - (6 : Int32)).toInt = (X.1 : Int) - 6 := by
        rw [i_subk (k := 6) rfl (by omega) (by omega), eX]
      exact gl_23 i (by decide) (by decide) H.1.1.1 (zt (Int32.lt_iff_toInt_lt.mpr (by omega)) (K S T (by omega) H))
