/-! a call of each kind -/
theorem la_0 {X : Nat × (Nat → Int32)} {C0 Z0 T : Nat} {S : ma_S} {Q : Option ma_V → ma_S → Prop} (i : Int32) (H0 : zLx C0 Z0 T S) (ht : T + 1 ≤ 512) (gd : ∀ j : Int32, (j = 1 ∨ j = 2 ∨ j = 3 ∨ j = 4 ∨ j = 5) → 0 ≤ i + j ∧ (i + j).toNatClampNeg < X.1) (K : ∀ S₉, zLx C0 Z0 (T + 1) S₉ → ma_fp X 0 13 494 957 [(0, .inr (.inr (some 30))), (1, .inr (.inr (some 64))), (2, .inr (.inr (some 94))), (3, .inr (.inr (some 125))), (4, .inl i)] [] S₉ Q) : ma_fp X 0 13 494 136 [(0, .inr (.inr (some 30))), (1, .inr (.inr (some 64))), (2, .inr (.inr (some 94))), (3, .inr (.inr (some 125))), (4, .inl i)] [] S Q := by
  obtain ⟨H, HW⟩ := H0
  refine gl_136 i (by decide) (by decide) H.1.1.1 ?_
  refine ⟨gd 1 (by decide), gd 2 (by decide), gd 3 (by decide), gd 4 (by decide), gd 5 (by decide), ?_⟩
  have hte : (mI S 64 1).toInt = (mI S 94 3).toInt := by rw [H.2.2.1]
  refine fw_1 (T := T) _ _ _ _ _ (by decide) (by decide) H.1 hte (fun v S2 hc hpr hke h65 h67 hq hH hM => zfi_n ⟨hc.1.1.1, gd 1 (by decide), gd 2 (by decide), gd 3 (by decide), gd 4 (by decide), gd 5 (by decide), ?_⟩) (fun v S2 hc hpr hke h65 h67 hq hH hM => zfi_n ⟨hc.1.1.1, gd 1 (by decide), gd 2 (by decide), gd 3 (by decide), gd 4 (by decide), gd 5 (by decide), ?_⟩)
  · refine wp_with (uw_166 _ _ _ _ _ (by decide) (by decide) H hc ht) ?_
    refine rf_166 _ _ _ _ _ (by decide) (by decide) hc.1.1.1 (ref_tr H.2.1 hc.2.1) ht (fun v2 m₉ hr ho h7 e8 e10 e97 e98 e17 e27 fz fy fx fn hx hfr y3 e3 ha => zi_n ⟨hc.1.1.1, K _ (lx_of (fun hL => wl_st H HW hL hc hpr ho (fun w => pw_kp hH) ha) (lw_step H hc hr ho ?_ ?_ ?_ ?_ ?_))⟩)
    all_goals have e1 := hq
    · rw [ho 64 1 (Or.inl (by decide))]
      exact Int32.toInt_inj.mp (by omega)
    · exact lw_ke H hc hke ho h7
    · rcases hfr with y | y
      · exact lw_fd H hc h65 y.2 ho (by omega)
      · exfalso
        omega
    · exact lw_kr H hc h67 ho h7 e97 e98
    · exact sim_st H.2.2.2.2.2.2.2.2 hc hpr e8 e10 e17 e27 (kp_mod H hc ho hH hM fz fy fx fn)
  · refine wp_with (uw_166 _ _ _ _ _ (by decide) (by decide) H hc ht) ?_
    refine rf_166 _ _ _ _ _ (by decide) (by decide) hc.1.1.1 (ref_tr H.2.1 hc.2.1) ht (fun v2 m₉ hr ho h7 e8 e10 e97 e98 e17 e27 fz fy fx fn hx hfr y3 e3 ha => zi_n ⟨hc.1.1.1, K _ (lx_of (fun hL => wl_st H HW hL hc hpr ho (fun w => pw_kp hH) ha) (lw_step H hc hr ho ?_ ?_ ?_ ?_ ?_))⟩)
    all_goals have e1 := hq
    · rw [ho 64 1 (Or.inl (by decide))]
      exact Int32.toInt_inj.mp (by omega)
    · exact lw_ke H hc hke ho h7
    · rcases hfr with y | y
      · exfalso
        omega
      · exact lw_al H hc h65 ho (by omega) y.2
    · exact lw_kr H hc h67 ho h7 e97 e98
    · exact sim_st H.2.2.2.2.2.2.2.2 hc hpr e8 e10 e17 e27 (kp_mod H hc ho hH hM fz fy fx fn)
theorem la_1 {X : Nat × (Nat → Int32)} {C0 Z0 T : Nat} {S : ma_S} {Q : Option ma_V → ma_S → Prop} (i : Int32) (H0 : zLx C0 Z0 T S) (ht : T + 1 ≤ 512) (gd : ∀ j : Int32, (j = 1 ∨ j = 2 ∨ j = 3 ∨ j = 4 ∨ j = 5) → 0 ≤ i + j ∧ (i + j).toNatClampNeg < X.1) (K : ∀ S₉, zLx C0 Z0 (T + 1) S₉ → ma_fp X 0 13 494 957 [(0, .inr (.inr (some 30))), (1, .inr (.inr (some 64))), (2, .inr (.inr (some 94))), (3, .inr (.inr (some 125))), (4, .inl i)] [] S₉ Q) : ma_fp X 0 13 494 212 [(0, .inr (.inr (some 30))), (1, .inr (.inr (some 64))), (2, .inr (.inr (some 94))), (3, .inr (.inr (some 125))), (4, .inl i)] [] S Q := by
  obtain ⟨H, HW⟩ := H0
  refine gl_212 i (by decide) (by decide) H.1.1.1 ?_
  refine ⟨gd 1 (by decide), ?_⟩
  have hte : (mI S 64 1).toInt = (mI S 94 3).toInt := by rw [H.2.2.1]
  refine fw_2 (T := T) _ (by decide) (by decide) H.1 hte (fun v S2 hc hpr hke h65 h67 hq hH hM => zfi_n ⟨hc.1.1.1, gd 1 (by decide), ?_⟩) (fun v S2 hc hpr hke h65 h67 hq hH hM => zfi_n ⟨hc.1.1.1, gd 1 (by decide), ?_⟩)
  · refine wp_with (uw_169 _ (by decide) (by decide) H hc ht) ?_
    refine rf_169 _ (by decide) (by decide) hc.1.1.1 (ref_tr H.2.1 hc.2.1) ht (fun v2 m₉ hr ho h7 h95 e8 e10 e97 e98 e17 e27 fz fy fx fn hx y3 e3 ha => zi_n ⟨hc.1.1.1, K _ (lx_of (fun hL => wl_st H HW hL hc hpr ho (fun w => pw_kp hH) ha) (lw_step H hc hr ho ?_ ?_ ?_ ?_ ?_))⟩)
    all_goals have e1 := hq
    · rw [ho 64 1 (Or.inl (by decide))]
      exact Int32.toInt_inj.mp (by omega)
    · exact lw_ke H hc hke ho h7
    · exact lw_al H hc h65 ho (by omega) h95
    · exact lw_kr H hc h67 ho h7 e97 e98
    · exact sim_st H.2.2.2.2.2.2.2.2 hc hpr e8 e10 e17 e27 (kp_mod H hc ho hH hM fz fy fx fn)
  · refine wp_with (uw_169 _ (by decide) (by decide) H hc ht) ?_
    refine rf_169 _ (by decide) (by decide) hc.1.1.1 (ref_tr H.2.1 hc.2.1) ht (fun v2 m₉ hr ho h7 h95 e8 e10 e97 e98 e17 e27 fz fy fx fn hx y3 e3 ha => zi_n ⟨hc.1.1.1, K _ (lx_of (fun hL => wl_st H HW hL hc hpr ho (fun w => pw_kp hH) ha) (lw_step H hc hr ho ?_ ?_ ?_ ?_ ?_))⟩)
    all_goals have e1 := hq
    · rw [ho 64 1 (Or.inl (by decide))]
      exact Int32.toInt_inj.mp (by omega)
    · exact lw_ke H hc hke ho h7
    · exact lw_al H hc h65 ho (by omega) h95
    · exact lw_kr H hc h67 ho h7 e97 e98
    · exact sim_st H.2.2.2.2.2.2.2.2 hc hpr e8 e10 e17 e27 (kp_mod H hc ho hH hM fz fy fx fn)
theorem la_2 {X : Nat × (Nat → Int32)} {C0 Z0 T : Nat} {S : ma_S} {Q : Option ma_V → ma_S → Prop} (i : Int32) (H0 : zLx C0 Z0 T S) (ht : T + 1 ≤ 512) (gd : ∀ j : Int32, (j = 1 ∨ j = 2 ∨ j = 3 ∨ j = 4 ∨ j = 5) → 0 ≤ i + j ∧ (i + j).toNatClampNeg < X.1) (K : ∀ S₉, zLx C0 Z0 (T + 1) S₉ → ma_fp X 0 13 494 957 [(0, .inr (.inr (some 30))), (1, .inr (.inr (some 64))), (2, .inr (.inr (some 94))), (3, .inr (.inr (some 125))), (4, .inl i)] [] S₉ Q) : ma_fp X 0 13 494 240 [(0, .inr (.inr (some 30))), (1, .inr (.inr (some 64))), (2, .inr (.inr (some 94))), (3, .inr (.inr (some 125))), (4, .inl i)] [] S Q := by
  obtain ⟨H, HW⟩ := H0
  refine gl_240 i (by decide) (by decide) H.1.1.1 ?_
  refine ⟨gd 1 (by decide), gd 2 (by decide), ?_⟩
  have hte : (mI S 64 1).toInt = (mI S 94 3).toInt := by rw [H.2.2.1]
  have hke : (mI S 64 7).toInt = (mI S 94 7).toInt := by rw [H.2.2.2.1]
  refine fw_3 (T := T) _ _ (by decide) (by decide) H.1 hte hke (fun v S2 hc hpr h65 h67 hq hH hM => zfi_n ⟨hc.1.1.1, gd 1 (by decide), gd 2 (by decide), ?_⟩) (fun v S2 hc hpr h65 h67 hq hH hM => zfi_n ⟨hc.1.1.1, gd 1 (by decide), gd 2 (by decide), ?_⟩) (fun v S2 hc hpr h65 h67 hq hH hM => zfi_n ⟨hc.1.1.1, gd 1 (by decide), gd 2 (by decide), ?_⟩)
  · refine wp_with (uw_170 _ _ (by decide) (by decide) H hc ht) ?_
    by_cases e : mR S 64 11 = some 87
    · obtain ⟨hB, aa, hsm, hz⟩ := H.2.2.2.2.2.2.2.2.2.1.1 e
      have e5 := e5_of H hc e
      refine rs_170 _ _ (by decide) (by decide) hc.1.1.1 (ref_tr H.2.1 hc.2.1) ht e5.1 e5.2 (z5_tr hz hc.2.1) (fun v2 m₉ hr ho h3 h95 e8 e10 e17 e27 hz₉ hx hk9 y3 e3 ha => zi_n ⟨hc.1.1.1, K _ (lx_of (fun hL => wl_st H HW hL hc hpr ho (fun w => pw_kp hH) ha) (lw_step H hc hr ho ?_ ?_ ?_ ?_ ?_))⟩)
      all_goals have e1 := hq
      · rw [ho 64 1 (Or.inl (by decide)), h3]
        exact Int32.toInt_inj.mp (by omega)
      · rw [ho 64 7 (Or.inl (by decide))]
        exact Int32.toInt_inj.mp (by omega)
      · exact lw_al H hc h65 ho (by rw [h3]; exact Int.le_refl _) h95
      · exact lw_k1 H hc h67 ho hx hk9 (by omega)
      · exact sim_st H.2.2.2.2.2.2.2.2 hc hpr e8 e10 e17 e27 (md_87 e (s5_st hc (hH.2.1 hB) ho (by rw [hH.1]; exact hsm) hz₉))
    by_cases e79 : mR S 64 11 = some 79
    · obtain ⟨hB, aa, hqq, hz⟩ := H.2.2.2.2.2.2.2.2.2.1.2.1 e79
      refine r0_170 _ _ (by decide) (by decide) hc.1.1.1 (ref_tr H.2.1 hc.2.1) ht (e0_of H hc e79).1 (Or.inl (e0_of H hc e79).2) (zz_tr hz hc.2.1) (fun v2 m₉ hr ho h3 h95 e8 e10 e17 e27 hz₉ hkk hx hk9 y3 e3 ha => zi_n ⟨hc.1.1.1, K _ (lx_of (fun hL => wl_st H HW hL hc hpr ho (fun w => pw_kp hH) ha) (lw_step H hc hr ho ?_ ?_ ?_ ?_ ?_))⟩)
      all_goals have e1 := hq
      · rw [ho 64 1 (Or.inl (by decide)), h3]
        exact Int32.toInt_inj.mp (by omega)
      · rw [ho 64 7 (Or.inl (by decide))]
        exact Int32.toInt_inj.mp (by omega)
      · exact lw_al H hc h65 ho (by rw [h3]; exact Int.le_refl _) h95
      · exact lw_k1 H hc h67 ho hx hk9 (by omega)
      · exact sim_st H.2.2.2.2.2.2.2.2 hc hpr e8 e10 e17 e27 (md_79 e79 (s0_st hc (hH.2.1 hB) ho (by rw [hH.2.2.1]; exact hqq) hz₉))
    by_cases e84 : mR S 64 11 = some 84
    · obtain ⟨hB, hC, aa, hqq, hz, hk⟩ := H.2.2.2.2.2.2.2.2.2.1.2.2.1 e84
      refine r0_170 _ _ (by decide) (by decide) hc.1.1.1 (ref_tr H.2.1 hc.2.1) ht (e4_of H hc e84).1 (Or.inr (e4_of H hc e84).2) (zz_tr hz hc.2.1) (fun v2 m₉ hr ho h3 h95 e8 e10 e17 e27 hz₉ hkk hx hk9 y3 e3 ha => zi_n ⟨hc.1.1.1, K _ (lx_of (fun hL => wl_st H HW hL hc hpr ho (fun w => pw_kp hH) ha) (lw_step H hc hr ho ?_ ?_ ?_ ?_ ?_))⟩)
      all_goals have e1 := hq
      · rw [ho 64 1 (Or.inl (by decide)), h3]
        exact Int32.toInt_inj.mp (by omega)
      · rw [ho 64 7 (Or.inl (by decide))]
        exact Int32.toInt_inj.mp (by omega)
      · exact lw_al H hc h65 ho (by rw [h3]; exact Int.le_refl _) h95
      · exact lw_k1 H hc h67 ho hx hk9 (by omega)
      · exact sim_st H.2.2.2.2.2.2.2.2 hc hpr e8 e10 e17 e27 (md_84 e84 (s4_st hc (hH.2.1 hB) ho (by rw [hH.2.2.2.1, hH.2.2.2.2]; exact C_T (C_up hC)) (by rw [hH.2.2.2.1]; exact hqq) hz₉ (hkk aa (zk_tr hk hc.2.1))))
    by_cases e80 : mR S 64 11 = some 80
    · have hz := H.2.2.2.2.2.2.2.2.2.1.2.2.2.1 e80
      refine r1_170 _ _ (by decide) (by decide) hc.1.1.1 (ref_tr H.2.1 hc.2.1) ht (e80_of H hc e80).1 (e80_of H hc e80).2 (n1_tr hz.2 hc.2.1) (fun v2 m₉ hr ho h3 h95 e8 e10 e17 e27 hx hk9 hz₉ y3 e3 ha => zi_n ⟨hc.1.1.1, K _ (lx_of (fun hL => wl_st H HW hL hc hpr ho (fun w => pw_kp hH) ha) (lw_step H hc hr ho ?_ ?_ ?_ ?_ ?_))⟩)
      all_goals have e1 := hq
      · rw [ho 64 1 (Or.inl (by decide)), h3]
        exact Int32.toInt_inj.mp (by omega)
      · rw [ho 64 7 (Or.inl (by decide))]
        exact Int32.toInt_inj.mp (by omega)
      · exact lw_al H hc h65 ho (by rw [h3]; exact Int.le_refl _) h95
      · exact lw_k1 H hc h67 ho hx hk9 (by omega)
      · exact sim_st H.2.2.2.2.2.2.2.2 hc hpr e8 e10 e17 e27 (md_80 e80 (s1_kp hz hM hc.1.1 ho hz₉))
    by_cases e81 : mR S 64 11 = some 81
    · have hz := H.2.2.2.2.2.2.2.2.2.1.2.2.2.2.1 e81
      refine r2_170 _ _ (by decide) (by decide) hc.1.1.1 (ref_tr H.2.1 hc.2.1) ht (e81_of H hc e81).1 (e81_of H hc e81).2 (n2_tr hz.2 hc.2.1) (fun v2 m₉ hr ho h3 h95 e8 e10 e17 e27 hx hk9 hz₉ y3 e3 ha => zi_n ⟨hc.1.1.1, K _ (lx_of (fun hL => wl_st H HW hL hc hpr ho (fun w => pw_kp hH) ha) (lw_step H hc hr ho ?_ ?_ ?_ ?_ ?_))⟩)
      all_goals have e1 := hq
      · rw [ho 64 1 (Or.inl (by decide)), h3]
        exact Int32.toInt_inj.mp (by omega)
      · rw [ho 64 7 (Or.inl (by decide))]
        exact Int32.toInt_inj.mp (by omega)
      · exact lw_al H hc h65 ho (by rw [h3]; exact Int.le_refl _) h95
      · exact lw_k1 H hc h67 ho hx hk9 (by omega)
      · exact sim_st H.2.2.2.2.2.2.2.2 hc hpr e8 e10 e17 e27 (md_81 e81 (s2_kp hz hM hc.1.1 ho hz₉))
    by_cases e82 : mR S 64 11 = some 82
    · have hz := H.2.2.2.2.2.2.2.2.2.1.2.2.2.2.2.1 e82
      refine r3_170 _ _ (by decide) (by decide) hc.1.1.1 (ref_tr H.2.1 hc.2.1) ht (e82_of H hc e82).1 (e82_of H hc e82).2 (n3_tr hz.2 hc.2.1) (fun v2 m₉ hr ho h3 h95 e8 e10 e17 e27 hx hk9 hz₉ y3 e3 ha => zi_n ⟨hc.1.1.1, K _ (lx_of (fun hL => wl_st H HW hL hc hpr ho (fun w => pw_kp hH) ha) (lw_step H hc hr ho ?_ ?_ ?_ ?_ ?_))⟩)
      all_goals have e1 := hq
      · rw [ho 64 1 (Or.inl (by decide)), h3]
        exact Int32.toInt_inj.mp (by omega)
      · rw [ho 64 7 (Or.inl (by decide))]
        exact Int32.toInt_inj.mp (by omega)
      · exact lw_al H hc h65 ho (by rw [h3]; exact Int.le_refl _) h95
      · exact lw_k1 H hc h67 ho hx hk9 (by omega)
      · exact sim_st H.2.2.2.2.2.2.2.2 hc hpr e8 e10 e17 e27 (md_82 e82 (s3_kp hz hM hc.1.1 ho hz₉))
    by_cases e91 : mR S 64 11 = some 91
    · have hz := H.2.2.2.2.2.2.2.2.2.1.2.2.2.2.2.2 e91
      refine r6_170 _ _ (by decide) (by decide) hc.1.1.1 (ref_tr H.2.1 hc.2.1) ht (e91_of H hc e91).1 (e91_of H hc e91).2 (n6_tr hz.2 hc.2.1) (fun v2 m₉ hr ho h3 h95 e8 e10 e17 e27 hx hk9 hz₉ y3 e3 ha => zi_n ⟨hc.1.1.1, K _ (lx_of (fun hL => wl_st H HW hL hc hpr ho (fun w => pw_kp hH) ha) (lw_step H hc hr ho ?_ ?_ ?_ ?_ ?_))⟩)
      all_goals have e1 := hq
      · rw [ho 64 1 (Or.inl (by decide)), h3]
        exact Int32.toInt_inj.mp (by omega)
      · rw [ho 64 7 (Or.inl (by decide))]
        exact Int32.toInt_inj.mp (by omega)
      · exact lw_al H hc h65 ho (by rw [h3]; exact Int.le_refl _) h95
      · exact lw_k1 H hc h67 ho hx hk9 (by omega)
      · exact sim_st H.2.2.2.2.2.2.2.2 hc hpr e8 e10 e17 e27 (md_91 e91 (s6_kp hz hM hc.1.1 ho hz₉))
    · refine rf_170 _ _ (by decide) (by decide) hc.1.1.1 (ref_tr H.2.1 hc.2.1) ht (fun v2 m₉ hr ho h3 h95 e8 e10 e17 e27 hx hk9 y3 e3 ha => zi_n ⟨hc.1.1.1, K _ (lx_of (fun hL => wl_st H HW hL hc hpr ho (fun w => pw_kp hH) ha) (lw_step H hc hr ho ?_ ?_ ?_ ?_ ?_))⟩)
      all_goals have e1 := hq
      · rw [ho 64 1 (Or.inl (by decide)), h3]
        exact Int32.toInt_inj.mp (by omega)
      · rw [ho 64 7 (Or.inl (by decide))]
        exact Int32.toInt_inj.mp (by omega)
      · exact lw_al H hc h65 ho (by rw [h3]; exact Int.le_refl _) h95
      · exact lw_k1 H hc h67 ho hx hk9 (by omega)
      · exact sim_st H.2.2.2.2.2.2.2.2 hc hpr e8 e10 e17 e27 (md_no e e79 e84 e80 e81 e82 e91)
  · refine wp_with (uw_170 _ _ (by decide) (by decide) H hc ht) ?_
    by_cases e : mR S 64 11 = some 87
    · obtain ⟨hB, aa, hsm, hz⟩ := H.2.2.2.2.2.2.2.2.2.1.1 e
      have e5 := e5_of H hc e
      refine rs_170 _ _ (by decide) (by decide) hc.1.1.1 (ref_tr H.2.1 hc.2.1) ht e5.1 e5.2 (z5_tr hz hc.2.1) (fun v2 m₉ hr ho h3 h95 e8 e10 e17 e27 hz₉ hx hk9 y3 e3 ha => zi_n ⟨hc.1.1.1, K _ (lx_of (fun hL => wl_st H HW hL hc hpr ho (fun w => pw_kp hH) ha) (lw_step H hc hr ho ?_ ?_ ?_ ?_ ?_))⟩)
      all_goals have e1 := hq
      · rw [ho 64 1 (Or.inl (by decide)), h3]
        exact Int32.toInt_inj.mp (by omega)
      · rw [ho 64 7 (Or.inl (by decide))]
        exact Int32.toInt_inj.mp (by omega)
      · exact lw_al H hc h65 ho (by rw [h3]; exact Int.le_refl _) h95
      · exact lw_k0 H hc h67 ho hk9 (by omega)
      · exact sim_st H.2.2.2.2.2.2.2.2 hc hpr e8 e10 e17 e27 (md_87 e (s5_st hc (hH.2.1 hB) ho (by rw [hH.1]; exact hsm) hz₉))
    by_cases e79 : mR S 64 11 = some 79
    · obtain ⟨hB, aa, hqq, hz⟩ := H.2.2.2.2.2.2.2.2.2.1.2.1 e79
      refine r0_170 _ _ (by decide) (by decide) hc.1.1.1 (ref_tr H.2.1 hc.2.1) ht (e0_of H hc e79).1 (Or.inl (e0_of H hc e79).2) (zz_tr hz hc.2.1) (fun v2 m₉ hr ho h3 h95 e8 e10 e17 e27 hz₉ hkk hx hk9 y3 e3 ha => zi_n ⟨hc.1.1.1, K _ (lx_of (fun hL => wl_st H HW hL hc hpr ho (fun w => pw_kp hH) ha) (lw_step H hc hr ho ?_ ?_ ?_ ?_ ?_))⟩)
      all_goals have e1 := hq
      · rw [ho 64 1 (Or.inl (by decide)), h3]
        exact Int32.toInt_inj.mp (by omega)
      · rw [ho 64 7 (Or.inl (by decide))]
        exact Int32.toInt_inj.mp (by omega)
      · exact lw_al H hc h65 ho (by rw [h3]; exact Int.le_refl _) h95
      · exact lw_k0 H hc h67 ho hk9 (by omega)
      · exact sim_st H.2.2.2.2.2.2.2.2 hc hpr e8 e10 e17 e27 (md_79 e79 (s0_st hc (hH.2.1 hB) ho (by rw [hH.2.2.1]; exact hqq) hz₉))
    by_cases e84 : mR S 64 11 = some 84
    · obtain ⟨hB, hC, aa, hqq, hz, hk⟩ := H.2.2.2.2.2.2.2.2.2.1.2.2.1 e84
      refine r0_170 _ _ (by decide) (by decide) hc.1.1.1 (ref_tr H.2.1 hc.2.1) ht (e4_of H hc e84).1 (Or.inr (e4_of H hc e84).2) (zz_tr hz hc.2.1) (fun v2 m₉ hr ho h3 h95 e8 e10 e17 e27 hz₉ hkk hx hk9 y3 e3 ha => zi_n ⟨hc.1.1.1, K _ (lx_of (fun hL => wl_st H HW hL hc hpr ho (fun w => pw_kp hH) ha) (lw_step H hc hr ho ?_ ?_ ?_ ?_ ?_))⟩)
      all_goals have e1 := hq
      · rw [ho 64 1 (Or.inl (by decide)), h3]
        exact Int32.toInt_inj.mp (by omega)
      · rw [ho 64 7 (Or.inl (by decide))]
        exact Int32.toInt_inj.mp (by omega)
      · exact lw_al H hc h65 ho (by rw [h3]; exact Int.le_refl _) h95
      · exact lw_k0 H hc h67 ho hk9 (by omega)
      · exact sim_st H.2.2.2.2.2.2.2.2 hc hpr e8 e10 e17 e27 (md_84 e84 (s4_st hc (hH.2.1 hB) ho (by rw [hH.2.2.2.1, hH.2.2.2.2]; exact C_T (C_up hC)) (by rw [hH.2.2.2.1]; exact hqq) hz₉ (hkk aa (zk_tr hk hc.2.1))))
    by_cases e80 : mR S 64 11 = some 80
    · have hz := H.2.2.2.2.2.2.2.2.2.1.2.2.2.1 e80
      refine r1_170 _ _ (by decide) (by decide) hc.1.1.1 (ref_tr H.2.1 hc.2.1) ht (e80_of H hc e80).1 (e80_of H hc e80).2 (n1_tr hz.2 hc.2.1) (fun v2 m₉ hr ho h3 h95 e8 e10 e17 e27 hx hk9 hz₉ y3 e3 ha => zi_n ⟨hc.1.1.1, K _ (lx_of (fun hL => wl_st H HW hL hc hpr ho (fun w => pw_kp hH) ha) (lw_step H hc hr ho ?_ ?_ ?_ ?_ ?_))⟩)
      all_goals have e1 := hq
      · rw [ho 64 1 (Or.inl (by decide)), h3]
        exact Int32.toInt_inj.mp (by omega)
      · rw [ho 64 7 (Or.inl (by decide))]
        exact Int32.toInt_inj.mp (by omega)
      · exact lw_al H hc h65 ho (by rw [h3]; exact Int.le_refl _) h95
      · exact lw_k0 H hc h67 ho hk9 (by omega)
      · exact sim_st H.2.2.2.2.2.2.2.2 hc hpr e8 e10 e17 e27 (md_80 e80 (s1_kp hz hM hc.1.1 ho hz₉))
    by_cases e81 : mR S 64 11 = some 81
    · have hz := H.2.2.2.2.2.2.2.2.2.1.2.2.2.2.1 e81
      refine r2_170 _ _ (by decide) (by decide) hc.1.1.1 (ref_tr H.2.1 hc.2.1) ht (e81_of H hc e81).1 (e81_of H hc e81).2 (n2_tr hz.2 hc.2.1) (fun v2 m₉ hr ho h3 h95 e8 e10 e17 e27 hx hk9 hz₉ y3 e3 ha => zi_n ⟨hc.1.1.1, K _ (lx_of (fun hL => wl_st H HW hL hc hpr ho (fun w => pw_kp hH) ha) (lw_step H hc hr ho ?_ ?_ ?_ ?_ ?_))⟩)
      all_goals have e1 := hq
      · rw [ho 64 1 (Or.inl (by decide)), h3]
        exact Int32.toInt_inj.mp (by omega)
      · rw [ho 64 7 (Or.inl (by decide))]
        exact Int32.toInt_inj.mp (by omega)
      · exact lw_al H hc h65 ho (by rw [h3]; exact Int.le_refl _) h95
      · exact lw_k0 H hc h67 ho hk9 (by omega)
      · exact sim_st H.2.2.2.2.2.2.2.2 hc hpr e8 e10 e17 e27 (md_81 e81 (s2_kp hz hM hc.1.1 ho hz₉))
    by_cases e82 : mR S 64 11 = some 82
    · have hz := H.2.2.2.2.2.2.2.2.2.1.2.2.2.2.2.1 e82
      refine r3_170 _ _ (by decide) (by decide) hc.1.1.1 (ref_tr H.2.1 hc.2.1) ht (e82_of H hc e82).1 (e82_of H hc e82).2 (n3_tr hz.2 hc.2.1) (fun v2 m₉ hr ho h3 h95 e8 e10 e17 e27 hx hk9 hz₉ y3 e3 ha => zi_n ⟨hc.1.1.1, K _ (lx_of (fun hL => wl_st H HW hL hc hpr ho (fun w => pw_kp hH) ha) (lw_step H hc hr ho ?_ ?_ ?_ ?_ ?_))⟩)
      all_goals have e1 := hq
      · rw [ho 64 1 (Or.inl (by decide)), h3]
        exact Int32.toInt_inj.mp (by omega)
      · rw [ho 64 7 (Or.inl (by decide))]
        exact Int32.toInt_inj.mp (by omega)
      · exact lw_al H hc h65 ho (by rw [h3]; exact Int.le_refl _) h95
      · exact lw_k0 H hc h67 ho hk9 (by omega)
      · exact sim_st H.2.2.2.2.2.2.2.2 hc hpr e8 e10 e17 e27 (md_82 e82 (s3_kp hz hM hc.1.1 ho hz₉))
    by_cases e91 : mR S 64 11 = some 91
    · have hz := H.2.2.2.2.2.2.2.2.2.1.2.2.2.2.2.2 e91
      refine r6_170 _ _ (by decide) (by decide) hc.1.1.1 (ref_tr H.2.1 hc.2.1) ht (e91_of H hc e91).1 (e91_of H hc e91).2 (n6_tr hz.2 hc.2.1) (fun v2 m₉ hr ho h3 h95 e8 e10 e17 e27 hx hk9 hz₉ y3 e3 ha => zi_n ⟨hc.1.1.1, K _ (lx_of (fun hL => wl_st H HW hL hc hpr ho (fun w => pw_kp hH) ha) (lw_step H hc hr ho ?_ ?_ ?_ ?_ ?_))⟩)
      all_goals have e1 := hq
      · rw [ho 64 1 (Or.inl (by decide)), h3]
        exact Int32.toInt_inj.mp (by omega)
      · rw [ho 64 7 (Or.inl (by decide))]
        exact Int32.toInt_inj.mp (by omega)
      · exact lw_al H hc h65 ho (by rw [h3]; exact Int.le_refl _) h95
      · exact lw_k0 H hc h67 ho hk9 (by omega)
      · exact sim_st H.2.2.2.2.2.2.2.2 hc hpr e8 e10 e17 e27 (md_91 e91 (s6_kp hz hM hc.1.1 ho hz₉))
    · refine rf_170 _ _ (by decide) (by decide) hc.1.1.1 (ref_tr H.2.1 hc.2.1) ht (fun v2 m₉ hr ho h3 h95 e8 e10 e17 e27 hx hk9 y3 e3 ha => zi_n ⟨hc.1.1.1, K _ (lx_of (fun hL => wl_st H HW hL hc hpr ho (fun w => pw_kp hH) ha) (lw_step H hc hr ho ?_ ?_ ?_ ?_ ?_))⟩)
      all_goals have e1 := hq
      · rw [ho 64 1 (Or.inl (by decide)), h3]
        exact Int32.toInt_inj.mp (by omega)
      · rw [ho 64 7 (Or.inl (by decide))]
        exact Int32.toInt_inj.mp (by omega)
      · exact lw_al H hc h65 ho (by rw [h3]; exact Int.le_refl _) h95
      · exact lw_k0 H hc h67 ho hk9 (by omega)
      · exact sim_st H.2.2.2.2.2.2.2.2 hc hpr e8 e10 e17 e27 (md_no e e79 e84 e80 e81 e82 e91)
  · refine wp_with (uw_170 _ _ (by decide) (by decide) H hc ht) ?_
    by_cases e : mR S 64 11 = some 87
    · obtain ⟨hB, aa, hsm, hz⟩ := H.2.2.2.2.2.2.2.2.2.1.1 e
      have e5 := e5_of H hc e
      refine rs_170 _ _ (by decide) (by decide) hc.1.1.1 (ref_tr H.2.1 hc.2.1) ht e5.1 e5.2 (z5_tr hz hc.2.1) (fun v2 m₉ hr ho h3 h95 e8 e10 e17 e27 hz₉ hx hk9 y3 e3 ha => zi_n ⟨hc.1.1.1, K _ (lx_of (fun hL => wl_st H HW hL hc hpr ho (fun w => pw_kp hH) ha) (lw_step H hc hr ho ?_ ?_ ?_ ?_ ?_))⟩)
      all_goals have e1 := hq
      · rw [ho 64 1 (Or.inl (by decide)), h3]
        exact Int32.toInt_inj.mp (by omega)
      · rw [ho 64 7 (Or.inl (by decide))]
        exact Int32.toInt_inj.mp (by omega)
      · exact lw_al H hc h65 ho (by rw [h3]; exact Int.le_refl _) h95
      · exact lw_k0 H hc h67 ho hk9 (by omega)
      · exact sim_st H.2.2.2.2.2.2.2.2 hc hpr e8 e10 e17 e27 (md_87 e (s5_st hc (hH.2.1 hB) ho (by rw [hH.1]; exact hsm) hz₉))
    by_cases e79 : mR S 64 11 = some 79
    · obtain ⟨hB, aa, hqq, hz⟩ := H.2.2.2.2.2.2.2.2.2.1.2.1 e79
      refine r0_170 _ _ (by decide) (by decide) hc.1.1.1 (ref_tr H.2.1 hc.2.1) ht (e0_of H hc e79).1 (Or.inl (e0_of H hc e79).2) (zz_tr hz hc.2.1) (fun v2 m₉ hr ho h3 h95 e8 e10 e17 e27 hz₉ hkk hx hk9 y3 e3 ha => zi_n ⟨hc.1.1.1, K _ (lx_of (fun hL => wl_st H HW hL hc hpr ho (fun w => pw_kp hH) ha) (lw_step H hc hr ho ?_ ?_ ?_ ?_ ?_))⟩)
      all_goals have e1 := hq
      · rw [ho 64 1 (Or.inl (by decide)), h3]
        exact Int32.toInt_inj.mp (by omega)
      · rw [ho 64 7 (Or.inl (by decide))]
        exact Int32.toInt_inj.mp (by omega)
      · exact lw_al H hc h65 ho (by rw [h3]; exact Int.le_refl _) h95
      · exact lw_k0 H hc h67 ho hk9 (by omega)
      · exact sim_st H.2.2.2.2.2.2.2.2 hc hpr e8 e10 e17 e27 (md_79 e79 (s0_st hc (hH.2.1 hB) ho (by rw [hH.2.2.1]; exact hqq) hz₉))
    by_cases e84 : mR S 64 11 = some 84
    · obtain ⟨hB, hC, aa, hqq, hz, hk⟩ := H.2.2.2.2.2.2.2.2.2.1.2.2.1 e84
      refine r0_170 _ _ (by decide) (by decide) hc.1.1.1 (ref_tr H.2.1 hc.2.1) ht (e4_of H hc e84).1 (Or.inr (e4_of H hc e84).2) (zz_tr hz hc.2.1) (fun v2 m₉ hr ho h3 h95 e8 e10 e17 e27 hz₉ hkk hx hk9 y3 e3 ha => zi_n ⟨hc.1.1.1, K _ (lx_of (fun hL => wl_st H HW hL hc hpr ho (fun w => pw_kp hH) ha) (lw_step H hc hr ho ?_ ?_ ?_ ?_ ?_))⟩)
      all_goals have e1 := hq
      · rw [ho 64 1 (Or.inl (by decide)), h3]
        exact Int32.toInt_inj.mp (by omega)
      · rw [ho 64 7 (Or.inl (by decide))]
        exact Int32.toInt_inj.mp (by omega)
      · exact lw_al H hc h65 ho (by rw [h3]; exact Int.le_refl _) h95
      · exact lw_k0 H hc h67 ho hk9 (by omega)
      · exact sim_st H.2.2.2.2.2.2.2.2 hc hpr e8 e10 e17 e27 (md_84 e84 (s4_st hc (hH.2.1 hB) ho (by rw [hH.2.2.2.1, hH.2.2.2.2]; exact C_T (C_up hC)) (by rw [hH.2.2.2.1]; exact hqq) hz₉ (hkk aa (zk_tr hk hc.2.1))))
    by_cases e80 : mR S 64 11 = some 80
    · have hz := H.2.2.2.2.2.2.2.2.2.1.2.2.2.1 e80
      refine r1_170 _ _ (by decide) (by decide) hc.1.1.1 (ref_tr H.2.1 hc.2.1) ht (e80_of H hc e80).1 (e80_of H hc e80).2 (n1_tr hz.2 hc.2.1) (fun v2 m₉ hr ho h3 h95 e8 e10 e17 e27 hx hk9 hz₉ y3 e3 ha => zi_n ⟨hc.1.1.1, K _ (lx_of (fun hL => wl_st H HW hL hc hpr ho (fun w => pw_kp hH) ha) (lw_step H hc hr ho ?_ ?_ ?_ ?_ ?_))⟩)
      all_goals have e1 := hq
      · rw [ho 64 1 (Or.inl (by decide)), h3]
        exact Int32.toInt_inj.mp (by omega)
      · rw [ho 64 7 (Or.inl (by decide))]
        exact Int32.toInt_inj.mp (by omega)
      · exact lw_al H hc h65 ho (by rw [h3]; exact Int.le_refl _) h95
      · exact lw_k0 H hc h67 ho hk9 (by omega)
      · exact sim_st H.2.2.2.2.2.2.2.2 hc hpr e8 e10 e17 e27 (md_80 e80 (s1_kp hz hM hc.1.1 ho hz₉))
    by_cases e81 : mR S 64 11 = some 81
    · have hz := H.2.2.2.2.2.2.2.2.2.1.2.2.2.2.1 e81
      refine r2_170 _ _ (by decide) (by decide) hc.1.1.1 (ref_tr H.2.1 hc.2.1) ht (e81_of H hc e81).1 (e81_of H hc e81).2 (n2_tr hz.2 hc.2.1) (fun v2 m₉ hr ho h3 h95 e8 e10 e17 e27 hx hk9 hz₉ y3 e3 ha => zi_n ⟨hc.1.1.1, K _ (lx_of (fun hL => wl_st H HW hL hc hpr ho (fun w => pw_kp hH) ha) (lw_step H hc hr ho ?_ ?_ ?_ ?_ ?_))⟩)
      all_goals have e1 := hq
      · rw [ho 64 1 (Or.inl (by decide)), h3]
        exact Int32.toInt_inj.mp (by omega)
      · rw [ho 64 7 (Or.inl (by decide))]
        exact Int32.toInt_inj.mp (by omega)
      · exact lw_al H hc h65 ho (by rw [h3]; exact Int.le_refl _) h95
      · exact lw_k0 H hc h67 ho hk9 (by omega)
      · exact sim_st H.2.2.2.2.2.2.2.2 hc hpr e8 e10 e17 e27 (md_81 e81 (s2_kp hz hM hc.1.1 ho hz₉))
    by_cases e82 : mR S 64 11 = some 82
    · have hz := H.2.2.2.2.2.2.2.2.2.1.2.2.2.2.2.1 e82
      refine r3_170 _ _ (by decide) (by decide) hc.1.1.1 (ref_tr H.2.1 hc.2.1) ht (e82_of H hc e82).1 (e82_of H hc e82).2 (n3_tr hz.2 hc.2.1) (fun v2 m₉ hr ho h3 h95 e8 e10 e17 e27 hx hk9 hz₉ y3 e3 ha => zi_n ⟨hc.1.1.1, K _ (lx_of (fun hL => wl_st H HW hL hc hpr ho (fun w => pw_kp hH) ha) (lw_step H hc hr ho ?_ ?_ ?_ ?_ ?_))⟩)
      all_goals have e1 := hq
      · rw [ho 64 1 (Or.inl (by decide)), h3]
        exact Int32.toInt_inj.mp (by omega)
      · rw [ho 64 7 (Or.inl (by decide))]
        exact Int32.toInt_inj.mp (by omega)
      · exact lw_al H hc h65 ho (by rw [h3]; exact Int.le_refl _) h95
      · exact lw_k0 H hc h67 ho hk9 (by omega)
      · exact sim_st H.2.2.2.2.2.2.2.2 hc hpr e8 e10 e17 e27 (md_82 e82 (s3_kp hz hM hc.1.1 ho hz₉))
    by_cases e91 : mR S 64 11 = some 91
    · have hz := H.2.2.2.2.2.2.2.2.2.1.2.2.2.2.2.2 e91
      refine r6_170 _ _ (by decide) (by decide) hc.1.1.1 (ref_tr H.2.1 hc.2.1) ht (e91_of H hc e91).1 (e91_of H hc e91).2 (n6_tr hz.2 hc.2.1) (fun v2 m₉ hr ho h3 h95 e8 e10 e17 e27 hx hk9 hz₉ y3 e3 ha => zi_n ⟨hc.1.1.1, K _ (lx_of (fun hL => wl_st H HW hL hc hpr ho (fun w => pw_kp hH) ha) (lw_step H hc hr ho ?_ ?_ ?_ ?_ ?_))⟩)
      all_goals have e1 := hq
      · rw [ho 64 1 (Or.inl (by decide)), h3]
        exact Int32.toInt_inj.mp (by omega)
      · rw [ho 64 7 (Or.inl (by decide))]
        exact Int32.toInt_inj.mp (by omega)
      · exact lw_al H hc h65 ho (by rw [h3]; exact Int.le_refl _) h95
      · exact lw_k0 H hc h67 ho hk9 (by omega)
      · exact sim_st H.2.2.2.2.2.2.2.2 hc hpr e8 e10 e17 e27 (md_91 e91 (s6_kp hz hM hc.1.1 ho hz₉))
    · refine rf_170 _ _ (by decide) (by decide) hc.1.1.1 (ref_tr H.2.1 hc.2.1) ht (fun v2 m₉ hr ho h3 h95 e8 e10 e17 e27 hx hk9 y3 e3 ha => zi_n ⟨hc.1.1.1, K _ (lx_of (fun hL => wl_st H HW hL hc hpr ho (fun w => pw_kp hH) ha) (lw_step H hc hr ho ?_ ?_ ?_ ?_ ?_))⟩)
      all_goals have e1 := hq
      · rw [ho 64 1 (Or.inl (by decide)), h3]
        exact Int32.toInt_inj.mp (by omega)
      · rw [ho 64 7 (Or.inl (by decide))]
        exact Int32.toInt_inj.mp (by omega)
      · exact lw_al H hc h65 ho (by rw [h3]; exact Int.le_refl _) h95
      · exact lw_k0 H hc h67 ho hk9 (by omega)
      · exact sim_st H.2.2.2.2.2.2.2.2 hc hpr e8 e10 e17 e27 (md_no e e79 e84 e80 e81 e82 e91)
theorem la_3 {X : Nat × (Nat → Int32)} {C0 Z0 T : Nat} {S : ma_S} {Q : Option ma_V → ma_S → Prop} (i : Int32) (H0 : zLx C0 Z0 T S) (ht : T + 1 ≤ 512) (gd : ∀ j : Int32, (j = 1 ∨ j = 2 ∨ j = 3 ∨ j = 4 ∨ j = 5) → 0 ≤ i + j ∧ (i + j).toNatClampNeg < X.1) (K : ∀ S₉, zLx C0 Z0 (T + 1) S₉ → ma_fp X 0 13 494 957 [(0, .inr (.inr (some 30))), (1, .inr (.inr (some 64))), (2, .inr (.inr (some 94))), (3, .inr (.inr (some 125))), (4, .inl i)] [] S₉ Q) : ma_fp X 0 13 494 280 [(0, .inr (.inr (some 30))), (1, .inr (.inr (some 64))), (2, .inr (.inr (some 94))), (3, .inr (.inr (some 125))), (4, .inl i)] [] S Q := by
  obtain ⟨H, HW⟩ := H0
  refine gl_280 i (by decide) (by decide) H.1.1.1 ?_
  refine sp_127_64_sn (zt := mI S 65) (zn := (mI S 64 1).toInt) (a8 := aS 88 S) (J0 := mI S) (JL := mL S) (JR := mR S 70) (k67 := mI S 67) (k68 := mI S 68) (by decide) (by decide) H.1.1 rfl rfl rfl fn9_0 ⟨rfl, rfl⟩ (fun v S2 r₉ hr₉ hI hq hoc hk6 => zi_n ⟨zG_T hI, ?_⟩)
  have hp : r₉ 64 11 = none ∨ ∃ p, p ∈ zcl7 ∧ r₉ 64 11 = some p := by
    rcases hr₉ with e | ⟨p, hp, e⟩
    · rw [e]; exact H.1.2
    · refine Or.inr ⟨p, hp, ?_⟩
      rw [e]
      rfl
  have hc : zCl S S2 := cl_A H.1 hI hp (Nat.le_succ _) (Nat.le_add_right _ _)
  refine rf_171 (by decide) (by decide) hc.1.1.1 (ref_tr H.2.1 hc.2.1) ht (lw_by H hc) (lw_27 H hc) (lw_17 H hc) (fun v2 m₉ hr ho h7 e97 e98 hun g27 g17 hx han2 hoq => zi_n ⟨hc.1.1.1, K _ (lx_of (fun hL => wl_hp H HW hc (zG_r hI (c := 64) (k := 11) (by decide)) ho hoc hoq) (lw_step H hc hr ho ?_ (lw_ke H hc (fr_A7 hI) ho h7) (al_0 hx) (lw_kr H hc hk6 ho h7 e97 e98) (sim_hp H hc (zG_r hI (c := 64) (k := 11) (by decide)) hr.1 ho hoc hoq g17 g27)))⟩)
  rw [ho 64 1 (Or.inl (by decide))]
  exact Int32.toInt_inj.mp (by omega)
theorem la_4 {X : Nat × (Nat → Int32)} {C0 Z0 T : Nat} {S : ma_S} {Q : Option ma_V → ma_S → Prop} (i : Int32) (H0 : zLx C0 Z0 T S) (ht : T + 1 ≤ 512) (gd : ∀ j : Int32, (j = 1 ∨ j = 2 ∨ j = 3 ∨ j = 4 ∨ j = 5) → 0 ≤ i + j ∧ (i + j).toNatClampNeg < X.1) (K : ∀ S₉, zLx C0 Z0 (T + 1) S₉ → ma_fp X 0 13 494 957 [(0, .inr (.inr (some 30))), (1, .inr (.inr (some 64))), (2, .inr (.inr (some 94))), (3, .inr (.inr (some 125))), (4, .inl i)] [] S₉ Q) : ma_fp X 0 13 494 293 [(0, .inr (.inr (some 30))), (1, .inr (.inr (some 64))), (2, .inr (.inr (some 94))), (3, .inr (.inr (some 125))), (4, .inl i)] [] S Q := by
  obtain ⟨H, HW⟩ := H0
  refine gl_293 i (by decide) (by decide) H.1.1.1 ?_
  refine ⟨gd 1 (by decide), gd 2 (by decide), ?_⟩
  refine fw_4 (T := T) _ _ (by decide) (by decide) H.1 (lw_xb H) (lw_cc H) (lw_iv H) ht (lw_h6 H) (fun v S2 hc hpr hte hke h65 h67 h87 h79 h84 h80 h81 h82 h91 => zfi_n ⟨hc.1.1.1, gd 1 (by decide), gd 2 (by decide), ?_⟩)
  refine wp_with (uw_181 _ _ (by decide) (by decide) H hc ht) ?_
  by_cases e : mR S 64 11 = some 87
  · obtain ⟨hB, aa, hsm, hz⟩ := H.2.2.2.2.2.2.2.2.2.1.1 e
    have k5 := K_5 hz
    have e5 := e5_of H hc e
    exact rs_181 _ _ (by decide) (by decide) hc.1.1.1 (ref_tr H.2.1 hc.2.1) ht e5.1 e5.2 (z5_tr hz hc.2.1) (lw_bt H hc) (fun v2 m₉ hr ho h3 h7 h95 e8 e10 e97 e98 e17 e27 hz₉ y3 e3 ha => zi_n ⟨hc.1.1.1, K _ (lx_of (fun hL => wl_st H HW hL hc hpr ho (fun w => pw_4 H ht h87 h79 h84 h80 h81 h82 h91 (cq_st hL hc hpr ho w) w) ha) (lw_q H hc hpr hte hke h65 h67 hr ho h3 h7 h95 e8 e10 e97 e98 e17 e27 (md_87 e (s5_st hc (h87 e).1 ho (by rw [(h87 e).2, h7, e97]; exact lw_mk H hc hsm k5.1) hz₉))))⟩)
  by_cases e79 : mR S 64 11 = some 79
  · obtain ⟨hB, aa, hq, hz⟩ := H.2.2.2.2.2.2.2.2.2.1.2.1 e79
    have e5 := e0_of H hc e79
    exact r0_181 _ _ (by decide) (by decide) hc.1.1.1 (ref_tr H.2.1 hc.2.1) ht e5.1 e5.2 (zz_tr hz hc.2.1) (zz_58 (zz_tr hz hc.2.1) (Q_80 hq)) (lw_bt H hc) (fun v2 m₉ hr ho h3 h7 h95 e8 e10 e97 e98 e17 e27 hz₉ y3 e3 ha => zi_n ⟨hc.1.1.1, K _ (lx_of (fun hL => wl_st H HW hL hc hpr ho (fun w => pw_4 H ht h87 h79 h84 h80 h81 h82 h91 (cq_st hL hc hpr ho w) w) ha) (lw_q H hc hpr hte hke h65 h67 hr ho h3 h7 h95 e8 e10 e97 e98 e17 e27 (md_79 e79 (s0_st hc (h79 e79).1 ho (by rw [(h79 e79).2, h7, e97]; exact lw_mk0 H hc hq hz.2.1) hz₉))))⟩)
  by_cases e84 : mR S 64 11 = some 84
  · obtain ⟨hB, hC, aa, hq, hz, hk⟩ := H.2.2.2.2.2.2.2.2.2.1.2.2.1 e84
    have hv : cV aa [] (T : Int) := V_0 (C_o8 (O8_sy (Q_8 hq)) hC)
    have e5 := e4_of H hc e84
    exact r4_181 _ _ (by decide) (by decide) hc.1.1.1 (ref_tr H.2.1 hc.2.1) ht e5.1 e5.2 (zz_tr hz hc.2.1) (zk_tr hk hc.2.1) hv (zz_58 (zz_tr hz hc.2.1) (Q_80 hq)) (lw_bt H hc) (fun v2 m₉ hr ho h3 h7 h95 e8 e10 e97 e98 e17 e27 hz₉ hk₉ y3 e3 ha => zi_n ⟨hc.1.1.1, K _ (lx_of (fun hL => wl_st H HW hL hc hpr ho (fun w => pw_4 H ht h87 h79 h84 h80 h81 h82 h91 (cq_st hL hc hpr ho w) w) ha) (lw_q H hc hpr hte hke h65 h67 hr ho h3 h7 h95 e8 e10 e97 e98 e17 e27 (md_84 e84 (s4_st hc (h84 e84).1 ho (C_T (C_up (h84 e84).2.2)) (by rw [(h84 e84).2.1]; exact lw_mk4 H hc hq hz.2.1 hv) hz₉ hk₉))))⟩)
  by_cases e80 : mR S 64 11 = some 80
  · have hz := H.2.2.2.2.2.2.2.2.2.1.2.2.2.1 e80
    exact r1_181 _ _ (by decide) (by decide) hc.1.1.1 (ref_tr H.2.1 hc.2.1) ht (e80_of H hc e80).1 (e80_of H hc e80).2 (n1_tr hz.2 hc.2.1) (lw_bt H hc) (fun v2 m₉ hr ho h3 h7 h95 e8 e10 e97 e98 e17 e27 hz₉ y3 e3 ha => zi_n ⟨hc.1.1.1, K _ (lx_of (fun hL => wl_st H HW hL hc hpr ho (fun w => pw_4 H ht h87 h79 h84 h80 h81 h82 h91 (cq_st hL hc hpr ho w) w) ha) (lw_q H hc hpr hte hke h65 h67 hr ho h3 h7 h95 e8 e10 e97 e98 e17 e27 (md_80 e80 (s1_mst hc.1.1 (h80 e80).1 ho (by rw [lw_mkm H hc]; exact (h80 e80).2) hz₉))))⟩)
  by_cases e81 : mR S 64 11 = some 81
  · have hz := H.2.2.2.2.2.2.2.2.2.1.2.2.2.2.1 e81
    exact r2_181 _ _ (by decide) (by decide) hc.1.1.1 (ref_tr H.2.1 hc.2.1) ht (e81_of H hc e81).1 (e81_of H hc e81).2 (n2_tr hz.2 hc.2.1) (lw_bt H hc) (fun v2 m₉ hr ho h3 h7 h95 e8 e10 e97 e98 e17 e27 hz₉ y3 e3 ha => zi_n ⟨hc.1.1.1, K _ (lx_of (fun hL => wl_st H HW hL hc hpr ho (fun w => pw_4 H ht h87 h79 h84 h80 h81 h82 h91 (cq_st hL hc hpr ho w) w) ha) (lw_q H hc hpr hte hke h65 h67 hr ho h3 h7 h95 e8 e10 e97 e98 e17 e27 (md_81 e81 (s2_mst hc.1.1 (h81 e81).1 ho (by rw [lw_mkm H hc]; exact (h81 e81).2) hz₉))))⟩)
  by_cases e82 : mR S 64 11 = some 82
  · have hz := H.2.2.2.2.2.2.2.2.2.1.2.2.2.2.2.1 e82
    exact r3_181 _ _ (by decide) (by decide) hc.1.1.1 (ref_tr H.2.1 hc.2.1) ht (e82_of H hc e82).1 (e82_of H hc e82).2 (n3_tr hz.2 hc.2.1) (lw_bt H hc) (fun v2 m₉ hr ho h3 h7 h95 e8 e10 e97 e98 e17 e27 hz₉ y3 e3 ha => zi_n ⟨hc.1.1.1, K _ (lx_of (fun hL => wl_st H HW hL hc hpr ho (fun w => pw_4 H ht h87 h79 h84 h80 h81 h82 h91 (cq_st hL hc hpr ho w) w) ha) (lw_q H hc hpr hte hke h65 h67 hr ho h3 h7 h95 e8 e10 e97 e98 e17 e27 (md_82 e82 (s3_mst hc.1.1 (h82 e82).1 ho (by rw [lw_mkm H hc]; exact (h82 e82).2) hz₉))))⟩)
  by_cases e91 : mR S 64 11 = some 91
  · have hz := H.2.2.2.2.2.2.2.2.2.1.2.2.2.2.2.2 e91
    exact r6_181 _ _ (by decide) (by decide) hc.1.1.1 (ref_tr H.2.1 hc.2.1) ht (e91_of H hc e91).1 (e91_of H hc e91).2 (n6_tr hz.2 hc.2.1) (lw_bt H hc) (fun v2 m₉ hr ho h3 h7 h95 e8 e10 e97 e98 e17 e27 hz₉ y3 e3 ha => zi_n ⟨hc.1.1.1, K _ (lx_of (fun hL => wl_st H HW hL hc hpr ho (fun w => pw_4 H ht h87 h79 h84 h80 h81 h82 h91 (cq_st hL hc hpr ho w) w) ha) (lw_q H hc hpr hte hke h65 h67 hr ho h3 h7 h95 e8 e10 e97 e98 e17 e27 (md_91 e91 (s6_mst' hc.1.1 (h91 e91).1 ho (by rw [lw_mkm H hc]; exact (h91 e91).2) hz₉))))⟩)
  exact rf_181 _ _ (by decide) (by decide) hc.1.1.1 (ref_tr H.2.1 hc.2.1) ht (fun v2 m₉ hr ho h3 h7 h95 e8 e10 e97 e98 e17 e27 y3 e3 ha => zi_n ⟨hc.1.1.1, K _ (lx_of (fun hL => wl_st H HW hL hc hpr ho (fun w => pw_4 H ht h87 h79 h84 h80 h81 h82 h91 (cq_st hL hc hpr ho w) w) ha) (lw_q H hc hpr hte hke h65 h67 hr ho h3 h7 h95 e8 e10 e97 e98 e17 e27 (md_no e e79 e84 e80 e81 e82 e91)))⟩)
theorem la_5 {X : Nat × (Nat → Int32)} {C0 Z0 T : Nat} {S : ma_S} {Q : Option ma_V → ma_S → Prop} (i : Int32) (H0 : zLx C0 Z0 T S) (ht : T + 1 ≤ 512) (gd : ∀ j : Int32, (j = 1 ∨ j = 2 ∨ j = 3 ∨ j = 4 ∨ j = 5) → 0 ≤ i + j ∧ (i + j).toNatClampNeg < X.1) (K : ∀ S₉, zLx C0 Z0 (T + 1) S₉ → ma_fp X 0 13 494 957 [(0, .inr (.inr (some 30))), (1, .inr (.inr (some 64))), (2, .inr (.inr (some 94))), (3, .inr (.inr (some 125))), (4, .inl i)] [] S₉ Q) : ma_fp X 0 13 494 333 [(0, .inr (.inr (some 30))), (1, .inr (.inr (some 64))), (2, .inr (.inr (some 94))), (3, .inr (.inr (some 125))), (4, .inl i)] [] S Q := by
  obtain ⟨H, HW⟩ := H0
  refine gl_333 i (by decide) (by decide) H.1.1.1 ?_
  refine ⟨gd 1 (by decide), zd (fun hb => ?_) (fun hb => ?_)⟩
  · refine ⟨gd 2 (by decide), gd 3 (by decide), ?_⟩
    refine fw_5 (T := T) _ _ _ (by decide) (by decide) H.1 (Or.inl rfl) (lw_xb H) (lw_cc H) (lw_iv H) ht (lw_h6 H) (fun v S2 hc hpr hte hke h65 h67 h87 h79 h84 h80 h81 h82 h91 => zfi_n ⟨hc.1.1.1, gd 1 (by decide), zt hb ⟨gd 2 (by decide), gd 3 (by decide), ?_⟩⟩)
    refine wp_with (uw_243 _ _ _ (by decide) (by decide) H hc ht (by decide) (by decide)) ?_
    by_cases e : mR S 64 11 = some 87
    · obtain ⟨hB, aa, hsm, hz⟩ := H.2.2.2.2.2.2.2.2.2.1.1 e
      have k5 := K_5 hz
      have e5 := e5_of H hc e
      exact rs_243 _ _ _ (by decide) (by decide) hc.1.1.1 (ref_tr H.2.1 hc.2.1) ht e5.1 e5.2 (z5_tr hz hc.2.1) (by decide) (by decide) (fun v2 m₉ hr ho h3 h7 h95 e8 e10 e97 e98 e17 e27 hz₉ y3 e3 ha => zi_n ⟨hc.1.1.1, K _ (lx_of (fun hL => wl_st H HW hL hc hpr ho (fun w => pw_5 H ht h87 h79 h84 h80 h81 h82 h91 (cq_st hL hc hpr ho w) w) ha) (lw_q H hc hpr hte hke h65 h67 hr ho h3 h7 h95 e8 e10 e97 e98 e17 e27 (md_87 e (s5_st hc (h87 e).1 ho (by rw [(h87 e).2]; exact lw_rw hsm k5.1) hz₉))))⟩)
    by_cases e79 : mR S 64 11 = some 79
    · obtain ⟨hB, aa, hq, hz⟩ := H.2.2.2.2.2.2.2.2.2.1.2.1 e79
      have e5 := e0_of H hc e79
      exact r0_243 _ _ _ (by decide) (by decide) hc.1.1.1 (ref_tr H.2.1 hc.2.1) ht e5.1 e5.2 (zz_tr hz hc.2.1) (zz_58 (zz_tr hz hc.2.1) (Q_80 hq)) (by decide) (by decide) (fun v2 m₉ hr ho h3 h7 h95 e8 e10 e97 e98 e17 e27 hz₉ y3 e3 ha => zi_n ⟨hc.1.1.1, K _ (lx_of (fun hL => wl_st H HW hL hc hpr ho (fun w => pw_5 H ht h87 h79 h84 h80 h81 h82 h91 (cq_st hL hc hpr ho w) w) ha) (lw_q H hc hpr hte hke h65 h67 hr ho h3 h7 h95 e8 e10 e97 e98 e17 e27 (md_79 e79 (s0_st hc (h79 e79).1 ho (by rw [(h79 e79).2]; exact lw_rw0 hq hz.2.1) hz₉))))⟩)
    by_cases e84 : mR S 64 11 = some 84
    · obtain ⟨hB, hC, aa, hq, hz, hk⟩ := H.2.2.2.2.2.2.2.2.2.1.2.2.1 e84
      have hv : cV aa [] (T : Int) := V_0 (C_o8 (O8_sy (Q_8 hq)) hC)
      have e5 := e4_of H hc e84
      exact r4_243 _ _ _ (by decide) (by decide) hc.1.1.1 (ref_tr H.2.1 hc.2.1) ht e5.1 e5.2 (zz_tr hz hc.2.1) (zk_tr hk hc.2.1) hv (zz_58 (zz_tr hz hc.2.1) (Q_80 hq)) (by decide) (by decide) (fun v2 m₉ hr ho h3 h7 h95 e8 e10 e97 e98 e17 e27 hz₉ hk₉ y3 e3 ha => zi_n ⟨hc.1.1.1, K _ (lx_of (fun hL => wl_st H HW hL hc hpr ho (fun w => pw_5 H ht h87 h79 h84 h80 h81 h82 h91 (cq_st hL hc hpr ho w) w) ha) (lw_q H hc hpr hte hke h65 h67 hr ho h3 h7 h95 e8 e10 e97 e98 e17 e27 (md_84 e84 (s4_st hc (h84 e84).1 ho (C_T (C_up (h84 e84).2.2)) (by rw [(h84 e84).2.1]; exact lw_rw4 hq hz.2.1 hv) hz₉ hk₉))))⟩)
    by_cases e80 : mR S 64 11 = some 80
    · have hz := H.2.2.2.2.2.2.2.2.2.1.2.2.2.1 e80
      exact r1_243 _ _ _ (by decide) (by decide) hc.1.1.1 (ref_tr H.2.1 hc.2.1) ht (e80_of H hc e80).1 (e80_of H hc e80).2 (n1_tr hz.2 hc.2.1) (by decide) (by decide) (fun v2 m₉ hr ho h3 h7 h95 e8 e10 e97 e98 e17 e27 hz₉ y3 e3 ha => zi_n ⟨hc.1.1.1, K _ (lx_of (fun hL => wl_st H HW hL hc hpr ho (fun w => pw_5 H ht h87 h79 h84 h80 h81 h82 h91 (cq_st hL hc hpr ho w) w) ha) (lw_q H hc hpr hte hke h65 h67 hr ho h3 h7 h95 e8 e10 e97 e98 e17 e27 (md_80 e80 (s1_mst hc.1.1 (h80 e80).1 ho (h80 e80).2 hz₉))))⟩)
    by_cases e81 : mR S 64 11 = some 81
    · have hz := H.2.2.2.2.2.2.2.2.2.1.2.2.2.2.1 e81
      exact r2_243 _ _ _ (by decide) (by decide) hc.1.1.1 (ref_tr H.2.1 hc.2.1) ht (e81_of H hc e81).1 (e81_of H hc e81).2 (n2_tr hz.2 hc.2.1) (by decide) (by decide) (fun v2 m₉ hr ho h3 h7 h95 e8 e10 e97 e98 e17 e27 hz₉ y3 e3 ha => zi_n ⟨hc.1.1.1, K _ (lx_of (fun hL => wl_st H HW hL hc hpr ho (fun w => pw_5 H ht h87 h79 h84 h80 h81 h82 h91 (cq_st hL hc hpr ho w) w) ha) (lw_q H hc hpr hte hke h65 h67 hr ho h3 h7 h95 e8 e10 e97 e98 e17 e27 (md_81 e81 (s2_mst hc.1.1 (h81 e81).1 ho (h81 e81).2 hz₉))))⟩)
    by_cases e82 : mR S 64 11 = some 82
    · have hz := H.2.2.2.2.2.2.2.2.2.1.2.2.2.2.2.1 e82
      exact r3_243 _ _ _ (by decide) (by decide) hc.1.1.1 (ref_tr H.2.1 hc.2.1) ht (e82_of H hc e82).1 (e82_of H hc e82).2 (n3_tr hz.2 hc.2.1) (by decide) (by decide) (fun v2 m₉ hr ho h3 h7 h95 e8 e10 e97 e98 e17 e27 hz₉ y3 e3 ha => zi_n ⟨hc.1.1.1, K _ (lx_of (fun hL => wl_st H HW hL hc hpr ho (fun w => pw_5 H ht h87 h79 h84 h80 h81 h82 h91 (cq_st hL hc hpr ho w) w) ha) (lw_q H hc hpr hte hke h65 h67 hr ho h3 h7 h95 e8 e10 e97 e98 e17 e27 (md_82 e82 (s3_mst hc.1.1 (h82 e82).1 ho (h82 e82).2 hz₉))))⟩)
    by_cases e91 : mR S 64 11 = some 91
    · have hz := H.2.2.2.2.2.2.2.2.2.1.2.2.2.2.2.2 e91
      exact r6_243 _ _ _ (by decide) (by decide) hc.1.1.1 (ref_tr H.2.1 hc.2.1) ht (e91_of H hc e91).1 (e91_of H hc e91).2 (n6_tr hz.2 hc.2.1) (by decide) (by decide) (fun v2 m₉ hr ho h3 h7 h95 e8 e10 e97 e98 e17 e27 hz₉ y3 e3 ha => zi_n ⟨hc.1.1.1, K _ (lx_of (fun hL => wl_st H HW hL hc hpr ho (fun w => pw_5 H ht h87 h79 h84 h80 h81 h82 h91 (cq_st hL hc hpr ho w) w) ha) (lw_q H hc hpr hte hke h65 h67 hr ho h3 h7 h95 e8 e10 e97 e98 e17 e27 (md_91 e91 (s6_mst' hc.1.1 (h91 e91).1 ho (h91 e91).2 hz₉))))⟩)
    exact rf_243 _ _ _ (by decide) (by decide) hc.1.1.1 (ref_tr H.2.1 hc.2.1) ht (by decide) (by decide) (fun v2 m₉ hr ho h3 h7 h95 e8 e10 e97 e98 e17 e27 y3 e3 ha => zi_n ⟨hc.1.1.1, K _ (lx_of (fun hL => wl_st H HW hL hc hpr ho (fun w => pw_5 H ht h87 h79 h84 h80 h81 h82 h91 (cq_st hL hc hpr ho w) w) ha) (lw_q H hc hpr hte hke h65 h67 hr ho h3 h7 h95 e8 e10 e97 e98 e17 e27 (md_no e e79 e84 e80 e81 e82 e91)))⟩)
  · refine ⟨gd 2 (by decide), gd 3 (by decide), ?_⟩
    refine fw_5 (T := T) _ _ _ (by decide) (by decide) H.1 (Or.inr rfl) (lw_xb H) (lw_cc H) (lw_iv H) ht (lw_h6 H) (fun v S2 hc hpr hte hke h65 h67 h87 h79 h84 h80 h81 h82 h91 => zfi_n ⟨hc.1.1.1, gd 1 (by decide), zf hb ⟨gd 2 (by decide), gd 3 (by decide), ?_⟩⟩)
    refine wp_with (uw_243 _ _ _ (by decide) (by decide) H hc ht (by decide) (by decide)) ?_
    by_cases e : mR S 64 11 = some 87
    · obtain ⟨hB, aa, hsm, hz⟩ := H.2.2.2.2.2.2.2.2.2.1.1 e
      have k5 := K_5 hz
      have e5 := e5_of H hc e
      exact rs_243 _ _ _ (by decide) (by decide) hc.1.1.1 (ref_tr H.2.1 hc.2.1) ht e5.1 e5.2 (z5_tr hz hc.2.1) (by decide) (by decide) (fun v2 m₉ hr ho h3 h7 h95 e8 e10 e97 e98 e17 e27 hz₉ y3 e3 ha => zi_n ⟨hc.1.1.1, K _ (lx_of (fun hL => wl_st H HW hL hc hpr ho (fun w => pw_5 H ht h87 h79 h84 h80 h81 h82 h91 (cq_st hL hc hpr ho w) w) ha) (lw_q H hc hpr hte hke h65 h67 hr ho h3 h7 h95 e8 e10 e97 e98 e17 e27 (md_87 e (s5_st hc (h87 e).1 ho (by rw [(h87 e).2]; exact lw_rw hsm k5.1) hz₉))))⟩)
    by_cases e79 : mR S 64 11 = some 79
    · obtain ⟨hB, aa, hq, hz⟩ := H.2.2.2.2.2.2.2.2.2.1.2.1 e79
      have e5 := e0_of H hc e79
      exact r0_243 _ _ _ (by decide) (by decide) hc.1.1.1 (ref_tr H.2.1 hc.2.1) ht e5.1 e5.2 (zz_tr hz hc.2.1) (zz_58 (zz_tr hz hc.2.1) (Q_80 hq)) (by decide) (by decide) (fun v2 m₉ hr ho h3 h7 h95 e8 e10 e97 e98 e17 e27 hz₉ y3 e3 ha => zi_n ⟨hc.1.1.1, K _ (lx_of (fun hL => wl_st H HW hL hc hpr ho (fun w => pw_5 H ht h87 h79 h84 h80 h81 h82 h91 (cq_st hL hc hpr ho w) w) ha) (lw_q H hc hpr hte hke h65 h67 hr ho h3 h7 h95 e8 e10 e97 e98 e17 e27 (md_79 e79 (s0_st hc (h79 e79).1 ho (by rw [(h79 e79).2]; exact lw_rw0 hq hz.2.1) hz₉))))⟩)
    by_cases e84 : mR S 64 11 = some 84
    · obtain ⟨hB, hC, aa, hq, hz, hk⟩ := H.2.2.2.2.2.2.2.2.2.1.2.2.1 e84
      have hv : cV aa [] (T : Int) := V_0 (C_o8 (O8_sy (Q_8 hq)) hC)
      have e5 := e4_of H hc e84
      exact r4_243 _ _ _ (by decide) (by decide) hc.1.1.1 (ref_tr H.2.1 hc.2.1) ht e5.1 e5.2 (zz_tr hz hc.2.1) (zk_tr hk hc.2.1) hv (zz_58 (zz_tr hz hc.2.1) (Q_80 hq)) (by decide) (by decide) (fun v2 m₉ hr ho h3 h7 h95 e8 e10 e97 e98 e17 e27 hz₉ hk₉ y3 e3 ha => zi_n ⟨hc.1.1.1, K _ (lx_of (fun hL => wl_st H HW hL hc hpr ho (fun w => pw_5 H ht h87 h79 h84 h80 h81 h82 h91 (cq_st hL hc hpr ho w) w) ha) (lw_q H hc hpr hte hke h65 h67 hr ho h3 h7 h95 e8 e10 e97 e98 e17 e27 (md_84 e84 (s4_st hc (h84 e84).1 ho (C_T (C_up (h84 e84).2.2)) (by rw [(h84 e84).2.1]; exact lw_rw4 hq hz.2.1 hv) hz₉ hk₉))))⟩)
    by_cases e80 : mR S 64 11 = some 80
    · have hz := H.2.2.2.2.2.2.2.2.2.1.2.2.2.1 e80
      exact r1_243 _ _ _ (by decide) (by decide) hc.1.1.1 (ref_tr H.2.1 hc.2.1) ht (e80_of H hc e80).1 (e80_of H hc e80).2 (n1_tr hz.2 hc.2.1) (by decide) (by decide) (fun v2 m₉ hr ho h3 h7 h95 e8 e10 e97 e98 e17 e27 hz₉ y3 e3 ha => zi_n ⟨hc.1.1.1, K _ (lx_of (fun hL => wl_st H HW hL hc hpr ho (fun w => pw_5 H ht h87 h79 h84 h80 h81 h82 h91 (cq_st hL hc hpr ho w) w) ha) (lw_q H hc hpr hte hke h65 h67 hr ho h3 h7 h95 e8 e10 e97 e98 e17 e27 (md_80 e80 (s1_mst hc.1.1 (h80 e80).1 ho (h80 e80).2 hz₉))))⟩)
    by_cases e81 : mR S 64 11 = some 81
    · have hz := H.2.2.2.2.2.2.2.2.2.1.2.2.2.2.1 e81
      exact r2_243 _ _ _ (by decide) (by decide) hc.1.1.1 (ref_tr H.2.1 hc.2.1) ht (e81_of H hc e81).1 (e81_of H hc e81).2 (n2_tr hz.2 hc.2.1) (by decide) (by decide) (fun v2 m₉ hr ho h3 h7 h95 e8 e10 e97 e98 e17 e27 hz₉ y3 e3 ha => zi_n ⟨hc.1.1.1, K _ (lx_of (fun hL => wl_st H HW hL hc hpr ho (fun w => pw_5 H ht h87 h79 h84 h80 h81 h82 h91 (cq_st hL hc hpr ho w) w) ha) (lw_q H hc hpr hte hke h65 h67 hr ho h3 h7 h95 e8 e10 e97 e98 e17 e27 (md_81 e81 (s2_mst hc.1.1 (h81 e81).1 ho (h81 e81).2 hz₉))))⟩)
    by_cases e82 : mR S 64 11 = some 82
    · have hz := H.2.2.2.2.2.2.2.2.2.1.2.2.2.2.2.1 e82
      exact r3_243 _ _ _ (by decide) (by decide) hc.1.1.1 (ref_tr H.2.1 hc.2.1) ht (e82_of H hc e82).1 (e82_of H hc e82).2 (n3_tr hz.2 hc.2.1) (by decide) (by decide) (fun v2 m₉ hr ho h3 h7 h95 e8 e10 e97 e98 e17 e27 hz₉ y3 e3 ha => zi_n ⟨hc.1.1.1, K _ (lx_of (fun hL => wl_st H HW hL hc hpr ho (fun w => pw_5 H ht h87 h79 h84 h80 h81 h82 h91 (cq_st hL hc hpr ho w) w) ha) (lw_q H hc hpr hte hke h65 h67 hr ho h3 h7 h95 e8 e10 e97 e98 e17 e27 (md_82 e82 (s3_mst hc.1.1 (h82 e82).1 ho (h82 e82).2 hz₉))))⟩)
    by_cases e91 : mR S 64 11 = some 91
    · have hz := H.2.2.2.2.2.2.2.2.2.1.2.2.2.2.2.2 e91
      exact r6_243 _ _ _ (by decide) (by decide) hc.1.1.1 (ref_tr H.2.1 hc.2.1) ht (e91_of H hc e91).1 (e91_of H hc e91).2 (n6_tr hz.2 hc.2.1) (by decide) (by decide) (fun v2 m₉ hr ho h3 h7 h95 e8 e10 e97 e98 e17 e27 hz₉ y3 e3 ha => zi_n ⟨hc.1.1.1, K _ (lx_of (fun hL => wl_st H HW hL hc hpr ho (fun w => pw_5 H ht h87 h79 h84 h80 h81 h82 h91 (cq_st hL hc hpr ho w) w) ha) (lw_q H hc hpr hte hke h65 h67 hr ho h3 h7 h95 e8 e10 e97 e98 e17 e27 (md_91 e91 (s6_mst' hc.1.1 (h91 e91).1 ho (h91 e91).2 hz₉))))⟩)
    exact rf_243 _ _ _ (by decide) (by decide) hc.1.1.1 (ref_tr H.2.1 hc.2.1) ht (by decide) (by decide) (fun v2 m₉ hr ho h3 h7 h95 e8 e10 e97 e98 e17 e27 y3 e3 ha => zi_n ⟨hc.1.1.1, K _ (lx_of (fun hL => wl_st H HW hL hc hpr ho (fun w => pw_5 H ht h87 h79 h84 h80 h81 h82 h91 (cq_st hL hc hpr ho w) w) ha) (lw_q H hc hpr hte hke h65 h67 hr ho h3 h7 h95 e8 e10 e97 e98 e17 e27 (md_no e e79 e84 e80 e81 e82 e91)))⟩)
theorem la_6 {X : Nat × (Nat → Int32)} {C0 Z0 T : Nat} {S : ma_S} {Q : Option ma_V → ma_S → Prop} (i : Int32) (H0 : zLx C0 Z0 T S) (ht : T + 1 ≤ 512) (gd : ∀ j : Int32, (j = 1 ∨ j = 2 ∨ j = 3 ∨ j = 4 ∨ j = 5) → 0 ≤ i + j ∧ (i + j).toNatClampNeg < X.1) (K : ∀ S₉, zLx C0 Z0 (T + 1) S₉ → ma_fp X 0 13 494 957 [(0, .inr (.inr (some 30))), (1, .inr (.inr (some 64))), (2, .inr (.inr (some 94))), (3, .inr (.inr (some 125))), (4, .inl i)] [] S₉ Q) : ma_fp X 0 13 494 401 [(0, .inr (.inr (some 30))), (1, .inr (.inr (some 64))), (2, .inr (.inr (some 94))), (3, .inr (.inr (some 125))), (4, .inl i)] [] S Q := by
  obtain ⟨H, HW⟩ := H0
  refine gl_401 i (by decide) (by decide) H.1.1.1 ?_
  refine ⟨gd 1 (by decide), gd 2 (by decide), gd 3 (by decide), ?_⟩
  refine fw_6 (T := T) _ _ _ (by decide) (by decide) H.1 (lw_xb H) (lw_cc H) (lw_iv H) ht (fun v S2 hc hpr hte hke h65 h67 h87 h79 h84 h80 h81 h82 h91 => zfi_n ⟨hc.1.1.1, gd 1 (by decide), gd 2 (by decide), gd 3 (by decide), ?_⟩)
  refine wp_with (uw_244 _ _ _ (by decide) (by decide) H HW hc ht) ?_
  by_cases e : mR S 64 11 = some 87
  · obtain ⟨hB, aa, hsm, hz⟩ := H.2.2.2.2.2.2.2.2.2.1.1 e
    have k5 := K_5 hz
    have e5 := e5_of H hc e
    exact rs_244 _ _ _ (by decide) (by decide) hc.1.1.1 (ref_tr H.2.1 hc.2.1) ht e5.1 e5.2 (z5_tr hz hc.2.1) (fun v2 m₉ hr ho h3 h7 h95 e8 e10 e97 e98 e17 e27 hz₉ y3 e3 ha => zi_n ⟨hc.1.1.1, K _ (lx_of (fun hL => wl_pu H HW hL hc hpr ho h87 h79 h84 h80 h81 h82 h91 ha) (lw_q H hc hpr hte hke h65 h67 hr ho h3 h7 h95 e8 e10 e97 e98 e17 e27 (md_87 e (s5_st hc (h87 e).1 ho (by rw [(h87 e).2]; exact Sm_pu hsm k5.1.1) hz₉))))⟩)
  by_cases e79 : mR S 64 11 = some 79
  · obtain ⟨hB, aa, hq, hz⟩ := H.2.2.2.2.2.2.2.2.2.1.2.1 e79
    have e5 := e0_of H hc e79
    exact r0_244 _ _ _ (by decide) (by decide) hc.1.1.1 (ref_tr H.2.1 hc.2.1) ht e5.1 e5.2 (zz_tr hz hc.2.1) (zz_58 (zz_tr hz hc.2.1) (Q_80 hq)) (fun v2 m₉ hr ho h3 h7 h95 e8 e10 e97 e98 e17 e27 hz₉ y3 e3 ha => zi_n ⟨hc.1.1.1, K _ (lx_of (fun hL => wl_pu H HW hL hc hpr ho h87 h79 h84 h80 h81 h82 h91 ha) (lw_q H hc hpr hte hke h65 h67 hr ho h3 h7 h95 e8 e10 e97 e98 e17 e27 (md_79 e79 (s0_st hc (h79 e79).1 ho (by exact Q_A hq (Ax_pu (Q_88o hq)) (h79 e79).2.1 (h79 e79).2.2) hz₉))))⟩)
  by_cases e84 : mR S 64 11 = some 84
  · obtain ⟨hB, hC, aa, hq, hz, hk⟩ := H.2.2.2.2.2.2.2.2.2.1.2.2.1 e84
    have hv : cV aa [] (T : Int) := V_0 (C_o8 (O8_sy (Q_8 hq)) hC)
    have e5 := e4_of H hc e84
    exact r4_244 _ _ _ (by decide) (by decide) hc.1.1.1 (ref_tr H.2.1 hc.2.1) ht e5.1 e5.2 (zz_tr hz hc.2.1) (zk_tr hk hc.2.1) hv (zz_58 (zz_tr hz hc.2.1) (Q_80 hq)) (fun v2 m₉ hr ho h3 h7 h95 e8 e10 e97 e98 e17 e27 hz₉ hk₉ y3 e3 ha => zi_n ⟨hc.1.1.1, K _ (lx_of (fun hL => wl_pu H HW hL hc hpr ho h87 h79 h84 h80 h81 h82 h91 ha) (lw_q H hc hpr hte hke h65 h67 hr ho h3 h7 h95 e8 e10 e97 e98 e17 e27 (md_84 e84 (s4_st hc (h84 e84).1 ho (C_T (C_up (C_o8 (O8_sy T_88) (h84 e84).2.2.2))) (Q_A hq (Ax_pu (Q_88o hq)) (h84 e84).2.1 (h84 e84).2.2.1) hz₉ hk₉))))⟩)
  by_cases e80 : mR S 64 11 = some 80
  · have hz := H.2.2.2.2.2.2.2.2.2.1.2.2.2.1 e80
    exact r1_244 _ _ _ (by decide) (by decide) hc.1.1.1 (ref_tr H.2.1 hc.2.1) ht (e80_of H hc e80).1 (e80_of H hc e80).2 (n1_tr hz.2 hc.2.1) (fun v2 m₉ hr ho h3 h7 h95 e8 e10 e97 e98 e17 e27 hz₉ y3 e3 ha => zi_n ⟨hc.1.1.1, K _ (lx_of (fun hL => wl_pu H HW hL hc hpr ho h87 h79 h84 h80 h81 h82 h91 ha) (lw_q H hc hpr hte hke h65 h67 hr ho h3 h7 h95 e8 e10 e97 e98 e17 e27 (md_80 e80 (s1_mst hc.1.1 (h80 e80).1 ho (h80 e80).2 hz₉))))⟩)
  by_cases e81 : mR S 64 11 = some 81
  · have hz := H.2.2.2.2.2.2.2.2.2.1.2.2.2.2.1 e81
    exact r2_244 _ _ _ (by decide) (by decide) hc.1.1.1 (ref_tr H.2.1 hc.2.1) ht (e81_of H hc e81).1 (e81_of H hc e81).2 (n2_tr hz.2 hc.2.1) (fun v2 m₉ hr ho h3 h7 h95 e8 e10 e97 e98 e17 e27 hz₉ y3 e3 ha => zi_n ⟨hc.1.1.1, K _ (lx_of (fun hL => wl_pu H HW hL hc hpr ho h87 h79 h84 h80 h81 h82 h91 ha) (lw_q H hc hpr hte hke h65 h67 hr ho h3 h7 h95 e8 e10 e97 e98 e17 e27 (md_81 e81 (s2_mst hc.1.1 (h81 e81).1 ho (h81 e81).2 hz₉))))⟩)
  by_cases e82 : mR S 64 11 = some 82
  · have hz := H.2.2.2.2.2.2.2.2.2.1.2.2.2.2.2.1 e82
    exact r3_244 _ _ _ (by decide) (by decide) hc.1.1.1 (ref_tr H.2.1 hc.2.1) ht (e82_of H hc e82).1 (e82_of H hc e82).2 (n3_tr hz.2 hc.2.1) (fun v2 m₉ hr ho h3 h7 h95 e8 e10 e97 e98 e17 e27 hz₉ y3 e3 ha => zi_n ⟨hc.1.1.1, K _ (lx_of (fun hL => wl_pu H HW hL hc hpr ho h87 h79 h84 h80 h81 h82 h91 ha) (lw_q H hc hpr hte hke h65 h67 hr ho h3 h7 h95 e8 e10 e97 e98 e17 e27 (md_82 e82 (s3_mst hc.1.1 (h82 e82).1 ho (h82 e82).2 hz₉))))⟩)
  by_cases e91 : mR S 64 11 = some 91
  · have hz := H.2.2.2.2.2.2.2.2.2.1.2.2.2.2.2.2 e91
    exact r6_244 _ _ _ (by decide) (by decide) hc.1.1.1 (ref_tr H.2.1 hc.2.1) ht (e91_of H hc e91).1 (e91_of H hc e91).2 (n6_tr hz.2 hc.2.1) (fun v2 m₉ hr ho h3 h7 h95 e8 e10 e97 e98 e17 e27 hz₉ y3 e3 ha => zi_n ⟨hc.1.1.1, K _ (lx_of (fun hL => wl_pu H HW hL hc hpr ho h87 h79 h84 h80 h81 h82 h91 ha) (lw_q H hc hpr hte hke h65 h67 hr ho h3 h7 h95 e8 e10 e97 e98 e17 e27 (md_91 e91 (s6_mst hc.1.1 (h91 e91).1 ho (h91 e91).2 hz₉))))⟩)
  exact rf_244 _ _ _ (by decide) (by decide) hc.1.1.1 (ref_tr H.2.1 hc.2.1) ht (fun v2 m₉ hr ho h3 h7 h95 e8 e10 e97 e98 e17 e27 y3 e3 ha => zi_n ⟨hc.1.1.1, K _ (lx_of (fun hL => wl_pu H HW hL hc hpr ho h87 h79 h84 h80 h81 h82 h91 ha) (lw_q H hc hpr hte hke h65 h67 hr ho h3 h7 h95 e8 e10 e97 e98 e17 e27 (md_no e e79 e84 e80 e81 e82 e91)))⟩)
theorem la_7 {X : Nat × (Nat → Int32)} {C0 Z0 T : Nat} {S : ma_S} {Q : Option ma_V → ma_S → Prop} (i : Int32) (H0 : zLx C0 Z0 T S) (ht : T + 1 ≤ 512) (gd : ∀ j : Int32, (j = 1 ∨ j = 2 ∨ j = 3 ∨ j = 4 ∨ j = 5) → 0 ≤ i + j ∧ (i + j).toNatClampNeg < X.1) (K : ∀ S₉, zLx C0 Z0 (T + 1) S₉ → ma_fp X 0 13 494 957 [(0, .inr (.inr (some 30))), (1, .inr (.inr (some 64))), (2, .inr (.inr (some 94))), (3, .inr (.inr (some 125))), (4, .inl i)] [] S₉ Q) : ma_fp X 0 13 494 453 [(0, .inr (.inr (some 30))), (1, .inr (.inr (some 64))), (2, .inr (.inr (some 94))), (3, .inr (.inr (some 125))), (4, .inl i)] [] S Q := by
  obtain ⟨H, HW⟩ := H0
  refine gl_453 i (by decide) (by decide) H.1.1.1 ?_
  refine ⟨gd 1 (by decide), gd 2 (by decide), gd 3 (by decide), ?_⟩
  refine fw_7 (T := T) _ _ _ (by decide) (by decide) H.1 (lw_xb H) (lw_cc H) (lw_iv H) ht (fun v S2 hc hpr hte hke h65 h67 h87 h79 h84 h80 h81 h82 h91 => zfi_n ⟨hc.1.1.1, gd 1 (by decide), gd 2 (by decide), gd 3 (by decide), ?_⟩)
  refine wp_with (uw_247 _ _ _ (by decide) (by decide) H hc ht) ?_
  by_cases e : mR S 64 11 = some 87
  · obtain ⟨hB, aa, hsm, hz⟩ := H.2.2.2.2.2.2.2.2.2.1.1 e
    have k5 := K_5 hz
    have e5 := e5_of H hc e
    exact rs_247 _ _ _ (by decide) (by decide) hc.1.1.1 (ref_tr H.2.1 hc.2.1) ht e5.1 e5.2 (z5_tr hz hc.2.1) (fun v2 m₉ hr ho h3 h7 h95 e8 e10 e97 e98 e17 e27 hz₉ y3 e3 ha => zi_n ⟨hc.1.1.1, K _ (lx_of (fun hL => wl_st H HW hL hc hpr ho (fun w => pw_7 H ht h87 h79 h84 h80 h81 h82 h91 (cq_st hL hc hpr ho w) w) ha) (lw_q H hc hpr hte hke h65 h67 hr ho h3 h7 h95 e8 e10 e97 e98 e17 e27 (md_87 e (s5_st hc (h87 e).1 ho (by rw [(h87 e).2]; exact Sm_li hsm k5.1.1 k5.2.1 k5.2.2.1 k5.2.2.2) hz₉))))⟩)
  by_cases e79 : mR S 64 11 = some 79
  · obtain ⟨hB, aa, hq, hz⟩ := H.2.2.2.2.2.2.2.2.2.1.2.1 e79
    have e5 := e0_of H hc e79
    exact r0_247 _ _ _ (by decide) (by decide) hc.1.1.1 (ref_tr H.2.1 hc.2.1) ht e5.1 e5.2 (zz_tr hz hc.2.1) (zz_58 (zz_tr hz hc.2.1) (Q_80 hq)) (fun v2 m₉ hr ho h3 h7 h95 e8 e10 e97 e98 e17 e27 hz₉ y3 e3 ha => zi_n ⟨hc.1.1.1, K _ (lx_of (fun hL => wl_st H HW hL hc hpr ho (fun w => pw_7 H ht h87 h79 h84 h80 h81 h82 h91 (cq_st hL hc hpr ho w) w) ha) (lw_q H hc hpr hte hke h65 h67 hr ho h3 h7 h95 e8 e10 e97 e98 e17 e27 (md_79 e79 (s0_st hc (h79 e79).1 ho (by rw [Li_o (Q_80 hq)]; exact Q_A hq (Ax_li (Q_88o hq)) (h79 e79).2.1 (h79 e79).2.2) hz₉))))⟩)
  by_cases e84 : mR S 64 11 = some 84
  · obtain ⟨hB, hC, aa, hq, hz, hk⟩ := H.2.2.2.2.2.2.2.2.2.1.2.2.1 e84
    have hv : cV aa [] (T : Int) := V_0 (C_o8 (O8_sy (Q_8 hq)) hC)
    have e5 := e4_of H hc e84
    exact r4_247 _ _ _ (by decide) (by decide) hc.1.1.1 (ref_tr H.2.1 hc.2.1) ht e5.1 e5.2 (zz_tr hz hc.2.1) (zk_tr hk hc.2.1) hv (zz_58 (zz_tr hz hc.2.1) (Q_80 hq)) (fun v2 m₉ hr ho h3 h7 h95 e8 e10 e97 e98 e17 e27 hz₉ hk₉ y3 e3 ha => zi_n ⟨hc.1.1.1, K _ (lx_of (fun hL => wl_st H HW hL hc hpr ho (fun w => pw_7 H ht h87 h79 h84 h80 h81 h82 h91 (cq_st hL hc hpr ho w) w) ha) (lw_q H hc hpr hte hke h65 h67 hr ho h3 h7 h95 e8 e10 e97 e98 e17 e27 (md_84 e84 (s4_st hc (h84 e84).1 ho (C_T (C_up (C_o8 (O8_sy T_88) (h84 e84).2.2.2))) (Q_A hq (Ax_kli (Q_88o hq) hv) (h84 e84).2.1 (h84 e84).2.2.1) hz₉ hk₉))))⟩)
  by_cases e80 : mR S 64 11 = some 80
  · have hz := H.2.2.2.2.2.2.2.2.2.1.2.2.2.1 e80
    exact r1_247 _ _ _ (by decide) (by decide) hc.1.1.1 (ref_tr H.2.1 hc.2.1) ht (e80_of H hc e80).1 (e80_of H hc e80).2 (n1_tr hz.2 hc.2.1) (fun v2 m₉ hr ho h3 h7 h95 e8 e10 e97 e98 e17 e27 hz₉ y3 e3 ha => zi_n ⟨hc.1.1.1, K _ (lx_of (fun hL => wl_st H HW hL hc hpr ho (fun w => pw_7 H ht h87 h79 h84 h80 h81 h82 h91 (cq_st hL hc hpr ho w) w) ha) (lw_q H hc hpr hte hke h65 h67 hr ho h3 h7 h95 e8 e10 e97 e98 e17 e27 (md_80 e80 (s1_mst hc.1.1 (h80 e80).1 ho (h80 e80).2 hz₉))))⟩)
  by_cases e81 : mR S 64 11 = some 81
  · have hz := H.2.2.2.2.2.2.2.2.2.1.2.2.2.2.1 e81
    exact r2_247 _ _ _ (by decide) (by decide) hc.1.1.1 (ref_tr H.2.1 hc.2.1) ht (e81_of H hc e81).1 (e81_of H hc e81).2 (n2_tr hz.2 hc.2.1) (fun v2 m₉ hr ho h3 h7 h95 e8 e10 e97 e98 e17 e27 hz₉ y3 e3 ha => zi_n ⟨hc.1.1.1, K _ (lx_of (fun hL => wl_st H HW hL hc hpr ho (fun w => pw_7 H ht h87 h79 h84 h80 h81 h82 h91 (cq_st hL hc hpr ho w) w) ha) (lw_q H hc hpr hte hke h65 h67 hr ho h3 h7 h95 e8 e10 e97 e98 e17 e27 (md_81 e81 (s2_mst hc.1.1 (h81 e81).1 ho (h81 e81).2 hz₉))))⟩)
  by_cases e82 : mR S 64 11 = some 82
  · have hz := H.2.2.2.2.2.2.2.2.2.1.2.2.2.2.2.1 e82
    exact r3_247 _ _ _ (by decide) (by decide) hc.1.1.1 (ref_tr H.2.1 hc.2.1) ht (e82_of H hc e82).1 (e82_of H hc e82).2 (n3_tr hz.2 hc.2.1) (fun v2 m₉ hr ho h3 h7 h95 e8 e10 e97 e98 e17 e27 hz₉ y3 e3 ha => zi_n ⟨hc.1.1.1, K _ (lx_of (fun hL => wl_st H HW hL hc hpr ho (fun w => pw_7 H ht h87 h79 h84 h80 h81 h82 h91 (cq_st hL hc hpr ho w) w) ha) (lw_q H hc hpr hte hke h65 h67 hr ho h3 h7 h95 e8 e10 e97 e98 e17 e27 (md_82 e82 (s3_mst hc.1.1 (h82 e82).1 ho (h82 e82).2 hz₉))))⟩)
  by_cases e91 : mR S 64 11 = some 91
  · have hz := H.2.2.2.2.2.2.2.2.2.1.2.2.2.2.2.2 e91
    exact r6_247 _ _ _ (by decide) (by decide) hc.1.1.1 (ref_tr H.2.1 hc.2.1) ht (e91_of H hc e91).1 (e91_of H hc e91).2 (n6_tr hz.2 hc.2.1) (fun v2 m₉ hr ho h3 h7 h95 e8 e10 e97 e98 e17 e27 hz₉ y3 e3 ha => zi_n ⟨hc.1.1.1, K _ (lx_of (fun hL => wl_st H HW hL hc hpr ho (fun w => pw_7 H ht h87 h79 h84 h80 h81 h82 h91 (cq_st hL hc hpr ho w) w) ha) (lw_q H hc hpr hte hke h65 h67 hr ho h3 h7 h95 e8 e10 e97 e98 e17 e27 (md_91 e91 (s6_mst hc.1.1 (h91 e91).1 ho (h91 e91).2 hz₉))))⟩)
  exact rf_247 _ _ _ (by decide) (by decide) hc.1.1.1 (ref_tr H.2.1 hc.2.1) ht (fun v2 m₉ hr ho h3 h7 h95 e8 e10 e97 e98 e17 e27 y3 e3 ha => zi_n ⟨hc.1.1.1, K _ (lx_of (fun hL => wl_st H HW hL hc hpr ho (fun w => pw_7 H ht h87 h79 h84 h80 h81 h82 h91 (cq_st hL hc hpr ho w) w) ha) (lw_q H hc hpr hte hke h65 h67 hr ho h3 h7 h95 e8 e10 e97 e98 e17 e27 (md_no e e79 e84 e80 e81 e82 e91)))⟩)
theorem la_8 {X : Nat × (Nat → Int32)} {C0 Z0 T : Nat} {S : ma_S} {Q : Option ma_V → ma_S → Prop} (i : Int32) (H0 : zLx C0 Z0 T S) (ht : T + 1 ≤ 512) (gd : ∀ j : Int32, (j = 1 ∨ j = 2 ∨ j = 3 ∨ j = 4 ∨ j = 5) → 0 ≤ i + j ∧ (i + j).toNatClampNeg < X.1) (K : ∀ S₉, zLx C0 Z0 (T + 1) S₉ → ma_fp X 0 13 494 957 [(0, .inr (.inr (some 30))), (1, .inr (.inr (some 64))), (2, .inr (.inr (some 94))), (3, .inr (.inr (some 125))), (4, .inl i)] [] S₉ Q) : ma_fp X 0 13 494 505 [(0, .inr (.inr (some 30))), (1, .inr (.inr (some 64))), (2, .inr (.inr (some 94))), (3, .inr (.inr (some 125))), (4, .inl i)] [] S Q := by
  obtain ⟨H, HW⟩ := H0
  refine gl_505 i (by decide) (by decide) H.1.1.1 ?_
  refine ⟨gd 1 (by decide), gd 2 (by decide), ?_⟩
  refine fw_8 (T := T) _ _ (by decide) (by decide) H.1 (lw_xb H) (lw_cc H) (lw_iv H) ht (fun v S2 hc hpr hte hke h65 h67 h87 h79 h84 h80 h81 h82 h91 han => zfi_n ⟨hc.1.1.1, gd 1 (by decide), gd 2 (by decide), ?_⟩)
  refine wp_with (ra_249 _ _ (by decide) (by decide) H HW hc ht) ?_
  refine rf_249 _ _ (by decide) (by decide) hc.1.1.1 (ref_tr H.2.1 hc.2.1) ht (fun v2 m₉ hr ho h3 h7 h95 e8 e10 e97 e98 e17 e27 fz fy fx fn y3 e3 ha => zi_n ⟨hc.1.1.1, cm_g (fu_s (fu_k (by decide)) fu_ge) hc.1.1.1 hr.1 han e3 ha.1 (K _ (lx_of (fun hL => wl_st H HW hL hc hpr ho (fun w => pw_8 H ht h87 h79 h84 h80 h81 h82 h91 (cq_st hL hc hpr ho w) w) ha.2) (lw_q H hc hpr hte hke h65 h67 hr ho h3 h7 h95 e8 e10 e97 e98 e17 e27 ⟨fun e => ?_, fun e => ?_, fun e => ?_, fun e => ?_, fun e => ?_, fun e => ?_, fun e => ?_⟩)))⟩)
  · obtain ⟨hB, aa, hsm, hz⟩ := H.2.2.2.2.2.2.2.2.2.1.1 e
    exact s5_st hc (h87 e).1 ho (by rw [(h87 e).2]; exact hsm) (fz aa (z5_tr hz hc.2.1))
  · obtain ⟨hB, aa, hq, hz⟩ := H.2.2.2.2.2.2.2.2.2.1.2.1 e
    exact s0_st hc (h79 e).1 ho (Q_A hq (Ax_0 (Q_88o hq)) (h79 e).2.1 (h79 e).2.2) (fy aa (zz_tr hz hc.2.1))
  · obtain ⟨hB, hC, aa, hq, hz, hk⟩ := H.2.2.2.2.2.2.2.2.2.1.2.2.1 e
    exact s4_st hc (h84 e).1 ho (C_T (C_up (C_o8 (O8_sy T_88) (h84 e).2.2.2))) (Q_A hq (Ax_0 (Q_88o hq)) (h84 e).2.1 (h84 e).2.2.1) (fy aa (zz_tr hz hc.2.1)) (fx aa (zk_tr hk hc.2.1))
  · exact s1_mst hc.1.1 (h80 e).1 ho (h80 e).2 (fn.1 _ (n1_tr (H.2.2.2.2.2.2.2.2.2.1.2.2.2.1 e).2 hc.2.1))
  · exact s2_mst hc.1.1 (h81 e).1 ho (h81 e).2 (fn.2.1 _ (n2_tr (H.2.2.2.2.2.2.2.2.2.1.2.2.2.2.1 e).2 hc.2.1))
  · exact s3_mst hc.1.1 (h82 e).1 ho (h82 e).2 (fn.2.2.1 _ (n3_tr (H.2.2.2.2.2.2.2.2.2.1.2.2.2.2.2.1 e).2 hc.2.1))
  · exact s6_mst hc.1.1 (h91 e).1 ho (h91 e).2 (fn.2.2.2 _ (n6_tr (H.2.2.2.2.2.2.2.2.2.1.2.2.2.2.2.2 e).2 hc.2.1))
theorem la_9 {X : Nat × (Nat → Int32)} {C0 Z0 T : Nat} {S : ma_S} {Q : Option ma_V → ma_S → Prop} (i : Int32) (H0 : zLx C0 Z0 T S) (ht : T + 1 ≤ 512) (gd : ∀ j : Int32, (j = 1 ∨ j = 2 ∨ j = 3 ∨ j = 4 ∨ j = 5) → 0 ≤ i + j ∧ (i + j).toNatClampNeg < X.1) (K : ∀ S₉, zLx C0 Z0 (T + 1) S₉ → ma_fp X 0 13 494 957 [(0, .inr (.inr (some 30))), (1, .inr (.inr (some 64))), (2, .inr (.inr (some 94))), (3, .inr (.inr (some 125))), (4, .inl i)] [] S₉ Q) : ma_fp X 0 13 494 573 [(0, .inr (.inr (some 30))), (1, .inr (.inr (some 64))), (2, .inr (.inr (some 94))), (3, .inr (.inr (some 125))), (4, .inl i)] [] S Q := by
  obtain ⟨H, HW⟩ := H0
  refine gl_573 i (by decide) (by decide) H.1.1.1 ?_
  refine ⟨gd 1 (by decide), gd 2 (by decide), ?_⟩
  refine fw_9 (T := T) _ _ (by decide) (by decide) H.1 (lw_xb H) (lw_cc H) (lw_iv H) ht (fun v S2 hc hpr hte hke h65 h67 h87 h79 h84 h80 h81 h82 h91 => zfi_n ⟨hc.1.1.1, gd 1 (by decide), gd 2 (by decide), ?_⟩)
  refine wp_with (uw_250 _ _ (by decide) (by decide) H hc ht) ?_
  by_cases e : mR S 64 11 = some 87
  · obtain ⟨hB, aa, hsm, hz⟩ := H.2.2.2.2.2.2.2.2.2.1.1 e
    have k5 := K_5 hz
    have e5 := e5_of H hc e
    exact rs_250 _ _ (by decide) (by decide) hc.1.1.1 (ref_tr H.2.1 hc.2.1) ht e5.1 e5.2 (z5_tr hz hc.2.1) (fun v2 m₉ hr ho h3 h7 h95 e8 e10 e97 e98 e17 e27 hz₉ y3 e3 ha => zi_n ⟨hc.1.1.1, K _ (lx_of (fun hL => wl_st H HW hL hc hpr ho (fun w => pw_9 H ht h87 h79 h84 h80 h81 h82 h91 (cq_st hL hc hpr ho w) w) ha) (lw_q H hc hpr hte hke h65 h67 hr ho h3 h7 h95 e8 e10 e97 e98 e17 e27 (md_87 e (s5_st hc (h87 e).1 ho (by rw [(h87 e).2]; exact Sm_ro hsm) hz₉))))⟩)
  by_cases e79 : mR S 64 11 = some 79
  · obtain ⟨hB, aa, hq, hz⟩ := H.2.2.2.2.2.2.2.2.2.1.2.1 e79
    have e5 := e0_of H hc e79
    exact r0_250 _ _ (by decide) (by decide) hc.1.1.1 (ref_tr H.2.1 hc.2.1) ht e5.1 e5.2 (zz_tr hz hc.2.1) (zz_58 (zz_tr hz hc.2.1) (Q_80 hq)) (fun v2 m₉ hr ho h3 h7 h95 e8 e10 e97 e98 e17 e27 hz₉ y3 e3 ha => zi_n ⟨hc.1.1.1, K _ (lx_of (fun hL => wl_st H HW hL hc hpr ho (fun w => pw_9 H ht h87 h79 h84 h80 h81 h82 h91 (cq_st hL hc hpr ho w) w) ha) (lw_q H hc hpr hte hke h65 h67 hr ho h3 h7 h95 e8 e10 e97 e98 e17 e27 (md_79 e79 (s0_st hc (h79 e79).1 ho (by rw [Ro_o (Q_80 hq)]; exact Q_A hq (Ax_ro (Q_88o hq)) (h79 e79).2.1 (h79 e79).2.2) hz₉))))⟩)
  by_cases e84 : mR S 64 11 = some 84
  · obtain ⟨hB, hC, aa, hq, hz, hk⟩ := H.2.2.2.2.2.2.2.2.2.1.2.2.1 e84
    have hv : cV aa [] (T : Int) := V_0 (C_o8 (O8_sy (Q_8 hq)) hC)
    have e5 := e4_of H hc e84
    exact r4_250 _ _ (by decide) (by decide) hc.1.1.1 (ref_tr H.2.1 hc.2.1) ht e5.1 e5.2 (zz_tr hz hc.2.1) (zk_tr hk hc.2.1) hv (zz_58 (zz_tr hz hc.2.1) (Q_80 hq)) (fun v2 m₉ hr ho h3 h7 h95 e8 e10 e97 e98 e17 e27 hz₉ hk₉ y3 e3 ha => zi_n ⟨hc.1.1.1, K _ (lx_of (fun hL => wl_st H HW hL hc hpr ho (fun w => pw_9 H ht h87 h79 h84 h80 h81 h82 h91 (cq_st hL hc hpr ho w) w) ha) (lw_q H hc hpr hte hke h65 h67 hr ho h3 h7 h95 e8 e10 e97 e98 e17 e27 (md_84 e84 (s4_st hc (h84 e84).1 ho (C_T (C_up (C_o8 (O8_sy T_88) (h84 e84).2.2.2))) (Q_A hq (Ax_kro (Q_88o hq) hv) (h84 e84).2.1 (h84 e84).2.2.1) hz₉ hk₉))))⟩)
  by_cases e80 : mR S 64 11 = some 80
  · have hz := H.2.2.2.2.2.2.2.2.2.1.2.2.2.1 e80
    exact r1_250 _ _ (by decide) (by decide) hc.1.1.1 (ref_tr H.2.1 hc.2.1) ht (e80_of H hc e80).1 (e80_of H hc e80).2 (n1_tr hz.2 hc.2.1) (fun v2 m₉ hr ho h3 h7 h95 e8 e10 e97 e98 e17 e27 hz₉ y3 e3 ha => zi_n ⟨hc.1.1.1, K _ (lx_of (fun hL => wl_st H HW hL hc hpr ho (fun w => pw_9 H ht h87 h79 h84 h80 h81 h82 h91 (cq_st hL hc hpr ho w) w) ha) (lw_q H hc hpr hte hke h65 h67 hr ho h3 h7 h95 e8 e10 e97 e98 e17 e27 (md_80 e80 (s1_mst hc.1.1 (h80 e80).1 ho (h80 e80).2 hz₉))))⟩)
  by_cases e81 : mR S 64 11 = some 81
  · have hz := H.2.2.2.2.2.2.2.2.2.1.2.2.2.2.1 e81
    exact r2_250 _ _ (by decide) (by decide) hc.1.1.1 (ref_tr H.2.1 hc.2.1) ht (e81_of H hc e81).1 (e81_of H hc e81).2 (n2_tr hz.2 hc.2.1) (fun v2 m₉ hr ho h3 h7 h95 e8 e10 e97 e98 e17 e27 hz₉ y3 e3 ha => zi_n ⟨hc.1.1.1, K _ (lx_of (fun hL => wl_st H HW hL hc hpr ho (fun w => pw_9 H ht h87 h79 h84 h80 h81 h82 h91 (cq_st hL hc hpr ho w) w) ha) (lw_q H hc hpr hte hke h65 h67 hr ho h3 h7 h95 e8 e10 e97 e98 e17 e27 (md_81 e81 (s2_mst hc.1.1 (h81 e81).1 ho (h81 e81).2 hz₉))))⟩)
  by_cases e82 : mR S 64 11 = some 82
  · have hz := H.2.2.2.2.2.2.2.2.2.1.2.2.2.2.2.1 e82
    exact r3_250 _ _ (by decide) (by decide) hc.1.1.1 (ref_tr H.2.1 hc.2.1) ht (e82_of H hc e82).1 (e82_of H hc e82).2 (n3_tr hz.2 hc.2.1) (fun v2 m₉ hr ho h3 h7 h95 e8 e10 e97 e98 e17 e27 hz₉ y3 e3 ha => zi_n ⟨hc.1.1.1, K _ (lx_of (fun hL => wl_st H HW hL hc hpr ho (fun w => pw_9 H ht h87 h79 h84 h80 h81 h82 h91 (cq_st hL hc hpr ho w) w) ha) (lw_q H hc hpr hte hke h65 h67 hr ho h3 h7 h95 e8 e10 e97 e98 e17 e27 (md_82 e82 (s3_mst hc.1.1 (h82 e82).1 ho (h82 e82).2 hz₉))))⟩)
  by_cases e91 : mR S 64 11 = some 91
  · have hz := H.2.2.2.2.2.2.2.2.2.1.2.2.2.2.2.2 e91
    exact r6_250 _ _ (by decide) (by decide) hc.1.1.1 (ref_tr H.2.1 hc.2.1) ht (e91_of H hc e91).1 (e91_of H hc e91).2 (n6_tr hz.2 hc.2.1) (fun v2 m₉ hr ho h3 h7 h95 e8 e10 e97 e98 e17 e27 hz₉ y3 e3 ha => zi_n ⟨hc.1.1.1, K _ (lx_of (fun hL => wl_st H HW hL hc hpr ho (fun w => pw_9 H ht h87 h79 h84 h80 h81 h82 h91 (cq_st hL hc hpr ho w) w) ha) (lw_q H hc hpr hte hke h65 h67 hr ho h3 h7 h95 e8 e10 e97 e98 e17 e27 (md_91 e91 (s6_mst hc.1.1 (h91 e91).1 ho (h91 e91).2 hz₉))))⟩)
  exact rf_250 _ _ (by decide) (by decide) hc.1.1.1 (ref_tr H.2.1 hc.2.1) ht (fun v2 m₉ hr ho h3 h7 h95 e8 e10 e97 e98 e17 e27 y3 e3 ha => zi_n ⟨hc.1.1.1, K _ (lx_of (fun hL => wl_st H HW hL hc hpr ho (fun w => pw_9 H ht h87 h79 h84 h80 h81 h82 h91 (cq_st hL hc hpr ho w) w) ha) (lw_q H hc hpr hte hke h65 h67 hr ho h3 h7 h95 e8 e10 e97 e98 e17 e27 (md_no e e79 e84 e80 e81 e82 e91)))⟩)
