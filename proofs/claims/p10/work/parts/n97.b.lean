/-- a constructor without arguments, called by the law -/
theorem zf_cp {X : Nat × (Nat → Int32)} {k d w pc : Nat} {L : ma_L} {S : ma_S} {nL : Nat} {cc : ByteArray} {ret : Option FieldType} {hh : List (Nat × Nat × Nat × Nat)} {Q : Option ma_V → ma_S → Prop} (hm : ma_fi k = some (cc, nL, ret, hh)) {x kd M₉ b nL₉ o₉ : Nat} {y₉ : MethodName} {cc₉ : ByteArray} (hd : decode cc pc = .ok (.invokespecial x, 3)) (hp : ma_prt 14 x = none) (hv : (ma_fd 14 x 0 true 6 9).map (fun q => q.2.1) = some (kd, M₉, 0)) (h8 : kd ≠ 8) (hm₉ : ma_md M₉ = some (o₉, y₉, cc₉, nL₉, none)) (rest : List ma_V) (hs : ma_is S b = true) (ht : 1 ≤ (mH S b).1 ∧ (mH S b).1 ≤ 12) (hr : 1 ≤ d ∧ 19 + nL₉ ≤ w ∧ 1 ≤ nL₉ ∧ ma_sz rest ≤ 8)
    (hk : ma_wp X (d - 1) (w - (19 + nL₉)) M₉ 0 [(0, .inr (.inr (some b)))] [] S (zv (fun S₉ => ma_fp X k d w (pc + 3) L rest S₉ Q) (fun _ _ => False))) : ma_fp X k d w pc L (.inr (.inr (some b)) :: rest) S Q := by
  cases hq : ma_fd 14 x 0 true 6 9 with
  | none => rw [hq] at hv; cases hv
  | some q =>
    rw [hq] at hv
    have e : q.2.1 = (kd, M₉, 0) := Option.some.inj hv
    have h1 : ma_one X 14 false nL d w (.invokespecial x) 3 pc L (.inr (.inr (some b)) :: rest) S = none := by
      have h2 : ma_pr 14 d w (.invokespecial x) 3 (.inr (.inr (some b)) :: rest) S = none := by
        unfold ma_pr
        simp [hp]
      unfold ma_one
      rw [h2]
      rfl
    have h2 : ma_ret ret (.invokespecial x) 3 (.inr (.inr (some b)) :: rest) = none := rfl
    have h4 : ma_cl 14 (.invokespecial x) 3 (.inr (.inr (some b)) :: rest) S = some ((kd, M₉), [.inr (.inr (some b))], rest) := by
      unfold ma_cl
      simp only [hq, e, List.drop_zero, List.take_zero, List.reverse_nil, hm₉]
      rw [if_pos ⟨h8, hs, ht.1, ht.2, Or.inr rfl⟩]
    obtain ⟨f, z, S1, e1, e2⟩ := hk
    rcases z with v | z
    · rcases v with _ | v
      · obtain ⟨g, z2, S2, e3, e4⟩ := (e2 : ma_fp X k d w (pc + 3) L rest S1 Q)
        refine ⟨max f g + 1, z2, S2, ?_, e4⟩
        rw [ma_frun_s]
        simp only [ma_fbody, hm, hd, h1, h2, h4, hm₉]
        rw [if_pos ⟨hr.1, hr.2.1, hr.2.2.1, hr.2.2.2⟩]
        have e5 : ma_run X (max f g) (d - 1) (w - (19 + nL₉)) M₉ 0 (ma_args 0 [.inr (.inr (some b))]) [] S = some (.inl none, S1) := ma_run_le (Nat.le_max_left f g) e1
        rw [e5]
        exact ma_frun_le (Nat.le_max_right f g) e3
      · exact (e2 : False).elim
    · exact (e2 : False).elim
theorem dF0_0 : decode code 0 = .ok (.new 8, 3) := by decide +kernel
theorem dF0_3 : decode code 3 = .ok (.dup, 1) := by decide +kernel
theorem dF0_4 : decode code 4 = .ok (.invokespecial 85, 3) := by decide +kernel
theorem dF0_7 : decode code 7 = .ok (.astore_n 1, 1) := by decide +kernel
theorem dF0_8 : decode code 8 = .ok (.new 86, 3) := by decide +kernel
theorem dF0_11 : decode code 11 = .ok (.dup, 1) := by decide +kernel
theorem dF0_12 : decode code 12 = .ok (.invokespecial 88, 3) := by decide +kernel
theorem dF0_15 : decode code 15 = .ok (.astore_n 2, 1) := by decide +kernel
theorem dF0_16 : decode code 16 = .ok (.iconst 1, 1) := by decide +kernel
theorem dF0_17 : decode code 17 = .ok (.newarray .long, 2) := by decide +kernel
theorem dF0_19 : decode code 19 = .ok (.astore_n 3, 1) := by decide +kernel
theorem dF0_20 : decode code 20 = .ok (.iconst 0, 1) := by decide +kernel
theorem dF0_21 : decode code 21 = .ok (.istore 4, 2) := by decide +kernel
set_option maxRecDepth 100000 in
theorem hm_126 : ma_md 126 = some (11, yX11_init, cX11_init, 1, none) := rfl
set_option maxRecDepth 100000 in
theorem hm_165 : ma_md 165 = some (12, yX12_init, cX12_init, 1, none) := rfl
theorem zl_start {X : Nat × (Nat → Int32)} {Q : Option ma_V → ma_S → Prop} (K : ma_fp X 0 13 494 23 [(0, .inr (.inr (some 30))), (1, .inr (.inr (some 64))), (2, .inr (.inr (some 94))), (3, .inr (.inr (some 125))), (4, .inl 0)] [] yE Q) : ma_fp X 0 13 494 0 [(0, .inr (.inr (some 30)))] [] ma_S0 Q := by
  have hN := yN_ok
  simp only [Bool.and_eq_true, decide_eq_true_eq] at hN
  obtain ⟨⟨⟨hA, hB⟩, hD⟩, hE⟩ := hN
  have n1 : ma_nwt 14 8 = some 11 := by decide +kernel
  have n2 : ma_nwt 14 86 = some 12 := by decide +kernel
  refine zf_one (pc₉ := 3) (L₉ := [(0, .inr (.inr (some 30)))]) (st₉ := [.inr (.inr (some 64))]) (S₉ := yA) fm_0 dF0_0 (by unfold ma_one; simp only [ma_push, ma_stk, ma_sto, ma_jmp, ma_hp, ma_sc, ma_ex, ma_al, n1, Option.map_some]; rfl) ?_
  refine zf_stk fm_0 dF0_3 (st₉ := [.inr (.inr (some 64)), .inr (.inr (some 64))]) rfl rfl ?_
  refine zf_cp fm_0 dF0_4 (kd := 6) (M₉ := 126) (by decide +kernel) (by decide +kernel) (by decide) hm_126 [.inr (.inr (some 64))] rfl (by decide +kernel) (by decide +kernel) ?_
  refine ma_wp8 yB_ok (zv_n ?_)
  show ma_fp X 0 13 494 7 [(0, .inr (.inr (some 30)))] [.inr (.inr (some 64))] yB Q
  refine zf_sto fm_0 dF0_7 [(1, .inr (.inr (some 64))), (0, .inr (.inr (some 30)))] rfl rfl rfl ?_
  refine zf_one (pc₉ := 11) (L₉ := [(1, .inr (.inr (some 64))), (0, .inr (.inr (some 30)))]) (st₉ := [.inr (.inr (some 94))]) (S₉ := yC) fm_0 dF0_8 (by unfold ma_one; simp only [ma_push, ma_stk, ma_sto, ma_jmp, ma_hp, ma_sc, ma_ex, ma_al, n2, Option.map_some, hB]; rfl) ?_
  refine zf_stk fm_0 dF0_11 (st₉ := [.inr (.inr (some 94)), .inr (.inr (some 94))]) rfl rfl ?_
  have sC := y_sC
  simp only [Bool.and_eq_true, decide_eq_true_eq] at sC
  refine zf_cp fm_0 dF0_12 (kd := 6) (M₉ := 165) (by decide +kernel) (by decide +kernel) (by decide) hm_165 [.inr (.inr (some 94))] sC.1.1 ⟨sC.1.2, sC.2⟩ (by decide) ?_
  refine ma_wp8 yD_ok (zv_n ?_)
  show ma_fp X 0 13 494 15 [(1, .inr (.inr (some 64))), (0, .inr (.inr (some 30)))] [.inr (.inr (some 94))] yD Q
  refine zf_sto fm_0 dF0_15 [(2, .inr (.inr (some 94))), (1, .inr (.inr (some 64))), (0, .inr (.inr (some 30)))] rfl rfl rfl ?_
  refine zf_push fm_0 dF0_16 (v := .inl 1) rfl ?_
  refine zf_one (pc₉ := 19) (L₉ := [(2, .inr (.inr (some 94))), (1, .inr (.inr (some 64))), (0, .inr (.inr (some 30)))]) (st₉ := [.inr (.inr (some 125))]) (S₉ := yE) fm_0 dF0_17 (by
    have e : ma_al 14 (.newarray .long) 2 [.inl 1] yD = some ([.inr (.inr (some (mN yD)))], yE) := rfl
    unfold ma_one
    rw [hD] at e
    simp only [ma_push, ma_stk, ma_sto, ma_jmp, ma_hp, ma_sc, ma_ex, e]) ?_
  refine zf_sto fm_0 dF0_19 [(3, .inr (.inr (some 125))), (2, .inr (.inr (some 94))), (1, .inr (.inr (some 64))), (0, .inr (.inr (some 30)))] rfl rfl rfl ?_
  refine zf_push fm_0 dF0_20 (v := .inl 0) rfl ?_
  refine zf_sto fm_0 dF0_21 [(4, .inl 0), (3, .inr (.inr (some 125))), (2, .inr (.inr (some 94))), (1, .inr (.inr (some 64))), (0, .inr (.inr (some 30)))] rfl rfl rfl ?_
  exact zf_sub (ma_nd_of (ks := [0, 1, 2, 3, 4]) rfl (by decide)) (ma_nd_of (ks := [4, 3, 2, 1, 0]) rfl (by decide)) (ma_le_cons rfl (ma_le_cons rfl (ma_le_cons rfl (ma_le_cons rfl (ma_le_cons rfl (ma_le_nil _)))))) K
theorem y0_ar : zAr ma_S0 := fun c hc => absurd hc (by show ¬ 20 ≤ 0; decide)
theorem yA_ar : zAr yA := ar_new y0_ar
theorem yB_ar : zAr yB := ar_st yB_ok yA_ar
theorem yC_ar : zAr yC := ar_new yB_ar
theorem yD_ar : zAr yD := ar_st yD_ok yC_ar
theorem yE_ar : zAr yE := ar_new yD_ar
theorem yE_N : mN yE = 126 := by
  have h := yN_ok
  simp only [Bool.and_eq_true, decide_eq_true_eq] at h
  exact h.2
theorem yE_T : zT yE := ⟨yE_ok, by rw [yE_N]; decide, fun c h1 h2 => by rw [yE_N] at h2; omega⟩
theorem yE_hs : zHsm yE := by
  have z : (0 : Int32).toInt = 0 := rfl
  refine ⟨⟨yE_T, ⟨rfl, rfl, rfl⟩, fun _ _ _ => rfl, fun _ _ _ => rfl, yE_x, yE_sc, fun q hq k hk => ?_, fun c hc i b e => ?_, fun c h1 h2 => ?_⟩, Or.inl yE_p⟩
  · have a := yE_sa q hq
    rw [(yE_ar q.1 a.1).1 k, z]
    exact a.2
  · have a := yE_rf c hc
    rw [(yE_ar c (by omega)).2 a i] at e
    cases e
  · rw [yE_N] at h2
    omega
theorem yE_ref : zRef 0 (mI yE) := by
  have z : (0 : Int32).toInt = 0 := rfl
  have w0 : ∀ s, mI yE 102 s = 0 := (yE_ar 102 yE_k.1).1
  have c0 : ∀ s, mI yE 109 s = 0 := (yE_ar 109 yE_k.2).1
  refine ⟨⟨yE_vs, fun q hq k hk => ?_⟩, fun s hs => ?_, ⟨?_, by decide⟩, Or.inl yE_8.1⟩
  · have a := yE_va q hq
    rw [(yE_ar q.1 a.1).1 k, z]
    exact a.2
  · refine ⟨fun i hi => ?_, Or.inl ?_⟩
    · rw [w0 s, z] at hi
      omega
    · rw [w0 s, z]
  · rw [yE_8.2.1, cnt_zero (fun s _ => c0 s)]
    decide
theorem yE_sm : zSim 0 yE := by
  have h8 := yE_8.1
  have h17 := yE_17
  have nn : ∀ p : Nat, ¬ (none : Option Nat) = some p := fun p w => by cases w
  unfold zSim zMod
  rw [yE_p]
  exact ⟨⟨⟨fun _ => h8, fun _ => rfl⟩, ⟨fun w => absurd w (nn _), fun w => absurd h8 w.1⟩, ⟨fun w => absurd w (nn _), fun w => absurd h8 w.1⟩, ⟨fun w => absurd w (nn _), fun w => absurd h8 w.1⟩, ⟨fun w => absurd w (nn _), fun w => absurd h8 w.1⟩, ⟨fun w => absurd w (nn _), fun w => absurd h8 w.1⟩, ⟨fun w => absurd w (nn _), fun w => absurd h8 w.1⟩, ⟨fun w => absurd w (nn _), fun w => absurd h8 w.1⟩⟩, ⟨fun w => absurd w (nn _), fun w => absurd w (nn _), fun w => absurd w (nn _), fun w => absurd w (nn _), fun w => absurd w (nn _), fun w => absurd w (nn _), fun w => absurd w (nn _)⟩, by omega, by omega⟩
theorem yE_lw : zLw (mC yE) (mZ yE) 0 yE := ⟨yE_hs, yE_ref, yE_8.2.2.1, yE_8.2.2.2.1, by omega, by omega, al_0 yE_8.2.2.2.2.1, fun k hk => by
  have := yE_8.2.2.2.2.2
  omega, yE_sm⟩
theorem p2_pure {L : Nat} (hL : L ≤ 3072) (ys : Nat → Int32) : ∃ (f : Nat) (S₉ : ma_S), ma_frun (L, ys) f 0 13 494 0 [(0, .inr (.inr (some 30)))] [] ma_S0 = some (some (.inl 1), S₉) ∧ mC S₉ ≤ 601024 ∧ mZ S₉ ≤ 7293034 := by
  have hc := yE_c
  have hl := la_loop (X := (L, ys)) (C0 := mC yE) (Z0 := mZ yE) (Q := fun v S₉ => v = some (.inl 1) ∧ mC S₉ ≤ 601024 ∧ mZ S₉ ≤ 7293034) hL (fun S₉ T hT H => ⟨rfl, by have := H.1.2.2.2.2.1; omega, by have := H.1.2.2.2.2.2.1; omega⟩) _ 0 0 yE rfl (by decide) (by decide) (by decide) ⟨yE_lw, fun w => absurd yE_p w⟩
  obtain ⟨f, v, S₉, h1, rfl, h2, h3⟩ := zl_start hl
  exact ⟨f, S₉, h1, h2, h3⟩
