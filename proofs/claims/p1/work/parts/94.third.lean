/-! THE FIRST CALL, the end: feed, heap, the beginning, the switch, and the claim's pure half -/
section P1C
variable {ys : Nat → Int32} {Q : Option ma_V → ma_S → Prop} {S : ma_S}
theorem p1_0 (F : zP S) (K : ∀ S', zO S' → mC S' ≤ mC S + 1 → mZ S' ≤ mZ S + 6 → ma_fp (6, ys) 0 13 494 1461 zL [] S' Q) : ma_fp (6, ys) 0 13 494 136 zL [] S Q := by
  obtain ⟨hS, f1, f7, f11, m3, m7, m8, m10⟩ := F
  refine gf_0_136 0 (by decide) (by decide) hS ⟨gg_1, gg_2, gg_3, gg_4, gg_5, ?_⟩
  refine gf_1_0 _ _ _ _ _ (by decide) (by decide) hS ?_
  refine g_137_0 _ _ _ _ _ (by decide) (by decide) hS (zt (by rw [f1]; decide) ?_)
  refine sp_ab (Nat.zero_le _) (Nat.zero_le _) hS f1 (by unfold zb; decide) (by unfold zb; decide) (by unfold zb; decide) (by unfold zb; decide) (fun S1 q1 e1 k1 => zv_n ⟨q1.1, ?_⟩)
  refine sp_ab (Nat.zero_le _) (Nat.zero_le _) q1.1 e1 (by unfold zb; decide) (by unfold zb; decide) (by unfold zb; decide) (by unfold zb; decide) (fun S2 q2 e2 k2 => zv_n ⟨q2.1, ?_⟩)
  refine sp_ab (Nat.zero_le _) (Nat.zero_le _) q2.1 e2 (by unfold zb; decide) (by unfold zb; decide) (by unfold zb; decide) (by unfold zb; decide) (fun S3 q3 e3 k3 => zv_n ⟨q3.1, ?_⟩)
  refine sp_ab (Nat.zero_le _) (Nat.zero_le _) q3.1 e3 (by unfold zb; decide) (by unfold zb; decide) (by unfold zb; decide) (by unfold zb; decide) (fun S4 q4 e4 k4 => zv_n ⟨q4.1, ?_⟩)
  refine sp_ab (Nat.zero_le _) (Nat.zero_le _) q4.1 e4 (by unfold zb; decide) (by unfold zb; decide) (by unfold zb; decide) (by unfold zb; decide) (fun S5 q5 e5 k5 => zv_n ⟨q5.1, ?_⟩)
  have qa := zq_tr (zq_tr (zq_tr (zq_tr q1 q2) q3) q4) q5
  have n3 : mI S5 94 3 = 0 := (qa.2.2.2.2.2.2.2 94 3 (by decide) (by decide)).trans m3
  refine zi_n ⟨q5.1, zfi_n ⟨q5.1, gg_1, gg_2, gg_3, gg_4, gg_5, ?_⟩⟩
  refine g_166_0 _ _ _ _ _ (by decide) (by decide) q5.1 (zt (show mI S5 94 3 + 20 ≤ 100 from by rw [n3]; decide) ?_)
  refine sp_four (Nat.zero_le _) (Nat.zero_le _) q5.1 n3 (by unfold zb; decide) (by unfold zb; decide) (by unfold zb; decide) (by unfold zb; decide) (fun S6 q6 e6 k6 => zv_n ⟨q6.1, ?_⟩)
  refine sp_four (Nat.zero_le _) (Nat.zero_le _) q6.1 e6 (by unfold zb; decide) (by unfold zb; decide) (by unfold zb; decide) (by unfold zb; decide) (fun S7 q7 e7 k7 => zv_n ⟨q7.1, ?_⟩)
  refine sp_four (Nat.zero_le _) (Nat.zero_le _) q7.1 e7 (by unfold zb; decide) (by unfold zb; decide) (by unfold zb; decide) (by unfold zb; decide) (fun S8 q8 e8 k8 => zv_n ⟨q8.1, ?_⟩)
  refine sp_four (Nat.zero_le _) (Nat.zero_le _) q8.1 e8 (by unfold zb; decide) (by unfold zb; decide) (by unfold zb; decide) (by unfold zb; decide) (fun S9 q9 e9 k9 => zv_n ⟨q9.1, ?_⟩)
  refine sp_four (Nat.zero_le _) (Nat.zero_le _) q9.1 e9 (by unfold zb; decide) (by unfold zb; decide) (by unfold zb; decide) (by unfold zb; decide) (fun S10 q10 e10 k10 => zv_n ⟨q10.1, ?_⟩)
  have qb := zq_tr (zq_tr (zq_tr (zq_tr q6 q7) q8) q9) q10
  have w0 : mI S10 94 0 = 0 := k10.trans (k9.trans (k8.trans (k7.trans k6)))
  have wl : mL S10 125 0 = (mI S5 64 1).toInt64 := by rw [qb.2.2.2.2.2.1]; rfl
  refine zi_n ⟨q10.1, zt w0 (zt rfl (zt ?_ (K _ q10.1 ?_ ?_)))⟩
  · rw [wl, e5, e10]
    exact lg_self _
  · rw [qb.2.1]
    show mC S5 ≤ mC S + 1
    rw [qa.2.1]
    exact Nat.le_succ _
  · rw [qb.2.2.1]
    show mZ S5 ≤ mZ S + 6
    rw [qa.2.2.1]
    exact Nat.le_add_right _ _
end P1C
/-- heap on an empty tape -/
def zF : ma_S := ma_st9 (ma_run9 1000 12 473 127 0 [(0, .inr (.inr (some 64)))] [] zE)
def zG : ma_S := ma_st9 (ma_run9 1000 12 473 171 0 [(0, .inr (.inr (some 94)))] [] zF)
theorem zF_r : (ma_run9 1000 12 473 127 0 [(0, .inr (.inr (some 64)))] [] zE).map (fun z => ma_oc z.1) = some (.inl (some (.inl (-1)))) := by decide +kernel
theorem zG_r : (ma_run9 1000 12 473 171 0 [(0, .inr (.inr (some 94)))] [] zF).map (fun z => ma_oc z.1) = some (.inl (some (.inl (-1)))) := by decide +kernel
theorem zF_ok : zO zF := zO_of (by decide +kernel)
theorem zG_ok : zO zG := zO_of (by decide +kernel)
theorem zG_c : (decide (mC zG ≤ mC zE + 1) && decide (mZ zG ≤ mZ zE + 6)) = true := by decide +kernel
theorem zE_c : (decide (mC zE + 1 ≤ 600002) && decide (mZ zE + 6 ≤ 7302232)) = true := by decide +kernel
theorem zF_wp {X : Nat × (Nat → Int32)} {Q : Option ma_V ⊕ Nat → ma_S → Prop} (q : Q (.inl (some (.inl (-1)))) zF) : ma_wp X 12 473 127 0 [(0, .inr (.inr (some 64)))] [] zE Q := ma_wp9 zF_r q
theorem zG_wp {X : Nat × (Nat → Int32)} {Q : Option ma_V ⊕ Nat → ma_S → Prop} (q : Q (.inl (some (.inl (-1)))) zG) : ma_wp X 12 473 171 0 [(0, .inr (.inr (some 94)))] [] zF Q := ma_wp9 zG_r q
theorem p1_3 {ys : Nat → Int32} {Q : Option ma_V → ma_S → Prop} (K : ∀ S', zO S' → mC S' ≤ mC zE + 1 → mZ S' ≤ mZ zE + 6 → ma_fp (6, ys) 0 13 494 1461 zL [] S' Q) : ma_fp (6, ys) 0 13 494 364 zL [] zE Q := by
  have h := zG_c
  rw [Bool.and_eq_true, decide_eq_true_eq, decide_eq_true_eq] at h
  refine gf_0_364 0 (by decide) (by decide) zE_ok ?_
  refine zF_wp (zi_n ⟨zF_ok, ?_⟩)
  refine zG_wp (zi_n ⟨zG_ok, ?_⟩)
  exact zt rfl (K zG zG_ok h.1 h.2)
theorem zE_P : zP zE := by
  have h : (decide (mI zE 64 1 = 0) && decide (mI zE 64 7 = 0) && decide (mR zE 64 11 = none) && decide (mI zE 94 3 = 0) && decide (mI zE 94 7 = 0) && decide (mI zE 94 8 = 0) && decide (mI zE 94 10 = 0)) = true := by decide +kernel
  simp only [Bool.and_eq_true, decide_eq_true_eq] at h
  obtain ⟨⟨⟨⟨⟨⟨a1, a2⟩, a3⟩, a4⟩, a5⟩, a6⟩, a7⟩ := h
  exact ⟨zE_ok, a1, a2, a3, a4, a5, a6, a7⟩
/-- a constructor without arguments, called by the law -/
theorem zf_cp {X : Nat × (Nat → Int32)} {k d w pc : Nat} {L : ma_L} {S : ma_S} {nL : Nat} {cc : ByteArray} {ret : Option FieldType} {hh : List (Nat × Nat × Nat × Nat)} {Q : Option ma_V → ma_S → Prop} (hm : ma_fi k = some (cc, nL, ret, hh)) {x kd M' b nL' o' : Nat} {y' : MethodName} {cc' : ByteArray} (hd : decode cc pc = .ok (.invokespecial x, 3)) (hp : ma_prt 14 x = none) (hv : (ma_fd 14 x 0 true 6 9).map (fun q => q.2.1) = some (kd, M', 0)) (h8 : kd ≠ 8) (hm' : ma_md M' = some (o', y', cc', nL', none)) (rest : List ma_V) (hs : ma_is S b = true) (ht : 1 ≤ (mH S b).1 ∧ (mH S b).1 ≤ 12) (hr : 1 ≤ d ∧ 19 + nL' ≤ w ∧ 1 ≤ nL' ∧ ma_sz rest ≤ 8)
    (hk : ma_wp X (d - 1) (w - (19 + nL')) M' 0 [(0, .inr (.inr (some b)))] [] S (zv (fun S' => ma_fp X k d w (pc + 3) L rest S' Q) (fun _ _ => False))) : ma_fp X k d w pc L (.inr (.inr (some b)) :: rest) S Q := by
  cases hq : ma_fd 14 x 0 true 6 9 with
  | none => rw [hq] at hv; cases hv
  | some q =>
    rw [hq] at hv
    have e : q.2.1 = (kd, M', 0) := Option.some.inj hv
    have h1 : ma_one X 14 false nL d w (.invokespecial x) 3 pc L (.inr (.inr (some b)) :: rest) S = none := by
      have h2 : ma_pr 14 d w (.invokespecial x) 3 (.inr (.inr (some b)) :: rest) S = none := by
        unfold ma_pr
        simp [hp]
      unfold ma_one
      rw [h2]
      rfl
    have h2 : ma_ret ret (.invokespecial x) 3 (.inr (.inr (some b)) :: rest) = none := rfl
    have h4 : ma_cl 14 (.invokespecial x) 3 (.inr (.inr (some b)) :: rest) S = some ((kd, M'), [.inr (.inr (some b))], rest) := by
      unfold ma_cl
      simp only [hq, e, List.drop_zero, List.take_zero, List.reverse_nil, hm']
      rw [if_pos ⟨h8, hs, ht.1, ht.2, Or.inr rfl⟩]
    obtain ⟨f, z, S1, e1, e2⟩ := hk
    rcases z with v | z
    · rcases v with _ | v
      · obtain ⟨g, z2, S2, e3, e4⟩ := (e2 : ma_fp X k d w (pc + 3) L rest S1 Q)
        refine ⟨max f g + 1, z2, S2, ?_, e4⟩
        rw [ma_frun_s]
        simp only [ma_fbody, hm, hd, h1, h2, h4, hm']
        rw [if_pos ⟨hr.1, hr.2.1, hr.2.2.1, hr.2.2.2⟩]
        have e5 : ma_run X (max f g) (d - 1) (w - (19 + nL')) M' 0 (ma_args 0 [.inr (.inr (some b))]) [] S = some (.inl none, S1) := ma_run_le (Nat.le_max_left f g) e1
        rw [e5]
        exact ma_frun_le (Nat.le_max_right f g) e3
      · exact (e2 : False).elim
    · exact (e2 : False).elim
theorem dF0_0 : decode code 0 = .ok (.new 8, 3) := by decide +kernel
theorem dF0_3 : decode code 3 = .ok (.dup, 1) := by decide +kernel
theorem dF0_4 : decode code 4 = .ok (.invokespecial 85, 3) := by decide +kernel
theorem dF0_7 : decode code 7 = .ok (.astore_n 1, 1) := by decide +kernel
theorem dF0_8 : decode code 8 = .ok (.new 86, 3) := by decide +kernel
theorem dF0_11 : decode code 11 = .ok (.dup, 1) := by decide +kernel
theorem dF0_12 : decode code 12 = .ok (.invokespecial 88, 3) := by decide +kernel
theorem dF0_15 : decode code 15 = .ok (.astore_n 2, 1) := by decide +kernel
theorem dF0_16 : decode code 16 = .ok (.iconst 1, 1) := by decide +kernel
theorem dF0_17 : decode code 17 = .ok (.newarray .long, 2) := by decide +kernel
theorem dF0_19 : decode code 19 = .ok (.astore_n 3, 1) := by decide +kernel
theorem dF0_20 : decode code 20 = .ok (.iconst 0, 1) := by decide +kernel
theorem dF0_21 : decode code 21 = .ok (.istore 4, 2) := by decide +kernel
theorem dF0_40 : decode code 40 = .ok (.tableswitch 1421 0 19 #[96, 200, 256, 324, 337, 405, 501, 581, 661, 729, 797, 865, 933, 1017, 1073, 1129, 1173, 1229, 1297, 1365], 96) := by decide +kernel
set_option maxRecDepth 100000 in
theorem hm_126 : ma_md 126 = some (11, yX11_init, cX11_init, 1, none) := rfl
set_option maxRecDepth 100000 in
theorem hm_165 : ma_md 165 = some (12, yX12_init, cX12_init, 1, none) := rfl
theorem zl_start {X : Nat × (Nat → Int32)} {Q : Option ma_V → ma_S → Prop} (K : ma_fp X 0 13 494 23 [(0, .inr (.inr (some 30))), (1, .inr (.inr (some 64))), (2, .inr (.inr (some 94))), (3, .inr (.inr (some 125))), (4, .inl 0)] [] zE Q) : ma_fp X 0 13 494 0 [(0, .inr (.inr (some 30)))] [] ma_S0 Q := by
  have hN := zN_ok
  simp only [Bool.and_eq_true, decide_eq_true_eq] at hN
  obtain ⟨⟨⟨hA, hB⟩, hD⟩, hE⟩ := hN
  have n1 : ma_nwt 14 8 = some 11 := by decide +kernel
  have n2 : ma_nwt 14 86 = some 12 := by decide +kernel
  refine zf_one (pc' := 3) (L' := [(0, .inr (.inr (some 30)))]) (st' := [.inr (.inr (some 64))]) (S' := zA) fm_0 dF0_0 (by unfold ma_one; simp only [ma_push, ma_stk, ma_sto, ma_jmp, ma_hp, ma_sc, ma_ex, ma_al, n1, Option.map_some]; rfl) ?_
  refine zf_stk fm_0 dF0_3 (st' := [.inr (.inr (some 64)), .inr (.inr (some 64))]) rfl rfl ?_
  refine zf_cp fm_0 dF0_4 (kd := 6) (M' := 126) (by decide +kernel) (by decide +kernel) (by decide) hm_126 [.inr (.inr (some 64))] rfl (by decide +kernel) (by decide +kernel) ?_
  refine ma_wp9 zB_ok (zv_n ?_)
  show ma_fp X 0 13 494 7 [(0, .inr (.inr (some 30)))] [.inr (.inr (some 64))] zB Q
  refine zf_sto fm_0 dF0_7 [(1, .inr (.inr (some 64))), (0, .inr (.inr (some 30)))] rfl rfl rfl ?_
  refine zf_one (pc' := 11) (L' := [(1, .inr (.inr (some 64))), (0, .inr (.inr (some 30)))]) (st' := [.inr (.inr (some 94))]) (S' := zC) fm_0 dF0_8 (by unfold ma_one; simp only [ma_push, ma_stk, ma_sto, ma_jmp, ma_hp, ma_sc, ma_ex, ma_al, n2, Option.map_some, hB]; rfl) ?_
  refine zf_stk fm_0 dF0_11 (st' := [.inr (.inr (some 94)), .inr (.inr (some 94))]) rfl rfl ?_
  have sC : (ma_is zC 94 && decide (1 ≤ (mH zC 94).1) && decide ((mH zC 94).1 ≤ 12)) = true := by decide +kernel
  simp only [Bool.and_eq_true, decide_eq_true_eq] at sC
  refine zf_cp fm_0 dF0_12 (kd := 6) (M' := 165) (by decide +kernel) (by decide +kernel) (by decide) hm_165 [.inr (.inr (some 94))] sC.1.1 ⟨sC.1.2, sC.2⟩ (by decide) ?_
  refine ma_wp9 zD_ok (zv_n ?_)
  show ma_fp X 0 13 494 15 [(1, .inr (.inr (some 64))), (0, .inr (.inr (some 30)))] [.inr (.inr (some 94))] zD Q
  refine zf_sto fm_0 dF0_15 [(2, .inr (.inr (some 94))), (1, .inr (.inr (some 64))), (0, .inr (.inr (some 30)))] rfl rfl rfl ?_
  refine zf_push fm_0 dF0_16 (v := .inl 1) rfl ?_
  refine zf_one (pc' := 19) (L' := [(2, .inr (.inr (some 94))), (1, .inr (.inr (some 64))), (0, .inr (.inr (some 30)))]) (st' := [.inr (.inr (some 125))]) (S' := zE) fm_0 dF0_17 (by
    have e : ma_al 14 (.newarray .long) 2 [.inl 1] zD = some ([.inr (.inr (some (mN zD)))], zE) := rfl
    unfold ma_one
    rw [hD] at e
    simp only [ma_push, ma_stk, ma_sto, ma_jmp, ma_hp, ma_sc, ma_ex, e]) ?_
  refine zf_sto fm_0 dF0_19 [(3, .inr (.inr (some 125))), (2, .inr (.inr (some 94))), (1, .inr (.inr (some 64))), (0, .inr (.inr (some 30)))] rfl rfl rfl ?_
  refine zf_push fm_0 dF0_20 (v := .inl 0) rfl ?_
  refine zf_sto fm_0 dF0_21 [(4, .inl 0), (3, .inr (.inr (some 125))), (2, .inr (.inr (some 94))), (1, .inr (.inr (some 64))), (0, .inr (.inr (some 30)))] rfl rfl rfl ?_
  exact zf_sub (ma_nd_of (ks := [0, 1, 2, 3, 4]) rfl (by decide)) (ma_nd_of (ks := [4, 3, 2, 1, 0]) rfl (by decide)) (ma_le_cons rfl (ma_le_cons rfl (ma_le_cons rfl (ma_le_cons rfl (ma_le_cons rfl (ma_le_nil _)))))) K
theorem and31 (a : Int32) : ∃ k : Nat, k < 32 ∧ a &&& 31 = Int32.ofNat k := by
  refine ⟨(a &&& 31).toBitVec.toNat, ?_, ?_⟩
  · rw [Int32.toBitVec_and, BitVec.toNat_and]
    exact Nat.lt_of_le_of_lt Nat.and_le_right (by decide)
  · apply Int32.toBitVec_inj.mp
    show _ = BitVec.ofNat 32 _
    rw [BitVec.ofNat_toNat]
    simp
theorem p1_sw {ys : Nat → Int32} {Q : Option ma_V → ma_S → Prop} {S : ma_S} {x : Int32} (hx : ∃ k : Nat, k < 32 ∧ x = Int32.ofNat k)
    (k0 : ma_fp (6, ys) 0 13 494 136 zL [] S Q)
    (k1 : ma_fp (6, ys) 0 13 494 240 zL [] S Q)
    (k2 : ma_fp (6, ys) 0 13 494 296 zL [] S Q)
    (k3 : ma_fp (6, ys) 0 13 494 364 zL [] S Q)
    (k4 : ma_fp (6, ys) 0 13 494 377 zL [] S Q)
    (k5 : ma_fp (6, ys) 0 13 494 445 zL [] S Q)
    (k6 : ma_fp (6, ys) 0 13 494 541 zL [] S Q)
    (k7 : ma_fp (6, ys) 0 13 494 621 zL [] S Q)
    (k8 : ma_fp (6, ys) 0 13 494 701 zL [] S Q)
    (k9 : ma_fp (6, ys) 0 13 494 769 zL [] S Q)
    (k10 : ma_fp (6, ys) 0 13 494 837 zL [] S Q)
    (k11 : ma_fp (6, ys) 0 13 494 905 zL [] S Q)
    (k12 : ma_fp (6, ys) 0 13 494 973 zL [] S Q)
    (k13 : ma_fp (6, ys) 0 13 494 1057 zL [] S Q)
    (k14 : ma_fp (6, ys) 0 13 494 1113 zL [] S Q)
    (k15 : ma_fp (6, ys) 0 13 494 1169 zL [] S Q)
    (k16 : ma_fp (6, ys) 0 13 494 1213 zL [] S Q)
    (k17 : ma_fp (6, ys) 0 13 494 1269 zL [] S Q)
    (k18 : ma_fp (6, ys) 0 13 494 1337 zL [] S Q)
    (k19 : ma_fp (6, ys) 0 13 494 1405 zL [] S Q)
    (kd : ma_fp (6, ys) 0 13 494 1461 zL [] S Q) : ma_fp (6, ys) 0 13 494 40 zL [.inl x] S Q := by
  obtain ⟨k, hk, rfl⟩ := hx
  have hk2 : k = 0 ∨ k = 1 ∨ k = 2 ∨ k = 3 ∨ k = 4 ∨ k = 5 ∨ k = 6 ∨ k = 7 ∨ k = 8 ∨ k = 9 ∨ k = 10 ∨ k = 11 ∨ k = 12 ∨ k = 13 ∨ k = 14 ∨ k = 15 ∨ k = 16 ∨ k = 17 ∨ k = 18 ∨ k = 19 ∨ k = 20 ∨ k = 21 ∨ k = 22 ∨ k = 23 ∨ k = 24 ∨ k = 25 ∨ k = 26 ∨ k = 27 ∨ k = 28 ∨ k = 29 ∨ k = 30 ∨ k = 31 := by omega
  rcases hk2 with rfl | rfl | rfl | rfl | rfl | rfl | rfl | rfl | rfl | rfl | rfl | rfl | rfl | rfl | rfl | rfl | rfl | rfl | rfl | rfl | rfl | rfl | rfl | rfl | rfl | rfl | rfl | rfl | rfl | rfl | rfl | rfl
  · exact zf_jmp fm_0 dF0_40 (t := 136) (st' := []) rfl rfl rfl (ma_jmp_tab (by decide +kernel)) k0
  · exact zf_jmp fm_0 dF0_40 (t := 240) (st' := []) rfl rfl rfl (ma_jmp_tab (by decide +kernel)) k1
  · exact zf_jmp fm_0 dF0_40 (t := 296) (st' := []) rfl rfl rfl (ma_jmp_tab (by decide +kernel)) k2
  · exact zf_jmp fm_0 dF0_40 (t := 364) (st' := []) rfl rfl rfl (ma_jmp_tab (by decide +kernel)) k3
  · exact zf_jmp fm_0 dF0_40 (t := 377) (st' := []) rfl rfl rfl (ma_jmp_tab (by decide +kernel)) k4
  · exact zf_jmp fm_0 dF0_40 (t := 445) (st' := []) rfl rfl rfl (ma_jmp_tab (by decide +kernel)) k5
  · exact zf_jmp fm_0 dF0_40 (t := 541) (st' := []) rfl rfl rfl (ma_jmp_tab (by decide +kernel)) k6
  · exact zf_jmp fm_0 dF0_40 (t := 621) (st' := []) rfl rfl rfl (ma_jmp_tab (by decide +kernel)) k7
  · exact zf_jmp fm_0 dF0_40 (t := 701) (st' := []) rfl rfl rfl (ma_jmp_tab (by decide +kernel)) k8
  · exact zf_jmp fm_0 dF0_40 (t := 769) (st' := []) rfl rfl rfl (ma_jmp_tab (by decide +kernel)) k9
  · exact zf_jmp fm_0 dF0_40 (t := 837) (st' := []) rfl rfl rfl (ma_jmp_tab (by decide +kernel)) k10
  · exact zf_jmp fm_0 dF0_40 (t := 905) (st' := []) rfl rfl rfl (ma_jmp_tab (by decide +kernel)) k11
  · exact zf_jmp fm_0 dF0_40 (t := 973) (st' := []) rfl rfl rfl (ma_jmp_tab (by decide +kernel)) k12
  · exact zf_jmp fm_0 dF0_40 (t := 1057) (st' := []) rfl rfl rfl (ma_jmp_tab (by decide +kernel)) k13
  · exact zf_jmp fm_0 dF0_40 (t := 1113) (st' := []) rfl rfl rfl (ma_jmp_tab (by decide +kernel)) k14
  · exact zf_jmp fm_0 dF0_40 (t := 1169) (st' := []) rfl rfl rfl (ma_jmp_tab (by decide +kernel)) k15
  · exact zf_jmp fm_0 dF0_40 (t := 1213) (st' := []) rfl rfl rfl (ma_jmp_tab (by decide +kernel)) k16
  · exact zf_jmp fm_0 dF0_40 (t := 1269) (st' := []) rfl rfl rfl (ma_jmp_tab (by decide +kernel)) k17
  · exact zf_jmp fm_0 dF0_40 (t := 1337) (st' := []) rfl rfl rfl (ma_jmp_tab (by decide +kernel)) k18
  · exact zf_jmp fm_0 dF0_40 (t := 1405) (st' := []) rfl rfl rfl (ma_jmp_tab (by decide +kernel)) k19
  · exact zf_jmp fm_0 dF0_40 (t := 1461) (st' := []) rfl rfl rfl (ma_jmp_tab (by decide +kernel)) kd
  · exact zf_jmp fm_0 dF0_40 (t := 1461) (st' := []) rfl rfl rfl (ma_jmp_tab (by decide +kernel)) kd
  · exact zf_jmp fm_0 dF0_40 (t := 1461) (st' := []) rfl rfl rfl (ma_jmp_tab (by decide +kernel)) kd
  · exact zf_jmp fm_0 dF0_40 (t := 1461) (st' := []) rfl rfl rfl (ma_jmp_tab (by decide +kernel)) kd
  · exact zf_jmp fm_0 dF0_40 (t := 1461) (st' := []) rfl rfl rfl (ma_jmp_tab (by decide +kernel)) kd
  · exact zf_jmp fm_0 dF0_40 (t := 1461) (st' := []) rfl rfl rfl (ma_jmp_tab (by decide +kernel)) kd
  · exact zf_jmp fm_0 dF0_40 (t := 1461) (st' := []) rfl rfl rfl (ma_jmp_tab (by decide +kernel)) kd
  · exact zf_jmp fm_0 dF0_40 (t := 1461) (st' := []) rfl rfl rfl (ma_jmp_tab (by decide +kernel)) kd
  · exact zf_jmp fm_0 dF0_40 (t := 1461) (st' := []) rfl rfl rfl (ma_jmp_tab (by decide +kernel)) kd
  · exact zf_jmp fm_0 dF0_40 (t := 1461) (st' := []) rfl rfl rfl (ma_jmp_tab (by decide +kernel)) kd
  · exact zf_jmp fm_0 dF0_40 (t := 1461) (st' := []) rfl rfl rfl (ma_jmp_tab (by decide +kernel)) kd
  · exact zf_jmp fm_0 dF0_40 (t := 1461) (st' := []) rfl rfl rfl (ma_jmp_tab (by decide +kernel)) kd
theorem p1_main {L : Nat} (hL : L ≤ 6) (ys : Nat → Int32) (S : ma_S) (hP : zP S) (hc1 : mC S + 1 ≤ 600002) (hc2 : mZ S + 6 ≤ 7302232) (h3 : ∀ Q : Option ma_V → ma_S → Prop, (∀ S', zO S' → mC S' ≤ mC S + 1 → mZ S' ≤ mZ S + 6 → ma_fp (6, ys) 0 13 494 1461 zL [] S' Q) → ma_fp (6, ys) 0 13 494 364 zL [] S Q) :
    ma_fp (L, ys) 0 13 494 23 [(0, .inr (.inr (some 30))), (1, .inr (.inr (some 64))), (2, .inr (.inr (some 94))), (3, .inr (.inr (some 125))), (4, .inl 0)] [] S (fun v S' => v = some (.inl 1) ∧ mC S' ≤ 600002 ∧ mZ S' ≤ 7302232) := by
  have hS : zO S := hP.1
  refine gf_0_23 0 (by decide) (by decide) hS ?_
  have hq : L < 6 ∨ L = 6 := by omega
  rcases hq with hq | rfl
  · refine zt ?_ ⟨rfl, by omega, by omega⟩
    have h6 : L = 0 ∨ L = 1 ∨ L = 2 ∨ L = 3 ∨ L = 4 ∨ L = 5 := by omega
    rcases h6 with rfl | rfl | rfl | rfl | rfl | rfl
    · exact (by decide : (Int32.ofNat 0 - 6 : Int32) < 0)
    · exact (by decide : (Int32.ofNat 1 - 6 : Int32) < 0)
    · exact (by decide : (Int32.ofNat 2 - 6 : Int32) < 0)
    · exact (by decide : (Int32.ofNat 3 - 6 : Int32) < 0)
    · exact (by decide : (Int32.ofNat 4 - 6 : Int32) < 0)
    · exact (by decide : (Int32.ofNat 5 - 6 : Int32) < 0)
  · refine zf (by decide : ¬ (Int32.ofNat 6 - 6 : Int32) < 0) ⟨(by decide : (0 : Int32) ≤ 0 ∧ (0 : Int32).toNatClampNeg < 6), ?_⟩
    have K : ∀ S', zO S' → mC S' ≤ mC S + 1 → mZ S' ≤ mZ S + 6 → ma_fp (6, ys) 0 13 494 1461 zL [] S' (fun v S' => v = some (.inl 1) ∧ mC S' ≤ 600002 ∧ mZ S' ≤ 7302232) := by
      intro S' hS' h1 h2
      refine gf_0_1461 0 (by decide) (by decide) hS' ?_
      refine gf_0_23 _ (by decide) (by decide) hS' ?_
      exact zt (by decide : (Int32.ofNat 6 - 6 : Int32) < 0 + 6) ⟨rfl, Nat.le_trans h1 hc1, Nat.le_trans h2 hc2⟩
    exact p1_sw (and31 _) (p1_0 hP K) (p1_1 hP K) (p1_2 hP K) (h3 _ K) (p1_4 hP K) (p1_5 hP K) (p1_6 hP K) (p1_7 hP K) (p1_8 hP K) (p1_9 hP K) (p1_10 hP K) (p1_11 hP K) (p1_12 hP K) (p1_13 hP K) (p1_14 hP K) (p1_15 hP K) (p1_16 hP K) (p1_17 hP K) (p1_18 hP K) (p1_19 hP K) (K _ hS (Nat.le_succ _) (Nat.le_add_right _ _))
theorem p1_pure {L : Nat} (hL : L ≤ 6) (ys : Nat → Int32) : ∃ (f : Nat) (S' : ma_S), ma_frun (L, ys) f 0 13 494 0 [(0, .inr (.inr (some 30)))] [] ma_S0 = some (some (.inl 1), S') ∧ mC S' ≤ 600002 ∧ mZ S' ≤ 7302232 := by
  have hc := zE_c
  rw [Bool.and_eq_true, decide_eq_true_eq, decide_eq_true_eq] at hc
  obtain ⟨f, v, S', h1, rfl, h2, h3⟩ := zl_start (p1_main hL ys zE zE_P hc.1 hc.2 (fun Q K => p1_3 K))
  exact ⟨f, S', h1, h2, h3⟩
