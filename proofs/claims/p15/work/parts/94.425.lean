/-! the reference (written by wip/tools/gen94m.py) -/
set_option maxRecDepth 100000 in
theorem hm_230 : ma_md 230 = some (12, yX12_finish, cX12_finish, 3, (some (FieldType.int))) := rfl
theorem f_12_270_12 : ma_fld 12 270 12 = some 58 := by decide +kernel
theorem v_12_402_12 : ma_vl 12 402 12 = some (1, 222, 1) := by decide +kernel
theorem v_12_405_12 : ma_vl 12 405 12 = some (1, 223, 0) := by decide +kernel
theorem dX12_finish_0 : decode cX12_finish 0 = .ok (.iconst 0, 1) := by decide +kernel
theorem dX12_finish_1 : decode cX12_finish 1 = .ok (.istore_n 1, 1) := by decide +kernel
theorem dX12_finish_2 : decode cX12_finish 2 = .ok (.aload_n 0, 1) := by decide +kernel
theorem dX12_finish_27 : decode cX12_finish 27 = .ok (.iload_n 1, 1) := by decide +kernel
theorem dX12_finish_28 : decode cX12_finish 28 = .ok (.ireturn, 1) := by decide +kernel
theorem dX12_finish_9 : decode cX12_finish 9 = .ok (.aload_n 0, 1) := by decide +kernel
theorem dX12_finish_10 : decode cX12_finish 10 = .ok (.sipush 3100, 3) := by decide +kernel
theorem dX12_finish_13 : decode cX12_finish 13 = .ok (.invokevirtual 402, 3) := by decide +kernel
theorem dX12_finish_16 : decode cX12_finish 16 = .ok (.istore_n 2, 1) := by decide +kernel
theorem dX12_finish_17 : decode cX12_finish 17 = .ok (.iload_n 1, 1) := by decide +kernel
theorem dX12_finish_18 : decode cX12_finish 18 = .ok (.aload_n 0, 1) := by decide +kernel
theorem dX12_finish_19 : decode cX12_finish 19 = .ok (.invokevirtual 405, 3) := by decide +kernel
theorem dX12_finish_22 : decode cX12_finish 22 = .ok (.iadd, 1) := by decide +kernel
theorem dX12_finish_23 : decode cX12_finish 23 = .ok (.istore_n 1, 1) := by decide +kernel
theorem dX12_finish_24 : decode cX12_finish 24 = .ok (.goto (-22), 3) := by decide +kernel
theorem dX12_finish_6 : decode cX12_finish 6 = .ok (.ifCond .eq 21, 3) := by decide +kernel
theorem dX12_finish_3 : decode cX12_finish 3 = .ok (.getfield 270, 3) := by decide +kernel
def wr_230 (c k : Nat) : Bool := Nat.beq c 99 || Nat.beq c 105 || Nat.beq c 106 || Nat.beq c 109 || Nat.beq c 110 || Nat.beq c 111 || Nat.beq c 113 || Nat.beq c 114 || Nat.beq c 115 || Nat.beq c 118 || (Nat.beq c 94 && (Nat.beq k 44 || Nat.beq k 45 || Nat.beq k 47 || Nat.beq k 49 || Nat.beq k 55 || Nat.beq k 56 || Nat.beq k 57 || Nat.beq k 58 || Nat.beq k 73))
theorem ws_222_230 : ∀ c k, wr_222 c k = true → wr_230 c k = true := by
  intro c k h
  simp only [wr_222, wr_230, Bool.or_eq_true, Bool.and_eq_true, Nat.beq_eq] at h ⊢
  omega
theorem ws_223_230 : ∀ c k, wr_223 c k = true → wr_230 c k = true := by
  intro c k h
  simp only [wr_223, wr_230, Bool.or_eq_true, Bool.and_eq_true, Nat.beq_eq] at h ⊢
  omega
theorem g_230_0 {X : Nat × (Nat → Int32)} {m : Nat → Nat → Int32} {P : Option ma_V → (Nat → Nat → Int32) → Prop}  (h : zm X 5 109 230 2 [(0, .inr (.inr (some 94))), (1, .inl (0 : Int32))] m P) : zm X 5 109 230 0 [(0, .inr (.inr (some 94)))] m P := by
  intro d w S Q hd hw hS hm HQ
  subst hm
  refine zw_push hm_230 dX12_finish_0 (v := .inl (0 : Int32)) rfl ?_
  refine zw_sto hm_230 dX12_finish_1 [(1, .inl (0 : Int32)), (0, .inr (.inr (some 94)))] rfl rfl rfl ?_
  exact zw_sub (ma_nd_of (ks := [0, 1]) rfl (by decide)) (ma_nd_of (ks := [1, 0]) rfl (by decide)) (ma_le_cons rfl (ma_le_cons rfl (ma_le_nil _))) (h d w _ Q (by omega) (by omega) hS rfl HQ)
theorem g_230_2 {X : Nat × (Nat → Int32)} {m : Nat → Nat → Int32} {P : Option ma_V → (Nat → Nat → Int32) → Prop} (l1 : Int32) (h : if (m 94 58) = 0 then (P (some (.inl l1)) m) else (zm X 2 44 222 0 [(0, .inr (.inr (some 94))), (1, .inl (3100 : Int32))] m (zmi (fun v2 m1 => zm X 4 88 223 0 [(0, .inr (.inr (some 94)))] m1 (zmi (fun v4 m3 => zm X 5 109 230 2 [(0, .inr (.inr (some 94))), (1, .inl (l1 + v4))] m3 P)))))) : zm X 5 109 230 2 [(0, .inr (.inr (some 94))), (1, .inl l1)] m P := by
  intro d w S Q hd hw hS hm HQ
  subst hm
  refine zw_push hm_230 dX12_finish_2 (v := .inr (.inr (some 94))) rfl ?_
  refine zw_gf hm_230 dX12_finish_3 (v := .inl ((mI S) 94 58)) (zT_is hS s_94) (zT_t hS s_94) rfl f_12_270_12 rfl ?_
  refine zw_if0 hm_230 dX12_finish_6 (t := 27) rfl zc0_eq ?_ ?_
  · intro hc
    rw [if_pos hc] at h
    refine zw_push hm_230 dX12_finish_27 (v := .inl l1) rfl ?_
    exact zw_iret hm_230 dX12_finish_28 (HQ _ _ h)
  · intro hc
    rw [if_neg hc] at h
    refine zw_push hm_230 dX12_finish_9 (v := .inr (.inr (some 94))) rfl ?_
    refine zw_push hm_230 dX12_finish_10 (v := .inl (3100 : Int32)) rfl ?_
    refine zw_cv hm_230 dX12_finish_13 v_12_402_12 hm_222 [.inl (3100 : Int32)] [] rfl (zT_rt hS s_94 rfl) ⟨by omega, by omega⟩ rfl (h _ _ S _ (by omega) (by omega) hS rfl (fun o9 m1 hv => ?_))
    obtain ⟨v2, rfl, h⟩ := zmi_of hv
    show ma_wp X d w 230 16 [(0, .inr (.inr (some 94))), (1, .inl l1)] [.inl v2] (zst S m1) _
    refine zw_sto hm_230 dX12_finish_16 [(2, .inl v2), (0, .inr (.inr (some 94))), (1, .inl l1)] rfl rfl rfl ?_
    refine zw_push hm_230 dX12_finish_17 (v := .inl l1) rfl ?_
    refine zw_push hm_230 dX12_finish_18 (v := .inr (.inr (some 94))) rfl ?_
    refine zw_cv hm_230 dX12_finish_19 v_12_405_12 hm_223 [] [.inl l1] rfl (zT_rt (zT_zst hS m1) s_94 rfl) ⟨by omega, by omega⟩ rfl (h _ _ (zst S m1) _ (by omega) (by omega) (zT_zst hS m1) rfl (fun o9 m3 hv => ?_))
    obtain ⟨v4, rfl, h⟩ := zmi_of hv
    show ma_wp X d w 230 22 [(2, .inl v2), (0, .inr (.inr (some 94))), (1, .inl l1)] [.inl v4, .inl l1] (zst S m3) _
    refine zw_stk hm_230 dX12_finish_22 (st' := [.inl (l1 + v4)]) rfl rfl ?_
    refine zw_sto hm_230 dX12_finish_23 [(1, .inl (l1 + v4)), (2, .inl v2), (0, .inr (.inr (some 94)))] rfl rfl rfl ?_
    refine zw_goto hm_230 dX12_finish_24 (t := 2) rfl ?_
    exact zw_sub (ma_nd_of (ks := [0, 1]) rfl (by decide)) (ma_nd_of (ks := [1, 2, 0]) rfl (by decide)) (ma_le_cons rfl (ma_le_cons rfl (ma_le_nil _))) (h d w _ Q (by omega) (by omega) (zT_zst hS m3) rfl HQ)
theorem lp_230_2 {X : Nat × (Nat → Int32)} {P : Option ma_V → (Nat → Nat → Int32) → Prop} {T : Nat} {m0 : Nat → Nat → Int32} (h0 : zV m0) (K : ∀ v m', zF wr_230 m0 m' → zV m' → (zGW T (m' 94 55) (m' 109)) → (zGU T (m' 94 46) (m' 99)) → (zOw (m' 99) (m' 103) (m' 111)) → (zDX (m' 94 10) (m' 99) (m' 112) (m' 113) (m' 114) (m' 94 55) (m' 98) (m' 101) (m' 102) (m' 108)) → (zGG (m' 94 58) (m' 94 56) (m' 94 57) (m' 106)) → ((m' 94 58).toInt = 0) → P (some (.inl v)) m') : ∀ (n : Nat) (m : Nat → Nat → Int32) (l1 : Int32), ((zfm (m 94 58) (m 94 57) (m 94 56) : Int)).toNat = n → zF wr_230 m0 m → zV m → (zW (m 94 7) (m 98) (m 101) (m 102) (m 108)) → (zGW T (m 94 55) (m 109)) → (zGU T (m 94 46) (m 99)) → (zOw (m 99) (m 103) (m 111)) → (zDX (m 94 10) (m 99) (m 112) (m 113) (m 114) (m 94 55) (m 98) (m 101) (m 102) (m 108)) → (zGG (m 94 58) (m 94 56) (m 94 57) (m 106)) → ((m 94 10).toInt = 5) → zm X 5 109 230 2 [(0, .inr (.inr (some 94))), (1, .inl l1)] m P := by
  intro n
  induction n using Nat.strongRecOn with
  | _ n IH =>
    intro m l1 hmu hF hV r_W r_GW r_GU r_OW r_DX r_GG hi6
    refine g_230_2 l1 ?_
    have f1 : 0 ≤ (m 94 10).toInt ∧ (m 94 10).toInt ≤ 6 := rs_94_10 (m := m) hV
    have f2 : 0 ≤ (m 94 58).toInt ∧ (m 94 58).toInt ≤ 1 := rs_94_58 (m := m) hV
    have li3 : (0 : Int32).toInt = 0 := rfl
    refine zd (fun (h4 : (m 94 58) = (0 : Int32)) => ?_) (fun (h4 : ¬ (m 94 58) = (0 : Int32)) => ?_)
    · skip
      have g5 := i_eq h4
      try have g0 := (r_GG (by omega)).1
      have b6 := i_bd l1
      exact K (l1) _ hF hV r_GW r_GU r_OW r_DX r_GG (show (m 94 58).toInt = 0 from by omega)
    · skip
      have g7 := i_ne h4
      have li8 : (3100 : Int32).toInt = 3100 := rfl
      refine sp_222 ((3100 : Int32)) hV r_W (show zG1 (m 94 56) (m 94 57) (m 106) from by first | (exact G1_0 (by omega) (by omega)) | (exact r_GG (by omega)) | (exfalso; omega; done) | (exfalso; contradiction; done)) (fun v2 m1 hV_m1 p0_m1 p1_m1 p2_m1 => zmi_n ?_)
      have p0_m1 : zG1 (m1 94 56) (m1 94 57) (m1 106) := p0_m1
      have p1_m1 : (m 94 56).toInt ≤ (m1 94 56).toInt := p1_m1
      have p2_m1 : (m 94 57).toInt ≤ (m1 94 57).toInt ∧ ((m1 94 56).toInt ≤ (m1 94 57).toInt ∨ (m 94 57).toInt + (3100 : Int32).toInt ≤ (m1 94 57).toInt) := p2_m1
      have f9 : 0 ≤ (m 94 56).toInt ∧ (m 94 56).toInt ≤ 3100 := rs_94_56 (m := m) hV
      have f10 : 0 ≤ (m1 94 56).toInt ∧ (m1 94 56).toInt ≤ 3100 := rs_94_56 (m := (zov wr_222 m m1)) hV_m1
      have f11 : 0 ≤ (m 94 57).toInt ∧ (m 94 57).toInt ≤ 3100 := rs_94_57 (m := m) hV
      have f12 : 0 ≤ (m1 94 57).toInt ∧ (m1 94 57).toInt ≤ 3100 := rs_94_57 (m := (zov wr_222 m m1)) hV_m1
      refine sp_223  hV_m1 r_W r_GW r_GU r_OW r_DX p0_m1 (show (m 94 10).toInt = 5 from by omega) (show (m 94 58).toInt = 1 from by omega) (fun v4 m3 hV_m3 p0_m3 p1_m3 p2_m3 p3_m3 p4_m3 p5_m3 => zmi_n ?_)
      have p0_m3 : zGW T (m3 94 55) (m3 109) := p0_m3
      have p1_m3 : zGU T (m 94 46) (m3 99) := p1_m3
      have p2_m3 : zOw (m3 99) (m 103) (m3 111) := p2_m3
      have p3_m3 : zDX (m 94 10) (m3 99) (m 112) (m3 113) (m3 114) (m3 94 55) (m 98) (m 101) (m 102) (m 108) := p3_m3
      have p4_m3 : zGG (m3 94 58) (m3 94 56) (m1 94 57) (m3 106) := p4_m3
      have p5_m3 : (m3 94 58).toInt = 0 ∨ ((m3 94 58).toInt = 1 ∧ (m1 94 57).toInt < (m3 94 56).toInt ∧ (m1 94 57).toInt = (m1 94 57).toInt) := p5_m3
      have f13 : 0 ≤ (m3 94 58).toInt ∧ (m3 94 58).toInt ≤ 1 := rs_94_58 (m := (zov wr_223 (zov wr_222 m m1) m3)) hV_m3
      have f14 : 0 ≤ (m3 94 56).toInt ∧ (m3 94 56).toInt ≤ 3100 := rs_94_56 (m := (zov wr_223 (zov wr_222 m m1) m3)) hV_m3
      try have g1 := p0_m1.1
      try have g0 := (r_GG (by omega)).1
      have b15 := i_bd l1
      have b16 := i_bd v4
      first | have e17 : (l1 + v4).toInt = l1.toInt + v4.toInt := i_add (by omega) (by omega) | have b18 := i_bd (l1 + v4)
      exact IH ((zfm (m3 94 58) (m1 94 57) (m3 94 56) : Int)).toNat (by have zq := zfm_lt (im := m 94 58) (ga := m 94 57) (gm := m 94 56) (im' := (m3 94 58)) (ga' := (m1 94 57)) (gm' := (m3 94 56)) (by omega) (by omega) (by omega) (by omega); omega) _ ((l1 + v4)) rfl (zF_zov (zF_zov hF ws_222_230) ws_223_230) hV_m3 r_W p0_m3 p1_m3 p2_m3 p3_m3 p4_m3 (show (m 94 10).toInt = 5 from by omega)
theorem sp_230 {X : Nat × (Nat → Int32)} {P : Option ma_V → (Nat → Nat → Int32) → Prop} {T : Nat} {m : Nat → Nat → Int32}  (hV : zV m) (r_W : zW (m 94 7) (m 98) (m 101) (m 102) (m 108)) (r_GW : zGW T (m 94 55) (m 109)) (r_GU : zGU T (m 94 46) (m 99)) (r_OW : zOw (m 99) (m 103) (m 111)) (r_DX : zDX (m 94 10) (m 99) (m 112) (m 113) (m 114) (m 94 55) (m 98) (m 101) (m 102) (m 108)) (r_GG : zGG (m 94 58) (m 94 56) (m 94 57) (m 106)) (hpre6 : (m 94 10).toInt = 5) (KZ : ∀ v m', zV (zov wr_230 m m') → (zGW T (m' 94 55) (m' 109)) → (zGU T (m 94 46) (m' 99)) → (zOw (m' 99) (m 103) (m' 111)) → (zDX (m 94 10) (m' 99) (m 112) (m' 113) (m' 114) (m' 94 55) (m 98) (m 101) (m 102) (m 108)) → (zGG (m' 94 58) (m' 94 56) (m' 94 57) (m' 106)) → ((m' 94 58).toInt = 0) → P (some (.inl v)) (zov wr_230 m m')) : zm X 5 109 230 0 [(0, .inr (.inr (some 94)))] m P := by
  have K : ∀ v m', zF wr_230 m m' → zV m' → (zGW T (m' 94 55) (m' 109)) → (zGU T (m' 94 46) (m' 99)) → (zOw (m' 99) (m' 103) (m' 111)) → (zDX (m' 94 10) (m' 99) (m' 112) (m' 113) (m' 114) (m' 94 55) (m' 98) (m' 101) (m' 102) (m' 108)) → (zGG (m' 94 58) (m' 94 56) (m' 94 57) (m' 106)) → ((m' 94 58).toInt = 0) → P (some (.inl v)) m' := by
    intro v m' hf z q0 q1 q2 q3 q4 q5
    have e := zov_eq hf
    rw [e] at z ⊢
    try rw [e] at q0
    try rw [e] at q1
    try rw [e] at q2
    try rw [e] at q3
    try rw [e] at q4
    try rw [e] at q5
    exact KZ v m' z q0 q1 q2 q3 q4 q5
  refine g_230_0  ?_
  have f1 : 0 ≤ (m 94 10).toInt ∧ (m 94 10).toInt ≤ 6 := rs_94_10 (m := m) hV
  try have g0 := (r_GG (by omega)).1
  have li2 : (0 : Int32).toInt = 0 := rfl
  have f3 : 0 ≤ (m 94 58).toInt ∧ (m 94 58).toInt ≤ 1 := rs_94_58 (m := m) hV
  have f4 : 0 ≤ (m 94 57).toInt ∧ (m 94 57).toInt ≤ 3100 := rs_94_57 (m := m) hV
  have f5 : 0 ≤ (m 94 56).toInt ∧ (m 94 56).toInt ≤ 3100 := rs_94_56 (m := m) hV
  exact lp_230_2 hV K _ _ ((0 : Int32)) rfl zF_rfl hV r_W r_GW r_GU r_OW r_DX r_GG (show (m 94 10).toInt = 5 from by omega)
set_option maxRecDepth 100000 in
theorem hm_229 : ma_md 229 = some (12, yX12_whole, cX12_whole, 1, (some (FieldType.int))) := rfl
theorem v_12_408_12 : ma_vl 12 408 12 = some (1, 219, 0) := by decide +kernel
theorem v_12_411_12 : ma_vl 12 411 12 = some (1, 230, 0) := by decide +kernel
theorem dX12_whole_0 : decode cX12_whole 0 = .ok (.aload_n 0, 1) := by decide +kernel
theorem dX12_whole_1 : decode cX12_whole 1 = .ok (.invokevirtual 408, 3) := by decide +kernel
theorem dX12_whole_4 : decode cX12_whole 4 = .ok (.aload_n 0, 1) := by decide +kernel
theorem dX12_whole_5 : decode cX12_whole 5 = .ok (.invokevirtual 411, 3) := by decide +kernel
theorem dX12_whole_8 : decode cX12_whole 8 = .ok (.ireturn, 1) := by decide +kernel
def wr_229 (c k : Nat) : Bool := Nat.beq c 99 || Nat.beq c 105 || Nat.beq c 106 || Nat.beq c 109 || Nat.beq c 110 || Nat.beq c 111 || Nat.beq c 113 || Nat.beq c 114 || Nat.beq c 115 || Nat.beq c 118 || (Nat.beq c 94 && (Nat.beq k 44 || Nat.beq k 45 || Nat.beq k 47 || Nat.beq k 49 || Nat.beq k 55 || Nat.beq k 56 || Nat.beq k 57 || Nat.beq k 58 || Nat.beq k 73))
theorem ws_219_229 : ∀ c k, wr_219 c k = true → wr_229 c k = true := by
  intro c k h
  simp only [wr_219, wr_229, Bool.or_eq_true, Bool.and_eq_true, Nat.beq_eq] at h ⊢
  omega
theorem ws_230_229 : ∀ c k, wr_230 c k = true → wr_229 c k = true := by
  intro c k h
  simp only [wr_230, wr_229, Bool.or_eq_true, Bool.and_eq_true, Nat.beq_eq] at h ⊢
  omega
theorem g_229_0 {X : Nat × (Nat → Int32)} {m : Nat → Nat → Int32} {P : Option ma_V → (Nat → Nat → Int32) → Prop}  (h : zm X 2 44 219 0 [(0, .inr (.inr (some 94)))] m (zmv (fun m1 => zm X 5 109 230 0 [(0, .inr (.inr (some 94)))] m1 (zmi (fun v4 m3 => P (some (.inl v4)) m3))))) : zm X 6 131 229 0 [(0, .inr (.inr (some 94)))] m P := by
  intro d w S Q hd hw hS hm HQ
  subst hm
  refine zw_push hm_229 dX12_whole_0 (v := .inr (.inr (some 94))) rfl ?_
  refine zw_cv hm_229 dX12_whole_1 v_12_408_12 hm_219 [] [] rfl (zT_rt hS s_94 rfl) ⟨by omega, by omega⟩ rfl (h _ _ S _ (by omega) (by omega) hS rfl (fun o9 m1 hv => ?_))
  obtain ⟨rfl, h⟩ := zmv_of hv
  show ma_wp X d w 229 4 [(0, .inr (.inr (some 94)))] [] (zst S m1) _
  refine zw_push hm_229 dX12_whole_4 (v := .inr (.inr (some 94))) rfl ?_
  refine zw_cv hm_229 dX12_whole_5 v_12_411_12 hm_230 [] [] rfl (zT_rt (zT_zst hS m1) s_94 rfl) ⟨by omega, by omega⟩ rfl (h _ _ (zst S m1) _ (by omega) (by omega) (zT_zst hS m1) rfl (fun o9 m3 hv => ?_))
  obtain ⟨v4, rfl, h⟩ := zmi_of hv
  show ma_wp X d w 229 8 [(0, .inr (.inr (some 94)))] [.inl v4] (zst S m3) _
  exact zw_iret hm_229 dX12_whole_8 (HQ _ _ h)
theorem sp_229 {X : Nat × (Nat → Int32)} {P : Option ma_V → (Nat → Nat → Int32) → Prop} {T : Nat} {m : Nat → Nat → Int32}  (hV : zV m) (r_W : zW (m 94 7) (m 98) (m 101) (m 102) (m 108)) (r_GW : zGW T (m 94 55) (m 109)) (r_GU : zGU T (m 94 46) (m 99)) (r_OW : zOw (m 99) (m 103) (m 111)) (r_DX : zDX (m 94 10) (m 99) (m 112) (m 113) (m 114) (m 94 55) (m 98) (m 101) (m 102) (m 108)) (hpre5 : (m 94 10).toInt = 5) (KZ : ∀ v m', zV (zov wr_229 m m') → (zGW T (m' 94 55) (m' 109)) → (zGU T (m 94 46) (m' 99)) → (zOw (m' 99) (m 103) (m' 111)) → (zDX (m 94 10) (m' 99) (m 112) (m' 113) (m' 114) (m' 94 55) (m 98) (m 101) (m 102) (m 108)) → (zGG (m' 94 58) (m' 94 56) (m' 94 57) (m' 106)) → ((m' 94 58).toInt = 0) → P (some (.inl v)) (zov wr_229 m m')) : zm X 6 131 229 0 [(0, .inr (.inr (some 94)))] m P := by
  have K : ∀ v m', zF wr_229 m m' → zV m' → (zGW T (m' 94 55) (m' 109)) → (zGU T (m' 94 46) (m' 99)) → (zOw (m' 99) (m' 103) (m' 111)) → (zDX (m' 94 10) (m' 99) (m' 112) (m' 113) (m' 114) (m' 94 55) (m' 98) (m' 101) (m' 102) (m' 108)) → (zGG (m' 94 58) (m' 94 56) (m' 94 57) (m' 106)) → ((m' 94 58).toInt = 0) → P (some (.inl v)) m' := by
    intro v m' hf z q0 q1 q2 q3 q4 q5
    have e := zov_eq hf
    rw [e] at z ⊢
    try rw [e] at q0
    try rw [e] at q1
    try rw [e] at q2
    try rw [e] at q3
    try rw [e] at q4
    try rw [e] at q5
    exact KZ v m' z q0 q1 q2 q3 q4 q5
  refine g_229_0  ?_
  have f1 : 0 ≤ (m 94 10).toInt ∧ (m 94 10).toInt ≤ 6 := rs_94_10 (m := m) hV
  refine sp_219  hV  (fun m1 hV_m1 p0_m1 p1_m1 => zmv_n ?_)
  have p0_m1 : zG1 (m1 94 56) (m1 94 57) (m1 106) := p0_m1
  have p1_m1 : (m1 94 58).toInt = 1 := p1_m1
  have f2 : 0 ≤ (m1 94 58).toInt ∧ (m1 94 58).toInt ≤ 1 := rs_94_58 (m := (zov wr_219 m m1)) hV_m1
  refine sp_230  hV_m1 r_W r_GW r_GU r_OW r_DX (show zGG (m1 94 58) (m1 94 56) (m1 94 57) (m1 106) from by first | (exact fun _ => p0_m1) | (exact fun z => absurd z (by decide)) | (exact fun z => absurd z (by omega)) | (exfalso; omega; done) | (exfalso; contradiction; done)) (show (m 94 10).toInt = 5 from by omega) (fun v4 m3 hV_m3 p0_m3 p1_m3 p2_m3 p3_m3 p4_m3 p5_m3 => zmi_n ?_)
  have p0_m3 : zGW T (m3 94 55) (m3 109) := p0_m3
  have p1_m3 : zGU T (m 94 46) (m3 99) := p1_m3
  have p2_m3 : zOw (m3 99) (m 103) (m3 111) := p2_m3
  have p3_m3 : zDX (m 94 10) (m3 99) (m 112) (m3 113) (m3 114) (m3 94 55) (m 98) (m 101) (m 102) (m 108) := p3_m3
  have p4_m3 : zGG (m3 94 58) (m3 94 56) (m3 94 57) (m3 106) := p4_m3
  have p5_m3 : (m3 94 58).toInt = 0 := p5_m3
  have f3 : 0 ≤ (m3 94 58).toInt ∧ (m3 94 58).toInt ≤ 1 := rs_94_58 (m := (zov wr_230 (zov wr_219 m m1) m3)) hV_m3
  have b4 := i_bd v4
  exact K (v4) _ (zF_zov (zF_zov zF_rfl ws_219_229) ws_230_229) hV_m3 p0_m3 p1_m3 p2_m3 p3_m3 p4_m3 (show (m3 94 58).toInt = 0 from by omega)
