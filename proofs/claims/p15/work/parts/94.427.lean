/-! the reference (written by wip/tools/gen94m.py) -/
set_option maxRecDepth 100000 in
theorem hm_237 : ma_md 237 = some (12, yX12_findByForm, cX12_findByForm, 4, (some (FieldType.int))) := rfl
theorem v_12_346_12 : ma_vl 12 346 12 = some (1, 187, 0) := by decide +kernel
theorem dX12_findByForm_0 : decode cX12_findByForm 0 = .ok (.aload_n 0, 1) := by decide +kernel
theorem dX12_findByForm_1 : decode cX12_findByForm 1 = .ok (.iload_n 1, 1) := by decide +kernel
theorem dX12_findByForm_2 : decode cX12_findByForm 2 = .ok (.invokevirtual 436, 3) := by decide +kernel
theorem dX12_findByForm_5 : decode cX12_findByForm 5 = .ok (.istore_n 2, 1) := by decide +kernel
theorem dX12_findByForm_6 : decode cX12_findByForm 6 = .ok (.iload_n 2, 1) := by decide +kernel
theorem dX12_findByForm_12 : decode cX12_findByForm 12 = .ok (.aload_n 0, 1) := by decide +kernel
theorem dX12_findByForm_13 : decode cX12_findByForm 13 = .ok (.invokevirtual 346, 3) := by decide +kernel
theorem dX12_findByForm_16 : decode cX12_findByForm 16 = .ok (.istore_n 3, 1) := by decide +kernel
theorem dX12_findByForm_17 : decode cX12_findByForm 17 = .ok (.aload_n 0, 1) := by decide +kernel
theorem dX12_findByForm_18 : decode cX12_findByForm 18 = .ok (.iload_n 1, 1) := by decide +kernel
theorem dX12_findByForm_19 : decode cX12_findByForm 19 = .ok (.invokevirtual 436, 3) := by decide +kernel
theorem dX12_findByForm_22 : decode cX12_findByForm 22 = .ok (.ireturn, 1) := by decide +kernel
theorem dX12_findByForm_10 : decode cX12_findByForm 10 = .ok (.iload_n 2, 1) := by decide +kernel
theorem dX12_findByForm_11 : decode cX12_findByForm 11 = .ok (.ireturn, 1) := by decide +kernel
theorem dX12_findByForm_7 : decode cX12_findByForm 7 = .ok (.ifCond .lt 5, 3) := by decide +kernel
def wr_237 (c k : Nat) : Bool := Nat.beq c 99 || Nat.beq c 105 || Nat.beq c 109 || Nat.beq c 110 || Nat.beq c 111 || Nat.beq c 113 || Nat.beq c 114 || Nat.beq c 118 || (Nat.beq c 94 && (Nat.beq k 44 || Nat.beq k 45 || Nat.beq k 47 || Nat.beq k 49 || Nat.beq k 50 || Nat.beq k 55 || Nat.beq k 73 || Nat.beq k 84))
theorem ws_187_237 : ∀ c k, wr_187 c k = true → wr_237 c k = true := by
  intro c k h
  simp only [wr_187, wr_237, Bool.or_eq_true, Bool.and_eq_true, Nat.beq_eq] at h ⊢
  omega
theorem ws_224_237 : ∀ c k, wr_224 c k = true → wr_237 c k = true := by
  intro c k h
  simp only [wr_224, wr_237, Bool.or_eq_true, Bool.and_eq_true, Nat.beq_eq] at h ⊢
  omega
theorem g_237_0 {X : Nat × (Nat → Int32)} {m : Nat → Nat → Int32} {P : Option ma_V → (Nat → Nat → Int32) → Prop} (n : Int32) (h : zm X 3 69 224 0 [(0, .inr (.inr (some 94))), (1, .inl n)] m (zmi (fun v2 m1 => if v2 < 0 then (zm X 4 88 187 0 [(0, .inr (.inr (some 94)))] m1 (zmi (fun v4 m3 => zm X 3 69 224 0 [(0, .inr (.inr (some 94))), (1, .inl n)] m3 (zmi (fun v6 m5 => P (some (.inl v6)) m5))))) else (P (some (.inl v2)) m1)))) : zm X 5 108 237 0 [(0, .inr (.inr (some 94))), (1, .inl n)] m P := by
  intro d w S Q hd hw hS hm HQ
  subst hm
  refine zw_push hm_237 dX12_findByForm_0 (v := .inr (.inr (some 94))) rfl ?_
  refine zw_push hm_237 dX12_findByForm_1 (v := .inl n) rfl ?_
  refine zw_cv hm_237 dX12_findByForm_2 v_12_436_12 hm_224 [.inl n] [] rfl (zT_rt hS s_94 rfl) ⟨by omega, by omega⟩ rfl (h _ _ S _ (by omega) (by omega) hS rfl (fun o9 m1 hv => ?_))
  obtain ⟨v2, rfl, h⟩ := zmi_of hv
  show ma_wp X d w 237 5 [(0, .inr (.inr (some 94))), (1, .inl n)] [.inl v2] (zst S m1) _
  refine zw_sto hm_237 dX12_findByForm_5 [(2, .inl v2), (0, .inr (.inr (some 94))), (1, .inl n)] rfl rfl rfl ?_
  refine zw_push hm_237 dX12_findByForm_6 (v := .inl v2) rfl ?_
  refine zw_if0 hm_237 dX12_findByForm_7 (t := 12) rfl zc0_lt ?_ ?_
  · intro hc
    rw [if_pos hc] at h
    refine zw_push hm_237 dX12_findByForm_12 (v := .inr (.inr (some 94))) rfl ?_
    refine zw_cv hm_237 dX12_findByForm_13 v_12_346_12 hm_187 [] [] rfl (zT_rt (zT_zst hS m1) s_94 rfl) ⟨by omega, by omega⟩ rfl (h _ _ (zst S m1) _ (by omega) (by omega) (zT_zst hS m1) rfl (fun o9 m3 hv => ?_))
    obtain ⟨v4, rfl, h⟩ := zmi_of hv
    show ma_wp X d w 237 16 [(2, .inl v2), (0, .inr (.inr (some 94))), (1, .inl n)] [.inl v4] (zst S m3) _
    refine zw_sto hm_237 dX12_findByForm_16 [(3, .inl v4), (2, .inl v2), (0, .inr (.inr (some 94))), (1, .inl n)] rfl rfl rfl ?_
    refine zw_push hm_237 dX12_findByForm_17 (v := .inr (.inr (some 94))) rfl ?_
    refine zw_push hm_237 dX12_findByForm_18 (v := .inl n) rfl ?_
    refine zw_cv hm_237 dX12_findByForm_19 v_12_436_12 hm_224 [.inl n] [] rfl (zT_rt (zT_zst hS m3) s_94 rfl) ⟨by omega, by omega⟩ rfl (h _ _ (zst S m3) _ (by omega) (by omega) (zT_zst hS m3) rfl (fun o9 m5 hv => ?_))
    obtain ⟨v6, rfl, h⟩ := zmi_of hv
    show ma_wp X d w 237 22 [(3, .inl v4), (2, .inl v2), (0, .inr (.inr (some 94))), (1, .inl n)] [.inl v6] (zst S m5) _
    exact zw_iret hm_237 dX12_findByForm_22 (HQ _ _ h)
  · intro hc
    rw [if_neg hc] at h
    refine zw_push hm_237 dX12_findByForm_10 (v := .inl v2) rfl ?_
    exact zw_iret hm_237 dX12_findByForm_11 (HQ _ _ h)
theorem sp_237 {X : Nat × (Nat → Int32)} {P : Option ma_V → (Nat → Nat → Int32) → Prop} {T : Nat} {m : Nat → Nat → Int32} (n : Int32) (hV : zV m) (r_W : zW (m 94 7) (m 98) (m 101) (m 102) (m 108)) (r_GW : zGW T (m 94 55) (m 109)) (r_GU : zGU T (m 94 46) (m 99)) (r_OW : zOw (m 99) (m 103) (m 111)) (r_DX : zDX (m 94 10) (m 99) (m 112) (m 113) (m 114) (m 94 55) (m 98) (m 101) (m 102) (m 108)) (KZ : ∀ v m', zV (zov wr_237 m m') → (zGW T (m' 94 55) (m' 109)) → (zGU T (m 94 46) (m' 99)) → (zOw (m' 99) (m 103) (m' 111)) → (zDX (m 94 10) (m' 99) (m 112) (m' 113) (m' 114) (m' 94 55) (m 98) (m 101) (m 102) (m 108)) → (-1 ≤ v.toInt ∧ v.toInt ≤ 1500) → P (some (.inl v)) (zov wr_237 m m')) : zm X 5 108 237 0 [(0, .inr (.inr (some 94))), (1, .inl n)] m P := by
  have K : ∀ v m', zF wr_237 m m' → zV m' → (zGW T (m' 94 55) (m' 109)) → (zGU T (m' 94 46) (m' 99)) → (zOw (m' 99) (m' 103) (m' 111)) → (zDX (m' 94 10) (m' 99) (m' 112) (m' 113) (m' 114) (m' 94 55) (m' 98) (m' 101) (m' 102) (m' 108)) → (-1 ≤ v.toInt ∧ v.toInt ≤ 1500) → P (some (.inl v)) m' := by
    intro v m' hf z q0 q1 q2 q3 q4
    have e := zov_eq hf
    rw [e] at z ⊢
    try rw [e] at q0
    try rw [e] at q1
    try rw [e] at q2
    try rw [e] at q3
    try rw [e] at q4
    exact KZ v m' z q0 q1 q2 q3 q4
  refine g_237_0 n ?_
  have b1 := i_bd n
  refine sp_224 (n) hV  (fun v2 m1 hV_m1 p0_m1 => zmi_n ?_)
  have p0_m1 : -1 ≤ v2.toInt ∧ v2.toInt ≤ 1500 := p0_m1
  have b2 := i_bd v2
  have li3 : (0 : Int32).toInt = 0 := rfl
  refine zd (fun (h4 : v2 < (0 : Int32)) => ?_) (fun (h4 : ¬ v2 < (0 : Int32)) => ?_)
  · skip
    have g5 := i_lt h4
    refine sp_187  hV_m1 r_W r_GW r_GU r_OW r_DX (fun v4 m3 hV_m3 p0_m3 p1_m3 p2_m3 p3_m3 p4_m3 => zmi_n ?_)
    have p0_m3 : zGW T (m3 94 55) (m3 109) := p0_m3
    have p1_m3 : zGU T (m 94 46) (m3 99) := p1_m3
    have p2_m3 : zOw (m3 99) (m 103) (m3 111) := p2_m3
    have p3_m3 : zDX (m 94 10) (m3 99) (m 112) (m3 113) (m3 114) (m3 94 55) (m 98) (m 101) (m 102) (m 108) := p3_m3
    have p4_m3 : zsw (m 99) (m3 99) (m 111) (m3 111) (m 103) := p4_m3
    refine sp_224 (n) hV_m3  (fun v6 m5 hV_m5 p0_m5 => zmi_n ?_)
    have p0_m5 : -1 ≤ v6.toInt ∧ v6.toInt ≤ 1500 := p0_m5
    have b6 := i_bd v6
    exact K (v6) _ (zF_zov (zF_zov (zF_zov zF_rfl ws_224_237) ws_187_237) ws_224_237) hV_m5 p0_m3 p1_m3 p2_m3 p3_m3 (show -1 ≤ v6.toInt ∧ v6.toInt ≤ 1500 from by omega)
  · skip
    have g7 := i_nlt h4
    exact K (v2) _ (zF_zov zF_rfl ws_224_237) hV_m1 r_GW r_GU r_OW r_DX (show -1 ≤ v2.toInt ∧ v2.toInt ≤ 1500 from by omega)
