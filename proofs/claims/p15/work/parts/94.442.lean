/-! the reference (written by wip/tools/gen94m.py) -/
set_option maxRecDepth 100000 in
theorem hm_186 : ma_md 186 = some (12, yX12_cleanSlide, cX12_cleanSlide, 2, (some (FieldType.int))) := rfl
theorem p_12_276_12 : ma_pk 12 276 12 59 = true := by decide +kernel
theorem v_12_349_12 : ma_vl 12 349 12 = some (1, 204, 1) := by decide +kernel
theorem dX12_cleanSlide_0 : decode cX12_cleanSlide 0 = .ok (.aload_n 0, 1) := by decide +kernel
theorem dX12_cleanSlide_1 : decode cX12_cleanSlide 1 = .ok (.invokevirtual 346, 3) := by decide +kernel
theorem dX12_cleanSlide_4 : decode cX12_cleanSlide 4 = .ok (.istore_n 1, 1) := by decide +kernel
theorem dX12_cleanSlide_5 : decode cX12_cleanSlide 5 = .ok (.aload_n 0, 1) := by decide +kernel
theorem dX12_cleanSlide_6 : decode cX12_cleanSlide 6 = .ok (.aload_n 0, 1) := by decide +kernel
theorem dX12_cleanSlide_7 : decode cX12_cleanSlide 7 = .ok (.aload_n 0, 1) := by decide +kernel
theorem dX12_cleanSlide_11 : decode cX12_cleanSlide 11 = .ok (.invokevirtual 349, 3) := by decide +kernel
theorem dX12_cleanSlide_17 : decode cX12_cleanSlide 17 = .ok (.iload_n 1, 1) := by decide +kernel
theorem dX12_cleanSlide_18 : decode cX12_cleanSlide 18 = .ok (.ireturn, 1) := by decide +kernel
theorem dX12_cleanSlide_14 : decode cX12_cleanSlide 14 = .ok (.putfield 276, 3) := by decide +kernel
theorem dX12_cleanSlide_8 : decode cX12_cleanSlide 8 = .ok (.getfield 202, 3) := by decide +kernel
def wr_186 (c k : Nat) : Bool := Nat.beq c 99 || Nat.beq c 103 || Nat.beq c 105 || Nat.beq c 109 || Nat.beq c 110 || Nat.beq c 111 || Nat.beq c 113 || Nat.beq c 114 || Nat.beq c 118 || (Nat.beq c 94 && (Nat.beq k 44 || Nat.beq k 45 || Nat.beq k 47 || Nat.beq k 48 || Nat.beq k 49 || Nat.beq k 55 || Nat.beq k 59 || Nat.beq k 73))
theorem ws_187_186 : ∀ c k, wr_187 c k = true → wr_186 c k = true := by
  intro c k h
  simp only [wr_187, wr_186, Bool.or_eq_true, Bool.and_eq_true, Nat.beq_eq] at h ⊢
  omega
theorem ws_204_186 : ∀ c k, wr_204 c k = true → wr_186 c k = true := by
  intro c k h
  simp only [wr_204, wr_186, Bool.or_eq_true, Bool.and_eq_true, Nat.beq_eq] at h ⊢
  omega
theorem g_186_0 {X : Nat × (Nat → Int32)} {m : Nat → Nat → Int32} {P : Option ma_V → (Nat → Nat → Int32) → Prop}  (h : zm X 4 88 187 0 [(0, .inr (.inr (some 94)))] m (zmi (fun v2 m1 => zm X 2 43 204 0 [(0, .inr (.inr (some 94))), (1, .inl (m1 94 11))] m1 (zmi (fun v4 m3 => P (some (.inl v2)) (ma_u m3 94 59 v4)))))) : zm X 5 108 186 0 [(0, .inr (.inr (some 94)))] m P := by
  intro d w S Q hd hw hS hm HQ
  subst hm
  refine zw_push hm_186 dX12_cleanSlide_0 (v := .inr (.inr (some 94))) rfl ?_
  refine zw_cv hm_186 dX12_cleanSlide_1 v_12_346_12 hm_187 [] [] rfl (zT_rt hS s_94 rfl) ⟨by omega, by omega⟩ rfl (h _ _ S _ (by omega) (by omega) hS rfl (fun o9 m1 hv => ?_))
  obtain ⟨v2, rfl, h⟩ := zmi_of hv
  show ma_wp X d w 186 4 [(0, .inr (.inr (some 94)))] [.inl v2] (zst S m1) _
  refine zw_sto hm_186 dX12_cleanSlide_4 [(1, .inl v2), (0, .inr (.inr (some 94)))] rfl rfl rfl ?_
  refine zw_push hm_186 dX12_cleanSlide_5 (v := .inr (.inr (some 94))) rfl ?_
  refine zw_push hm_186 dX12_cleanSlide_6 (v := .inr (.inr (some 94))) rfl ?_
  refine zw_push hm_186 dX12_cleanSlide_7 (v := .inr (.inr (some 94))) rfl ?_
  refine zw_gf hm_186 dX12_cleanSlide_8 (v := .inl (m1 94 11)) (zT_is (zT_zst hS m1) s_94) (zT_t (zT_zst hS m1) s_94) rfl f_12_202_12 rfl ?_
  refine zw_cv hm_186 dX12_cleanSlide_11 v_12_349_12 hm_204 [.inl (m1 94 11)] [.inr (.inr (some 94))] rfl (zT_rt (zT_zst hS m1) s_94 rfl) ⟨by omega, by omega⟩ rfl (h _ _ (zst S m1) _ (by omega) (by omega) (zT_zst hS m1) rfl (fun o9 m3 hv => ?_))
  obtain ⟨v4, rfl, h⟩ := zmi_of hv
  show ma_wp X d w 186 14 [(1, .inl v2), (0, .inr (.inr (some 94)))] [.inl v4, .inr (.inr (some 94))] (zst S m3) _
  refine zw_pf hm_186 dX12_cleanSlide_14 (zT_is (zT_zst hS m3) s_94) (zT_t (zT_zst hS m3) s_94) p_12_276_12 zk_int ?_
  refine zw_push hm_186 dX12_cleanSlide_17 (v := .inl v2) rfl ?_
  exact zw_iret hm_186 dX12_cleanSlide_18 (HQ _ _ h)
theorem sp_186 {X : Nat × (Nat → Int32)} {P : Option ma_V → (Nat → Nat → Int32) → Prop} {T : Nat} {m : Nat → Nat → Int32}  (hV : zV m) (r_W : zW (m 94 7) (m 98) (m 101) (m 102) (m 108)) (r_GW : zGW T (m 94 55) (m 109)) (r_GU : zGU T (m 94 46) (m 99)) (r_OW : zOw (m 99) (m 103) (m 111)) (r_DX : zDX (m 94 10) (m 99) (m 112) (m 113) (m 114) (m 94 55) (m 98) (m 101) (m 102) (m 108)) (KZ : ∀ v m', zV (zov wr_186 m m') → (zGW T (m' 94 55) (m' 109)) → (zGU T (m 94 46) (m' 99)) → (zOw (m' 99) (m' 103) (m' 111)) → (zDX (m 94 10) (m' 99) (m 112) (m' 113) (m' 114) (m' 94 55) (m 98) (m 101) (m 102) (m 108)) → P (some (.inl v)) (zov wr_186 m m')) : zm X 5 108 186 0 [(0, .inr (.inr (some 94)))] m P := by
  have K : ∀ v m', zF wr_186 m m' → zV m' → (zGW T (m' 94 55) (m' 109)) → (zGU T (m' 94 46) (m' 99)) → (zOw (m' 99) (m' 103) (m' 111)) → (zDX (m' 94 10) (m' 99) (m' 112) (m' 113) (m' 114) (m' 94 55) (m' 98) (m' 101) (m' 102) (m' 108)) → P (some (.inl v)) m' := by
    intro v m' hf z q0 q1 q2 q3
    have e := zov_eq hf
    rw [e] at z ⊢
    try rw [e] at q0
    try rw [e] at q1
    try rw [e] at q2
    try rw [e] at q3
    exact KZ v m' z q0 q1 q2 q3
  refine g_186_0  ?_
  refine sp_187  hV r_W r_GW r_GU r_OW r_DX (fun v2 m1 hV_m1 p0_m1 p1_m1 p2_m1 p3_m1 p4_m1 => zmi_n ?_)
  have p0_m1 : zGW T (m1 94 55) (m1 109) := p0_m1
  have p1_m1 : zGU T (m 94 46) (m1 99) := p1_m1
  have p2_m1 : zOw (m1 99) (m 103) (m1 111) := p2_m1
  have p3_m1 : zDX (m 94 10) (m1 99) (m 112) (m1 113) (m1 114) (m1 94 55) (m 98) (m 101) (m 102) (m 108) := p3_m1
  have p4_m1 : zsw (m 99) (m1 99) (m 111) (m1 111) (m 103) := p4_m1
  have f1 : 0 ≤ (m 94 11).toInt ∧ (m 94 11).toInt ≤ 1500 := rs_94_11 (m := m) hV
  refine sp_204 (G := False) (E := 0) ((m 94 11)) hV_m1 (by omega) (by omega) p2_m1 (show False → 0 ≤ 0 ∧ zPK (m 94 11).toInt 0 (m1 99) (m 102) (m 103) (m1 111) from by first | (exact fun g => g.elim) | (exfalso; omega; done) | (exfalso; contradiction; done)) (fun v4 m3 hV_m3 p0_m3 p1_m3 p2_m3 p3_m3 => zmi_n ?_)
  have p0_m3 : zOw (m1 99) (m3 103) (m3 111) := p0_m3
  have p1_m3 : False → v4.toInt ≤ 0 ∧ zPK (m 94 11).toInt v4.toInt (m1 99) (m 102) (m3 103) (m3 111) := p1_m3
  have p2_m3 : zLO (m 94 11).toInt (m 103) (m3 103) := p2_m3
  have p3_m3 : 0 ≤ v4.toInt ∧ v4.toInt ≤ 1600 := p3_m3
  have b3 := i_bd v4
  have hV2 : zV (ma_u (zov wr_204 (zov wr_187 m m1) m3) 94 59 v4) := us_94_59 hV_m3 (by omega) (by omega)
  have b4 := i_bd v2
  exact K (v2) _ (zF_u (zF_zov (zF_zov zF_rfl ws_187_186) ws_204_186) rfl) hV2 p0_m1 p1_m1 p0_m3 p3_m1
