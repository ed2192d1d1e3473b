/-! the reference (written by wip/tools/gen94m.py) -/
set_option maxRecDepth 100000 in
theorem hm_211 : ma_md 211 = some (12, yX12_major, cX12_major, 2, (some (FieldType.int))) := rfl
theorem v_12_378_12 : ma_vl 12 378 12 = some (1, 212, 0) := by decide +kernel
theorem dX12_major_0 : decode cX12_major 0 = .ok (.aload_n 0, 1) := by decide +kernel
theorem dX12_major_1 : decode cX12_major 1 = .ok (.invokevirtual 346, 3) := by decide +kernel
theorem dX12_major_4 : decode cX12_major 4 = .ok (.istore_n 1, 1) := by decide +kernel
theorem dX12_major_5 : decode cX12_major 5 = .ok (.aload_n 0, 1) := by decide +kernel
theorem dX12_major_6 : decode cX12_major 6 = .ok (.aload_n 0, 1) := by decide +kernel
theorem dX12_major_7 : decode cX12_major 7 = .ok (.aload_n 0, 1) := by decide +kernel
theorem dX12_major_11 : decode cX12_major 11 = .ok (.invokevirtual 349, 3) := by decide +kernel
theorem dX12_major_17 : decode cX12_major 17 = .ok (.aload_n 0, 1) := by decide +kernel
theorem dX12_major_18 : decode cX12_major 18 = .ok (.invokevirtual 378, 3) := by decide +kernel
theorem dX12_major_21 : decode cX12_major 21 = .ok (.iload_n 1, 1) := by decide +kernel
theorem dX12_major_22 : decode cX12_major 22 = .ok (.ireturn, 1) := by decide +kernel
theorem dX12_major_14 : decode cX12_major 14 = .ok (.putfield 279, 3) := by decide +kernel
theorem dX12_major_8 : decode cX12_major 8 = .ok (.getfield 210, 3) := by decide +kernel
def wr_211 (c k : Nat) : Bool := Nat.beq c 99 || Nat.beq c 103 || Nat.beq c 105 || Nat.beq c 109 || Nat.beq c 110 || Nat.beq c 111 || Nat.beq c 113 || Nat.beq c 114 || Nat.beq c 117 || Nat.beq c 118 || (Nat.beq c 94 && (Nat.beq k 44 || Nat.beq k 45 || Nat.beq k 47 || Nat.beq k 48 || Nat.beq k 49 || Nat.beq k 55 || Nat.beq k 60 || Nat.beq k 73))
theorem ws_187_211 : ∀ c k, wr_187 c k = true → wr_211 c k = true := by
  intro c k h
  simp only [wr_187, wr_211, Bool.or_eq_true, Bool.and_eq_true, Nat.beq_eq] at h ⊢
  omega
theorem ws_204_211 : ∀ c k, wr_204 c k = true → wr_211 c k = true := by
  intro c k h
  simp only [wr_204, wr_211, Bool.or_eq_true, Bool.and_eq_true, Nat.beq_eq] at h ⊢
  omega
theorem ws_212_211 : ∀ c k, wr_212 c k = true → wr_211 c k = true := by
  intro c k h
  simp only [wr_212, wr_211, Bool.or_eq_true, Bool.and_eq_true, Nat.beq_eq] at h ⊢
  omega
theorem g_211_0 {X : Nat × (Nat → Int32)} {m : Nat → Nat → Int32} {P : Option ma_V → (Nat → Nat → Int32) → Prop}  (h : zm X 4 88 187 0 [(0, .inr (.inr (some 94)))] m (zmi (fun v2 m1 => zm X 2 43 204 0 [(0, .inr (.inr (some 94))), (1, .inl (m1 94 14))] m1 (zmi (fun v4 m3 => zm X 2 44 212 0 [(0, .inr (.inr (some 94)))] (ma_u m3 94 60 v4) (zmv (fun m5 => P (some (.inl v2)) m5))))))) : zm X 5 108 211 0 [(0, .inr (.inr (some 94)))] m P := by
  intro d w S Q hd hw hS hm HQ
  subst hm
  refine zw_push hm_211 dX12_major_0 (v := .inr (.inr (some 94))) rfl ?_
  refine zw_cv hm_211 dX12_major_1 v_12_346_12 hm_187 [] [] rfl (zT_rt hS s_94 rfl) ⟨by omega, by omega⟩ rfl (h _ _ S _ (by omega) (by omega) hS rfl (fun o9 m1 hv => ?_))
  obtain ⟨v2, rfl, h⟩ := zmi_of hv
  show ma_wp X d w 211 4 [(0, .inr (.inr (some 94)))] [.inl v2] (zst S m1) _
  refine zw_sto hm_211 dX12_major_4 [(1, .inl v2), (0, .inr (.inr (some 94)))] rfl rfl rfl ?_
  refine zw_push hm_211 dX12_major_5 (v := .inr (.inr (some 94))) rfl ?_
  refine zw_push hm_211 dX12_major_6 (v := .inr (.inr (some 94))) rfl ?_
  refine zw_push hm_211 dX12_major_7 (v := .inr (.inr (some 94))) rfl ?_
  refine zw_gf hm_211 dX12_major_8 (v := .inl (m1 94 14)) (zT_is (zT_zst hS m1) s_94) (zT_t (zT_zst hS m1) s_94) rfl f_12_210_12 rfl ?_
  refine zw_cv hm_211 dX12_major_11 v_12_349_12 hm_204 [.inl (m1 94 14)] [.inr (.inr (some 94))] rfl (zT_rt (zT_zst hS m1) s_94 rfl) ⟨by omega, by omega⟩ rfl (h _ _ (zst S m1) _ (by omega) (by omega) (zT_zst hS m1) rfl (fun o9 m3 hv => ?_))
  obtain ⟨v4, rfl, h⟩ := zmi_of hv
  show ma_wp X d w 211 14 [(1, .inl v2), (0, .inr (.inr (some 94)))] [.inl v4, .inr (.inr (some 94))] (zst S m3) _
  refine zw_pf hm_211 dX12_major_14 (zT_is (zT_zst hS m3) s_94) (zT_t (zT_zst hS m3) s_94) p_12_279_12 zk_int ?_
  refine zw_push hm_211 dX12_major_17 (v := .inr (.inr (some 94))) rfl ?_
  refine zw_cv hm_211 dX12_major_18 v_12_378_12 hm_212 [] [] rfl (zT_rt (zT_pi (zT_zst hS m3)) s_94 rfl) ⟨by omega, by omega⟩ rfl (h _ _ (ma_put (zst S m3) 94 60 (.inl v4)) _ (by omega) (by omega) (zT_pi (zT_zst hS m3)) rfl (fun o9 m5 hv => ?_))
  obtain ⟨rfl, h⟩ := zmv_of hv
  show ma_wp X d w 211 21 [(1, .inl v2), (0, .inr (.inr (some 94)))] [] (zst S m5) _
  refine zw_push hm_211 dX12_major_21 (v := .inl v2) rfl ?_
  exact zw_iret hm_211 dX12_major_22 (HQ _ _ h)
theorem sp_211 {X : Nat × (Nat → Int32)} {P : Option ma_V → (Nat → Nat → Int32) → Prop} {T : Nat} {m : Nat → Nat → Int32}  (hV : zV m) (r_W : zW (m 94 7) (m 98) (m 101) (m 102) (m 108)) (r_GW : zGW T (m 94 55) (m 109)) (r_GU : zGU T (m 94 46) (m 99)) (r_OW : zOw (m 99) (m 103) (m 111)) (r_DX : zDX (m 94 10) (m 99) (m 112) (m 113) (m 114) (m 94 55) (m 98) (m 101) (m 102) (m 108)) (r_HA : zHA (m 94 10) (m 94 11) (m 94 13) (m 94 14) (m 94 16) (m 94 61) (m 94 59) (m 94 60) (m 99) (m 102) (m 103) (m 111) (m 117) (m 98) (m 101) (m 108)) (hpre6 : (m 94 10).toInt = 3) (KZ : ∀ v m', zV (zov wr_211 m m') → (zGW T (m' 94 55) (m' 109)) → (zGU T (m 94 46) (m' 99)) → (zOw (m' 99) (m' 103) (m' 111)) → (zDX (m 94 10) (m' 99) (m 112) (m' 113) (m' 114) (m' 94 55) (m 98) (m 101) (m 102) (m 108)) → (zHA (m 94 10) (m 94 11) (m 94 13) (m 94 14) (m 94 16) (m 94 61) (m 94 59) (m' 94 60) (m' 99) (m 102) (m' 103) (m' 111) (m' 117) (m 98) (m 101) (m 108)) → P (some (.inl v)) (zov wr_211 m m')) : zm X 5 108 211 0 [(0, .inr (.inr (some 94)))] m P := by
  have K : ∀ v m', zF wr_211 m m' → zV m' → (zGW T (m' 94 55) (m' 109)) → (zGU T (m' 94 46) (m' 99)) → (zOw (m' 99) (m' 103) (m' 111)) → (zDX (m' 94 10) (m' 99) (m' 112) (m' 113) (m' 114) (m' 94 55) (m' 98) (m' 101) (m' 102) (m' 108)) → (zHA (m' 94 10) (m' 94 11) (m' 94 13) (m' 94 14) (m' 94 16) (m' 94 61) (m' 94 59) (m' 94 60) (m' 99) (m' 102) (m' 103) (m' 111) (m' 117) (m' 98) (m' 101) (m' 108)) → P (some (.inl v)) m' := by
    intro v m' hf z q0 q1 q2 q3 q4
    have e := zov_eq hf
    rw [e] at z ⊢
    try rw [e] at q0
    try rw [e] at q1
    try rw [e] at q2
    try rw [e] at q3
    try rw [e] at q4
    exact KZ v m' z q0 q1 q2 q3 q4
  refine g_211_0  ?_
  have f1 : 0 ≤ (m 94 10).toInt ∧ (m 94 10).toInt ≤ 6 := rs_94_10 (m := m) hV
  try have hc4 := (r_HA.2 (by omega)).1
  refine sp_187  hV r_W r_GW r_GU r_OW r_DX (fun v2 m1 hV_m1 p0_m1 p1_m1 p2_m1 p3_m1 p4_m1 => zmi_n ?_)
  have p0_m1 : zGW T (m1 94 55) (m1 109) := p0_m1
  have p1_m1 : zGU T (m 94 46) (m1 99) := p1_m1
  have p2_m1 : zOw (m1 99) (m 103) (m1 111) := p2_m1
  have p3_m1 : zDX (m 94 10) (m1 99) (m 112) (m1 113) (m1 114) (m1 94 55) (m 98) (m 101) (m 102) (m 108) := p3_m1
  have p4_m1 : zsw (m 99) (m1 99) (m 111) (m1 111) (m 103) := p4_m1
  have f2 : 0 ≤ (m 94 14).toInt ∧ (m 94 14).toInt ≤ 1500 := rs_94_14 (m := m) hV
  try have hc4 := (r_HA.2 (by omega)).1
  refine sp_204 (G := True) (E := (m 94 60).toInt) ((m 94 14)) hV_m1 (by omega) (by omega) p2_m1 (show True → 0 ≤ (m 94 60).toInt ∧ zPK (m 94 14).toInt (m 94 60).toInt (m1 99) (m 102) (m 103) (m1 111) from by first | (exact fun _ => ⟨by have := rs_94_60 hV; omega, PK_sub (r_HA.2 (by omega)).2.2.2.1 p4_m1 (fun t ht => ⟨(ra_103 hV ht).1, by have := (ra_103 hV ht).2; omega⟩)⟩) | (exfalso; omega; done) | (exfalso; contradiction; done)) (fun v4 m3 hV_m3 p0_m3 p1_m3 p2_m3 p3_m3 => zmi_n ?_)
  have p0_m3 : zOw (m1 99) (m3 103) (m3 111) := p0_m3
  have p1_m3 : True → v4.toInt ≤ (m 94 60).toInt ∧ zPK (m 94 14).toInt v4.toInt (m1 99) (m 102) (m3 103) (m3 111) := p1_m3
  have p2_m3 : zLO (m 94 14).toInt (m 103) (m3 103) := p2_m3
  have p3_m3 : 0 ≤ v4.toInt ∧ v4.toInt ≤ 1600 := p3_m3
  have b4 := i_bd v4
  have hV3 : zV (ma_u (zov wr_204 (zov wr_187 m m1) m3) 94 60 v4) := us_94_60 hV_m3 (by omega) (by omega)
  try have hc4 := (r_HA.2 (by omega)).1
  have f5 : 0 ≤ (m 94 16).toInt ∧ (m 94 16).toInt ≤ 64 := rs_94_16 (m := m) hV
  refine sp_212  hV3 r_W (show 4 ≤ (m 94 16).toInt from by omega) (fun m5 hV_m5 p0_m5 => zmv_n ?_)
  have p0_m5 : zDC (m 94 14).toInt (m 94 16).toInt (m1 99) (m3 103) (m 102) (m 98) (m 101) (m 108) (m5 117) := p0_m5
  try have hc4 := (r_HA.2 (by omega)).1
  have b6 := i_bd v2
  exact K (v2) _ (zF_zov (zF_u (zF_zov (zF_zov zF_rfl ws_187_211) ws_204_211) rfl) ws_212_211) hV_m5 p0_m1 p1_m1 p0_m3 p3_m1 (show zHA (m 94 10) (m 94 11) (m 94 13) (m 94 14) (m 94 16) (m 94 61) (m 94 59) v4 (m1 99) (m 102) (m3 103) (m3 111) (m5 117) (m 98) (m 101) (m 108) from by first | (exact HA_major r_HA (by omega) p4_m1.1 p2_m3 (fun t ht => (ra_102 hV ht).1) (p1_m3 trivial) p0_m5) | (exfalso; omega; done) | (exfalso; contradiction; done))
