/-! from 94.419 -/
/-! the reference (written by wip/tools/gen94m.py) -/
set_option maxRecDepth 100000 in
theorem hm_187 : ma_md 187 = some (12, yX12_sweep, cX12_sweep, 1, (some (FieldType.int))) := rfl
theorem f_12_249_12 : ma_fld 12 249 12 = some 47 := by decide +kernel
theorem p_12_249_12 : ma_pk 12 249 12 47 = true := by decide +kernel
theorem v_12_311_12 : ma_vl 12 311 12 = some (1, 188, 0) := by decide +kernel
theorem v_12_336_12 : ma_vl 12 336 12 = some (1, 194, 0) := by decide +kernel
theorem v_12_339_12 : ma_vl 12 339 12 = some (1, 199, 0) := by decide +kernel
theorem v_12_342_12 : ma_vl 12 342 12 = some (1, 200, 0) := by decide +kernel
theorem dX12_sweep_0 : decode cX12_sweep 0 = .ok (.aload_n 0, 1) := by decide +kernel
theorem dX12_sweep_1 : decode cX12_sweep 1 = .ok (.dup, 1) := by decide +kernel
theorem dX12_sweep_5 : decode cX12_sweep 5 = .ok (.iconst 1, 1) := by decide +kernel
theorem dX12_sweep_6 : decode cX12_sweep 6 = .ok (.iadd, 1) := by decide +kernel
theorem dX12_sweep_10 : decode cX12_sweep 10 = .ok (.aload_n 0, 1) := by decide +kernel
theorem dX12_sweep_11 : decode cX12_sweep 11 = .ok (.invokevirtual 311, 3) := by decide +kernel
theorem dX12_sweep_14 : decode cX12_sweep 14 = .ok (.aload_n 0, 1) := by decide +kernel
theorem dX12_sweep_15 : decode cX12_sweep 15 = .ok (.invokevirtual 336, 3) := by decide +kernel
theorem dX12_sweep_18 : decode cX12_sweep 18 = .ok (.aload_n 0, 1) := by decide +kernel
theorem dX12_sweep_19 : decode cX12_sweep 19 = .ok (.invokevirtual 339, 3) := by decide +kernel
theorem dX12_sweep_22 : decode cX12_sweep 22 = .ok (.aload_n 0, 1) := by decide +kernel
theorem dX12_sweep_23 : decode cX12_sweep 23 = .ok (.invokevirtual 342, 3) := by decide +kernel
theorem dX12_sweep_26 : decode cX12_sweep 26 = .ok (.ireturn, 1) := by decide +kernel
theorem dX12_sweep_7 : decode cX12_sweep 7 = .ok (.putfield 249, 3) := by decide +kernel
theorem dX12_sweep_2 : decode cX12_sweep 2 = .ok (.getfield 249, 3) := by decide +kernel
def wr_187 (c k : Nat) : Bool := Nat.beq c 99 || Nat.beq c 105 || Nat.beq c 109 || Nat.beq c 110 || Nat.beq c 111 || Nat.beq c 113 || Nat.beq c 114 || Nat.beq c 118 || (Nat.beq c 94 && (Nat.beq k 44 || Nat.beq k 45 || Nat.beq k 47 || Nat.beq k 49 || Nat.beq k 55 || Nat.beq k 73))
theorem ws_188_187 : ∀ c k, wr_188 c k = true → wr_187 c k = true := by
  intro c k h
  simp only [wr_188, wr_187, Bool.or_eq_true, Bool.and_eq_true, Nat.beq_eq] at h ⊢
  omega
theorem ws_194_187 : ∀ c k, wr_194 c k = true → wr_187 c k = true := by
  intro c k h
  simp only [wr_194, wr_187, Bool.or_eq_true, Bool.and_eq_true, Nat.beq_eq] at h ⊢
  omega
theorem ws_199_187 : ∀ c k, wr_199 c k = true → wr_187 c k = true := by
  intro c k h
  simp only [wr_199, wr_187, Bool.or_eq_true, Bool.and_eq_true, Nat.beq_eq] at h ⊢
  omega
theorem ws_200_187 : ∀ c k, wr_200 c k = true → wr_187 c k = true := by
  intro c k h
  simp only [wr_200, wr_187, Bool.or_eq_true, Bool.and_eq_true, Nat.beq_eq] at h ⊢
  omega
theorem g_187_0 {X : Nat × (Nat → Int32)} {m : Nat → Nat → Int32} {P : Option ma_V → (Nat → Nat → Int32) → Prop}  (h : zm X 3 66 188 0 [(0, .inr (.inr (some 94)))] (ma_u m 94 47 ((m 94 47) + (1 : Int32))) (zmv (fun m1 => zm X 3 66 194 0 [(0, .inr (.inr (some 94)))] m1 (zmv (fun m3 => zm X 0 0 199 0 [(0, .inr (.inr (some 94)))] m3 (zmv (fun m5 => zm X 2 44 200 0 [(0, .inr (.inr (some 94)))] m5 (zmi (fun v8 m7 => P (some (.inl v8)) m7))))))))) : zm X 4 88 187 0 [(0, .inr (.inr (some 94)))] m P := by
  intro d w S Q hd hw hS hm HQ
  subst hm
  refine zw_push hm_187 dX12_sweep_0 (v := .inr (.inr (some 94))) rfl ?_
  refine zw_stk hm_187 dX12_sweep_1 (st₉ := [.inr (.inr (some 94)), .inr (.inr (some 94))]) rfl rfl ?_
  refine zw_gf hm_187 dX12_sweep_2 (v := .inl ((mI S) 94 47)) (zT_is hS s_94) (zT_t hS s_94) rfl f_12_249_12 rfl ?_
  refine zw_push hm_187 dX12_sweep_5 (v := .inl (1 : Int32)) rfl ?_
  refine zw_stk hm_187 dX12_sweep_6 (st₉ := [.inl (((mI S) 94 47) + (1 : Int32)), .inr (.inr (some 94))]) rfl rfl ?_
  refine zw_pf hm_187 dX12_sweep_7 (zT_is hS s_94) (zT_t hS s_94) p_12_249_12 zk_int ?_
  refine zw_push hm_187 dX12_sweep_10 (v := .inr (.inr (some 94))) rfl ?_
  refine zw_cv hm_187 dX12_sweep_11 v_12_311_12 hm_188 [] [] rfl (zT_rt (zT_pi hS) s_94 rfl) ⟨by omega, by omega⟩ rfl (h _ _ (ma_put S 94 47 (.inl (((mI S) 94 47) + (1 : Int32)))) _ (by omega) (by omega) (zT_pi hS) rfl (fun o9 m1 hv => ?_))
  obtain ⟨rfl, h⟩ := zmv_of hv
  show ma_wp X d w 187 14 [(0, .inr (.inr (some 94)))] [] (zst S m1) _
  refine zw_push hm_187 dX12_sweep_14 (v := .inr (.inr (some 94))) rfl ?_
  refine zw_cv hm_187 dX12_sweep_15 v_12_336_12 hm_194 [] [] rfl (zT_rt (zT_zst hS m1) s_94 rfl) ⟨by omega, by omega⟩ rfl (h _ _ (zst S m1) _ (by omega) (by omega) (zT_zst hS m1) rfl (fun o9 m3 hv => ?_))
  obtain ⟨rfl, h⟩ := zmv_of hv
  show ma_wp X d w 187 18 [(0, .inr (.inr (some 94)))] [] (zst S m3) _
  refine zw_push hm_187 dX12_sweep_18 (v := .inr (.inr (some 94))) rfl ?_
  refine zw_cv hm_187 dX12_sweep_19 v_12_339_12 hm_199 [] [] rfl (zT_rt (zT_zst hS m3) s_94 rfl) ⟨by omega, by omega⟩ rfl (h _ _ (zst S m3) _ (by omega) (by omega) (zT_zst hS m3) rfl (fun o9 m5 hv => ?_))
  obtain ⟨rfl, h⟩ := zmv_of hv
  show ma_wp X d w 187 22 [(0, .inr (.inr (some 94)))] [] (zst S m5) _
  refine zw_push hm_187 dX12_sweep_22 (v := .inr (.inr (some 94))) rfl ?_
  refine zw_cv hm_187 dX12_sweep_23 v_12_342_12 hm_200 [] [] rfl (zT_rt (zT_zst hS m5) s_94 rfl) ⟨by omega, by omega⟩ rfl (h _ _ (zst S m5) _ (by omega) (by omega) (zT_zst hS m5) rfl (fun o9 m7 hv => ?_))
  obtain ⟨v8, rfl, h⟩ := zmi_of hv
  show ma_wp X d w 187 26 [(0, .inr (.inr (some 94)))] [.inl v8] (zst S m7) _
  exact zw_iret hm_187 dX12_sweep_26 (HQ _ _ h)
theorem sp_187 {X : Nat × (Nat → Int32)} {P : Option ma_V → (Nat → Nat → Int32) → Prop} {T : Nat} {m : Nat → Nat → Int32}  (hV : zV m) (r_W : zW (m 94 7) (m 98) (m 101) (m 102) (m 108)) (r_GW : zGW T (m 94 55) (m 109)) (r_GU : zGU T (m 94 46) (m 99)) (r_OW : zOw (m 99) (m 103) (m 111)) (r_DX : zDX (m 94 10) (m 99) (m 112) (m 113) (m 114) (m 94 55) (m 98) (m 101) (m 102) (m 108)) (KZ : ∀ v m₉, zV (zov wr_187 m m₉) → (zGW T (m₉ 94 55) (m₉ 109)) → (zGU T (m 94 46) (m₉ 99)) → (zOw (m₉ 99) (m 103) (m₉ 111)) → (zDX (m 94 10) (m₉ 99) (m 112) (m₉ 113) (m₉ 114) (m₉ 94 55) (m 98) (m 101) (m 102) (m 108)) → (zsw (m 99) (m₉ 99) (m 111) (m₉ 111) (m 103)) → P (some (.inl v)) (zov wr_187 m m₉)) : zm X 4 88 187 0 [(0, .inr (.inr (some 94)))] m P := by
  have K : ∀ v m₉, zF wr_187 m m₉ → zV m₉ → (zGW T (m₉ 94 55) (m₉ 109)) → (zGU T (m₉ 94 46) (m₉ 99)) → (zOw (m₉ 99) (m₉ 103) (m₉ 111)) → (zDX (m₉ 94 10) (m₉ 99) (m₉ 112) (m₉ 113) (m₉ 114) (m₉ 94 55) (m₉ 98) (m₉ 101) (m₉ 102) (m₉ 108)) → (zsw (m 99) (m₉ 99) (m 111) (m₉ 111) (m₉ 103)) → P (some (.inl v)) m₉ := by
    intro v m₉ hf z q0 q1 q2 q3 q4
    have e := zov_eq hf
    rw [e] at z ⊢
    try rw [e] at q0
    try rw [e] at q1
    try rw [e] at q2
    try rw [e] at q3
    try rw [e] at q4
    exact KZ v m₉ z q0 q1 q2 q3 q4
  refine g_187_0  ?_
  have hV1 : zV (ma_u m 94 47 ((m 94 47) + (1 : Int32))) := uf_94_47 hV
  refine sp_188  hV1 r_W r_DX (fun m1 hV_m1 p0_m1 p1_m1 p2_m1 p3_m1 p4_m1 => zmv_n ?_)
  have p0_m1 : (m1 94 73).toInt = 0 := p0_m1
  have p1_m1 : ((m 94 10).toInt = 2 ∨ (m 94 10).toInt = 3) → zCL (m1 110) (m 98) (m 101) (m 102) (m 108) (m1 118) (m1 94 73) 3100 0 := p1_m1
  have p2_m1 : zKU (m 94 10) (m 99) (m1 110) := p2_m1
  have p3_m1 : ((m 94 10).toInt = 2 ∨ (m 94 10).toInt = 3) → zcov (m1 110) (m 112) 16 := p3_m1
  have p4_m1 : ((m 94 10).toInt = 2 ∨ (m 94 10).toInt = 3) → zcov (m1 110) (m 114) (m 94 55).toInt := p4_m1
  have f2 : 0 ≤ (m1 94 73).toInt ∧ (m1 94 73).toInt ≤ 3100 := rs_94_73 (m := (zov wr_188 (ma_u m 94 47 ((m 94 47) + (1 : Int32))) m1)) hV_m1
  refine sp_194  hV_m1 (show (m1 94 73).toInt = 0 from by omega) r_W r_GW p1_m1 p2_m1 r_DX p3_m1 p4_m1 (fun m3 hV_m3 p0_m3 p1_m3 p2_m3 p3_m3 p4_m3 p5_m3 p6_m3 p7_m3 => zmv_n ?_)
  have p0_m3 : (m3 94 73).toInt = 0 := p0_m3
  have p1_m3 : zGW T (m3 94 55) (m3 109) := p1_m3
  have p2_m3 : ((m 94 10).toInt = 2 ∨ (m 94 10).toInt = 3) → zCL (m3 110) (m 98) (m 101) (m 102) (m 108) (m3 118) (m3 94 73) 3100 0 := p2_m3
  have p3_m3 : zKU (m 94 10) (m 99) (m3 110) := p3_m3
  have p4_m3 : zDX (m 94 10) (m 99) (m 112) (m3 113) (m3 114) (m3 94 55) (m 98) (m 101) (m 102) (m 108) := p4_m3
  have p5_m3 : ((m 94 10).toInt = 2 ∨ (m 94 10).toInt = 3) → zcov (m3 110) (m 112) 16 := p5_m3
  have p6_m3 : ((m 94 10).toInt = 2 ∨ (m 94 10).toInt = 3) → zcov (m3 110) (m3 114) (m3 94 55).toInt := p6_m3
  have p7_m3 : zuw (m 113) (m3 113) := p7_m3
  have f3 : 0 ≤ (m3 94 73).toInt ∧ (m3 94 73).toInt ≤ 3100 := rs_94_73 (m := (zov wr_194 (zov wr_188 (ma_u m 94 47 ((m 94 47) + (1 : Int32))) m1) m3)) hV_m3
  refine sp_199  hV_m3  (fun m5 hV_m5 p0_m5 p1_m5 => zmv_n ?_)
  have p0_m5 : zuw (m3 113) (m5 113) := p0_m5
  have p1_m5 : zcov (m3 110) (m5 113) 16 := p1_m5
  refine sp_200  hV_m5 r_W r_GU r_OW (fun v8 m7 hV_m7 p0_m7 p1_m7 p2_m7 p3_m7 => zmi_n ?_)
  have p0_m7 : zrm (m 99) (m7 99) (m3 110) 3100 := p0_m7
  have p1_m7 : zowr (m 111) (m7 111) (m 99) (m3 110) (m 103) := p1_m7
  have p2_m7 : zGU T (m 94 46) (m7 99) := p2_m7
  have p3_m7 : zOw (m7 99) (m 103) (m7 111) := p3_m7
  have b4 := i_bd v8
  exact K (v8) _ (zF_zov (zF_zov (zF_zov (zF_zov (zF_u zF_rfl rfl) ws_188_187) ws_194_187) ws_199_187) ws_200_187) hV_m7 p1_m3 p2_m7 p3_m7 (show zDX (m 94 10) (m7 99) (m 112) (m5 113) (m3 114) (m3 94 55) (m 98) (m 101) (m 102) (m 108) from by first | (exact fun hp => DX_sweep (p2_m3 hp) (by omega) (p5_m3 hp) (p6_m3 hp) p1_m5 p3_m3 p0_m7 (fun k hk => (ra_112 hV_m7 (by omega)).2) (fun k hk => (ra_114 hV_m7 (by have := GW_room p1_m3; omega)).2) (fun k hk => (ra_113 hV_m7 (by omega)).2) (W_hi r_W) hp) | (exfalso; omega; done) | (exfalso; contradiction; done)) (show zsw (m 99) (m7 99) (m 111) (m7 111) (m 103) from by first | (exact sw_of p0_m7 p1_m7) | (exfalso; omega; done) | (exfalso; contradiction; done))

/-! from 94.420 -/
/-! marking in steps -/
def zG1 (gm ga : Int32) (co : Nat → Int32) : Prop := ga.toInt ≤ gm.toInt ∧ gm.toInt ≤ (cnt co 3100 : Int)
def zGG (im gm ga : Int32) (co : Nat → Int32) : Prop := im.toInt ≠ 0 → zG1 gm ga co
def zfm (im ga gm : Int32) : Nat := if im.toInt = 0 then 0 else 1 + 2 * (3100 - ga.toInt).toNat + (if ga.toInt < gm.toInt then 0 else 1)
section GG1
variable {m : Nat → Nat → Int32} {c k : Nat} {gm gm₉ ga ga₉ x im im₉ : Int32} {r : Nat → Int32}
theorem G1_push (h : zG1 gm ga (m c)) (h0 : m c k = 0) (hk : k < 3100) (hx : x ≠ 0) (hy : gm₉.toInt = gm.toInt + 1) : zG1 gm₉ ga (ma_u m c k x c) := by
  have := cnt_up (x := x) hk h0 hx
  exact ⟨by have := h.1; omega, by have := h.2; omega⟩
theorem G1_room (h : zG1 gm ga r) (h0 : r k = 0) (hk : k < 3100) : gm.toInt < 3100 := by
  have := cnt_lt hk h0
  have := h.2
  omega
theorem G1_dark (h : zG1 gm ga (m c)) (hx : x ≠ 0) (hy : ga₉.toInt ≤ gm.toInt) : zG1 gm ga₉ (ma_u m c k x c) := by
  have := cnt_u1 (m := m) (c := c) (k := k) (n := 3100) hx
  exact ⟨hy, by have := h.2; omega⟩
theorem G1_dark0 (h : zG1 gm ga (m c)) (hx : x ≠ 0) : zG1 gm ga (ma_u m c k x c) := G1_dark h hx h.1
theorem G1_0 (h : gm.toInt = 0) (h₉ : ga.toInt = 0) : zG1 gm ga r := ⟨by omega, by omega⟩
theorem zfm_lt (him : im.toInt ≠ 0) (hle : ga.toInt ≤ gm.toInt) (h0 : 0 ≤ ga.toInt) (h : im₉.toInt = 0 ∨ (ga₉.toInt < gm₉.toInt ∧ gm₉.toInt ≤ 3100 ∧ (ga.toInt < gm.toInt → ga.toInt < ga₉.toInt) ∧ ga.toInt ≤ ga₉.toInt)) : zfm im₉ ga₉ gm₉ < zfm im ga gm := by
  unfold zfm
  rw [if_neg him]
  rcases h with e | ⟨e1, e2, e3, e4⟩
  · rw [if_pos e]; omega
  · split
    · omega
    · (try rw [if_pos e1])
      split <;> omega
end GG1

