/-! from 94.427 -/
/-! the reference (written by wip/tools/gen94m.py) -/
set_option maxRecDepth 100000 in
theorem hm_237 : ma_md 237 = some (12, yX12_findByForm, cX12_findByForm, 4, (some (FieldType.int))) := rfl
theorem v_12_346_12 : ma_vl 12 346 12 = some (1, 187, 0) := by decide +kernel
theorem dX12_findByForm_0 : decode cX12_findByForm 0 = .ok (.aload_n 0, 1) := by decide +kernel
theorem dX12_findByForm_1 : decode cX12_findByForm 1 = .ok (.iload_n 1, 1) := by decide +kernel
theorem dX12_findByForm_2 : decode cX12_findByForm 2 = .ok (.invokevirtual 436, 3) := by decide +kernel
theorem dX12_findByForm_5 : decode cX12_findByForm 5 = .ok (.istore_n 2, 1) := by decide +kernel
theorem dX12_findByForm_6 : decode cX12_findByForm 6 = .ok (.iload_n 2, 1) := by decide +kernel
theorem dX12_findByForm_12 : decode cX12_findByForm 12 = .ok (.aload_n 0, 1) := by decide +kernel
theorem dX12_findByForm_13 : decode cX12_findByForm 13 = .ok (.invokevirtual 346, 3) := by decide +kernel
theorem dX12_findByForm_16 : decode cX12_findByForm 16 = .ok (.istore_n 3, 1) := by decide +kernel
theorem dX12_findByForm_17 : decode cX12_findByForm 17 = .ok (.aload_n 0, 1) := by decide +kernel
theorem dX12_findByForm_18 : decode cX12_findByForm 18 = .ok (.iload_n 1, 1) := by decide +kernel
theorem dX12_findByForm_19 : decode cX12_findByForm 19 = .ok (.invokevirtual 436, 3) := by decide +kernel
theorem dX12_findByForm_22 : decode cX12_findByForm 22 = .ok (.ireturn, 1) := by decide +kernel
theorem dX12_findByForm_10 : decode cX12_findByForm 10 = .ok (.iload_n 2, 1) := by decide +kernel
theorem dX12_findByForm_11 : decode cX12_findByForm 11 = .ok (.ireturn, 1) := by decide +kernel
theorem dX12_findByForm_7 : decode cX12_findByForm 7 = .ok (.ifCond .lt 5, 3) := by decide +kernel
def wr_237 (c k : Nat) : Bool := Nat.beq c 99 || Nat.beq c 105 || Nat.beq c 109 || Nat.beq c 110 || Nat.beq c 111 || Nat.beq c 113 || Nat.beq c 114 || Nat.beq c 118 || (Nat.beq c 94 && (Nat.beq k 44 || Nat.beq k 45 || Nat.beq k 47 || Nat.beq k 49 || Nat.beq k 50 || Nat.beq k 55 || Nat.beq k 73 || Nat.beq k 84))
theorem ws_187_237 : ∀ c k, wr_187 c k = true → wr_237 c k = true := by
  intro c k h
  simp only [wr_187, wr_237, Bool.or_eq_true, Bool.and_eq_true, Nat.beq_eq] at h ⊢
  omega
theorem ws_224_237 : ∀ c k, wr_224 c k = true → wr_237 c k = true := by
  intro c k h
  simp only [wr_224, wr_237, Bool.or_eq_true, Bool.and_eq_true, Nat.beq_eq] at h ⊢
  omega
theorem g_237_0 {X : Nat × (Nat → Int32)} {m : Nat → Nat → Int32} {P : Option ma_V → (Nat → Nat → Int32) → Prop} (n : Int32) (h : zm X 3 69 224 0 [(0, .inr (.inr (some 94))), (1, .inl n)] m (zmi (fun v2 m1 => if v2 < 0 then (zm X 4 88 187 0 [(0, .inr (.inr (some 94)))] m1 (zmi (fun v4 m3 => zm X 3 69 224 0 [(0, .inr (.inr (some 94))), (1, .inl n)] m3 (zmi (fun v6 m5 => P (some (.inl v6)) m5))))) else (P (some (.inl v2)) m1)))) : zm X 5 108 237 0 [(0, .inr (.inr (some 94))), (1, .inl n)] m P := by
  intro d w S Q hd hw hS hm HQ
  subst hm
  refine zw_push hm_237 dX12_findByForm_0 (v := .inr (.inr (some 94))) rfl ?_
  refine zw_push hm_237 dX12_findByForm_1 (v := .inl n) rfl ?_
  refine zw_cv hm_237 dX12_findByForm_2 v_12_436_12 hm_224 [.inl n] [] rfl (zT_rt hS s_94 rfl) ⟨by omega, by omega⟩ rfl (h _ _ S _ (by omega) (by omega) hS rfl (fun o9 m1 hv => ?_))
  obtain ⟨v2, rfl, h⟩ := zmi_of hv
  show ma_wp X d w 237 5 [(0, .inr (.inr (some 94))), (1, .inl n)] [.inl v2] (zst S m1) _
  refine zw_sto hm_237 dX12_findByForm_5 [(2, .inl v2), (0, .inr (.inr (some 94))), (1, .inl n)] rfl rfl rfl ?_
  refine zw_push hm_237 dX12_findByForm_6 (v := .inl v2) rfl ?_
  refine zw_if0 hm_237 dX12_findByForm_7 (t := 12) rfl zc0_lt ?_ ?_
  · intro hc
    rw [if_pos hc] at h
    refine zw_push hm_237 dX12_findByForm_12 (v := .inr (.inr (some 94))) rfl ?_
    refine zw_cv hm_237 dX12_findByForm_13 v_12_346_12 hm_187 [] [] rfl (zT_rt (zT_zst hS m1) s_94 rfl) ⟨by omega, by omega⟩ rfl (h _ _ (zst S m1) _ (by omega) (by omega) (zT_zst hS m1) rfl (fun o9 m3 hv => ?_))
    obtain ⟨v4, rfl, h⟩ := zmi_of hv
    show ma_wp X d w 237 16 [(2, .inl v2), (0, .inr (.inr (some 94))), (1, .inl n)] [.inl v4] (zst S m3) _
    refine zw_sto hm_237 dX12_findByForm_16 [(3, .inl v4), (2, .inl v2), (0, .inr (.inr (some 94))), (1, .inl n)] rfl rfl rfl ?_
    refine zw_push hm_237 dX12_findByForm_17 (v := .inr (.inr (some 94))) rfl ?_
    refine zw_push hm_237 dX12_findByForm_18 (v := .inl n) rfl ?_
    refine zw_cv hm_237 dX12_findByForm_19 v_12_436_12 hm_224 [.inl n] [] rfl (zT_rt (zT_zst hS m3) s_94 rfl) ⟨by omega, by omega⟩ rfl (h _ _ (zst S m3) _ (by omega) (by omega) (zT_zst hS m3) rfl (fun o9 m5 hv => ?_))
    obtain ⟨v6, rfl, h⟩ := zmi_of hv
    show ma_wp X d w 237 22 [(3, .inl v4), (2, .inl v2), (0, .inr (.inr (some 94))), (1, .inl n)] [.inl v6] (zst S m5) _
    exact zw_iret hm_237 dX12_findByForm_22 (HQ _ _ h)
  · intro hc
    rw [if_neg hc] at h
    refine zw_push hm_237 dX12_findByForm_10 (v := .inl v2) rfl ?_
    exact zw_iret hm_237 dX12_findByForm_11 (HQ _ _ h)
theorem sp_237 {X : Nat × (Nat → Int32)} {P : Option ma_V → (Nat → Nat → Int32) → Prop} {T : Nat} {m : Nat → Nat → Int32} (n : Int32) (hV : zV m) (r_W : zW (m 94 7) (m 98) (m 101) (m 102) (m 108)) (r_GW : zGW T (m 94 55) (m 109)) (r_GU : zGU T (m 94 46) (m 99)) (r_OW : zOw (m 99) (m 103) (m 111)) (r_DX : zDX (m 94 10) (m 99) (m 112) (m 113) (m 114) (m 94 55) (m 98) (m 101) (m 102) (m 108)) (KZ : ∀ v m₉, zV (zov wr_237 m m₉) → (zGW T (m₉ 94 55) (m₉ 109)) → (zGU T (m 94 46) (m₉ 99)) → (zOw (m₉ 99) (m 103) (m₉ 111)) → (zDX (m 94 10) (m₉ 99) (m 112) (m₉ 113) (m₉ 114) (m₉ 94 55) (m 98) (m 101) (m 102) (m 108)) → (-1 ≤ v.toInt ∧ v.toInt ≤ 1500) → P (some (.inl v)) (zov wr_237 m m₉)) : zm X 5 108 237 0 [(0, .inr (.inr (some 94))), (1, .inl n)] m P := by
  have K : ∀ v m₉, zF wr_237 m m₉ → zV m₉ → (zGW T (m₉ 94 55) (m₉ 109)) → (zGU T (m₉ 94 46) (m₉ 99)) → (zOw (m₉ 99) (m₉ 103) (m₉ 111)) → (zDX (m₉ 94 10) (m₉ 99) (m₉ 112) (m₉ 113) (m₉ 114) (m₉ 94 55) (m₉ 98) (m₉ 101) (m₉ 102) (m₉ 108)) → (-1 ≤ v.toInt ∧ v.toInt ≤ 1500) → P (some (.inl v)) m₉ := by
    intro v m₉ hf z q0 q1 q2 q3 q4
    have e := zov_eq hf
    rw [e] at z ⊢
    try rw [e] at q0
    try rw [e] at q1
    try rw [e] at q2
    try rw [e] at q3
    try rw [e] at q4
    exact KZ v m₉ z q0 q1 q2 q3 q4
  refine g_237_0 n ?_
  have b1 := i_bd n
  refine sp_224 (n) hV  (fun v2 m1 hV_m1 p0_m1 => zmi_n ?_)
  have p0_m1 : -1 ≤ v2.toInt ∧ v2.toInt ≤ 1500 := p0_m1
  have b2 := i_bd v2
  have li3 : (0 : Int32).toInt = 0 := rfl
  refine zd (fun (h4 : v2 < (0 : Int32)) => ?_) (fun (h4 : ¬ v2 < (0 : Int32)) => ?_)
  · skip
    have g5 := i_lt h4
    refine sp_187  hV_m1 r_W r_GW r_GU r_OW r_DX (fun v4 m3 hV_m3 p0_m3 p1_m3 p2_m3 p3_m3 p4_m3 => zmi_n ?_)
    have p0_m3 : zGW T (m3 94 55) (m3 109) := p0_m3
    have p1_m3 : zGU T (m 94 46) (m3 99) := p1_m3
    have p2_m3 : zOw (m3 99) (m 103) (m3 111) := p2_m3
    have p3_m3 : zDX (m 94 10) (m3 99) (m 112) (m3 113) (m3 114) (m3 94 55) (m 98) (m 101) (m 102) (m 108) := p3_m3
    have p4_m3 : zsw (m 99) (m3 99) (m 111) (m3 111) (m 103) := p4_m3
    refine sp_224 (n) hV_m3  (fun v6 m5 hV_m5 p0_m5 => zmi_n ?_)
    have p0_m5 : -1 ≤ v6.toInt ∧ v6.toInt ≤ 1500 := p0_m5
    have b6 := i_bd v6
    exact K (v6) _ (zF_zov (zF_zov (zF_zov zF_rfl ws_224_237) ws_187_237) ws_224_237) hV_m5 p0_m3 p1_m3 p2_m3 p3_m3 (show -1 ≤ v6.toInt ∧ v6.toInt ≤ 1500 from by omega)
  · skip
    have g7 := i_nlt h4
    exact K (v2) _ (zF_zov zF_rfl ws_224_237) hV_m1 r_GW r_GU r_OW r_DX (show -1 ≤ v2.toInt ∧ v2.toInt ≤ 1500 from by omega)

/-! from 94.428 -/
/-! counts that fall -/
def zgo (gm : Int32) (us : Nat → Int32) : Prop := gm.toInt + (cnt us 3100 : Int) ≤ 3100
def zgw (gw go ws : Nat → Int32) (gm : Int32) : Prop := ∀ j : Nat, (j : Int) < gm.toInt → (gw j).toInt ≤ (ws (go j).toNatClampNeg).toInt
def zlm (us gw : Nat → Int32) (gm : Int32) : Nat := cnt us 3100 * 400000 + gm.toInt.toNat * 100 + (if gm.toInt ≤ 0 then 0 else (61 - (gw (gm.toInt - 1).toNat).toInt).toNat)
section LE1
variable {m mg : Nat → Nat → Int32} {c d k : Nat} {gm gm₉ x y v i : Int32} {us gw go ws : Nat → Int32}
theorem go_room (h : zgo gm us) (hu : us k ≠ 0) (hk : k < 3100) : gm.toInt < 3100 := by
  have := cnt_pos hk hu
  unfold zgo at h
  omega
theorem go_push (h : zgo gm (m c)) (hu : m c k ≠ 0) (hk : k < 3100) (hy : gm₉.toInt = gm.toInt + 1) : zgo gm₉ (ma_u m c k 0 c) := by
  have := cnt_dn hk hu
  unfold zgo at h ⊢
  omega
theorem go_pop (h : zgo gm us) (hy : gm₉.toInt ≤ gm.toInt) : zgo gm₉ us := by
  unfold zgo at h ⊢
  omega
theorem go_0 (h : gm.toInt ≤ 0) : zgo gm us := by
  have := cnt_le (r := us) (n := 3100)
  unfold zgo
  omega
theorem gw_0 (h : gm.toInt ≤ 0) : zgw gw go ws gm := fun j hj => by omega
theorem gw_pop (h : zgw gw go ws gm) (hy : gm₉.toInt ≤ gm.toInt) : zgw gw go ws gm₉ := fun j hj => h j (by omega)
theorem gw_push (h : zgw (m c) (mg d) ws gm) (h0 : 0 ≤ gm.toInt) (hy : gm₉.toInt = gm.toInt + 1) (hx : x.toInt ≤ (ws v.toNatClampNeg).toInt) : zgw (ma_u m c gm.toNatClampNeg x c) (ma_u mg d gm.toNatClampNeg v d) ws gm₉ := by
  have e : gm.toNatClampNeg = gm.toInt.toNat := rfl
  intro j hj
  by_cases q : j = gm.toNatClampNeg
  · rw [q, mu_self, mu_self]; exact hx
  · rw [mu_ne q, mu_ne q]; exact h j (by omega)
theorem gw_adv (h : zgw (m c) go ws gm) (hx : x.toInt ≤ (ws (go k).toNatClampNeg).toInt) : zgw (ma_u m c k x c) go ws gm := by
  intro j hj
  rw [mu_at]
  split
  · next e => rw [e]; exact hx
  · exact h j hj
theorem lm_pop (h1 : 1 ≤ gm.toInt) (hy : gm₉.toInt = gm.toInt - 1) (hb : ∀ j : Nat, (j : Int) < gm.toInt → 0 ≤ (gw j).toInt ∧ (gw j).toInt ≤ 60) : zlm us gw gm₉ < zlm us gw gm := by
  unfold zlm
  rw [if_neg (show ¬ gm.toInt ≤ 0 by omega)]
  have b1 := hb (gm.toInt - 1).toNat (by omega)
  split
  · omega
  · have b2 := hb (gm₉.toInt - 1).toNat (by omega)
    omega
theorem lm_adv (h1 : 1 ≤ gm.toInt) (hk : (k : Int) = gm.toInt - 1) (hx : x.toInt = (m c k).toInt + 1) (hb : (m c k).toInt ≤ 60) : zlm us (ma_u m c k x c) gm < zlm us (m c) gm := by
  unfold zlm
  have e : (gm.toInt - 1).toNat = k := by omega
  rw [if_neg (show ¬ gm.toInt ≤ 0 by omega), if_neg (show ¬ gm.toInt ≤ 0 by omega), e, mu_self]
  omega
theorem lm_push (hu : m c k ≠ 0) (hk : k < 3100) (h0 : 0 ≤ gm.toInt) (h1 : gm.toInt < 3100) (hy : gm₉.toInt = gm.toInt + 1) (hx : x.toInt = 0) : zlm (ma_u m c k 0 c) (ma_u mg d gm.toNatClampNeg x d) gm₉ ≤ zlm (m c) (mg d) gm := by
  have e := cnt_dn hk hu
  unfold zlm
  have e1 : (gm₉.toInt - 1).toNat = gm.toNatClampNeg := by rw [tn_eq]; omega
  rw [if_neg (show ¬ gm₉.toInt ≤ 0 by omega), e1, mu_self]
  have e2 : cnt (m c) 3100 * 400000 = cnt (ma_u m c k 0 c) 3100 * 400000 + 400000 := by omega
  omega
end LE1

/-! from 94.429 -/
/-! the reference (written by wip/tools/gen94m.py) -/
set_option maxRecDepth 100000 in
theorem hm_242 : ma_md 242 = some (12, yX12_fall, cX12_fall, 2, none) := rfl
theorem s_120 : zs 120 = some (20, 3100) := rfl
theorem s_121 : zs 121 = some (20, 3100) := rfl
theorem r_94_78 : zfi 94 78 = some 120 := rfl
theorem r_94_79 : zfi 94 79 = some 121 := rfl
theorem f_12_92_12 : ma_fld 12 92 12 = some 78 := by decide +kernel
theorem f_12_95_12 : ma_fld 12 95 12 = some 79 := by decide +kernel
theorem f_12_390_12 : ma_fld 12 390 12 = some 80 := by decide +kernel
theorem p_12_390_12 : ma_pk 12 390 12 80 = true := by decide +kernel
theorem dX12_fall_0 : decode cX12_fall 0 = .ok (.aload_n 0, 1) := by decide +kernel
theorem dX12_fall_4 : decode cX12_fall 4 = .ok (.iload_n 1, 1) := by decide +kernel
theorem dX12_fall_5 : decode cX12_fall 5 = .ok (.dup2, 1) := by decide +kernel
theorem dX12_fall_7 : decode cX12_fall 7 = .ok (.iconst 1, 1) := by decide +kernel
theorem dX12_fall_8 : decode cX12_fall 8 = .ok (.isub, 1) := by decide +kernel
theorem dX12_fall_10 : decode cX12_fall 10 = .ok (.aload_n 0, 1) := by decide +kernel
theorem dX12_fall_14 : decode cX12_fall 14 = .ok (.iload_n 1, 1) := by decide +kernel
theorem dX12_fall_28 : decode cX12_fall 28 = .ok (.return_, 1) := by decide +kernel
theorem dX12_fall_19 : decode cX12_fall 19 = .ok (.aload_n 0, 1) := by decide +kernel
theorem dX12_fall_23 : decode cX12_fall 23 = .ok (.iload_n 1, 1) := by decide +kernel
theorem dX12_fall_29 : decode cX12_fall 29 = .ok (.aload_n 0, 1) := by decide +kernel
theorem dX12_fall_33 : decode cX12_fall 33 = .ok (.iload_n 1, 1) := by decide +kernel
theorem dX12_fall_44 : decode cX12_fall 44 = .ok (.aload_n 0, 1) := by decide +kernel
theorem dX12_fall_45 : decode cX12_fall 45 = .ok (.iload_n 1, 1) := by decide +kernel
theorem dX12_fall_46 : decode cX12_fall 46 = .ok (.invokevirtual 317, 3) := by decide +kernel
theorem dX12_fall_49 : decode cX12_fall 49 = .ok (.aload_n 0, 1) := by decide +kernel
theorem dX12_fall_50 : decode cX12_fall 50 = .ok (.iload_n 1, 1) := by decide +kernel
theorem dX12_fall_51 : decode cX12_fall 51 = .ok (.invokevirtual 333, 3) := by decide +kernel
theorem dX12_fall_54 : decode cX12_fall 54 = .ok (.aload_n 0, 1) := by decide +kernel
theorem dX12_fall_58 : decode cX12_fall 58 = .ok (.aload_n 0, 1) := by decide +kernel
theorem dX12_fall_62 : decode cX12_fall 62 = .ok (.iload_n 1, 1) := by decide +kernel
theorem dX12_fall_64 : decode cX12_fall 64 = .ok (.aload_n 0, 1) := by decide +kernel
theorem dX12_fall_68 : decode cX12_fall 68 = .ok (.aload_n 0, 1) := by decide +kernel
theorem dX12_fall_72 : decode cX12_fall 72 = .ok (.iconst 0, 1) := by decide +kernel
theorem dX12_fall_74 : decode cX12_fall 74 = .ok (.aload_n 0, 1) := by decide +kernel
theorem dX12_fall_75 : decode cX12_fall 75 = .ok (.dup, 1) := by decide +kernel
theorem dX12_fall_79 : decode cX12_fall 79 = .ok (.iconst 1, 1) := by decide +kernel
theorem dX12_fall_80 : decode cX12_fall 80 = .ok (.iadd, 1) := by decide +kernel
theorem dX12_fall_84 : decode cX12_fall 84 = .ok (.return_, 1) := by decide +kernel
theorem dX12_fall_81 : decode cX12_fall 81 = .ok (.putfield 390, 3) := by decide +kernel
theorem dX12_fall_76 : decode cX12_fall 76 = .ok (.getfield 390, 3) := by decide +kernel
theorem dX12_fall_73 : decode cX12_fall 73 = .ok (.iastore, 1) := by decide +kernel
theorem dX12_fall_69 : decode cX12_fall 69 = .ok (.getfield 390, 3) := by decide +kernel
theorem dX12_fall_65 : decode cX12_fall 65 = .ok (.getfield 95, 3) := by decide +kernel
theorem dX12_fall_63 : decode cX12_fall 63 = .ok (.iastore, 1) := by decide +kernel
theorem dX12_fall_59 : decode cX12_fall 59 = .ok (.getfield 390, 3) := by decide +kernel
theorem dX12_fall_55 : decode cX12_fall 55 = .ok (.getfield 92, 3) := by decide +kernel
theorem dX12_fall_38 : decode cX12_fall 38 = .ok (.aload_n 0, 1) := by decide +kernel
theorem dX12_fall_39 : decode cX12_fall 39 = .ok (.iload_n 1, 1) := by decide +kernel
theorem dX12_fall_40 : decode cX12_fall 40 = .ok (.invokevirtual 324, 3) := by decide +kernel
theorem dX12_fall_43 : decode cX12_fall 43 = .ok (.return_, 1) := by decide +kernel
theorem dX12_fall_35 : decode cX12_fall 35 = .ok (.ifCond .eq 9, 3) := by decide +kernel
theorem dX12_fall_34 : decode cX12_fall 34 = .ok (.baload, 1) := by decide +kernel
theorem dX12_fall_30 : decode cX12_fall 30 = .ok (.getfield 59, 3) := by decide +kernel
theorem dX12_fall_25 : decode cX12_fall 25 = .ok (.ifCond .ne 4, 3) := by decide +kernel
theorem dX12_fall_24 : decode cX12_fall 24 = .ok (.baload, 1) := by decide +kernel
theorem dX12_fall_20 : decode cX12_fall 20 = .ok (.getfield 27, 3) := by decide +kernel
theorem dX12_fall_16 : decode cX12_fall 16 = .ok (.ifCond .gt 12, 3) := by decide +kernel
theorem dX12_fall_15 : decode cX12_fall 15 = .ok (.iaload, 1) := by decide +kernel
theorem dX12_fall_11 : decode cX12_fall 11 = .ok (.getfield 46, 3) := by decide +kernel
theorem dX12_fall_9 : decode cX12_fall 9 = .ok (.iastore, 1) := by decide +kernel
theorem dX12_fall_6 : decode cX12_fall 6 = .ok (.iaload, 1) := by decide +kernel
theorem dX12_fall_1 : decode cX12_fall 1 = .ok (.getfield 46, 3) := by decide +kernel
def wr_242 (c k : Nat) : Bool := Nat.beq c 99 || Nat.beq c 105 || Nat.beq c 109 || Nat.beq c 111 || Nat.beq c 113 || Nat.beq c 114 || Nat.beq c 120 || Nat.beq c 121 || (Nat.beq c 94 && (Nat.beq k 44 || Nat.beq k 45 || Nat.beq k 49 || Nat.beq k 55 || Nat.beq k 80))
theorem ws_197_242 : ∀ c k, wr_197 c k = true → wr_242 c k = true := by
  intro c k h
  simp only [wr_197, wr_242, Bool.or_eq_true, Bool.and_eq_true, Nat.beq_eq] at h ⊢
  omega
theorem ws_198_242 : ∀ c k, wr_198 c k = true → wr_242 c k = true := by
  intro c k h
  simp only [wr_198, wr_242, Bool.or_eq_true, Bool.and_eq_true, Nat.beq_eq] at h ⊢
  omega
theorem g_242_0 {X : Nat × (Nat → Int32)} {m : Nat → Nat → Int32} {P : Option ma_V → (Nat → Nat → Int32) → Prop} (s : Int32) (h : (0 ≤ s ∧ s.toNatClampNeg < 3100) ∧ ((0 ≤ s ∧ s.toNatClampNeg < 3100) ∧ ((0 ≤ s ∧ s.toNatClampNeg < 3100) ∧ (if 0 < ((ma_u m 105 s.toNatClampNeg ((m 105 s.toNatClampNeg) - (1 : Int32))) 105 s.toNatClampNeg) then (P none (ma_u m 105 s.toNatClampNeg ((m 105 s.toNatClampNeg) - (1 : Int32)))) else ((0 ≤ s ∧ s.toNatClampNeg < 3100) ∧ (if (m 99 s.toNatClampNeg) = 0 then (P none (ma_u m 105 s.toNatClampNeg ((m 105 s.toNatClampNeg) - (1 : Int32)))) else ((0 ≤ s ∧ s.toNatClampNeg < 3100) ∧ (if (m 109 s.toNatClampNeg) = 0 then (zm X 0 0 198 0 [(0, .inr (.inr (some 94))), (1, .inl s)] (ma_u m 105 s.toNatClampNeg ((m 105 s.toNatClampNeg) - (1 : Int32))) (zmv (fun m1 => (0 ≤ s ∧ s.toNatClampNeg < 3100) ∧ ((0 ≤ s ∧ s.toNatClampNeg < 3100) ∧ ((0 ≤ (m1 103 s.toNatClampNeg) ∧ (m1 103 s.toNatClampNeg).toNatClampNeg < 4600) ∧ ((0 ≤ s ∧ s.toNatClampNeg < 3100) ∧ ((0 ≤ s ∧ s.toNatClampNeg < 3100) ∧ ((0 ≤ (m1 94 80) ∧ (m1 94 80).toNatClampNeg < 3100) ∧ ((0 ≤ (m1 94 80) ∧ (m1 94 80).toNatClampNeg < 3100) ∧ (P none (ma_u (ma_u (ma_u (ma_u (ma_u (ma_u (ma_u (ma_u m1 99 s.toNatClampNeg (0 : Int32)) 111 (m1 103 s.toNatClampNeg).toNatClampNeg (-1 : Int32)) 94 44 ((m1 94 44) - (1 : Int32))) 94 45 ((m1 94 45) - ((m1 102 s.toNatClampNeg) + (1 : Int32)))) 94 49 ((m1 94 49) + ((m1 102 s.toNatClampNeg) + (1 : Int32)))) 120 (m1 94 80).toNatClampNeg s) 121 (m1 94 80).toNatClampNeg (0 : Int32)) 94 80 ((m1 94 80) + (1 : Int32))))))))))))) else (zm X 1 22 197 0 [(0, .inr (.inr (some 94))), (1, .inl s)] (ma_u m 105 s.toNatClampNeg ((m 105 s.toNatClampNeg) - (1 : Int32))) (zmv (fun m3 => P none m3))))))))))) : zm X 2 43 242 0 [(0, .inr (.inr (some 94))), (1, .inl s)] m P := by
  intro d w S Q hd hw hS hm HQ
  subst hm
  refine zw_push hm_242 dX12_fall_0 (v := .inr (.inr (some 94))) rfl ?_
  refine zw_gf hm_242 dX12_fall_1 (v := .inr (.inr (some 105))) (zT_is hS s_94) (zT_t hS s_94) rfl f_12_46_12 (zT_f hS r_94_37) ?_
  refine zw_push hm_242 dX12_fall_4 (v := .inl s) rfl ?_
  refine zw_stk hm_242 dX12_fall_5 (st₉ := [.inl s, .inr (.inr (some 105)), .inl s, .inr (.inr (some 105))]) rfl rfl ?_
  obtain ⟨hg, h⟩ := h
  refine zw_ia hm_242 dX12_fall_6 (zT_is hS s_105) (zT_h hS s_105) rfl hg ?_
  show ma_wp X d w 242 7 [(0, .inr (.inr (some 94))), (1, .inl s)] [.inl ((mI S) 105 s.toNatClampNeg), .inl s, .inr (.inr (some 105))] S _
  refine zw_push hm_242 dX12_fall_7 (v := .inl (1 : Int32)) rfl ?_
  refine zw_stk hm_242 dX12_fall_8 (st₉ := [.inl (((mI S) 105 s.toNatClampNeg) - (1 : Int32)), .inl s, .inr (.inr (some 105))]) rfl rfl ?_
  obtain ⟨hg, h⟩ := h
  refine zw_ias hm_242 dX12_fall_9 (zT_is hS s_105) (zT_h hS s_105) rfl hg ?_
  refine zw_push hm_242 dX12_fall_10 (v := .inr (.inr (some 94))) rfl ?_
  refine zw_gf hm_242 dX12_fall_11 (v := .inr (.inr (some 105))) (zT_is (zT_pi hS) s_94) (zT_t (zT_pi hS) s_94) rfl f_12_46_12 (zT_f (zT_pi hS) r_94_37) ?_
  refine zw_push hm_242 dX12_fall_14 (v := .inl s) rfl ?_
  obtain ⟨hg, h⟩ := h
  refine zw_ia hm_242 dX12_fall_15 (zT_is (zT_pi hS) s_105) (zT_h (zT_pi hS) s_105) rfl hg ?_
  show ma_wp X d w 242 16 [(0, .inr (.inr (some 94))), (1, .inl s)] [.inl ((ma_u (mI S) 105 s.toNatClampNeg (((mI S) 105 s.toNatClampNeg) - (1 : Int32))) 105 s.toNatClampNeg)] (ma_put S 105 s.toNatClampNeg (.inl (((mI S) 105 s.toNatClampNeg) - (1 : Int32)))) _
  refine zw_if0 hm_242 dX12_fall_16 (t := 28) rfl zc0_gt ?_ ?_
  · intro hc
    rw [if_pos hc] at h
    exact zw_vret hm_242 dX12_fall_28 (HQ _ _ h)
  · intro hc
    rw [if_neg hc] at h
    refine zw_push hm_242 dX12_fall_19 (v := .inr (.inr (some 94))) rfl ?_
    refine zw_gf hm_242 dX12_fall_20 (v := .inr (.inr (some 99))) (zT_is (zT_pi hS) s_94) (zT_t (zT_pi hS) s_94) rfl f_12_27_12 (zT_f (zT_pi hS) r_94_31) ?_
    refine zw_push hm_242 dX12_fall_23 (v := .inl s) rfl ?_
    obtain ⟨hg, h⟩ := h
    refine zw_ba hm_242 dX12_fall_24 (zT_is (zT_pi hS) s_99) (zT_h (zT_pi hS) s_99) rfl rfl hg ?_
    show ma_wp X d w 242 25 [(0, .inr (.inr (some 94))), (1, .inl s)] [.inl ((mI S) 99 s.toNatClampNeg)] (ma_put S 105 s.toNatClampNeg (.inl (((mI S) 105 s.toNatClampNeg) - (1 : Int32)))) _
    refine zw_if0 hm_242 dX12_fall_25 (t := 29) rfl zc0_ne ?_ ?_
    · intro hc
      rw [if_neg hc] at h
      refine zw_push hm_242 dX12_fall_29 (v := .inr (.inr (some 94))) rfl ?_
      refine zw_gf hm_242 dX12_fall_30 (v := .inr (.inr (some 109))) (zT_is (zT_pi hS) s_94) (zT_t (zT_pi hS) s_94) rfl f_12_59_12 (zT_f (zT_pi hS) r_94_41) ?_
      refine zw_push hm_242 dX12_fall_33 (v := .inl s) rfl ?_
      obtain ⟨hg, h⟩ := h
      refine zw_ba hm_242 dX12_fall_34 (zT_is (zT_pi hS) s_109) (zT_h (zT_pi hS) s_109) rfl rfl hg ?_
      show ma_wp X d w 242 35 [(0, .inr (.inr (some 94))), (1, .inl s)] [.inl ((mI S) 109 s.toNatClampNeg)] (ma_put S 105 s.toNatClampNeg (.inl (((mI S) 105 s.toNatClampNeg) - (1 : Int32)))) _
      refine zw_if0 hm_242 dX12_fall_35 (t := 44) rfl zc0_eq ?_ ?_
      · intro hc
        rw [if_pos hc] at h
        refine zw_push hm_242 dX12_fall_44 (v := .inr (.inr (some 94))) rfl ?_
        refine zw_push hm_242 dX12_fall_45 (v := .inl s) rfl ?_
        refine zw_cv hm_242 dX12_fall_46 v_12_317_12 hm_198 [.inl s] [] rfl (zT_rt (zT_pi hS) s_94 rfl) ⟨by omega, by omega⟩ rfl (h _ _ (ma_put S 105 s.toNatClampNeg (.inl (((mI S) 105 s.toNatClampNeg) - (1 : Int32)))) _ (by omega) (by omega) (zT_pi hS) rfl (fun o9 m1 hv => ?_))
        obtain ⟨rfl, h⟩ := zmv_of hv
        show ma_wp X d w 242 49 [(0, .inr (.inr (some 94))), (1, .inl s)] [] (zst S m1) _
        refine zw_push hm_242 dX12_fall_49 (v := .inr (.inr (some 94))) rfl ?_
        refine zw_push hm_242 dX12_fall_50 (v := .inl s) rfl ?_
        refine zw_cv hm_242 dX12_fall_51 v_12_333_12 hm_203 [.inl s] [] rfl (zT_rt (zT_zst hS m1) s_94 rfl) ⟨by omega, by omega⟩ rfl ?_
        show ma_wp X (d - 1) (w - 21) 203 0 [(0, .inr (.inr (some 94))), (1, .inl s)] [] (zst S m1) _
        refine zw_push hm_203 dX12_remove_0 (v := .inr (.inr (some 94))) rfl ?_
        refine zw_gf hm_203 dX12_remove_1 (v := .inr (.inr (some 99))) (zT_is (zT_zst hS m1) s_94) (zT_t (zT_zst hS m1) s_94) rfl f_12_27_12 (zT_f (zT_zst hS m1) r_94_31) ?_
        refine zw_push hm_203 dX12_remove_4 (v := .inl s) rfl ?_
        refine zw_push hm_203 dX12_remove_5 (v := .inl (0 : Int32)) rfl ?_
        obtain ⟨hg, h⟩ := h
        refine zw_bas22l hm_203 dX12_remove_6 (hx := by decide) (yv := (0 : Int32)) (zT_is (zT_zst hS m1) s_99) (zT_h (zT_zst hS m1) s_99) rfl hg ?_
        refine zw_push hm_203 dX12_remove_7 (v := .inr (.inr (some 94))) rfl ?_
        refine zw_gf hm_203 dX12_remove_8 (v := .inr (.inr (some 111))) (zT_is (zT_pi (zT_zst hS m1)) s_94) (zT_t (zT_pi (zT_zst hS m1)) s_94) rfl f_12_65_12 (zT_f (zT_pi (zT_zst hS m1)) r_94_43) ?_
        refine zw_push hm_203 dX12_remove_11 (v := .inr (.inr (some 94))) rfl ?_
        refine zw_gf hm_203 dX12_remove_12 (v := .inr (.inr (some 103))) (zT_is (zT_pi (zT_zst hS m1)) s_94) (zT_t (zT_pi (zT_zst hS m1)) s_94) rfl f_12_40_12 (zT_f (zT_pi (zT_zst hS m1)) r_94_35) ?_
        refine zw_push hm_203 dX12_remove_15 (v := .inl s) rfl ?_
        obtain ⟨hg, h⟩ := h
        refine zw_ia hm_203 dX12_remove_16 (zT_is (zT_pi (zT_zst hS m1)) s_103) (zT_h (zT_pi (zT_zst hS m1)) s_103) rfl hg ?_
        show ma_wp X (d - 1) (w - 21) 203 17 [(0, .inr (.inr (some 94))), (1, .inl s)] [.inl (m1 103 s.toNatClampNeg), .inr (.inr (some 111))] (ma_put (zst S m1) 99 s.toNatClampNeg (.inl (0 : Int32))) _
        refine zw_push hm_203 dX12_remove_17 (v := .inl (-1 : Int32)) rfl ?_
        obtain ⟨hg, h⟩ := h
        refine zw_ias hm_203 dX12_remove_18 (zT_is (zT_pi (zT_zst hS m1)) s_111) (zT_h (zT_pi (zT_zst hS m1)) s_111) rfl hg ?_
        refine zw_push hm_203 dX12_remove_19 (v := .inr (.inr (some 94))) rfl ?_
        refine zw_stk hm_203 dX12_remove_20 (st₉ := [.inr (.inr (some 94)), .inr (.inr (some 94))]) rfl rfl ?_
        refine zw_gf hm_203 dX12_remove_21 (v := .inl (m1 94 44)) (zT_is (zT_pi (zT_pi (zT_zst hS m1))) s_94) (zT_t (zT_pi (zT_pi (zT_zst hS m1))) s_94) rfl f_12_240_12 rfl ?_
        refine zw_push hm_203 dX12_remove_24 (v := .inl (1 : Int32)) rfl ?_
        refine zw_stk hm_203 dX12_remove_25 (st₉ := [.inl ((m1 94 44) - (1 : Int32)), .inr (.inr (some 94))]) rfl rfl ?_
        refine zw_pf hm_203 dX12_remove_26 (zT_is (zT_pi (zT_pi (zT_zst hS m1))) s_94) (zT_t (zT_pi (zT_pi (zT_zst hS m1))) s_94) p_12_240_12 zk_int ?_
        refine zw_push hm_203 dX12_remove_29 (v := .inr (.inr (some 94))) rfl ?_
        refine zw_stk hm_203 dX12_remove_30 (st₉ := [.inr (.inr (some 94)), .inr (.inr (some 94))]) rfl rfl ?_
        refine zw_gf hm_203 dX12_remove_31 (v := .inl (m1 94 45)) (zT_is (zT_pi (zT_pi (zT_pi (zT_zst hS m1)))) s_94) (zT_t (zT_pi (zT_pi (zT_pi (zT_zst hS m1)))) s_94) rfl f_12_243_12 rfl ?_
        refine zw_push hm_203 dX12_remove_34 (v := .inr (.inr (some 94))) rfl ?_
        refine zw_push hm_203 dX12_remove_35 (v := .inl s) rfl ?_
        refine zw_cv hm_203 dX12_remove_36 v_12_327_12 hm_201 [.inl s] [.inl (m1 94 45), .inr (.inr (some 94))] rfl (zT_rt (zT_pi (zT_pi (zT_pi (zT_zst hS m1)))) s_94 rfl) ⟨by omega, by omega⟩ rfl ?_
        show ma_wp X ((d - 1) - 1) ((w - 21) - 21) 201 0 [(0, .inr (.inr (some 94))), (1, .inl s)] [] (ma_put (ma_put (ma_put (zst S m1) 99 s.toNatClampNeg (.inl (0 : Int32))) 111 (m1 103 s.toNatClampNeg).toNatClampNeg (.inl (-1 : Int32))) 94 44 (.inl ((m1 94 44) - (1 : Int32)))) _
        refine zw_push hm_201 dX12_sizeOf_0 (v := .inr (.inr (some 94))) rfl ?_
        refine zw_gf hm_201 dX12_sizeOf_1 (v := .inr (.inr (some 102))) (zT_is (zT_pi (zT_pi (zT_pi (zT_zst hS m1)))) s_94) (zT_t (zT_pi (zT_pi (zT_pi (zT_zst hS m1)))) s_94) rfl f_12_37_12 (zT_f (zT_pi (zT_pi (zT_pi (zT_zst hS m1)))) r_94_34) ?_
        refine zw_push hm_201 dX12_sizeOf_4 (v := .inl s) rfl ?_
        obtain ⟨hg, h⟩ := h
        refine zw_ia hm_201 dX12_sizeOf_5 (zT_is (zT_pi (zT_pi (zT_pi (zT_zst hS m1)))) s_102) (zT_h (zT_pi (zT_pi (zT_pi (zT_zst hS m1)))) s_102) rfl hg ?_
        show ma_wp X ((d - 1) - 1) ((w - 21) - 21) 201 6 [(0, .inr (.inr (some 94))), (1, .inl s)] [.inl (m1 102 s.toNatClampNeg)] (ma_put (ma_put (ma_put (zst S m1) 99 s.toNatClampNeg (.inl (0 : Int32))) 111 (m1 103 s.toNatClampNeg).toNatClampNeg (.inl (-1 : Int32))) 94 44 (.inl ((m1 94 44) - (1 : Int32)))) _
        refine zw_push hm_201 dX12_sizeOf_6 (v := .inl (1 : Int32)) rfl ?_
        refine zw_stk hm_201 dX12_sizeOf_7 (st₉ := [.inl ((m1 102 s.toNatClampNeg) + (1 : Int32))]) rfl rfl ?_
        refine zw_iret hm_201 dX12_sizeOf_8 ?_
        show ma_wp X (d - 1) (w - 21) 203 39 [(0, .inr (.inr (some 94))), (1, .inl s)] [.inl ((m1 102 s.toNatClampNeg) + (1 : Int32)), .inl (m1 94 45), .inr (.inr (some 94))] (ma_put (ma_put (ma_put (zst S m1) 99 s.toNatClampNeg (.inl (0 : Int32))) 111 (m1 103 s.toNatClampNeg).toNatClampNeg (.inl (-1 : Int32))) 94 44 (.inl ((m1 94 44) - (1 : Int32)))) _
        refine zw_stk hm_203 dX12_remove_39 (st₉ := [.inl ((m1 94 45) - ((m1 102 s.toNatClampNeg) + (1 : Int32))), .inr (.inr (some 94))]) rfl rfl ?_
        refine zw_pf hm_203 dX12_remove_40 (zT_is (zT_pi (zT_pi (zT_pi (zT_zst hS m1)))) s_94) (zT_t (zT_pi (zT_pi (zT_pi (zT_zst hS m1)))) s_94) p_12_243_12 zk_int ?_
        refine zw_push hm_203 dX12_remove_43 (v := .inr (.inr (some 94))) rfl ?_
        refine zw_stk hm_203 dX12_remove_44 (st₉ := [.inr (.inr (some 94)), .inr (.inr (some 94))]) rfl rfl ?_
        refine zw_gf hm_203 dX12_remove_45 (v := .inl (m1 94 49)) (zT_is (zT_pi (zT_pi (zT_pi (zT_pi (zT_zst hS m1))))) s_94) (zT_t (zT_pi (zT_pi (zT_pi (zT_pi (zT_zst hS m1))))) s_94) rfl f_12_255_12 rfl ?_
        refine zw_push hm_203 dX12_remove_48 (v := .inr (.inr (some 94))) rfl ?_
        refine zw_push hm_203 dX12_remove_49 (v := .inl s) rfl ?_
        refine zw_cv hm_203 dX12_remove_50 v_12_327_12 hm_201 [.inl s] [.inl (m1 94 49), .inr (.inr (some 94))] rfl (zT_rt (zT_pi (zT_pi (zT_pi (zT_pi (zT_zst hS m1))))) s_94 rfl) ⟨by omega, by omega⟩ rfl ?_
        show ma_wp X ((d - 1) - 1) ((w - 21) - 21) 201 0 [(0, .inr (.inr (some 94))), (1, .inl s)] [] (ma_put (ma_put (ma_put (ma_put (zst S m1) 99 s.toNatClampNeg (.inl (0 : Int32))) 111 (m1 103 s.toNatClampNeg).toNatClampNeg (.inl (-1 : Int32))) 94 44 (.inl ((m1 94 44) - (1 : Int32)))) 94 45 (.inl ((m1 94 45) - ((m1 102 s.toNatClampNeg) + (1 : Int32))))) _
        refine zw_push hm_201 dX12_sizeOf_0 (v := .inr (.inr (some 94))) rfl ?_
        refine zw_gf hm_201 dX12_sizeOf_1 (v := .inr (.inr (some 102))) (zT_is (zT_pi (zT_pi (zT_pi (zT_pi (zT_zst hS m1))))) s_94) (zT_t (zT_pi (zT_pi (zT_pi (zT_pi (zT_zst hS m1))))) s_94) rfl f_12_37_12 (zT_f (zT_pi (zT_pi (zT_pi (zT_pi (zT_zst hS m1))))) r_94_34) ?_
        refine zw_push hm_201 dX12_sizeOf_4 (v := .inl s) rfl ?_
        obtain ⟨hg, h⟩ := h
        refine zw_ia hm_201 dX12_sizeOf_5 (zT_is (zT_pi (zT_pi (zT_pi (zT_pi (zT_zst hS m1))))) s_102) (zT_h (zT_pi (zT_pi (zT_pi (zT_pi (zT_zst hS m1))))) s_102) rfl hg ?_
        show ma_wp X ((d - 1) - 1) ((w - 21) - 21) 201 6 [(0, .inr (.inr (some 94))), (1, .inl s)] [.inl (m1 102 s.toNatClampNeg)] (ma_put (ma_put (ma_put (ma_put (zst S m1) 99 s.toNatClampNeg (.inl (0 : Int32))) 111 (m1 103 s.toNatClampNeg).toNatClampNeg (.inl (-1 : Int32))) 94 44 (.inl ((m1 94 44) - (1 : Int32)))) 94 45 (.inl ((m1 94 45) - ((m1 102 s.toNatClampNeg) + (1 : Int32))))) _
        refine zw_push hm_201 dX12_sizeOf_6 (v := .inl (1 : Int32)) rfl ?_
        refine zw_stk hm_201 dX12_sizeOf_7 (st₉ := [.inl ((m1 102 s.toNatClampNeg) + (1 : Int32))]) rfl rfl ?_
        refine zw_iret hm_201 dX12_sizeOf_8 ?_
        show ma_wp X (d - 1) (w - 21) 203 53 [(0, .inr (.inr (some 94))), (1, .inl s)] [.inl ((m1 102 s.toNatClampNeg) + (1 : Int32)), .inl (m1 94 49), .inr (.inr (some 94))] (ma_put (ma_put (ma_put (ma_put (zst S m1) 99 s.toNatClampNeg (.inl (0 : Int32))) 111 (m1 103 s.toNatClampNeg).toNatClampNeg (.inl (-1 : Int32))) 94 44 (.inl ((m1 94 44) - (1 : Int32)))) 94 45 (.inl ((m1 94 45) - ((m1 102 s.toNatClampNeg) + (1 : Int32))))) _
        refine zw_stk hm_203 dX12_remove_53 (st₉ := [.inl ((m1 94 49) + ((m1 102 s.toNatClampNeg) + (1 : Int32))), .inr (.inr (some 94))]) rfl rfl ?_
        refine zw_pf hm_203 dX12_remove_54 (zT_is (zT_pi (zT_pi (zT_pi (zT_pi (zT_zst hS m1))))) s_94) (zT_t (zT_pi (zT_pi (zT_pi (zT_pi (zT_zst hS m1))))) s_94) p_12_255_12 zk_int ?_
        refine zw_vret hm_203 dX12_remove_57 ?_
        show ma_wp X d w 242 54 [(0, .inr (.inr (some 94))), (1, .inl s)] [] (ma_put (ma_put (ma_put (ma_put (ma_put (zst S m1) 99 s.toNatClampNeg (.inl (0 : Int32))) 111 (m1 103 s.toNatClampNeg).toNatClampNeg (.inl (-1 : Int32))) 94 44 (.inl ((m1 94 44) - (1 : Int32)))) 94 45 (.inl ((m1 94 45) - ((m1 102 s.toNatClampNeg) + (1 : Int32))))) 94 49 (.inl ((m1 94 49) + ((m1 102 s.toNatClampNeg) + (1 : Int32))))) _
        refine zw_push hm_242 dX12_fall_54 (v := .inr (.inr (some 94))) rfl ?_
        refine zw_gf hm_242 dX12_fall_55 (v := .inr (.inr (some 120))) (zT_is (zT_pi (zT_pi (zT_pi (zT_pi (zT_pi (zT_zst hS m1)))))) s_94) (zT_t (zT_pi (zT_pi (zT_pi (zT_pi (zT_pi (zT_zst hS m1)))))) s_94) rfl f_12_92_12 (zT_f (zT_pi (zT_pi (zT_pi (zT_pi (zT_pi (zT_zst hS m1)))))) r_94_78) ?_
        refine zw_push hm_242 dX12_fall_58 (v := .inr (.inr (some 94))) rfl ?_
        refine zw_gf hm_242 dX12_fall_59 (v := .inl (m1 94 80)) (zT_is (zT_pi (zT_pi (zT_pi (zT_pi (zT_pi (zT_zst hS m1)))))) s_94) (zT_t (zT_pi (zT_pi (zT_pi (zT_pi (zT_pi (zT_zst hS m1)))))) s_94) rfl f_12_390_12 rfl ?_
        refine zw_push hm_242 dX12_fall_62 (v := .inl s) rfl ?_
        obtain ⟨hg, h⟩ := h
        refine zw_ias hm_242 dX12_fall_63 (zT_is (zT_pi (zT_pi (zT_pi (zT_pi (zT_pi (zT_zst hS m1)))))) s_120) (zT_h (zT_pi (zT_pi (zT_pi (zT_pi (zT_pi (zT_zst hS m1)))))) s_120) rfl hg ?_
        refine zw_push hm_242 dX12_fall_64 (v := .inr (.inr (some 94))) rfl ?_
        refine zw_gf hm_242 dX12_fall_65 (v := .inr (.inr (some 121))) (zT_is (zT_pi (zT_pi (zT_pi (zT_pi (zT_pi (zT_pi (zT_zst hS m1))))))) s_94) (zT_t (zT_pi (zT_pi (zT_pi (zT_pi (zT_pi (zT_pi (zT_zst hS m1))))))) s_94) rfl f_12_95_12 (zT_f (zT_pi (zT_pi (zT_pi (zT_pi (zT_pi (zT_pi (zT_zst hS m1))))))) r_94_79) ?_
        refine zw_push hm_242 dX12_fall_68 (v := .inr (.inr (some 94))) rfl ?_
        refine zw_gf hm_242 dX12_fall_69 (v := .inl (m1 94 80)) (zT_is (zT_pi (zT_pi (zT_pi (zT_pi (zT_pi (zT_pi (zT_zst hS m1))))))) s_94) (zT_t (zT_pi (zT_pi (zT_pi (zT_pi (zT_pi (zT_pi (zT_zst hS m1))))))) s_94) rfl f_12_390_12 rfl ?_
        refine zw_push hm_242 dX12_fall_72 (v := .inl (0 : Int32)) rfl ?_
        obtain ⟨hg, h⟩ := h
        refine zw_ias hm_242 dX12_fall_73 (zT_is (zT_pi (zT_pi (zT_pi (zT_pi (zT_pi (zT_pi (zT_zst hS m1))))))) s_121) (zT_h (zT_pi (zT_pi (zT_pi (zT_pi (zT_pi (zT_pi (zT_zst hS m1))))))) s_121) rfl hg ?_
        refine zw_push hm_242 dX12_fall_74 (v := .inr (.inr (some 94))) rfl ?_
        refine zw_stk hm_242 dX12_fall_75 (st₉ := [.inr (.inr (some 94)), .inr (.inr (some 94))]) rfl rfl ?_
        refine zw_gf hm_242 dX12_fall_76 (v := .inl (m1 94 80)) (zT_is (zT_pi (zT_pi (zT_pi (zT_pi (zT_pi (zT_pi (zT_pi (zT_zst hS m1)))))))) s_94) (zT_t (zT_pi (zT_pi (zT_pi (zT_pi (zT_pi (zT_pi (zT_pi (zT_zst hS m1)))))))) s_94) rfl f_12_390_12 rfl ?_
        refine zw_push hm_242 dX12_fall_79 (v := .inl (1 : Int32)) rfl ?_
        refine zw_stk hm_242 dX12_fall_80 (st₉ := [.inl ((m1 94 80) + (1 : Int32)), .inr (.inr (some 94))]) rfl rfl ?_
        refine zw_pf hm_242 dX12_fall_81 (zT_is (zT_pi (zT_pi (zT_pi (zT_pi (zT_pi (zT_pi (zT_pi (zT_zst hS m1)))))))) s_94) (zT_t (zT_pi (zT_pi (zT_pi (zT_pi (zT_pi (zT_pi (zT_pi (zT_zst hS m1)))))))) s_94) p_12_390_12 zk_int ?_
        exact zw_vret hm_242 dX12_fall_84 (HQ _ _ h)
      · intro hc
        rw [if_neg hc] at h
        refine zw_push hm_242 dX12_fall_38 (v := .inr (.inr (some 94))) rfl ?_
        refine zw_push hm_242 dX12_fall_39 (v := .inl s) rfl ?_
        refine zw_cv hm_242 dX12_fall_40 v_12_324_12 hm_197 [.inl s] [] rfl (zT_rt (zT_pi hS) s_94 rfl) ⟨by omega, by omega⟩ rfl (h _ _ (ma_put S 105 s.toNatClampNeg (.inl (((mI S) 105 s.toNatClampNeg) - (1 : Int32)))) _ (by omega) (by omega) (zT_pi hS) rfl (fun o9 m3 hv => ?_))
        obtain ⟨rfl, h⟩ := zmv_of hv
        show ma_wp X d w 242 43 [(0, .inr (.inr (some 94))), (1, .inl s)] [] (zst S m3) _
        exact zw_vret hm_242 dX12_fall_43 (HQ _ _ h)
    · intro hc
      rw [if_pos (Classical.not_not.mp hc)] at h
      exact zw_vret hm_242 dX12_fall_28 (HQ _ _ h)
theorem sp_242 {X : Nat × (Nat → Int32)} {P : Option ma_V → (Nat → Nat → Int32) → Prop} {T : Nat} {m : Nat → Nat → Int32} (s : Int32) (hV : zV m) (hpre0 : 0 ≤ s.toInt) (hpre1 : s.toInt ≤ 3099) (hpre2 : (m 94 10).toInt = 4) (r_GW : zGW T (m 94 55) (m 109)) (r_GU : zGU T (m 94 46) (m 99)) (r_OW : zOw (m 99) (m 103) (m 111)) (r_DX : zDX (m 94 10) (m 99) (m 112) (m 113) (m 114) (m 94 55) (m 98) (m 101) (m 102) (m 108)) (r_GO : zgo (m 94 80) (m 99)) (r_GWD : zgw (m 121) (m 120) (m 102) (m 94 80)) (KZ : ∀ m₉, zV (zov wr_242 m m₉) → (zGW T (m₉ 94 55) (m₉ 109)) → (zGU T (m 94 46) (m₉ 99)) → (zOw (m₉ 99) (m 103) (m₉ 111)) → (zDX (m 94 10) (m₉ 99) (m 112) (m₉ 113) (m₉ 114) (m₉ 94 55) (m 98) (m 101) (m 102) (m 108)) → (zgo (m₉ 94 80) (m₉ 99)) → (zgw (m₉ 121) (m₉ 120) (m 102) (m₉ 94 80)) → (zlm (m₉ 99) (m₉ 121) (m₉ 94 80) ≤ zlm (m 99) (m 121) (m 94 80)) → P none (zov wr_242 m m₉)) : zm X 2 43 242 0 [(0, .inr (.inr (some 94))), (1, .inl s)] m P := by
  have K : ∀ m₉, zF wr_242 m m₉ → zV m₉ → (zGW T (m₉ 94 55) (m₉ 109)) → (zGU T (m₉ 94 46) (m₉ 99)) → (zOw (m₉ 99) (m₉ 103) (m₉ 111)) → (zDX (m₉ 94 10) (m₉ 99) (m₉ 112) (m₉ 113) (m₉ 114) (m₉ 94 55) (m₉ 98) (m₉ 101) (m₉ 102) (m₉ 108)) → (zgo (m₉ 94 80) (m₉ 99)) → (zgw (m₉ 121) (m₉ 120) (m₉ 102) (m₉ 94 80)) → (zlm (m₉ 99) (m₉ 121) (m₉ 94 80) ≤ zlm (m 99) (m 121) (m 94 80)) → P none m₉ := by
    intro m₉ hf z q0 q1 q2 q3 q4 q5 q6
    have e := zov_eq hf
    rw [e] at z ⊢
    try rw [e] at q0
    try rw [e] at q1
    try rw [e] at q2
    try rw [e] at q3
    try rw [e] at q4
    try rw [e] at q5
    try rw [e] at q6
    exact KZ m₉ z q0 q1 q2 q3 q4 q5 q6
  refine g_242_0 s ?_
  have f1 : 0 ≤ (m 94 10).toInt ∧ (m 94 10).toInt ≤ 6 := rs_94_10 (m := m) hV
  have b2 := i_bd s
  have hg3 : (0 ≤ s ∧ s.toNatClampNeg < 3100) := i_ix (by omega) (by omega)
  refine ⟨hg3, ?_⟩
  have hg4 : (0 ≤ s ∧ s.toNatClampNeg < 3100) := i_ix (by omega) (by omega)
  refine ⟨hg4, ?_⟩
  have hg5 : (0 ≤ s ∧ s.toNatClampNeg < 3100) := i_ix (by omega) (by omega)
  refine ⟨hg5, ?_⟩
  have li6 : (0 : Int32).toInt = 0 := rfl
  have b7 := i_bd (m 105 s.toNatClampNeg)
  first | have e8 : ((m 105 s.toNatClampNeg) - (1 : Int32)).toInt = (m 105 s.toNatClampNeg).toInt - (1) := i_subk rfl (by omega) (by omega) | have b9 := i_bd ((m 105 s.toNatClampNeg) - (1 : Int32))
  have q10 : ((ma_u m 105 s.toNatClampNeg ((m 105 s.toNatClampNeg) - (1 : Int32))) 105 s.toNatClampNeg).toInt = ((m 105 s.toNatClampNeg) - (1 : Int32)).toInt := congrArg Int32.toInt mu_self
  have b11 := i_bd ((ma_u m 105 s.toNatClampNeg ((m 105 s.toNatClampNeg) - (1 : Int32))) 105 s.toNatClampNeg)
  refine zd (fun (h12 : (0 : Int32) < ((ma_u m 105 s.toNatClampNeg ((m 105 s.toNatClampNeg) - (1 : Int32))) 105 s.toNatClampNeg)) => ?_) (fun (h12 : ¬ (0 : Int32) < ((ma_u m 105 s.toNatClampNeg ((m 105 s.toNatClampNeg) - (1 : Int32))) 105 s.toNatClampNeg)) => ?_)
  · skip
    have g13 := i_lt h12
    have hV14 : zV (ma_u m 105 s.toNatClampNeg ((m 105 s.toNatClampNeg) - (1 : Int32))) := ua_105 hV
    exact K _ (zF_u zF_rfl rfl) hV14 r_GW r_GU r_OW r_DX r_GO r_GWD (show zlm (m 99) (m 121) (m 94 80) ≤ zlm (m 99) (m 121) (m 94 80) from by first | (exact Nat.le_refl _) | (exfalso; omega; done) | (exfalso; contradiction; done))
  · skip
    have g15 := i_nlt h12
    have hg16 : (0 ≤ s ∧ s.toNatClampNeg < 3100) := i_ix (by omega) (by omega)
    refine ⟨hg16, ?_⟩
    first | have f17 : 0 ≤ (m 99 s.toNatClampNeg).toInt ∧ (m 99 s.toNatClampNeg).toInt ≤ 1 := ra_99 (m := m) hV (k := s.toNatClampNeg) (i_ix (n := 3100) (by omega) (by omega)).2 | have b18 := i_bd (m 99 s.toNatClampNeg)
    refine zd (fun (h19 : (m 99 s.toNatClampNeg) = (0 : Int32)) => ?_) (fun (h19 : ¬ (m 99 s.toNatClampNeg) = (0 : Int32)) => ?_)
    · skip
      have g20 := i_eq h19
      have hV21 : zV (ma_u m 105 s.toNatClampNeg ((m 105 s.toNatClampNeg) - (1 : Int32))) := ua_105 hV
      exact K _ (zF_u zF_rfl rfl) hV21 r_GW r_GU r_OW r_DX r_GO r_GWD (show zlm (m 99) (m 121) (m 94 80) ≤ zlm (m 99) (m 121) (m 94 80) from by first | (exact Nat.le_refl _) | (exfalso; omega; done) | (exfalso; contradiction; done))
    · skip
      have g22 := i_ne h19
      have hg23 : (0 ≤ s ∧ s.toNatClampNeg < 3100) := i_ix (by omega) (by omega)
      refine ⟨hg23, ?_⟩
      first | have f24 : 0 ≤ (m 109 s.toNatClampNeg).toInt ∧ (m 109 s.toNatClampNeg).toInt ≤ 1 := ra_109 (m := m) hV (k := s.toNatClampNeg) (i_ix (n := 3100) (by omega) (by omega)).2 | have b25 := i_bd (m 109 s.toNatClampNeg)
      refine zd (fun (h26 : (m 109 s.toNatClampNeg) = (0 : Int32)) => ?_) (fun (h26 : ¬ (m 109 s.toNatClampNeg) = (0 : Int32)) => ?_)
      · skip
        have g27 := i_eq h26
        have hV28 : zV (ma_u m 105 s.toNatClampNeg ((m 105 s.toNatClampNeg) - (1 : Int32))) := ua_105 hV
        refine sp_198 (s) hV28  (fun m1 hV_m1 p0_m1 => zmv_n ?_)
        have p0_m1 : zuw (m 113) (m1 113) := p0_m1
        have hg29 : (0 ≤ s ∧ s.toNatClampNeg < 3100) := i_ix (by omega) (by omega)
        refine ⟨hg29, ?_⟩
        have hg30 : (0 ≤ s ∧ s.toNatClampNeg < 3100) := i_ix (by omega) (by omega)
        refine ⟨hg30, ?_⟩
        first | have f31 : 0 ≤ (m 103 s.toNatClampNeg).toInt ∧ (m 103 s.toNatClampNeg).toInt ≤ 4599 := ra_103 (m := m) hV (k := s.toNatClampNeg) (i_ix (n := 3100) (by omega) (by omega)).2 | have b32 := i_bd (m 103 s.toNatClampNeg)
        have hg33 : (0 ≤ (m 103 s.toNatClampNeg) ∧ (m 103 s.toNatClampNeg).toNatClampNeg < 4600) := i_ix (by omega) (by omega)
        refine ⟨hg33, ?_⟩
        have hg34 : (0 ≤ s ∧ s.toNatClampNeg < 3100) := i_ix (by omega) (by omega)
        refine ⟨hg34, ?_⟩
        have hg35 : (0 ≤ s ∧ s.toNatClampNeg < 3100) := i_ix (by omega) (by omega)
        refine ⟨hg35, ?_⟩
        have f36 : 0 ≤ (m 94 80).toInt ∧ (m 94 80).toInt ≤ 3100 := rs_94_80 (m := m) hV
        try have gk := go_room r_GO (by assumption) (by omega)
        have hg37 : (0 ≤ (m 94 80) ∧ (m 94 80).toNatClampNeg < 3100) := i_ix (by omega) (by omega)
        refine ⟨hg37, ?_⟩
        try have gk := go_room r_GO (by assumption) (by omega)
        have hg38 : (0 ≤ (m 94 80) ∧ (m 94 80).toNatClampNeg < 3100) := i_ix (by omega) (by omega)
        refine ⟨hg38, ?_⟩
        have hV39 : zV (ma_u (zov wr_198 (ma_u m 105 s.toNatClampNeg ((m 105 s.toNatClampNeg) - (1 : Int32))) m1) 99 s.toNatClampNeg (0 : Int32)) := ua_99 hV_m1 (by omega) (by omega)
        have li41 : (-1 : Int32).toInt = -1 := rfl
        have hV40 : zV (ma_u (ma_u (zov wr_198 (ma_u m 105 s.toNatClampNeg ((m 105 s.toNatClampNeg) - (1 : Int32))) m1) 99 s.toNatClampNeg (0 : Int32)) 111 (m 103 s.toNatClampNeg).toNatClampNeg (-1 : Int32)) := ua_111 hV39 (by omega) (by omega)
        have hV42 : zV (ma_u (ma_u (ma_u (zov wr_198 (ma_u m 105 s.toNatClampNeg ((m 105 s.toNatClampNeg) - (1 : Int32))) m1) 99 s.toNatClampNeg (0 : Int32)) 111 (m 103 s.toNatClampNeg).toNatClampNeg (-1 : Int32)) 94 44 ((m 94 44) - (1 : Int32))) := uf_94_44 hV40
        have hV43 : zV (ma_u (ma_u (ma_u (ma_u (zov wr_198 (ma_u m 105 s.toNatClampNeg ((m 105 s.toNatClampNeg) - (1 : Int32))) m1) 99 s.toNatClampNeg (0 : Int32)) 111 (m 103 s.toNatClampNeg).toNatClampNeg (-1 : Int32)) 94 44 ((m 94 44) - (1 : Int32))) 94 45 ((m 94 45) - ((m 102 s.toNatClampNeg) + (1 : Int32)))) := uf_94_45 hV42
        have hV44 : zV (ma_u (ma_u (ma_u (ma_u (ma_u (zov wr_198 (ma_u m 105 s.toNatClampNeg ((m 105 s.toNatClampNeg) - (1 : Int32))) m1) 99 s.toNatClampNeg (0 : Int32)) 111 (m 103 s.toNatClampNeg).toNatClampNeg (-1 : Int32)) 94 44 ((m 94 44) - (1 : Int32))) 94 45 ((m 94 45) - ((m 102 s.toNatClampNeg) + (1 : Int32)))) 94 49 ((m 94 49) + ((m 102 s.toNatClampNeg) + (1 : Int32)))) := uf_94_49 hV43
        have hV45 : zV (ma_u (ma_u (ma_u (ma_u (ma_u (ma_u (zov wr_198 (ma_u m 105 s.toNatClampNeg ((m 105 s.toNatClampNeg) - (1 : Int32))) m1) 99 s.toNatClampNeg (0 : Int32)) 111 (m 103 s.toNatClampNeg).toNatClampNeg (-1 : Int32)) 94 44 ((m 94 44) - (1 : Int32))) 94 45 ((m 94 45) - ((m 102 s.toNatClampNeg) + (1 : Int32)))) 94 49 ((m 94 49) + ((m 102 s.toNatClampNeg) + (1 : Int32)))) 120 (m 94 80).toNatClampNeg s) := ua_120 hV44 (by omega) (by omega)
        have hV46 : zV (ma_u (ma_u (ma_u (ma_u (ma_u (ma_u (ma_u (zov wr_198 (ma_u m 105 s.toNatClampNeg ((m 105 s.toNatClampNeg) - (1 : Int32))) m1) 99 s.toNatClampNeg (0 : Int32)) 111 (m 103 s.toNatClampNeg).toNatClampNeg (-1 : Int32)) 94 44 ((m 94 44) - (1 : Int32))) 94 45 ((m 94 45) - ((m 102 s.toNatClampNeg) + (1 : Int32)))) 94 49 ((m 94 49) + ((m 102 s.toNatClampNeg) + (1 : Int32)))) 120 (m 94 80).toNatClampNeg s) 121 (m 94 80).toNatClampNeg (0 : Int32)) := ua_121 hV45 (by omega) (by omega)
        first | have e48 : ((m 94 80) + (1 : Int32)).toInt = (m 94 80).toInt + (1) := i_addk rfl (by omega) (by omega) | have b49 := i_bd ((m 94 80) + (1 : Int32))
        have hV47 : zV (ma_u (ma_u (ma_u (ma_u (ma_u (ma_u (ma_u (ma_u (zov wr_198 (ma_u m 105 s.toNatClampNeg ((m 105 s.toNatClampNeg) - (1 : Int32))) m1) 99 s.toNatClampNeg (0 : Int32)) 111 (m 103 s.toNatClampNeg).toNatClampNeg (-1 : Int32)) 94 44 ((m 94 44) - (1 : Int32))) 94 45 ((m 94 45) - ((m 102 s.toNatClampNeg) + (1 : Int32)))) 94 49 ((m 94 49) + ((m 102 s.toNatClampNeg) + (1 : Int32)))) 120 (m 94 80).toNatClampNeg s) 121 (m 94 80).toNatClampNeg (0 : Int32)) 94 80 ((m 94 80) + (1 : Int32))) := us_94_80 hV46 (by omega) (by omega)
        exact K _ (zF_u (zF_u (zF_u (zF_u (zF_u (zF_u (zF_u (zF_u (zF_zov (zF_u zF_rfl rfl) ws_198_242) rfl) rfl) rfl) rfl) rfl) rfl) rfl) rfl) hV47 r_GW (show zGU T (m 94 46) ((ma_u m 99 s.toNatClampNeg (0 : Int32)) 99) from by first | (exact GU_0 r_GU) | (exfalso; omega; done) | (exfalso; contradiction; done)) (show zOw ((ma_u m 99 s.toNatClampNeg (0 : Int32)) 99) (m 103) ((ma_u m 111 (m 103 s.toNatClampNeg).toNatClampNeg (-1 : Int32)) 111) from by first | (exact Ow_rm r_OW (by decide) (tn_cast (by omega)).symm) | (exfalso; omega; done) | (exfalso; contradiction; done)) (show zDX (m 94 10) ((ma_u m 99 s.toNatClampNeg (0 : Int32)) 99) (m 112) (m1 113) (m 114) (m 94 55) (m 98) (m 101) (m 102) (m 108) from by first | (exact fun hp => absurd hp (by omega)) | (exfalso; omega; done) | (exfalso; contradiction; done)) (show zgo ((m 94 80) + (1 : Int32)) ((ma_u m 99 s.toNatClampNeg (0 : Int32)) 99) from by first | (exact go_push r_GO (by assumption) (by omega) (by omega)) | (exfalso; omega; done) | (exfalso; contradiction; done)) (show zgw ((ma_u m 121 (m 94 80).toNatClampNeg (0 : Int32)) 121) ((ma_u m 120 (m 94 80).toNatClampNeg s) 120) (m 102) ((m 94 80) + (1 : Int32)) from by first | (exact gw_push r_GWD (by omega) (by omega) (by have := ra_102 (m := m) hV (k := s.toNatClampNeg) (by omega); have z : (0 : Int32).toInt = 0 := rfl; omega)) | (exfalso; omega; done) | (exfalso; contradiction; done)) (show zlm ((ma_u m 99 s.toNatClampNeg (0 : Int32)) 99) ((ma_u m 121 (m 94 80).toNatClampNeg (0 : Int32)) 121) ((m 94 80) + (1 : Int32)) ≤ zlm (m 99) (m 121) (m 94 80) from by first | (have zq := lm_push (m := m) (c := 99) (mg := m) (d := 121) (k := s.toNatClampNeg) (gm := m 94 80) (gm₉ := (m 94 80) + (1 : Int32)) (x := (0 : Int32)) (by assumption) (by omega) (by omega) (by omega) (by omega) (by decide); exact zq; done) | (exfalso; omega; done) | (exfalso; contradiction; done))
      · skip
        have g50 := i_ne h26
        have hV51 : zV (ma_u m 105 s.toNatClampNeg ((m 105 s.toNatClampNeg) - (1 : Int32))) := ua_105 hV
        refine sp_197 (s) hV51 (by omega) (by omega) (show (m 109) s.toNatClampNeg ≠ 0 from by first | (assumption; done) | (exfalso; omega; done) | (exfalso; contradiction; done)) r_GW (fun m3 hV_m3 p0_m3 p1_m3 p2_m3 p3_m3 => zmv_n ?_)
        have p0_m3 : zGW T (m3 94 55) (m3 109) := p0_m3
        have p1_m3 : zuw (m 113) (m3 113) := p1_m3
        have p2_m3 : zwx (m 114) (m3 114) (m 94 55) s := p2_m3
        have p3_m3 : (m3 94 55).toInt = (m 94 55).toInt + 1 := p3_m3
        have f52 : 0 ≤ (m3 94 55).toInt ∧ (m3 94 55).toInt ≤ 3100 := rs_94_55 (m := (zov wr_197 (ma_u m 105 s.toNatClampNeg ((m 105 s.toNatClampNeg) - (1 : Int32))) m3)) hV_m3
        have f53 : 0 ≤ (m 94 55).toInt ∧ (m 94 55).toInt ≤ 3100 := rs_94_55 (m := m) hV
        exact K _ (zF_zov (zF_u zF_rfl rfl) ws_197_242) hV_m3 p0_m3 r_GU r_OW (show zDX (m 94 10) (m 99) (m 112) (m3 113) (m3 114) (m3 94 55) (m 98) (m 101) (m 102) (m 108) from by first | (exact fun hp => absurd hp (by omega)) | (exfalso; omega; done) | (exfalso; contradiction; done)) r_GO r_GWD (show zlm (m 99) (m 121) (m 94 80) ≤ zlm (m 99) (m 121) (m 94 80) from by first | (exact Nat.le_refl _) | (exfalso; omega; done) | (exfalso; contradiction; done))

