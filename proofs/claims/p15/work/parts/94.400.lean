/-! the reference (written by wip/tools/gen94m.py) -/
set_option maxRecDepth 100000 in
theorem hm_168 : ma_md 168 = some (12, yX12_four, cX12_four, 3, none) := rfl
theorem s_94 : zs 94 = some (12, 85) := rfl
theorem s_95 : zs 95 = some (21, 100) := rfl
theorem r_94_1 : zfi 94 1 = some 95 := rfl
theorem f_12_13_12 : ma_fld 12 13 12 = some 1 := by decide +kernel
theorem f_12_107_12 : ma_fld 12 107 12 = some 3 := by decide +kernel
theorem p_12_107_12 : ma_pk 12 107 12 3 = true := by decide +kernel
theorem dX12_four_0 : decode cX12_four 0 = .ok (.bipush 24, 2) := by decide +kernel
theorem dX12_four_2 : decode cX12_four 2 = .ok (.istore_n 2, 1) := by decide +kernel
theorem dX12_four_3 : decode cX12_four 3 = .ok (.iload_n 2, 1) := by decide +kernel
theorem dX12_four_36 : decode cX12_four 36 = .ok (.return_, 1) := by decide +kernel
theorem dX12_four_7 : decode cX12_four 7 = .ok (.aload_n 0, 1) := by decide +kernel
theorem dX12_four_11 : decode cX12_four 11 = .ok (.aload_n 0, 1) := by decide +kernel
theorem dX12_four_15 : decode cX12_four 15 = .ok (.iload_n 1, 1) := by decide +kernel
theorem dX12_four_16 : decode cX12_four 16 = .ok (.iload_n 2, 1) := by decide +kernel
theorem dX12_four_17 : decode cX12_four 17 = .ok (.ishr, 1) := by decide +kernel
theorem dX12_four_18 : decode cX12_four 18 = .ok (.i2b, 1) := by decide +kernel
theorem dX12_four_20 : decode cX12_four 20 = .ok (.aload_n 0, 1) := by decide +kernel
theorem dX12_four_21 : decode cX12_four 21 = .ok (.dup, 1) := by decide +kernel
theorem dX12_four_25 : decode cX12_four 25 = .ok (.iconst 1, 1) := by decide +kernel
theorem dX12_four_26 : decode cX12_four 26 = .ok (.iadd, 1) := by decide +kernel
theorem dX12_four_30 : decode cX12_four 30 = .ok (.iinc 2 (-8), 3) := by decide +kernel
theorem dX12_four_33 : decode cX12_four 33 = .ok (.goto (-30), 3) := by decide +kernel
theorem dX12_four_27 : decode cX12_four 27 = .ok (.putfield 107, 3) := by decide +kernel
theorem dX12_four_22 : decode cX12_four 22 = .ok (.getfield 107, 3) := by decide +kernel
theorem dX12_four_19 : decode cX12_four 19 = .ok (.bastore, 1) := by decide +kernel
theorem dX12_four_12 : decode cX12_four 12 = .ok (.getfield 107, 3) := by decide +kernel
theorem dX12_four_8 : decode cX12_four 8 = .ok (.getfield 13, 3) := by decide +kernel
theorem dX12_four_4 : decode cX12_four 4 = .ok (.ifCond .lt 32, 3) := by decide +kernel
def wr_168 (c k : Nat) : Bool := Nat.beq c 95 || (Nat.beq c 94 && (Nat.beq k 3))
theorem g_168_0 {X : Nat × (Nat → Int32)} {m : Nat → Nat → Int32} {P : Option ma_V → (Nat → Nat → Int32) → Prop} (a : Int32) (h : zm X 0 0 168 3 [(0, .inr (.inr (some 94))), (1, .inl a), (2, .inl (24 : Int32))] m P) : zm X 0 0 168 0 [(0, .inr (.inr (some 94))), (1, .inl a)] m P := by
  intro d w S Q hd hw hS hm HQ
  subst hm
  refine zw_push hm_168 dX12_four_0 (v := .inl (24 : Int32)) rfl ?_
  refine zw_sto hm_168 dX12_four_2 [(2, .inl (24 : Int32)), (0, .inr (.inr (some 94))), (1, .inl a)] rfl rfl rfl ?_
  exact zw_sub (ma_nd_of (ks := [0, 1, 2]) rfl (by decide)) (ma_nd_of (ks := [2, 0, 1]) rfl (by decide)) (ma_le_cons rfl (ma_le_cons rfl (ma_le_cons rfl (ma_le_nil _)))) (h d w _ Q (by omega) (by omega) hS rfl HQ)
theorem g_168_3 {X : Nat × (Nat → Int32)} {m : Nat → Nat → Int32} {P : Option ma_V → (Nat → Nat → Int32) → Prop} (l1 : Int32) (l2 : Int32) (h : if l2 < 0 then (P none m) else ((0 ≤ (m 94 3) ∧ (m 94 3).toNatClampNeg < 100) ∧ (zm X 0 0 168 3 [(0, .inr (.inr (some 94))), (1, .inl l1), (2, .inl (l2 + (-8 : Int32)))] (ma_u (ma_u m 95 (m 94 3).toNatClampNeg (vp_nar .byte ((l1 >>> (l2 &&& 31)).toInt8.toInt32))) 94 3 ((m 94 3) + (1 : Int32))) P))) : zm X 0 0 168 3 [(0, .inr (.inr (some 94))), (1, .inl l1), (2, .inl l2)] m P := by
  intro d w S Q hd hw hS hm HQ
  subst hm
  refine zw_push hm_168 dX12_four_3 (v := .inl l2) rfl ?_
  refine zw_if0 hm_168 dX12_four_4 (t := 36) rfl zc0_lt ?_ ?_
  · intro hc
    rw [if_pos hc] at h
    exact zw_vret hm_168 dX12_four_36 (HQ _ _ h)
  · intro hc
    rw [if_neg hc] at h
    refine zw_push hm_168 dX12_four_7 (v := .inr (.inr (some 94))) rfl ?_
    refine zw_gf hm_168 dX12_four_8 (v := .inr (.inr (some 95))) (zT_is hS s_94) (zT_t hS s_94) rfl f_12_13_12 (zT_f hS r_94_1) ?_
    refine zw_push hm_168 dX12_four_11 (v := .inr (.inr (some 94))) rfl ?_
    refine zw_gf hm_168 dX12_four_12 (v := .inl ((mI S) 94 3)) (zT_is hS s_94) (zT_t hS s_94) rfl f_12_107_12 rfl ?_
    refine zw_push hm_168 dX12_four_15 (v := .inl l1) rfl ?_
    refine zw_push hm_168 dX12_four_16 (v := .inl l2) rfl ?_
    refine zw_stk hm_168 dX12_four_17 (st' := [.inl (l1 >>> (l2 &&& 31)), .inl ((mI S) 94 3), .inr (.inr (some 95))]) rfl rfl ?_
    refine zw_stk hm_168 dX12_four_18 (st' := [.inl ((l1 >>> (l2 &&& 31)).toInt8.toInt32), .inl ((mI S) 94 3), .inr (.inr (some 95))]) rfl rfl ?_
    obtain ⟨hg, h⟩ := h
    refine zw_bas21 hm_168 dX12_four_19 (zT_is hS s_95) (zT_h hS s_95) rfl hg ?_
    refine zw_push hm_168 dX12_four_20 (v := .inr (.inr (some 94))) rfl ?_
    refine zw_stk hm_168 dX12_four_21 (st' := [.inr (.inr (some 94)), .inr (.inr (some 94))]) rfl rfl ?_
    refine zw_gf hm_168 dX12_four_22 (v := .inl ((mI S) 94 3)) (zT_is (zT_pi hS) s_94) (zT_t (zT_pi hS) s_94) rfl f_12_107_12 rfl ?_
    refine zw_push hm_168 dX12_four_25 (v := .inl (1 : Int32)) rfl ?_
    refine zw_stk hm_168 dX12_four_26 (st' := [.inl (((mI S) 94 3) + (1 : Int32)), .inr (.inr (some 94))]) rfl rfl ?_
    refine zw_pf hm_168 dX12_four_27 (zT_is (zT_pi hS) s_94) (zT_t (zT_pi hS) s_94) p_12_107_12 zk_int ?_
    refine zw_sto hm_168 dX12_four_30 [(2, .inl (l2 + (-8 : Int32))), (0, .inr (.inr (some 94))), (1, .inl l1)] rfl rfl rfl ?_
    refine zw_goto hm_168 dX12_four_33 (t := 3) rfl ?_
    exact zw_sub (ma_nd_of (ks := [0, 1, 2]) rfl (by decide)) (ma_nd_of (ks := [2, 0, 1]) rfl (by decide)) (ma_le_cons rfl (ma_le_cons rfl (ma_le_cons rfl (ma_le_nil _)))) (h d w _ Q (by omega) (by omega) (zT_pi (zT_pi hS)) rfl HQ)
theorem lp_168_3 {X : Nat × (Nat → Int32)} {P : Option ma_V → (Nat → Nat → Int32) → Prop} {a : Int32} {m0 : Nat → Nat → Int32} (h0 : zV m0) (K : ∀ m', zF wr_168 m0 m' → zV m' → ((m' 94 3).toInt = (m0 94 3).toInt + 4) → P none m') : ∀ (n : Nat) (m : Nat → Nat → Int32) (l1 : Int32) (l2 : Int32), (l2.toInt + 8).toNat = n → zF wr_168 m0 m → zV m → ((l2.toInt = 24 ∧ (m 94 3).toInt = (m0 94 3).toInt + 0) ∨ (l2.toInt = 16 ∧ (m 94 3).toInt = (m0 94 3).toInt + 1) ∨ (l2.toInt = 8 ∧ (m 94 3).toInt = (m0 94 3).toInt + 2) ∨ (l2.toInt = 0 ∧ (m 94 3).toInt = (m0 94 3).toInt + 3) ∨ (l2.toInt = -8 ∧ (m 94 3).toInt = (m0 94 3).toInt + 4)) → ((m0 94 3).toInt ≤ 96) → zm X 0 0 168 3 [(0, .inr (.inr (some 94))), (1, .inl l1), (2, .inl l2)] m P := by
  intro n
  induction n using Nat.strongRecOn with
  | _ n IH =>
    intro m l1 l2 hmu hF hV hi0 hi1
    refine g_168_3 l1 l2 ?_
    have f1 : 0 ≤ (m 94 3).toInt ∧ (m 94 3).toInt ≤ 100 := rs_94_3 (m := m) hV
    have f2 : 0 ≤ (m0 94 3).toInt ∧ (m0 94 3).toInt ≤ 100 := rs_94_3 (m := m0) h0
    have b3 := i_bd l2
    have li4 : (0 : Int32).toInt = 0 := rfl
    refine zd (fun (h5 : l2 < (0 : Int32)) => ?_) (fun (h5 : ¬ l2 < (0 : Int32)) => ?_)
    · skip
      have g6 := i_lt h5
      exact K _ hF hV (show (m 94 3).toInt = (m0 94 3).toInt + 4 from by omega)
    · skip
      have g7 := i_nlt h5
      have hg8 : (0 ≤ (m 94 3) ∧ (m 94 3).toNatClampNeg < 100) := i_ix (by omega) (by omega)
      refine ⟨hg8, ?_⟩
      have hV9 : zV (ma_u m 95 (m 94 3).toNatClampNeg (vp_nar .byte ((l1 >>> (l2 &&& 31)).toInt8.toInt32))) := ua_95 hV
      first | have e11 : ((m 94 3) + (1 : Int32)).toInt = (m 94 3).toInt + (1) := i_addk rfl (by omega) (by omega) | have b12 := i_bd ((m 94 3) + (1 : Int32))
      have hV10 : zV (ma_u (ma_u m 95 (m 94 3).toNatClampNeg (vp_nar .byte ((l1 >>> (l2 &&& 31)).toInt8.toInt32))) 94 3 ((m 94 3) + (1 : Int32))) := us_94_3 hV9 (by omega) (by omega)
      first | have e13 : (l2 + (-8 : Int32)).toInt = l2.toInt + (-8) := i_addk rfl (by omega) (by omega) | have b14 := i_bd (l2 + (-8 : Int32))
      exact IH ((l2 + (-8 : Int32)).toInt + 8).toNat (by omega) _ (l1) ((l2 + (-8 : Int32))) rfl (zF_u (zF_u hF rfl) rfl) hV10 (show ((l2 + (-8 : Int32)).toInt = 24 ∧ ((m 94 3) + (1 : Int32)).toInt = (m0 94 3).toInt + 0) ∨ ((l2 + (-8 : Int32)).toInt = 16 ∧ ((m 94 3) + (1 : Int32)).toInt = (m0 94 3).toInt + 1) ∨ ((l2 + (-8 : Int32)).toInt = 8 ∧ ((m 94 3) + (1 : Int32)).toInt = (m0 94 3).toInt + 2) ∨ ((l2 + (-8 : Int32)).toInt = 0 ∧ ((m 94 3) + (1 : Int32)).toInt = (m0 94 3).toInt + 3) ∨ ((l2 + (-8 : Int32)).toInt = -8 ∧ ((m 94 3) + (1 : Int32)).toInt = (m0 94 3).toInt + 4) from by omega) (show (m0 94 3).toInt ≤ 96 from by omega)
theorem sp_168 {X : Nat × (Nat → Int32)} {P : Option ma_V → (Nat → Nat → Int32) → Prop} {m : Nat → Nat → Int32} (a : Int32) (hV : zV m) (hpre0 : (m 94 3).toInt ≤ 96) (KZ : ∀ m', zV (zov wr_168 m m') → ((m' 94 3).toInt = (m 94 3).toInt + 4) → P none (zov wr_168 m m')) : zm X 0 0 168 0 [(0, .inr (.inr (some 94))), (1, .inl a)] m P := by
  have K : ∀ m', zF wr_168 m m' → zV m' → ((m' 94 3).toInt = (m 94 3).toInt + 4) → P none m' := by
    intro m' hf z q0
    have e := zov_eq hf
    rw [e] at z ⊢
    try rw [e] at q0
    exact KZ m' z q0
  refine g_168_0 a ?_
  have f1 : 0 ≤ (m 94 3).toInt ∧ (m 94 3).toInt ≤ 100 := rs_94_3 (m := m) hV
  have li2 : (24 : Int32).toInt = 24 := rfl
  exact lp_168_3 (a := a) hV K _ _ (a) ((24 : Int32)) rfl zF_rfl hV (show ((24 : Int32).toInt = 24 ∧ (m 94 3).toInt = (m 94 3).toInt + 0) ∨ ((24 : Int32).toInt = 16 ∧ (m 94 3).toInt = (m 94 3).toInt + 1) ∨ ((24 : Int32).toInt = 8 ∧ (m 94 3).toInt = (m 94 3).toInt + 2) ∨ ((24 : Int32).toInt = 0 ∧ (m 94 3).toInt = (m 94 3).toInt + 3) ∨ ((24 : Int32).toInt = -8 ∧ (m 94 3).toInt = (m 94 3).toInt + 4) from by omega) (show (m 94 3).toInt ≤ 96 from by omega)
