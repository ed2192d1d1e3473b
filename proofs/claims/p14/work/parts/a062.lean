/-! from 94.487 -/
/-! the reference (written by wip/tools/gen94m.py) -/
set_option maxRecDepth 100000 in
theorem hm_216 : ma_md 216 = some (12, yX12_comeDirty, cX12_comeDirty, 5, none) := rfl
theorem dX12_comeDirty_0 : decode cX12_comeDirty 0 = .ok (.iconst 0, 1) := by decide +kernel
theorem dX12_comeDirty_1 : decode cX12_comeDirty 1 = .ok (.istore_n 2, 1) := by decide +kernel
theorem dX12_comeDirty_2 : decode cX12_comeDirty 2 = .ok (.iload_n 2, 1) := by decide +kernel
theorem dX12_comeDirty_3 : decode cX12_comeDirty 3 = .ok (.iload_n 1, 1) := by decide +kernel
theorem dX12_comeDirty_81 : decode cX12_comeDirty 81 = .ok (.return_, 1) := by decide +kernel
theorem dX12_comeDirty_7 : decode cX12_comeDirty 7 = .ok (.aload_n 0, 1) := by decide +kernel
theorem dX12_comeDirty_11 : decode cX12_comeDirty 11 = .ok (.iload_n 2, 1) := by decide +kernel
theorem dX12_comeDirty_13 : decode cX12_comeDirty 13 = .ok (.istore_n 3, 1) := by decide +kernel
theorem dX12_comeDirty_14 : decode cX12_comeDirty 14 = .ok (.iload_n 3, 1) := by decide +kernel
theorem dX12_comeDirty_24 : decode cX12_comeDirty 24 = .ok (.iconst 0, 1) := by decide +kernel
theorem dX12_comeDirty_25 : decode cX12_comeDirty 25 = .ok (.istore 4, 2) := by decide +kernel
theorem dX12_comeDirty_18 : decode cX12_comeDirty 18 = .ok (.iinc 2 1, 3) := by decide +kernel
theorem dX12_comeDirty_21 : decode cX12_comeDirty 21 = .ok (.goto (-19), 3) := by decide +kernel
theorem dX12_comeDirty_15 : decode cX12_comeDirty 15 = .ok (.ifCond .ge 9, 3) := by decide +kernel
theorem dX12_comeDirty_12 : decode cX12_comeDirty 12 = .ok (.iaload, 1) := by decide +kernel
theorem dX12_comeDirty_8 : decode cX12_comeDirty 8 = .ok (.getfield 65, 3) := by decide +kernel
theorem dX12_comeDirty_4 : decode cX12_comeDirty 4 = .ok (.if_icmp .ge 77, 3) := by decide +kernel
theorem dX12_comeDirty_27 : decode cX12_comeDirty 27 = .ok (.iload 4, 2) := by decide +kernel
theorem dX12_comeDirty_29 : decode cX12_comeDirty 29 = .ok (.aload_n 0, 1) := by decide +kernel
theorem dX12_comeDirty_33 : decode cX12_comeDirty 33 = .ok (.iload_n 3, 1) := by decide +kernel
theorem dX12_comeDirty_70 : decode cX12_comeDirty 70 = .ok (.iload_n 2, 1) := by decide +kernel
theorem dX12_comeDirty_71 : decode cX12_comeDirty 71 = .ok (.aload_n 0, 1) := by decide +kernel
theorem dX12_comeDirty_72 : decode cX12_comeDirty 72 = .ok (.iload_n 3, 1) := by decide +kernel
theorem dX12_comeDirty_73 : decode cX12_comeDirty 73 = .ok (.invokevirtual 327, 3) := by decide +kernel
theorem dX12_comeDirty_76 : decode cX12_comeDirty 76 = .ok (.iadd, 1) := by decide +kernel
theorem dX12_comeDirty_77 : decode cX12_comeDirty 77 = .ok (.istore_n 2, 1) := by decide +kernel
theorem dX12_comeDirty_78 : decode cX12_comeDirty 78 = .ok (.goto (-76), 3) := by decide +kernel
theorem dX12_comeDirty_38 : decode cX12_comeDirty 38 = .ok (.aload_n 0, 1) := by decide +kernel
theorem dX12_comeDirty_42 : decode cX12_comeDirty 42 = .ok (.aload_n 0, 1) := by decide +kernel
theorem dX12_comeDirty_43 : decode cX12_comeDirty 43 = .ok (.iload_n 3, 1) := by decide +kernel
theorem dX12_comeDirty_44 : decode cX12_comeDirty 44 = .ok (.iload 4, 2) := by decide +kernel
theorem dX12_comeDirty_46 : decode cX12_comeDirty 46 = .ok (.invokevirtual 375, 3) := by decide +kernel
theorem dX12_comeDirty_64 : decode cX12_comeDirty 64 = .ok (.iinc 4 1, 3) := by decide +kernel
theorem dX12_comeDirty_67 : decode cX12_comeDirty 67 = .ok (.goto (-40), 3) := by decide +kernel
theorem dX12_comeDirty_53 : decode cX12_comeDirty 53 = .ok (.aload_n 0, 1) := by decide +kernel
theorem dX12_comeDirty_54 : decode cX12_comeDirty 54 = .ok (.aload_n 0, 1) := by decide +kernel
theorem dX12_comeDirty_55 : decode cX12_comeDirty 55 = .ok (.iload_n 3, 1) := by decide +kernel
theorem dX12_comeDirty_56 : decode cX12_comeDirty 56 = .ok (.iload 4, 2) := by decide +kernel
theorem dX12_comeDirty_58 : decode cX12_comeDirty 58 = .ok (.invokevirtual 294, 3) := by decide +kernel
theorem dX12_comeDirty_61 : decode cX12_comeDirty 61 = .ok (.invokevirtual 365, 3) := by decide +kernel
theorem dX12_comeDirty_50 : decode cX12_comeDirty 50 = .ok (.ifCond .eq 14, 3) := by decide +kernel
theorem dX12_comeDirty_49 : decode cX12_comeDirty 49 = .ok (.baload, 1) := by decide +kernel
theorem dX12_comeDirty_39 : decode cX12_comeDirty 39 = .ok (.getfield 83, 3) := by decide +kernel
theorem dX12_comeDirty_35 : decode cX12_comeDirty 35 = .ok (.if_icmp .ge 35, 3) := by decide +kernel
theorem dX12_comeDirty_34 : decode cX12_comeDirty 34 = .ok (.iaload, 1) := by decide +kernel
theorem dX12_comeDirty_30 : decode cX12_comeDirty 30 = .ok (.getfield 37, 3) := by decide +kernel
def wr_216 (c k : Nat) : Bool := Nat.beq c 103 || Nat.beq c 104 || Nat.beq c 110 || Nat.beq c 111 || Nat.beq c 119 || (Nat.beq c 94 && (Nat.beq k 48 || Nat.beq k 60 || Nat.beq k 75 || Nat.beq k 77))
theorem ws_192_216 : ∀ c k, wr_192 c k = true → wr_216 c k = true := fun _ _ h => by cases h
theorem ws_207_216 : ∀ c k, wr_207 c k = true → wr_216 c k = true := by
  intro c k h
  simp only [wr_207, wr_216, Bool.or_eq_true, Bool.and_eq_true, Nat.beq_eq] at h ⊢
  omega
theorem g_216_0 {X : Nat × (Nat → Int32)} {m : Nat → Nat → Int32} {P : Option ma_V → (Nat → Nat → Int32) → Prop} (en : Int32) (h : zm X 3 64 216 2 [(0, .inr (.inr (some 94))), (1, .inl en), (2, .inl (0 : Int32))] m P) : zm X 3 64 216 0 [(0, .inr (.inr (some 94))), (1, .inl en)] m P := by
  intro d w S Q hd hw hS hm HQ
  subst hm
  refine zw_push hm_216 dX12_comeDirty_0 (v := .inl (0 : Int32)) rfl ?_
  refine zw_sto hm_216 dX12_comeDirty_1 [(2, .inl (0 : Int32)), (0, .inr (.inr (some 94))), (1, .inl en)] rfl rfl rfl ?_
  exact zw_sub (ma_nd_of (ks := [0, 1, 2]) rfl (by decide)) (ma_nd_of (ks := [2, 0, 1]) rfl (by decide)) (ma_le_cons rfl (ma_le_cons rfl (ma_le_cons rfl (ma_le_nil _)))) (h d w _ Q (by omega) (by omega) hS rfl HQ)
theorem g_216_2 {X : Nat × (Nat → Int32)} {m : Nat → Nat → Int32} {P : Option ma_V → (Nat → Nat → Int32) → Prop} (l1 : Int32) (l2 : Int32) (h : if l1 ≤ l2 then (P none m) else ((0 ≤ l2 ∧ l2.toNatClampNeg < 4600) ∧ (if 0 ≤ (m 111 l2.toNatClampNeg) then (zm X 3 64 216 27 [(0, .inr (.inr (some 94))), (1, .inl l1), (2, .inl l2), (3, .inl (m 111 l2.toNatClampNeg)), (4, .inl (0 : Int32))] m P) else (zm X 3 64 216 2 [(0, .inr (.inr (some 94))), (1, .inl l1), (2, .inl (l2 + (1 : Int32)))] m P)))) : zm X 3 64 216 2 [(0, .inr (.inr (some 94))), (1, .inl l1), (2, .inl l2)] m P := by
  intro d w S Q hd hw hS hm HQ
  subst hm
  refine zw_push hm_216 dX12_comeDirty_2 (v := .inl l2) rfl ?_
  refine zw_push hm_216 dX12_comeDirty_3 (v := .inl l1) rfl ?_
  refine zw_if2 hm_216 dX12_comeDirty_4 (t := 81) rfl zc2_ge ?_ ?_
  · intro hc
    rw [if_pos hc] at h
    exact zw_vret hm_216 dX12_comeDirty_81 (HQ _ _ h)
  · intro hc
    rw [if_neg hc] at h
    refine zw_push hm_216 dX12_comeDirty_7 (v := .inr (.inr (some 94))) rfl ?_
    refine zw_gf hm_216 dX12_comeDirty_8 (v := .inr (.inr (some 111))) (zT_is hS s_94) (zT_t hS s_94) rfl f_12_65_12 (zT_f hS r_94_43) ?_
    refine zw_push hm_216 dX12_comeDirty_11 (v := .inl l2) rfl ?_
    obtain ⟨hg, h⟩ := h
    refine zw_ia hm_216 dX12_comeDirty_12 (zT_is hS s_111) (zT_h hS s_111) rfl hg ?_
    show ma_wp X d w 216 13 [(0, .inr (.inr (some 94))), (1, .inl l1), (2, .inl l2)] [.inl ((mI S) 111 l2.toNatClampNeg)] S _
    refine zw_sto hm_216 dX12_comeDirty_13 [(3, .inl ((mI S) 111 l2.toNatClampNeg)), (0, .inr (.inr (some 94))), (1, .inl l1), (2, .inl l2)] rfl rfl rfl ?_
    refine zw_push hm_216 dX12_comeDirty_14 (v := .inl ((mI S) 111 l2.toNatClampNeg)) rfl ?_
    refine zw_if0 hm_216 dX12_comeDirty_15 (t := 24) rfl zc0_ge ?_ ?_
    · intro hc
      rw [if_pos hc] at h
      refine zw_push hm_216 dX12_comeDirty_24 (v := .inl (0 : Int32)) rfl ?_
      refine zw_sto hm_216 dX12_comeDirty_25 [(4, .inl (0 : Int32)), (3, .inl ((mI S) 111 l2.toNatClampNeg)), (0, .inr (.inr (some 94))), (1, .inl l1), (2, .inl l2)] rfl rfl rfl ?_
      exact zw_sub (ma_nd_of (ks := [0, 1, 2, 3, 4]) rfl (by decide)) (ma_nd_of (ks := [4, 3, 0, 1, 2]) rfl (by decide)) (ma_le_cons rfl (ma_le_cons rfl (ma_le_cons rfl (ma_le_cons rfl (ma_le_cons rfl (ma_le_nil _)))))) (h d w _ Q (by omega) (by omega) hS rfl HQ)
    · intro hc
      rw [if_neg hc] at h
      refine zw_sto hm_216 dX12_comeDirty_18 [(2, .inl (l2 + (1 : Int32))), (3, .inl ((mI S) 111 l2.toNatClampNeg)), (0, .inr (.inr (some 94))), (1, .inl l1)] rfl rfl rfl ?_
      refine zw_goto hm_216 dX12_comeDirty_21 (t := 2) rfl ?_
      exact zw_sub (ma_nd_of (ks := [0, 1, 2]) rfl (by decide)) (ma_nd_of (ks := [2, 3, 0, 1]) rfl (by decide)) (ma_le_cons rfl (ma_le_cons rfl (ma_le_cons rfl (ma_le_nil _)))) (h d w _ Q (by omega) (by omega) hS rfl HQ)
theorem g_216_27 {X : Nat × (Nat → Int32)} {m : Nat → Nat → Int32} {P : Option ma_V → (Nat → Nat → Int32) → Prop} (l1 : Int32) (l2 : Int32) (l3 : Int32) (l4 : Int32) (h : (0 ≤ l3 ∧ l3.toNatClampNeg < 3100) ∧ (if (m 102 l3.toNatClampNeg) ≤ l4 then ((0 ≤ l3 ∧ l3.toNatClampNeg < 3100) ∧ (zm X 3 64 216 2 [(0, .inr (.inr (some 94))), (1, .inl l1), (2, .inl (l2 + ((m 102 l3.toNatClampNeg) + (1 : Int32))))] m P)) else ((0 ≤ l3 ∧ l3.toNatClampNeg < 3100) ∧ ((m 94 16) ≠ 0 ∧ ((0 ≤ ((((m 103 l3.toNatClampNeg) + (1 : Int32)) + l4) / (m 94 16)) ∧ ((((m 103 l3.toNatClampNeg) + (1 : Int32)) + l4) / (m 94 16)).toNatClampNeg < 512) ∧ (if (m 117 ((((m 103 l3.toNatClampNeg) + (1 : Int32)) + l4) / (m 94 16)).toNatClampNeg) = 0 then (zm X 3 64 216 27 [(0, .inr (.inr (some 94))), (1, .inl l1), (2, .inl l2), (3, .inl l3), (4, .inl (l4 + (1 : Int32)))] m P) else (zm X 1 22 192 0 [(0, .inr (.inr (some 94))), (1, .inl l3), (2, .inl l4)] m (zmi (fun v2 m1 => zm X 2 43 207 0 [(0, .inr (.inr (some 94))), (1, .inl v2)] m1 (zmv (fun m3 => zm X 3 64 216 27 [(0, .inr (.inr (some 94))), (1, .inl l1), (2, .inl l2), (3, .inl l3), (4, .inl (l4 + (1 : Int32)))] m3 P))))))))))) : zm X 3 64 216 27 [(0, .inr (.inr (some 94))), (1, .inl l1), (2, .inl l2), (3, .inl l3), (4, .inl l4)] m P := by
  intro d w S Q hd hw hS hm HQ
  subst hm
  refine zw_push hm_216 dX12_comeDirty_27 (v := .inl l4) rfl ?_
  refine zw_push hm_216 dX12_comeDirty_29 (v := .inr (.inr (some 94))) rfl ?_
  refine zw_gf hm_216 dX12_comeDirty_30 (v := .inr (.inr (some 102))) (zT_is hS s_94) (zT_t hS s_94) rfl f_12_37_12 (zT_f hS r_94_34) ?_
  refine zw_push hm_216 dX12_comeDirty_33 (v := .inl l3) rfl ?_
  obtain ⟨hg, h⟩ := h
  refine zw_ia hm_216 dX12_comeDirty_34 (zT_is hS s_102) (zT_h hS s_102) rfl hg ?_
  show ma_wp X d w 216 35 [(0, .inr (.inr (some 94))), (1, .inl l1), (2, .inl l2), (3, .inl l3), (4, .inl l4)] [.inl ((mI S) 102 l3.toNatClampNeg), .inl l4] S _
  refine zw_if2 hm_216 dX12_comeDirty_35 (t := 70) rfl zc2_ge ?_ ?_
  · intro hc
    rw [if_pos hc] at h
    refine zw_push hm_216 dX12_comeDirty_70 (v := .inl l2) rfl ?_
    refine zw_push hm_216 dX12_comeDirty_71 (v := .inr (.inr (some 94))) rfl ?_
    refine zw_push hm_216 dX12_comeDirty_72 (v := .inl l3) rfl ?_
    refine zw_cv hm_216 dX12_comeDirty_73 v_12_327_12 hm_201 [.inl l3] [.inl l2] rfl (zT_rt hS s_94 rfl) ⟨by omega, by omega⟩ rfl ?_
    show ma_wp X (d - 1) (w - 21) 201 0 [(0, .inr (.inr (some 94))), (1, .inl l3)] [] S _
    refine zw_push hm_201 dX12_sizeOf_0 (v := .inr (.inr (some 94))) rfl ?_
    refine zw_gf hm_201 dX12_sizeOf_1 (v := .inr (.inr (some 102))) (zT_is hS s_94) (zT_t hS s_94) rfl f_12_37_12 (zT_f hS r_94_34) ?_
    refine zw_push hm_201 dX12_sizeOf_4 (v := .inl l3) rfl ?_
    obtain ⟨hg, h⟩ := h
    refine zw_ia hm_201 dX12_sizeOf_5 (zT_is hS s_102) (zT_h hS s_102) rfl hg ?_
    show ma_wp X (d - 1) (w - 21) 201 6 [(0, .inr (.inr (some 94))), (1, .inl l3)] [.inl ((mI S) 102 l3.toNatClampNeg)] S _
    refine zw_push hm_201 dX12_sizeOf_6 (v := .inl (1 : Int32)) rfl ?_
    refine zw_stk hm_201 dX12_sizeOf_7 (st₉ := [.inl (((mI S) 102 l3.toNatClampNeg) + (1 : Int32))]) rfl rfl ?_
    refine zw_iret hm_201 dX12_sizeOf_8 ?_
    show ma_wp X d w 216 76 [(0, .inr (.inr (some 94))), (1, .inl l1), (2, .inl l2), (3, .inl l3), (4, .inl l4)] [.inl (((mI S) 102 l3.toNatClampNeg) + (1 : Int32)), .inl l2] S _
    refine zw_stk hm_216 dX12_comeDirty_76 (st₉ := [.inl (l2 + (((mI S) 102 l3.toNatClampNeg) + (1 : Int32)))]) rfl rfl ?_
    refine zw_sto hm_216 dX12_comeDirty_77 [(2, .inl (l2 + (((mI S) 102 l3.toNatClampNeg) + (1 : Int32)))), (0, .inr (.inr (some 94))), (1, .inl l1), (3, .inl l3), (4, .inl l4)] rfl rfl rfl ?_
    refine zw_goto hm_216 dX12_comeDirty_78 (t := 2) rfl ?_
    exact zw_sub (ma_nd_of (ks := [0, 1, 2]) rfl (by decide)) (ma_nd_of (ks := [2, 0, 1, 3, 4]) rfl (by decide)) (ma_le_cons rfl (ma_le_cons rfl (ma_le_cons rfl (ma_le_nil _)))) (h d w _ Q (by omega) (by omega) hS rfl HQ)
  · intro hc
    rw [if_neg hc] at h
    refine zw_push hm_216 dX12_comeDirty_38 (v := .inr (.inr (some 94))) rfl ?_
    refine zw_gf hm_216 dX12_comeDirty_39 (v := .inr (.inr (some 117))) (zT_is hS s_94) (zT_t hS s_94) rfl f_12_83_12 (zT_f hS r_94_66) ?_
    refine zw_push hm_216 dX12_comeDirty_42 (v := .inr (.inr (some 94))) rfl ?_
    refine zw_push hm_216 dX12_comeDirty_43 (v := .inl l3) rfl ?_
    refine zw_push hm_216 dX12_comeDirty_44 (v := .inl l4) rfl ?_
    refine zw_cv hm_216 dX12_comeDirty_46 v_12_375_12 hm_213 [.inl l4, .inl l3] [.inr (.inr (some 117))] rfl (zT_rt hS s_94 rfl) ⟨by omega, by omega⟩ rfl ?_
    show ma_wp X (d - 1) (w - 22) 213 0 [(0, .inr (.inr (some 94))), (1, .inl l3), (2, .inl l4)] [] S _
    refine zw_push hm_213 dX12_cardOf_0 (v := .inr (.inr (some 94))) rfl ?_
    refine zw_gf hm_213 dX12_cardOf_1 (v := .inr (.inr (some 103))) (zT_is hS s_94) (zT_t hS s_94) rfl f_12_40_12 (zT_f hS r_94_35) ?_
    refine zw_push hm_213 dX12_cardOf_4 (v := .inl l3) rfl ?_
    obtain ⟨hg, h⟩ := h
    refine zw_ia hm_213 dX12_cardOf_5 (zT_is hS s_103) (zT_h hS s_103) rfl hg ?_
    show ma_wp X (d - 1) (w - 22) 213 6 [(0, .inr (.inr (some 94))), (1, .inl l3), (2, .inl l4)] [.inl ((mI S) 103 l3.toNatClampNeg)] S _
    refine zw_push hm_213 dX12_cardOf_6 (v := .inl (1 : Int32)) rfl ?_
    refine zw_stk hm_213 dX12_cardOf_7 (st₉ := [.inl (((mI S) 103 l3.toNatClampNeg) + (1 : Int32))]) rfl rfl ?_
    refine zw_push hm_213 dX12_cardOf_8 (v := .inl l4) rfl ?_
    refine zw_stk hm_213 dX12_cardOf_9 (st₉ := [.inl ((((mI S) 103 l3.toNatClampNeg) + (1 : Int32)) + l4)]) rfl rfl ?_
    refine zw_push hm_213 dX12_cardOf_10 (v := .inr (.inr (some 94))) rfl ?_
    refine zw_gf hm_213 dX12_cardOf_11 (v := .inl ((mI S) 94 16)) (zT_is hS s_94) (zT_t hS s_94) rfl f_12_216_12 rfl ?_
    obtain ⟨hg, h⟩ := h
    refine zw_stk hm_213 dX12_cardOf_14 (st₉ := [.inl (((((mI S) 103 l3.toNatClampNeg) + (1 : Int32)) + l4) / ((mI S) 94 16))]) rfl (if_neg hg) ?_
    refine zw_iret hm_213 dX12_cardOf_15 ?_
    show ma_wp X d w 216 49 [(0, .inr (.inr (some 94))), (1, .inl l1), (2, .inl l2), (3, .inl l3), (4, .inl l4)] [.inl (((((mI S) 103 l3.toNatClampNeg) + (1 : Int32)) + l4) / ((mI S) 94 16)), .inr (.inr (some 117))] S _
    obtain ⟨hg, h⟩ := h
    refine zw_ba hm_216 dX12_comeDirty_49 (zT_is hS s_117) (zT_h hS s_117) rfl rfl hg ?_
    show ma_wp X d w 216 50 [(0, .inr (.inr (some 94))), (1, .inl l1), (2, .inl l2), (3, .inl l3), (4, .inl l4)] [.inl ((mI S) 117 (((((mI S) 103 l3.toNatClampNeg) + (1 : Int32)) + l4) / ((mI S) 94 16)).toNatClampNeg)] S _
    refine zw_if0 hm_216 dX12_comeDirty_50 (t := 64) rfl zc0_eq ?_ ?_
    · intro hc
      rw [if_pos hc] at h
      refine zw_sto hm_216 dX12_comeDirty_64 [(4, .inl (l4 + (1 : Int32))), (0, .inr (.inr (some 94))), (1, .inl l1), (2, .inl l2), (3, .inl l3)] rfl rfl rfl ?_
      refine zw_goto hm_216 dX12_comeDirty_67 (t := 27) rfl ?_
      exact zw_sub (ma_nd_of (ks := [0, 1, 2, 3, 4]) rfl (by decide)) (ma_nd_of (ks := [4, 0, 1, 2, 3]) rfl (by decide)) (ma_le_cons rfl (ma_le_cons rfl (ma_le_cons rfl (ma_le_cons rfl (ma_le_cons rfl (ma_le_nil _)))))) (h d w _ Q (by omega) (by omega) hS rfl HQ)
    · intro hc
      rw [if_neg hc] at h
      refine zw_push hm_216 dX12_comeDirty_53 (v := .inr (.inr (some 94))) rfl ?_
      refine zw_push hm_216 dX12_comeDirty_54 (v := .inr (.inr (some 94))) rfl ?_
      refine zw_push hm_216 dX12_comeDirty_55 (v := .inl l3) rfl ?_
      refine zw_push hm_216 dX12_comeDirty_56 (v := .inl l4) rfl ?_
      refine zw_cv hm_216 dX12_comeDirty_58 v_12_294_12 hm_192 [.inl l4, .inl l3] [.inr (.inr (some 94))] rfl (zT_rt hS s_94 rfl) ⟨by omega, by omega⟩ rfl (h _ _ S _ (by omega) (by omega) hS rfl (fun o9 m1 hv => ?_))
      obtain ⟨v2, rfl, h⟩ := zmi_of hv
      show ma_wp X d w 216 61 [(0, .inr (.inr (some 94))), (1, .inl l1), (2, .inl l2), (3, .inl l3), (4, .inl l4)] [.inl v2, .inr (.inr (some 94))] (zst S m1) _
      refine zw_cv hm_216 dX12_comeDirty_61 v_12_365_12 hm_207 [.inl v2] [] rfl (zT_rt (zT_zst hS m1) s_94 rfl) ⟨by omega, by omega⟩ rfl (h _ _ (zst S m1) _ (by omega) (by omega) (zT_zst hS m1) rfl (fun o9 m3 hv => ?_))
      obtain ⟨rfl, h⟩ := zmv_of hv
      show ma_wp X d w 216 64 [(0, .inr (.inr (some 94))), (1, .inl l1), (2, .inl l2), (3, .inl l3), (4, .inl l4)] [] (zst S m3) _
      refine zw_sto hm_216 dX12_comeDirty_64 [(4, .inl (l4 + (1 : Int32))), (0, .inr (.inr (some 94))), (1, .inl l1), (2, .inl l2), (3, .inl l3)] rfl rfl rfl ?_
      refine zw_goto hm_216 dX12_comeDirty_67 (t := 27) rfl ?_
      exact zw_sub (ma_nd_of (ks := [0, 1, 2, 3, 4]) rfl (by decide)) (ma_nd_of (ks := [4, 0, 1, 2, 3]) rfl (by decide)) (ma_le_cons rfl (ma_le_cons rfl (ma_le_cons rfl (ma_le_cons rfl (ma_le_cons rfl (ma_le_nil _)))))) (h d w _ Q (by omega) (by omega) (zT_zst hS m3) rfl HQ)
set_option maxHeartbeats 8000000 in
theorem lp_216_27 {X : Nat × (Nat → Int32)} {P : Option ma_V → (Nat → Nat → Int32) → Prop} {en : Int32} {m0 : Nat → Nat → Int32} (h0 : zV m0) (K : ∀ m₉, zF wr_216 m0 m₉ → zV m₉ → (zKS (m₉ 110) (m₉ 94 75)) → (zOw (m₉ 99) (m₉ 103) (m₉ 111)) → (zH2 (m₉ 94 10) (m₉ 94 11) (m₉ 94 61) (m₉ 94 77) (m₉ 99) (m₉ 110) (m₉ 102)) → (zH3 (m₉ 94 10) (m₉ 94 13) (m₉ 94 14) (m₉ 94 15) (m₉ 94 61) (m₉ 94 77) (m₉ 94 60) (m₉ 99) (m₉ 110) (m₉ 104) (m₉ 102) (m₉ 103) (m₉ 111)) → ((m₉ 94 76).toInt ≤ (m₉ 94 75).toInt) → (zKU (m₉ 94 10) (m₉ 99) (m₉ 110)) → (zle (m0 110) (m₉ 110)) → (zCQ (m₉ 110) (m₉ 98) (m₉ 101) (m₉ 102) (m₉ 108) (m₉ 119) (m₉ 94 76) (m₉ 94 75) (fun _ => False) 3100 0) → P none m₉) {n2 : Nat} (OUT2 : ∀ (m₉ : Nat → Nat → Int32) (l1 : Int32) (l2 : Int32), (l1.toInt - l2.toInt).toNat < n2 → zF wr_216 m0 m₉ → zV m₉ → (0 ≤ l2.toInt) → (l1.toInt = en.toInt) → ((m₉ 94 10).toInt = 3) → (zKS (m₉ 110) (m₉ 94 75)) → (zOw (m₉ 99) (m₉ 103) (m₉ 111)) → (zH2 (m₉ 94 10) (m₉ 94 11) (m₉ 94 61) (m₉ 94 77) (m₉ 99) (m₉ 110) (m₉ 102)) → (zH3 (m₉ 94 10) (m₉ 94 13) (m₉ 94 14) (m₉ 94 15) (m₉ 94 61) (m₉ 94 77) (m₉ 94 60) (m₉ 99) (m₉ 110) (m₉ 104) (m₉ 102) (m₉ 103) (m₉ 111)) → ((m₉ 94 76).toInt ≤ (m₉ 94 75).toInt) → (zKU (m₉ 94 10) (m₉ 99) (m₉ 110)) → (zW (m₉ 94 7) (m₉ 98) (m₉ 101) (m₉ 102) (m₉ 108)) → (zDX (m₉ 94 10) (m₉ 99) (m₉ 112) (m₉ 113) (m₉ 114) (m₉ 94 55) (m₉ 98) (m₉ 101) (m₉ 102) (m₉ 108)) → (4 ≤ (m₉ 94 16).toInt) → (l1.toInt ≤ (m₉ 94 60).toInt) → (zDK l1.toInt (m₉ 94 16).toInt (m₉ 110) (m₉ 99) (m₉ 103) (m₉ 102) (m₉ 98) (m₉ 101) (m₉ 108) (m₉ 117)) → (zCQ (m₉ 110) (m₉ 98) (m₉ 101) (m₉ 102) (m₉ 108) (m₉ 119) (m₉ 94 76) (m₉ 94 75) (zXX (m₉ 99) (m₉ 103) l2.toInt l1.toInt) 3100 0) → (zle (m0 110) (m₉ 110)) → zm X 3 64 216 2 [(0, .inr (.inr (some 94))), (1, .inl l1), (2, .inl l2)] m₉ P) : ∀ (n : Nat) (m : Nat → Nat → Int32) (l1 : Int32) (l2 : Int32) (l3 : Int32) (l4 : Int32), (61 - l4.toInt).toNat = n → zF wr_216 m0 m → zV m → (0 ≤ l2.toInt) → (l1.toInt = en.toInt) → (l2.toInt < l1.toInt) → (0 ≤ l3.toInt) → (l3.toInt ≤ 3099) → (0 ≤ l4.toInt) → ((l1.toInt - l2.toInt).toNat = n2) → ((m 94 10).toInt = 3) → (zKS (m 110) (m 94 75)) → (zOw (m 99) (m 103) (m 111)) → (zH2 (m 94 10) (m 94 11) (m 94 61) (m 94 77) (m 99) (m 110) (m 102)) → (zH3 (m 94 10) (m 94 13) (m 94 14) (m 94 15) (m 94 61) (m 94 77) (m 94 60) (m 99) (m 110) (m 104) (m 102) (m 103) (m 111)) → ((m 94 76).toInt ≤ (m 94 75).toInt) → (zKU (m 94 10) (m 99) (m 110)) → (zW (m 94 7) (m 98) (m 101) (m 102) (m 108)) → (zDX (m 94 10) (m 99) (m 112) (m 113) (m 114) (m 94 55) (m 98) (m 101) (m 102) (m 108)) → (4 ≤ (m 94 16).toInt) → (l1.toInt ≤ (m 94 60).toInt) → (zDK l1.toInt (m 94 16).toInt (m 110) (m 99) (m 103) (m 102) (m 98) (m 101) (m 108) (m 117)) → (zCQ (m 110) (m 98) (m 101) (m 102) (m 108) (m 119) (m 94 76) (m 94 75) (zXX (m 99) (m 103) l2.toInt l1.toInt) 3100 0) → (zle (m0 110) (m 110)) → ((m 99) l3.toNatClampNeg ≠ 0) → ((m 103 l3.toNatClampNeg).toInt = l2.toInt) → (zUP (m 110) (m 98) (m 101) (m 108) l3.toNatClampNeg l4.toNatClampNeg) → zm X 3 64 216 27 [(0, .inr (.inr (some 94))), (1, .inl l1), (2, .inl l2), (3, .inl l3), (4, .inl l4)] m P := by
  intro n
  induction n using Nat.strongRecOn with
  | _ n IH =>
    intro m l1 l2 l3 l4 hmu hF hV hi0 hi1 hi2 hi3 hi4 hi5 hi6 hi7 r_CMK r_OW r_H2 r_H3 hi12 r_KU r_W r_DX hi16 hi17 r_DK r_CQ r_KMd r_USd hi22 r_UP
    refine g_216_27 l1 l2 l3 l4 ?_
    have f1 : 0 ≤ (m 94 10).toInt ∧ (m 94 10).toInt ≤ 6 := rs_94_10 (m := m) hV
    have f2 : 0 ≤ (m 94 76).toInt ∧ (m 94 76).toInt ≤ 3100 := rs_94_76 (m := m) hV
    have f3 : 0 ≤ (m 94 75).toInt ∧ (m 94 75).toInt ≤ 3100 := rs_94_75 (m := m) hV
    have f4 : 0 ≤ (m 94 16).toInt ∧ (m 94 16).toInt ≤ 64 := rs_94_16 (m := m) hV
    have f5 : 0 ≤ (m 94 60).toInt ∧ (m 94 60).toInt ≤ 1600 := rs_94_60 (m := m) hV
    have b6 := i_bd l3
    first | have f7 : 0 ≤ (m 103 l3.toNatClampNeg).toInt ∧ (m 103 l3.toNatClampNeg).toInt ≤ 4599 := ra_103 (m := m) hV (k := l3.toNatClampNeg) (i_ix (n := 3100) (by omega) (by omega)).2 | have b8 := i_bd (m 103 l3.toNatClampNeg)
    have hg9 : (0 ≤ l3 ∧ l3.toNatClampNeg < 3100) := i_ix (by omega) (by omega)
    refine ⟨hg9, ?_⟩
    first | have f10 : 0 ≤ (m 102 l3.toNatClampNeg).toInt ∧ (m 102 l3.toNatClampNeg).toInt ≤ 60 := ra_102 (m := m) hV (k := l3.toNatClampNeg) (i_ix (n := 3100) (by omega) (by omega)).2 | have b11 := i_bd (m 102 l3.toNatClampNeg)
    have b12 := i_bd l4
    refine zd (fun (h13 : (m 102 l3.toNatClampNeg) ≤ l4) => ?_) (fun (h13 : ¬ (m 102 l3.toNatClampNeg) ≤ l4) => ?_)
    · skip
      have g14 := i_le h13
      have hg15 : (0 ≤ l3 ∧ l3.toNatClampNeg < 3100) := i_ix (by omega) (by omega)
      refine ⟨hg15, ?_⟩
      try have tc2 := tn_cast (x := l2) (by omega)
      try have ow2 := r_OW l2.toNatClampNeg (by omega) (by omega)
      try have hsn := sm_nn (b := zbN1 (m 99) (m 110) (m 104) (m 94 15)) (ws := m 102) (n := 3100) (fun t ht => (ra_102 hV ht).1)
      try have h3a := (r_H3 (by omega)).2.1
      have b16 := i_bd l1
      have b17 := i_bd l2
      first | have e18 : ((m 102 l3.toNatClampNeg) + (1 : Int32)).toInt = (m 102 l3.toNatClampNeg).toInt + (1) := i_addk rfl (by omega) (by omega) | have b19 := i_bd ((m 102 l3.toNatClampNeg) + (1 : Int32))
      first | have e20 : (l2 + ((m 102 l3.toNatClampNeg) + (1 : Int32))).toInt = l2.toInt + ((m 102 l3.toNatClampNeg) + (1 : Int32)).toInt := i_add (by omega) (by omega) | have b21 := i_bd (l2 + ((m 102 l3.toNatClampNeg) + (1 : Int32)))
      exact OUT2 _ (l1) ((l2 + ((m 102 l3.toNatClampNeg) + (1 : Int32)))) (show (l1.toInt - (l2 + ((m 102 l3.toNatClampNeg) + (1 : Int32))).toInt).toNat < n2 from by omega) hF hV (by omega) (by omega) (show (m 94 10).toInt = 3 from by omega) r_CMK r_OW r_H2 r_H3 (show (m 94 76).toInt ≤ (m 94 75).toInt from by omega) r_KU r_W r_DX (show 4 ≤ (m 94 16).toInt from by omega) (show l1.toInt ≤ (m 94 60).toInt from by omega) r_DK (show zCQ (m 110) (m 98) (m 101) (m 102) (m 108) (m 119) (m 94 76) (m 94 75) (zXX (m 99) (m 103) (l2 + ((m 102 l3.toNatClampNeg) + (1 : Int32))).toInt l1.toInt) 3100 0 from by first | (exact CQ_over (s := l3.toNatClampNeg) r_CQ (r_H3 (by omega)).2.2.2.1 (by omega) (by omega) r_USd (by omega) (by omega) (fun i2 hi2 => r_UP i2 (by have := tn_cast (x := l4) (by omega); omega)) (by omega) (by omega)) | (exfalso; omega; done) | (exfalso; contradiction; done)) r_KMd
    · skip
      have g22 := i_nle h13
      have hg23 : (0 ≤ l3 ∧ l3.toNatClampNeg < 3100) := i_ix (by omega) (by omega)
      refine ⟨hg23, ?_⟩
      have hg24 : (m 94 16) ≠ 0 := i_nz (by omega)
      refine ⟨hg24, ?_⟩
      first | have e25 : ((m 103 l3.toNatClampNeg) + (1 : Int32)).toInt = (m 103 l3.toNatClampNeg).toInt + (1) := i_addk rfl (by omega) (by omega) | have b26 := i_bd ((m 103 l3.toNatClampNeg) + (1 : Int32))
      first | have e27 : (((m 103 l3.toNatClampNeg) + (1 : Int32)) + l4).toInt = ((m 103 l3.toNatClampNeg) + (1 : Int32)).toInt + l4.toInt := i_add (by omega) (by omega) | have b28 := i_bd (((m 103 l3.toNatClampNeg) + (1 : Int32)) + l4)
      first | have f29 := i_div (x := (((m 103 l3.toNatClampNeg) + (1 : Int32)) + l4)) (y := (m 94 16)) (by omega) (by omega) | have b30 := i_bd ((((m 103 l3.toNatClampNeg) + (1 : Int32)) + l4) / (m 94 16))
      try have dv : 0 ≤ (((((m 103 l3.toNatClampNeg) + (1 : Int32)) + l4) / (m 94 16))).toInt ∧ (((((m 103 l3.toNatClampNeg) + (1 : Int32)) + l4) / (m 94 16))).toInt ≤ 499 := i_div4 (by omega) (by omega) (by omega)
      have hg31 : (0 ≤ ((((m 103 l3.toNatClampNeg) + (1 : Int32)) + l4) / (m 94 16)) ∧ ((((m 103 l3.toNatClampNeg) + (1 : Int32)) + l4) / (m 94 16)).toNatClampNeg < 512) := i_ix (by omega) (by omega)
      refine ⟨hg31, ?_⟩
      first | have f32 : 0 ≤ (m 117 ((((m 103 l3.toNatClampNeg) + (1 : Int32)) + l4) / (m 94 16)).toNatClampNeg).toInt ∧ (m 117 ((((m 103 l3.toNatClampNeg) + (1 : Int32)) + l4) / (m 94 16)).toNatClampNeg).toInt ≤ 1 := ra_117 (m := m) hV (k := ((((m 103 l3.toNatClampNeg) + (1 : Int32)) + l4) / (m 94 16)).toNatClampNeg) (i_ix (n := 512) (by omega) (by omega)).2 | have b33 := i_bd (m 117 ((((m 103 l3.toNatClampNeg) + (1 : Int32)) + l4) / (m 94 16)).toNatClampNeg)
      have li34 : (0 : Int32).toInt = 0 := rfl
      refine zd (fun (h35 : (m 117 ((((m 103 l3.toNatClampNeg) + (1 : Int32)) + l4) / (m 94 16)).toNatClampNeg) = (0 : Int32)) => ?_) (fun (h35 : ¬ (m 117 ((((m 103 l3.toNatClampNeg) + (1 : Int32)) + l4) / (m 94 16)).toNatClampNeg) = (0 : Int32)) => ?_)
      · skip
        have g36 := i_eq h35
        try have tc2 := tn_cast (x := l2) (by omega)
        try have ow2 := r_OW l2.toNatClampNeg (by omega) (by omega)
        try have hsn := sm_nn (b := zbN1 (m 99) (m 110) (m 104) (m 94 15)) (ws := m 102) (n := 3100) (fun t ht => (ra_102 hV ht).1)
        try have h3a := (r_H3 (by omega)).2.1
        have b37 := i_bd l1
        have b38 := i_bd l2
        first | have e39 : (l4 + (1 : Int32)).toInt = l4.toInt + (1) := i_addk rfl (by omega) (by omega) | have b40 := i_bd (l4 + (1 : Int32))
        exact IH (61 - (l4 + (1 : Int32)).toInt).toNat (by omega) _ (l1) (l2) (l3) ((l4 + (1 : Int32))) rfl hF hV (by omega) (by omega) (by omega) (by omega) (by omega) (by omega) (by omega) (show (m 94 10).toInt = 3 from by omega) r_CMK r_OW r_H2 r_H3 (show (m 94 76).toInt ≤ (m 94 75).toInt from by omega) r_KU r_W r_DX (show 4 ≤ (m 94 16).toInt from by omega) (show l1.toInt ≤ (m 94 60).toInt from by omega) r_DK r_CQ r_KMd r_USd (show (m 103 l3.toNatClampNeg).toInt = l2.toInt from by omega) (show zUP (m 110) (m 98) (m 101) (m 108) l3.toNatClampNeg (l4 + (1 : Int32)).toNatClampNeg from by first | (exact UP_adv r_UP zle_rfl ((r_DK _ (by omega) r_USd (by omega) l4.toNatClampNeg (by have := tn_cast (x := l4) (by omega); omega)).elim id (fun z => absurd (by rw [← (card_ix (by omega) (by omega) (by omega) (by omega) (by omega))]; assumption) z)) (tn_succ (by omega) (by omega)) (fun i2 hi2 => W_hi r_W _ (by omega) i2 (by have := tn_cast (x := l4) (by omega); omega))) | (exfalso; omega; done) | (exfalso; contradiction; done))
      · skip
        have g41 := i_ne h35
        refine sp_192 (l3) (l4) hV (by omega) (by omega) (by omega) (show l4.toInt < (m 102 l3.toNatClampNeg).toInt from by omega) (fun v2 m1 hV_m1 p0_m1 => zmi_n ?_)
        have p0_m1 : v2 = zrf (m 98) (m 101) (m 108) l3.toNatClampNeg l4.toNatClampNeg := p0_m1
        try have := W_ref r_W (by omega) (by omega) (by omega) (by omega) p0_m1
        have b42 := i_bd v2
        refine sp_207 (XX := (zXX (m 99) (m 103) l2.toInt l1.toInt)) (CU := 3100) (II := 0) (v2) hV_m1 (by omega) (by omega) (show (m 94 10).toInt = 2 ∨ (m 94 10).toInt = 3 from by omega) (show v2.toInt < 0 ∨ (m 99) v2.toNatClampNeg ≠ 0 from by first | (rw [p0_m1]; exact ((r_DX (by omega)).2.2.2 l3.toNatClampNeg (by omega) r_USd l4.toNatClampNeg (by have := tn_cast (x := l4) (by omega); omega)); done) | (exfalso; omega; done) | (exfalso; contradiction; done)) r_CMK r_OW r_H2 r_H3 (show (m 94 76).toInt ≤ (m 94 75).toInt from by omega) r_CQ r_KU (fun m3 hV_m3 p0_m3 p1_m3 p2_m3 p3_m3 p4_m3 p5_m3 p6_m3 p7_m3 p8_m3 p9_m3 p10_m3 => zmv_n ?_)
        have p0_m3 : zKS (m3 110) (m3 94 75) := p0_m3
        have p1_m3 : zOw (m 99) (m3 103) (m3 111) := p1_m3
        have p2_m3 : zH2 (m 94 10) (m 94 11) (m 94 61) (m3 94 77) (m 99) (m3 110) (m 102) := p2_m3
        have p3_m3 : zH3 (m 94 10) (m 94 13) (m 94 14) (m 94 15) (m 94 61) (m3 94 77) (m3 94 60) (m 99) (m3 110) (m3 104) (m 102) (m3 103) (m3 111) := p3_m3
        have p4_m3 : v2.toInt < 0 ∨ (m3 110) v2.toNatClampNeg ≠ 0 := p4_m3
        have p5_m3 : zle (m 110) (m3 110) := p5_m3
        have p6_m3 : (m 94 76).toInt ≤ (m3 94 75).toInt := p6_m3
        have p7_m3 : zCQ (m3 110) (m 98) (m 101) (m 102) (m 108) (m3 119) (m 94 76) (m3 94 75) (zXX (m 99) (m 103) l2.toInt l1.toInt) 3100 0 := p7_m3
        have p8_m3 : zKU (m 94 10) (m 99) (m3 110) := p8_m3
        have p9_m3 : (m 94 10).toInt = 3 → zax (m 103) (m3 103) (m 94 60).toInt := p9_m3
        have p10_m3 : (m 94 60).toInt ≤ (m3 94 60).toInt := p10_m3
        have f43 : 0 ≤ (m3 94 75).toInt ∧ (m3 94 75).toInt ≤ 3100 := rs_94_75 (m := (zov wr_207 (zov wr_192 m m1) m3)) hV_m3
        have f44 : 0 ≤ (m3 94 60).toInt ∧ (m3 94 60).toInt ≤ 1600 := rs_94_60 (m := (zov wr_207 (zov wr_192 m m1) m3)) hV_m3
        try have axs := ax_at (p9_m3 (by omega)) (s := l3.toNatClampNeg) (p := l2.toInt) (by omega) (by omega) (by omega)
        try have tc2 := tn_cast (x := l2) (by omega)
        try have ow2 := p1_m3 l2.toNatClampNeg (by omega) (by omega)
        try have hsn := sm_nn (b := zbN1 (m 99) (m 110) (m 104) (m 94 15)) (ws := m 102) (n := 3100) (fun t ht => (ra_102 hV ht).1)
        try have h3a := (r_H3 (by omega)).2.1
        have b45 := i_bd l1
        have b46 := i_bd l2
        first | have e47 : (l4 + (1 : Int32)).toInt = l4.toInt + (1) := i_addk rfl (by omega) (by omega) | have b48 := i_bd (l4 + (1 : Int32))
        first | have f49 : 0 ≤ (m3 103 l3.toNatClampNeg).toInt ∧ (m3 103 l3.toNatClampNeg).toInt ≤ 4599 := ra_103 (m := (zov wr_207 (zov wr_192 m m1) m3)) hV_m3 (k := l3.toNatClampNeg) (i_ix (n := 3100) (by omega) (by omega)).2 | have b50 := i_bd (m3 103 l3.toNatClampNeg)
        exact IH (61 - (l4 + (1 : Int32)).toInt).toNat (by omega) _ (l1) (l2) (l3) ((l4 + (1 : Int32))) rfl (zF_zov (zF_zov hF ws_192_216) ws_207_216) hV_m3 (by omega) (by omega) (by omega) (by omega) (by omega) (by omega) (by omega) (show (m 94 10).toInt = 3 from by omega) p0_m3 p1_m3 p2_m3 p3_m3 (show (m 94 76).toInt ≤ (m3 94 75).toInt from by omega) p8_m3 r_W r_DX (show 4 ≤ (m 94 16).toInt from by omega) (show l1.toInt ≤ (m3 94 60).toInt from by omega) (show zDK l1.toInt (m 94 16).toInt (m3 110) (m 99) (m3 103) (m 102) (m 98) (m 101) (m 108) (m 117) from by first | (exact DK_ax r_DK p5_m3 (p9_m3 (by omega)) (by omega) (W_hi r_W)) | (exfalso; omega; done) | (exfalso; contradiction; done)) (show zCQ (m3 110) (m 98) (m 101) (m 102) (m 108) (m3 119) (m 94 76) (m3 94 75) (zXX (m 99) (m3 103) l2.toInt l1.toInt) 3100 0 from by first | (exact CQ_ax p7_m3 (p9_m3 (by omega)) (by omega)) | (exfalso; omega; done) | (exfalso; contradiction; done)) (show zle (m0 110) (m3 110) from by first | (exact zle_tr r_KMd p5_m3) | (exfalso; omega; done) | (exfalso; contradiction; done)) r_USd (show (m3 103 l3.toNatClampNeg).toInt = l2.toInt from by omega) (show zUP (m3 110) (m 98) (m 101) (m 108) l3.toNatClampNeg (l4 + (1 : Int32)).toNatClampNeg from by first | (exact UP_adv r_UP p5_m3 (by unfold zcl; rw [← p0_m1]; exact p4_m3) (tn_succ (by omega) (by omega)) (fun i2 hi2 => W_hi r_W _ (by omega) i2 (by have := tn_cast (x := l4) (by omega); omega))) | (exact UP_adv r_UP zle_rfl ((r_DK _ (by omega) r_USd (by omega) l4.toNatClampNeg (by have := tn_cast (x := l4) (by omega); omega)).elim id (fun z => absurd (by rw [← (card_ix (by omega) (by omega) (by omega) (by omega) (by omega))]; assumption) z)) (tn_succ (by omega) (by omega)) (fun i2 hi2 => W_hi r_W _ (by omega) i2 (by have := tn_cast (x := l4) (by omega); omega))) | (exfalso; omega; done) | (exfalso; contradiction; done))
set_option maxHeartbeats 8000000 in
theorem lp_216_2 {X : Nat × (Nat → Int32)} {P : Option ma_V → (Nat → Nat → Int32) → Prop} {en : Int32} {m0 : Nat → Nat → Int32} (h0 : zV m0) (K : ∀ m₉, zF wr_216 m0 m₉ → zV m₉ → (zKS (m₉ 110) (m₉ 94 75)) → (zOw (m₉ 99) (m₉ 103) (m₉ 111)) → (zH2 (m₉ 94 10) (m₉ 94 11) (m₉ 94 61) (m₉ 94 77) (m₉ 99) (m₉ 110) (m₉ 102)) → (zH3 (m₉ 94 10) (m₉ 94 13) (m₉ 94 14) (m₉ 94 15) (m₉ 94 61) (m₉ 94 77) (m₉ 94 60) (m₉ 99) (m₉ 110) (m₉ 104) (m₉ 102) (m₉ 103) (m₉ 111)) → ((m₉ 94 76).toInt ≤ (m₉ 94 75).toInt) → (zKU (m₉ 94 10) (m₉ 99) (m₉ 110)) → (zle (m0 110) (m₉ 110)) → (zCQ (m₉ 110) (m₉ 98) (m₉ 101) (m₉ 102) (m₉ 108) (m₉ 119) (m₉ 94 76) (m₉ 94 75) (fun _ => False) 3100 0) → P none m₉) : ∀ (n : Nat) (m : Nat → Nat → Int32) (l1 : Int32) (l2 : Int32), (l1.toInt - l2.toInt).toNat = n → zF wr_216 m0 m → zV m → (0 ≤ l2.toInt) → (l1.toInt = en.toInt) → ((m 94 10).toInt = 3) → (zKS (m 110) (m 94 75)) → (zOw (m 99) (m 103) (m 111)) → (zH2 (m 94 10) (m 94 11) (m 94 61) (m 94 77) (m 99) (m 110) (m 102)) → (zH3 (m 94 10) (m 94 13) (m 94 14) (m 94 15) (m 94 61) (m 94 77) (m 94 60) (m 99) (m 110) (m 104) (m 102) (m 103) (m 111)) → ((m 94 76).toInt ≤ (m 94 75).toInt) → (zKU (m 94 10) (m 99) (m 110)) → (zW (m 94 7) (m 98) (m 101) (m 102) (m 108)) → (zDX (m 94 10) (m 99) (m 112) (m 113) (m 114) (m 94 55) (m 98) (m 101) (m 102) (m 108)) → (4 ≤ (m 94 16).toInt) → (l1.toInt ≤ (m 94 60).toInt) → (zDK l1.toInt (m 94 16).toInt (m 110) (m 99) (m 103) (m 102) (m 98) (m 101) (m 108) (m 117)) → (zCQ (m 110) (m 98) (m 101) (m 102) (m 108) (m 119) (m 94 76) (m 94 75) (zXX (m 99) (m 103) l2.toInt l1.toInt) 3100 0) → (zle (m0 110) (m 110)) → zm X 3 64 216 2 [(0, .inr (.inr (some 94))), (1, .inl l1), (2, .inl l2)] m P := by
  intro n
  induction n using Nat.strongRecOn with
  | _ n IH =>
    intro m l1 l2 hmu hF hV hi0 hi1 hi2 r_CMK r_OW r_H2 r_H3 hi7 r_KU r_W r_DX hi11 hi12 r_DK r_CQ r_KMd
    refine g_216_2 l1 l2 ?_
    have f1 : 0 ≤ (m 94 10).toInt ∧ (m 94 10).toInt ≤ 6 := rs_94_10 (m := m) hV
    have f2 : 0 ≤ (m 94 76).toInt ∧ (m 94 76).toInt ≤ 3100 := rs_94_76 (m := m) hV
    have f3 : 0 ≤ (m 94 75).toInt ∧ (m 94 75).toInt ≤ 3100 := rs_94_75 (m := m) hV
    have f4 : 0 ≤ (m 94 16).toInt ∧ (m 94 16).toInt ≤ 64 := rs_94_16 (m := m) hV
    have f5 : 0 ≤ (m 94 60).toInt ∧ (m 94 60).toInt ≤ 1600 := rs_94_60 (m := m) hV
    have b6 := i_bd l1
    have b7 := i_bd l2
    refine zd (fun (h8 : l1 ≤ l2) => ?_) (fun (h8 : ¬ l1 ≤ l2) => ?_)
    · skip
      have g9 := i_le h8
      try have tc2 := tn_cast (x := l2) (by omega)
      try have ow2 := r_OW l2.toNatClampNeg (by omega) (by omega)
      try have hsn := sm_nn (b := zbN1 (m 99) (m 110) (m 104) (m 94 15)) (ws := m 102) (n := 3100) (fun t ht => (ra_102 hV ht).1)
      try have h3a := (r_H3 (by omega)).2.1
      exact K _ hF hV r_CMK r_OW r_H2 r_H3 (show (m 94 76).toInt ≤ (m 94 75).toInt from by omega) r_KU r_KMd (show zCQ (m 110) (m 98) (m 101) (m 102) (m 108) (m 119) (m 94 76) (m 94 75) (fun _ => False) 3100 0 from by first | (exact CQ_no r_CQ (by omega)) | (exfalso; omega; done) | (exfalso; contradiction; done))
    · skip
      have g10 := i_nle h8
      have hg11 : (0 ≤ l2 ∧ l2.toNatClampNeg < 4600) := i_ix (by omega) (by omega)
      refine ⟨hg11, ?_⟩
      have li12 : (0 : Int32).toInt = 0 := rfl
      first | have f13 : -1 ≤ (m 111 l2.toNatClampNeg).toInt ∧ (m 111 l2.toNatClampNeg).toInt ≤ 3099 := ra_111 (m := m) hV (k := l2.toNatClampNeg) (i_ix (n := 4600) (by omega) (by omega)).2 | have b14 := i_bd (m 111 l2.toNatClampNeg)
      refine zd (fun (h15 : (0 : Int32) ≤ (m 111 l2.toNatClampNeg)) => ?_) (fun (h15 : ¬ (0 : Int32) ≤ (m 111 l2.toNatClampNeg)) => ?_)
      · skip
        have g16 := i_le h15
        try have tc2 := tn_cast (x := l2) (by omega)
        try have ow2 := r_OW l2.toNatClampNeg (by omega) (by omega)
        try have hsn := sm_nn (b := zbN1 (m 99) (m 110) (m 104) (m 94 15)) (ws := m 102) (n := 3100) (fun t ht => (ra_102 hV ht).1)
        try have h3a := (r_H3 (by omega)).2.1
        first | have f17 : 0 ≤ (m 103 (m 111 l2.toNatClampNeg).toNatClampNeg).toInt ∧ (m 103 (m 111 l2.toNatClampNeg).toNatClampNeg).toInt ≤ 4599 := ra_103 (m := m) hV (k := (m 111 l2.toNatClampNeg).toNatClampNeg) (i_ix (n := 3100) (by omega) (by omega)).2 | have b18 := i_bd (m 103 (m 111 l2.toNatClampNeg).toNatClampNeg)
        exact lp_216_27 (en := en) h0 K (fun _ _ _ z1 z2 z3 y0 y1 y2 y3 y4 y5 y6 y7 y8 y9 y10 y11 y12 y13 y14 y15 => IH _ z1 _ _ _ rfl z2 z3 y0 y1 y2 y3 y4 y5 y6 y7 y8 y9 y10 y11 y12 y13 y14 y15) _ _ (l1) (l2) ((m 111 l2.toNatClampNeg)) ((0 : Int32)) rfl hF hV (by omega) (by omega) (by omega) (by omega) (by omega) (by omega) (by omega) (show (m 94 10).toInt = 3 from by omega) r_CMK r_OW r_H2 r_H3 (show (m 94 76).toInt ≤ (m 94 75).toInt from by omega) r_KU r_W r_DX (show 4 ≤ (m 94 16).toInt from by omega) (show l1.toInt ≤ (m 94 60).toInt from by omega) r_DK r_CQ r_KMd (show (m 99) (m 111 l2.toNatClampNeg).toNatClampNeg ≠ 0 from by first | (exact (r_OW l2.toNatClampNeg (by omega) (by omega)).1) | (exfalso; omega; done) | (exfalso; contradiction; done)) (show (m 103 (m 111 l2.toNatClampNeg).toNatClampNeg).toInt = l2.toInt from by omega) (show zUP (m 110) (m 98) (m 101) (m 108) (m 111 l2.toNatClampNeg).toNatClampNeg (0 : Int32).toNatClampNeg from by first | (exact fun i2 hi2 => absurd hi2 (Nat.not_lt_zero _)) | (exfalso; omega; done) | (exfalso; contradiction; done))
      · skip
        have g19 := i_nle h15
        try have tc2 := tn_cast (x := l2) (by omega)
        try have ow2 := r_OW l2.toNatClampNeg (by omega) (by omega)
        try have hsn := sm_nn (b := zbN1 (m 99) (m 110) (m 104) (m 94 15)) (ws := m 102) (n := 3100) (fun t ht => (ra_102 hV ht).1)
        try have h3a := (r_H3 (by omega)).2.1
        first | have e20 : (l2 + (1 : Int32)).toInt = l2.toInt + (1) := i_addk rfl (by omega) (by omega) | have b21 := i_bd (l2 + (1 : Int32))
        exact IH (l1.toInt - (l2 + (1 : Int32)).toInt).toNat (by omega) _ (l1) ((l2 + (1 : Int32))) rfl hF hV (by omega) (by omega) (show (m 94 10).toInt = 3 from by omega) r_CMK r_OW r_H2 r_H3 (show (m 94 76).toInt ≤ (m 94 75).toInt from by omega) r_KU r_W r_DX (show 4 ≤ (m 94 16).toInt from by omega) (show l1.toInt ≤ (m 94 60).toInt from by omega) r_DK (show zCQ (m 110) (m 98) (m 101) (m 102) (m 108) (m 119) (m 94 76) (m 94 75) (zXX (m 99) (m 103) (l2 + (1 : Int32)).toInt l1.toInt) 3100 0 from by first | (exact CQ_skip r_CQ (r_H3 (by omega)).2.2.2.1 (by omega) (show (m 111 l2.toNatClampNeg).toInt < 0 by omega) (by omega) (by omega)) | (exfalso; omega; done) | (exfalso; contradiction; done)) r_KMd
set_option maxHeartbeats 8000000 in
theorem sp_216 {X : Nat × (Nat → Int32)} {P : Option ma_V → (Nat → Nat → Int32) → Prop} {m : Nat → Nat → Int32} (en : Int32) (hV : zV m) (hpre0 : 0 ≤ en.toInt) (hpre1 : (m 94 10).toInt = 3) (r_CMK : zKS (m 110) (m 94 75)) (r_OW : zOw (m 99) (m 103) (m 111)) (r_H2 : zH2 (m 94 10) (m 94 11) (m 94 61) (m 94 77) (m 99) (m 110) (m 102)) (r_H3 : zH3 (m 94 10) (m 94 13) (m 94 14) (m 94 15) (m 94 61) (m 94 77) (m 94 60) (m 99) (m 110) (m 104) (m 102) (m 103) (m 111)) (hpre6 : (m 94 76).toInt ≤ (m 94 75).toInt) (r_KU : zKU (m 94 10) (m 99) (m 110)) (r_W : zW (m 94 7) (m 98) (m 101) (m 102) (m 108)) (r_DX : zDX (m 94 10) (m 99) (m 112) (m 113) (m 114) (m 94 55) (m 98) (m 101) (m 102) (m 108)) (hpre10 : 4 ≤ (m 94 16).toInt) (hpre11 : en.toInt ≤ (m 94 60).toInt) (r_DK : zDK en.toInt (m 94 16).toInt (m 110) (m 99) (m 103) (m 102) (m 98) (m 101) (m 108) (m 117)) (r_CQ : zCQ (m 110) (m 98) (m 101) (m 102) (m 108) (m 119) (m 94 76) (m 94 75) (zXX (m 99) (m 103) (0 : Int32).toInt en.toInt) 3100 0) (KZ : ∀ m₉, zV (zov wr_216 m m₉) → (zKS (m₉ 110) (m₉ 94 75)) → (zOw (m 99) (m₉ 103) (m₉ 111)) → (zH2 (m 94 10) (m 94 11) (m 94 61) (m₉ 94 77) (m 99) (m₉ 110) (m 102)) → (zH3 (m 94 10) (m 94 13) (m 94 14) (m 94 15) (m 94 61) (m₉ 94 77) (m₉ 94 60) (m 99) (m₉ 110) (m₉ 104) (m 102) (m₉ 103) (m₉ 111)) → ((m 94 76).toInt ≤ (m₉ 94 75).toInt) → (zKU (m 94 10) (m 99) (m₉ 110)) → (zle (m 110) (m₉ 110)) → (zCQ (m₉ 110) (m 98) (m 101) (m 102) (m 108) (m₉ 119) (m 94 76) (m₉ 94 75) (fun _ => False) 3100 0) → P none (zov wr_216 m m₉)) : zm X 3 64 216 0 [(0, .inr (.inr (some 94))), (1, .inl en)] m P := by
  have K : ∀ m₉, zF wr_216 m m₉ → zV m₉ → (zKS (m₉ 110) (m₉ 94 75)) → (zOw (m₉ 99) (m₉ 103) (m₉ 111)) → (zH2 (m₉ 94 10) (m₉ 94 11) (m₉ 94 61) (m₉ 94 77) (m₉ 99) (m₉ 110) (m₉ 102)) → (zH3 (m₉ 94 10) (m₉ 94 13) (m₉ 94 14) (m₉ 94 15) (m₉ 94 61) (m₉ 94 77) (m₉ 94 60) (m₉ 99) (m₉ 110) (m₉ 104) (m₉ 102) (m₉ 103) (m₉ 111)) → ((m₉ 94 76).toInt ≤ (m₉ 94 75).toInt) → (zKU (m₉ 94 10) (m₉ 99) (m₉ 110)) → (zle (m 110) (m₉ 110)) → (zCQ (m₉ 110) (m₉ 98) (m₉ 101) (m₉ 102) (m₉ 108) (m₉ 119) (m₉ 94 76) (m₉ 94 75) (fun _ => False) 3100 0) → P none m₉ := by
    intro m₉ hf z q0 q1 q2 q3 q4 q5 q6 q7
    have e := zov_eq hf
    rw [e] at z ⊢
    try rw [e] at q0
    try rw [e] at q1
    try rw [e] at q2
    try rw [e] at q3
    try rw [e] at q4
    try rw [e] at q5
    try rw [e] at q6
    try rw [e] at q7
    exact KZ m₉ z q0 q1 q2 q3 q4 q5 q6 q7
  refine g_216_0 en ?_
  have f1 : 0 ≤ (m 94 10).toInt ∧ (m 94 10).toInt ≤ 6 := rs_94_10 (m := m) hV
  have f2 : 0 ≤ (m 94 76).toInt ∧ (m 94 76).toInt ≤ 3100 := rs_94_76 (m := m) hV
  have f3 : 0 ≤ (m 94 75).toInt ∧ (m 94 75).toInt ≤ 3100 := rs_94_75 (m := m) hV
  have f4 : 0 ≤ (m 94 16).toInt ∧ (m 94 16).toInt ≤ 64 := rs_94_16 (m := m) hV
  have f5 : 0 ≤ (m 94 60).toInt ∧ (m 94 60).toInt ≤ 1600 := rs_94_60 (m := m) hV
  try have tc2 := tn_cast (x := l2) (by omega)
  try have ow2 := r_OW l2.toNatClampNeg (by omega) (by omega)
  try have hsn := sm_nn (b := zbN1 (m 99) (m 110) (m 104) (m 94 15)) (ws := m 102) (n := 3100) (fun t ht => (ra_102 hV ht).1)
  try have h3a := (r_H3 (by omega)).2.1
  have b6 := i_bd en
  have li7 : (0 : Int32).toInt = 0 := rfl
  exact lp_216_2 (en := en) hV K _ _ (en) ((0 : Int32)) rfl zF_rfl hV (by omega) (by omega) (show (m 94 10).toInt = 3 from by omega) r_CMK r_OW r_H2 r_H3 (show (m 94 76).toInt ≤ (m 94 75).toInt from by omega) r_KU r_W r_DX (show 4 ≤ (m 94 16).toInt from by omega) (show en.toInt ≤ (m 94 60).toInt from by omega) r_DK r_CQ (show zle (m 110) (m 110) from by first | (exact zle_rfl) | (exfalso; omega; done) | (exfalso; contradiction; done))

