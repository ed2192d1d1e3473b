/-! from 94.405 -/
/-! the reference (written by wip/tools/gen94m.py) -/
set_option maxRecDepth 100000 in
theorem hm_201 : ma_md 201 = some (12, yX12_sizeOf, cX12_sizeOf, 2, (some (FieldType.int))) := rfl
set_option maxRecDepth 100000 in
theorem hm_226 : ma_md 226 = some (12, yX12_blockFrom, cX12_blockFrom, 5, (some (FieldType.int))) := rfl
theorem s_102 : zs 102 = some (20, 3100) := rfl
theorem s_111 : zs 111 = some (20, 4600) := rfl
theorem r_94_34 : zfi 94 34 = some 102 := rfl
theorem r_94_43 : zfi 94 43 = some 111 := rfl
theorem f_12_37_12 : ma_fld 12 37 12 = some 34 := by decide +kernel
theorem f_12_65_12 : ma_fld 12 65 12 = some 43 := by decide +kernel
theorem p_12_420_12 : ma_pk 12 420 12 84 = true := by decide +kernel
theorem v_12_327_12 : ma_vl 12 327 12 = some (1, 201, 1) := by decide +kernel
theorem dX12_blockFrom_0 : decode cX12_blockFrom 0 = .ok (.iload_n 1, 1) := by decide +kernel
theorem dX12_blockFrom_1 : decode cX12_blockFrom 1 = .ok (.istore_n 3, 1) := by decide +kernel
theorem dX12_blockFrom_2 : decode cX12_blockFrom 2 = .ok (.iload_n 3, 1) := by decide +kernel
theorem dX12_blockFrom_3 : decode cX12_blockFrom 3 = .ok (.iload_n 2, 1) := by decide +kernel
theorem dX12_blockFrom_32 : decode cX12_blockFrom 32 = .ok (.iload_n 3, 1) := by decide +kernel
theorem dX12_blockFrom_33 : decode cX12_blockFrom 33 = .ok (.iload_n 2, 1) := by decide +kernel
theorem dX12_blockFrom_39 : decode cX12_blockFrom 39 = .ok (.iload_n 3, 1) := by decide +kernel
theorem dX12_blockFrom_40 : decode cX12_blockFrom 40 = .ok (.istore 4, 2) := by decide +kernel
theorem dX12_blockFrom_37 : decode cX12_blockFrom 37 = .ok (.iconst (-1), 1) := by decide +kernel
theorem dX12_blockFrom_38 : decode cX12_blockFrom 38 = .ok (.ireturn, 1) := by decide +kernel
theorem dX12_blockFrom_34 : decode cX12_blockFrom 34 = .ok (.if_icmp .lt 5, 3) := by decide +kernel
theorem dX12_blockFrom_7 : decode cX12_blockFrom 7 = .ok (.aload_n 0, 1) := by decide +kernel
theorem dX12_blockFrom_11 : decode cX12_blockFrom 11 = .ok (.iload_n 3, 1) := by decide +kernel
theorem dX12_blockFrom_16 : decode cX12_blockFrom 16 = .ok (.iload_n 3, 1) := by decide +kernel
theorem dX12_blockFrom_17 : decode cX12_blockFrom 17 = .ok (.aload_n 0, 1) := by decide +kernel
theorem dX12_blockFrom_18 : decode cX12_blockFrom 18 = .ok (.aload_n 0, 1) := by decide +kernel
theorem dX12_blockFrom_22 : decode cX12_blockFrom 22 = .ok (.iload_n 3, 1) := by decide +kernel
theorem dX12_blockFrom_24 : decode cX12_blockFrom 24 = .ok (.invokevirtual 327, 3) := by decide +kernel
theorem dX12_sizeOf_0 : decode cX12_sizeOf 0 = .ok (.aload_n 0, 1) := by decide +kernel
theorem dX12_sizeOf_4 : decode cX12_sizeOf 4 = .ok (.iload_n 1, 1) := by decide +kernel
theorem dX12_sizeOf_6 : decode cX12_sizeOf 6 = .ok (.iconst 1, 1) := by decide +kernel
theorem dX12_sizeOf_7 : decode cX12_sizeOf 7 = .ok (.iadd, 1) := by decide +kernel
theorem dX12_blockFrom_27 : decode cX12_blockFrom 27 = .ok (.iadd, 1) := by decide +kernel
theorem dX12_blockFrom_28 : decode cX12_blockFrom 28 = .ok (.istore_n 3, 1) := by decide +kernel
theorem dX12_blockFrom_29 : decode cX12_blockFrom 29 = .ok (.goto (-27), 3) := by decide +kernel
theorem dX12_sizeOf_8 : decode cX12_sizeOf 8 = .ok (.ireturn, 1) := by decide +kernel
theorem dX12_sizeOf_5 : decode cX12_sizeOf 5 = .ok (.iaload, 1) := by decide +kernel
theorem dX12_sizeOf_1 : decode cX12_sizeOf 1 = .ok (.getfield 37, 3) := by decide +kernel
theorem dX12_blockFrom_23 : decode cX12_blockFrom 23 = .ok (.iaload, 1) := by decide +kernel
theorem dX12_blockFrom_19 : decode cX12_blockFrom 19 = .ok (.getfield 65, 3) := by decide +kernel
theorem dX12_blockFrom_13 : decode cX12_blockFrom 13 = .ok (.ifCond .lt 19, 3) := by decide +kernel
theorem dX12_blockFrom_12 : decode cX12_blockFrom 12 = .ok (.iaload, 1) := by decide +kernel
theorem dX12_blockFrom_8 : decode cX12_blockFrom 8 = .ok (.getfield 65, 3) := by decide +kernel
theorem dX12_blockFrom_4 : decode cX12_blockFrom 4 = .ok (.if_icmp .ge 28, 3) := by decide +kernel
theorem dX12_blockFrom_42 : decode cX12_blockFrom 42 = .ok (.iload 4, 2) := by decide +kernel
theorem dX12_blockFrom_44 : decode cX12_blockFrom 44 = .ok (.iload_n 2, 1) := by decide +kernel
theorem dX12_blockFrom_64 : decode cX12_blockFrom 64 = .ok (.aload_n 0, 1) := by decide +kernel
theorem dX12_blockFrom_65 : decode cX12_blockFrom 65 = .ok (.iload 4, 2) := by decide +kernel
theorem dX12_blockFrom_67 : decode cX12_blockFrom 67 = .ok (.iload_n 3, 1) := by decide +kernel
theorem dX12_blockFrom_68 : decode cX12_blockFrom 68 = .ok (.isub, 1) := by decide +kernel
theorem dX12_blockFrom_72 : decode cX12_blockFrom 72 = .ok (.iload_n 3, 1) := by decide +kernel
theorem dX12_blockFrom_73 : decode cX12_blockFrom 73 = .ok (.ireturn, 1) := by decide +kernel
theorem dX12_blockFrom_69 : decode cX12_blockFrom 69 = .ok (.putfield 420, 3) := by decide +kernel
theorem dX12_blockFrom_48 : decode cX12_blockFrom 48 = .ok (.aload_n 0, 1) := by decide +kernel
theorem dX12_blockFrom_52 : decode cX12_blockFrom 52 = .ok (.iload 4, 2) := by decide +kernel
theorem dX12_blockFrom_58 : decode cX12_blockFrom 58 = .ok (.iinc 4 1, 3) := by decide +kernel
theorem dX12_blockFrom_61 : decode cX12_blockFrom 61 = .ok (.goto (-19), 3) := by decide +kernel
theorem dX12_blockFrom_55 : decode cX12_blockFrom 55 = .ok (.ifCond .ge 9, 3) := by decide +kernel
theorem dX12_blockFrom_54 : decode cX12_blockFrom 54 = .ok (.iaload, 1) := by decide +kernel
theorem dX12_blockFrom_49 : decode cX12_blockFrom 49 = .ok (.getfield 65, 3) := by decide +kernel
theorem dX12_blockFrom_45 : decode cX12_blockFrom 45 = .ok (.if_icmp .ge 19, 3) := by decide +kernel
def wr_226 (c k : Nat) : Bool := (Nat.beq c 94 && (Nat.beq k 84))
theorem g_226_0 {X : Nat × (Nat → Int32)} {m : Nat → Nat → Int32} {P : Option ma_V → (Nat → Nat → Int32) → Prop} (f : Int32) (e : Int32) (h : zm X 1 21 226 2 [(0, .inr (.inr (some 94))), (2, .inl e), (3, .inl f)] m P) : zm X 1 21 226 0 [(0, .inr (.inr (some 94))), (1, .inl f), (2, .inl e)] m P := by
  intro d w S Q hd hw hS hm HQ
  subst hm
  refine zw_push hm_226 dX12_blockFrom_0 (v := .inl f) rfl ?_
  refine zw_sto hm_226 dX12_blockFrom_1 [(3, .inl f), (0, .inr (.inr (some 94))), (1, .inl f), (2, .inl e)] rfl rfl rfl ?_
  exact zw_sub (ma_nd_of (ks := [0, 2, 3]) rfl (by decide)) (ma_nd_of (ks := [3, 0, 1, 2]) rfl (by decide)) (ma_le_cons rfl (ma_le_cons rfl (ma_le_cons rfl (ma_le_nil _)))) (h d w _ Q (by omega) (by omega) hS rfl HQ)
theorem g_226_2 {X : Nat × (Nat → Int32)} {m : Nat → Nat → Int32} {P : Option ma_V → (Nat → Nat → Int32) → Prop} (l2 : Int32) (l3 : Int32) (h : if l2 ≤ l3 then (if l3 < l2 then (zm X 1 21 226 42 [(0, .inr (.inr (some 94))), (2, .inl l2), (3, .inl l3), (4, .inl l3)] m P) else (P (some (.inl (-1 : Int32))) m)) else ((0 ≤ l3 ∧ l3.toNatClampNeg < 4600) ∧ (if (m 111 l3.toNatClampNeg) < 0 then (if l3 < l2 then (zm X 1 21 226 42 [(0, .inr (.inr (some 94))), (2, .inl l2), (3, .inl l3), (4, .inl l3)] m P) else (P (some (.inl (-1 : Int32))) m)) else ((0 ≤ l3 ∧ l3.toNatClampNeg < 4600) ∧ ((0 ≤ (m 111 l3.toNatClampNeg) ∧ (m 111 l3.toNatClampNeg).toNatClampNeg < 3100) ∧ (zm X 1 21 226 2 [(0, .inr (.inr (some 94))), (2, .inl l2), (3, .inl (l3 + ((m 102 (m 111 l3.toNatClampNeg).toNatClampNeg) + (1 : Int32))))] m P)))))) : zm X 1 21 226 2 [(0, .inr (.inr (some 94))), (2, .inl l2), (3, .inl l3)] m P := by
  intro d w S Q hd hw hS hm HQ
  subst hm
  refine zw_push hm_226 dX12_blockFrom_2 (v := .inl l3) rfl ?_
  refine zw_push hm_226 dX12_blockFrom_3 (v := .inl l2) rfl ?_
  refine zw_if2 hm_226 dX12_blockFrom_4 (t := 32) rfl zc2_ge ?_ ?_
  · intro hc
    rw [if_pos hc] at h
    refine zw_push hm_226 dX12_blockFrom_32 (v := .inl l3) rfl ?_
    refine zw_push hm_226 dX12_blockFrom_33 (v := .inl l2) rfl ?_
    refine zw_if2 hm_226 dX12_blockFrom_34 (t := 39) rfl zc2_lt ?_ ?_
    · intro hc
      rw [if_pos hc] at h
      refine zw_push hm_226 dX12_blockFrom_39 (v := .inl l3) rfl ?_
      refine zw_sto hm_226 dX12_blockFrom_40 [(4, .inl l3), (0, .inr (.inr (some 94))), (2, .inl l2), (3, .inl l3)] rfl rfl rfl ?_
      exact zw_sub (ma_nd_of (ks := [0, 2, 3, 4]) rfl (by decide)) (ma_nd_of (ks := [4, 0, 2, 3]) rfl (by decide)) (ma_le_cons rfl (ma_le_cons rfl (ma_le_cons rfl (ma_le_cons rfl (ma_le_nil _))))) (h d w _ Q (by omega) (by omega) hS rfl HQ)
    · intro hc
      rw [if_neg hc] at h
      refine zw_push hm_226 dX12_blockFrom_37 (v := .inl (-1 : Int32)) rfl ?_
      exact zw_iret hm_226 dX12_blockFrom_38 (HQ _ _ h)
  · intro hc
    rw [if_neg hc] at h
    refine zw_push hm_226 dX12_blockFrom_7 (v := .inr (.inr (some 94))) rfl ?_
    refine zw_gf hm_226 dX12_blockFrom_8 (v := .inr (.inr (some 111))) (zT_is hS s_94) (zT_t hS s_94) rfl f_12_65_12 (zT_f hS r_94_43) ?_
    refine zw_push hm_226 dX12_blockFrom_11 (v := .inl l3) rfl ?_
    obtain ⟨hg, h⟩ := h
    refine zw_ia hm_226 dX12_blockFrom_12 (zT_is hS s_111) (zT_h hS s_111) rfl hg ?_
    show ma_wp X d w 226 13 [(0, .inr (.inr (some 94))), (2, .inl l2), (3, .inl l3)] [.inl ((mI S) 111 l3.toNatClampNeg)] S _
    refine zw_if0 hm_226 dX12_blockFrom_13 (t := 32) rfl zc0_lt ?_ ?_
    · intro hc
      rw [if_pos hc] at h
      refine zw_push hm_226 dX12_blockFrom_32 (v := .inl l3) rfl ?_
      refine zw_push hm_226 dX12_blockFrom_33 (v := .inl l2) rfl ?_
      refine zw_if2 hm_226 dX12_blockFrom_34 (t := 39) rfl zc2_lt ?_ ?_
      · intro hc
        rw [if_pos hc] at h
        refine zw_push hm_226 dX12_blockFrom_39 (v := .inl l3) rfl ?_
        refine zw_sto hm_226 dX12_blockFrom_40 [(4, .inl l3), (0, .inr (.inr (some 94))), (2, .inl l2), (3, .inl l3)] rfl rfl rfl ?_
        exact zw_sub (ma_nd_of (ks := [0, 2, 3, 4]) rfl (by decide)) (ma_nd_of (ks := [4, 0, 2, 3]) rfl (by decide)) (ma_le_cons rfl (ma_le_cons rfl (ma_le_cons rfl (ma_le_cons rfl (ma_le_nil _))))) (h d w _ Q (by omega) (by omega) hS rfl HQ)
      · intro hc
        rw [if_neg hc] at h
        refine zw_push hm_226 dX12_blockFrom_37 (v := .inl (-1 : Int32)) rfl ?_
        exact zw_iret hm_226 dX12_blockFrom_38 (HQ _ _ h)
    · intro hc
      rw [if_neg hc] at h
      refine zw_push hm_226 dX12_blockFrom_16 (v := .inl l3) rfl ?_
      refine zw_push hm_226 dX12_blockFrom_17 (v := .inr (.inr (some 94))) rfl ?_
      refine zw_push hm_226 dX12_blockFrom_18 (v := .inr (.inr (some 94))) rfl ?_
      refine zw_gf hm_226 dX12_blockFrom_19 (v := .inr (.inr (some 111))) (zT_is hS s_94) (zT_t hS s_94) rfl f_12_65_12 (zT_f hS r_94_43) ?_
      refine zw_push hm_226 dX12_blockFrom_22 (v := .inl l3) rfl ?_
      obtain ⟨hg, h⟩ := h
      refine zw_ia hm_226 dX12_blockFrom_23 (zT_is hS s_111) (zT_h hS s_111) rfl hg ?_
      show ma_wp X d w 226 24 [(0, .inr (.inr (some 94))), (2, .inl l2), (3, .inl l3)] [.inl ((mI S) 111 l3.toNatClampNeg), .inr (.inr (some 94)), .inl l3] S _
      refine zw_cv hm_226 dX12_blockFrom_24 v_12_327_12 hm_201 [.inl ((mI S) 111 l3.toNatClampNeg)] [.inl l3] rfl (zT_rt hS s_94 rfl) ⟨by omega, by omega⟩ rfl ?_
      show ma_wp X (d - 1) (w - 21) 201 0 [(0, .inr (.inr (some 94))), (1, .inl ((mI S) 111 l3.toNatClampNeg))] [] S _
      refine zw_push hm_201 dX12_sizeOf_0 (v := .inr (.inr (some 94))) rfl ?_
      refine zw_gf hm_201 dX12_sizeOf_1 (v := .inr (.inr (some 102))) (zT_is hS s_94) (zT_t hS s_94) rfl f_12_37_12 (zT_f hS r_94_34) ?_
      refine zw_push hm_201 dX12_sizeOf_4 (v := .inl ((mI S) 111 l3.toNatClampNeg)) rfl ?_
      obtain ⟨hg, h⟩ := h
      refine zw_ia hm_201 dX12_sizeOf_5 (zT_is hS s_102) (zT_h hS s_102) rfl hg ?_
      show ma_wp X (d - 1) (w - 21) 201 6 [(0, .inr (.inr (some 94))), (1, .inl ((mI S) 111 l3.toNatClampNeg))] [.inl ((mI S) 102 ((mI S) 111 l3.toNatClampNeg).toNatClampNeg)] S _
      refine zw_push hm_201 dX12_sizeOf_6 (v := .inl (1 : Int32)) rfl ?_
      refine zw_stk hm_201 dX12_sizeOf_7 (st₉ := [.inl (((mI S) 102 ((mI S) 111 l3.toNatClampNeg).toNatClampNeg) + (1 : Int32))]) rfl rfl ?_
      refine zw_iret hm_201 dX12_sizeOf_8 ?_
      show ma_wp X d w 226 27 [(0, .inr (.inr (some 94))), (2, .inl l2), (3, .inl l3)] [.inl (((mI S) 102 ((mI S) 111 l3.toNatClampNeg).toNatClampNeg) + (1 : Int32)), .inl l3] S _
      refine zw_stk hm_226 dX12_blockFrom_27 (st₉ := [.inl (l3 + (((mI S) 102 ((mI S) 111 l3.toNatClampNeg).toNatClampNeg) + (1 : Int32)))]) rfl rfl ?_
      refine zw_sto hm_226 dX12_blockFrom_28 [(3, .inl (l3 + (((mI S) 102 ((mI S) 111 l3.toNatClampNeg).toNatClampNeg) + (1 : Int32)))), (0, .inr (.inr (some 94))), (2, .inl l2)] rfl rfl rfl ?_
      refine zw_goto hm_226 dX12_blockFrom_29 (t := 2) rfl ?_
      exact zw_sub (ma_nd_of (ks := [0, 2, 3]) rfl (by decide)) (ma_nd_of (ks := [3, 0, 2]) rfl (by decide)) (ma_le_cons rfl (ma_le_cons rfl (ma_le_cons rfl (ma_le_nil _)))) (h d w _ Q (by omega) (by omega) hS rfl HQ)
theorem g_226_42 {X : Nat × (Nat → Int32)} {m : Nat → Nat → Int32} {P : Option ma_V → (Nat → Nat → Int32) → Prop} (l2 : Int32) (l3 : Int32) (l4 : Int32) (h : if l2 ≤ l4 then (P (some (.inl l3)) (ma_u m 94 84 (l4 - l3))) else ((0 ≤ l4 ∧ l4.toNatClampNeg < 4600) ∧ (if 0 ≤ (m 111 l4.toNatClampNeg) then (P (some (.inl l3)) (ma_u m 94 84 (l4 - l3))) else (zm X 1 21 226 42 [(0, .inr (.inr (some 94))), (2, .inl l2), (3, .inl l3), (4, .inl (l4 + (1 : Int32)))] m P)))) : zm X 1 21 226 42 [(0, .inr (.inr (some 94))), (2, .inl l2), (3, .inl l3), (4, .inl l4)] m P := by
  intro d w S Q hd hw hS hm HQ
  subst hm
  refine zw_push hm_226 dX12_blockFrom_42 (v := .inl l4) rfl ?_
  refine zw_push hm_226 dX12_blockFrom_44 (v := .inl l2) rfl ?_
  refine zw_if2 hm_226 dX12_blockFrom_45 (t := 64) rfl zc2_ge ?_ ?_
  · intro hc
    rw [if_pos hc] at h
    refine zw_push hm_226 dX12_blockFrom_64 (v := .inr (.inr (some 94))) rfl ?_
    refine zw_push hm_226 dX12_blockFrom_65 (v := .inl l4) rfl ?_
    refine zw_push hm_226 dX12_blockFrom_67 (v := .inl l3) rfl ?_
    refine zw_stk hm_226 dX12_blockFrom_68 (st₉ := [.inl (l4 - l3), .inr (.inr (some 94))]) rfl rfl ?_
    refine zw_pf hm_226 dX12_blockFrom_69 (zT_is hS s_94) (zT_t hS s_94) p_12_420_12 zk_int ?_
    refine zw_push hm_226 dX12_blockFrom_72 (v := .inl l3) rfl ?_
    exact zw_iret hm_226 dX12_blockFrom_73 (HQ _ _ h)
  · intro hc
    rw [if_neg hc] at h
    refine zw_push hm_226 dX12_blockFrom_48 (v := .inr (.inr (some 94))) rfl ?_
    refine zw_gf hm_226 dX12_blockFrom_49 (v := .inr (.inr (some 111))) (zT_is hS s_94) (zT_t hS s_94) rfl f_12_65_12 (zT_f hS r_94_43) ?_
    refine zw_push hm_226 dX12_blockFrom_52 (v := .inl l4) rfl ?_
    obtain ⟨hg, h⟩ := h
    refine zw_ia hm_226 dX12_blockFrom_54 (zT_is hS s_111) (zT_h hS s_111) rfl hg ?_
    show ma_wp X d w 226 55 [(0, .inr (.inr (some 94))), (2, .inl l2), (3, .inl l3), (4, .inl l4)] [.inl ((mI S) 111 l4.toNatClampNeg)] S _
    refine zw_if0 hm_226 dX12_blockFrom_55 (t := 64) rfl zc0_ge ?_ ?_
    · intro hc
      rw [if_pos hc] at h
      refine zw_push hm_226 dX12_blockFrom_64 (v := .inr (.inr (some 94))) rfl ?_
      refine zw_push hm_226 dX12_blockFrom_65 (v := .inl l4) rfl ?_
      refine zw_push hm_226 dX12_blockFrom_67 (v := .inl l3) rfl ?_
      refine zw_stk hm_226 dX12_blockFrom_68 (st₉ := [.inl (l4 - l3), .inr (.inr (some 94))]) rfl rfl ?_
      refine zw_pf hm_226 dX12_blockFrom_69 (zT_is hS s_94) (zT_t hS s_94) p_12_420_12 zk_int ?_
      refine zw_push hm_226 dX12_blockFrom_72 (v := .inl l3) rfl ?_
      exact zw_iret hm_226 dX12_blockFrom_73 (HQ _ _ h)
    · intro hc
      rw [if_neg hc] at h
      refine zw_sto hm_226 dX12_blockFrom_58 [(4, .inl (l4 + (1 : Int32))), (0, .inr (.inr (some 94))), (2, .inl l2), (3, .inl l3)] rfl rfl rfl ?_
      refine zw_goto hm_226 dX12_blockFrom_61 (t := 42) rfl ?_
      exact zw_sub (ma_nd_of (ks := [0, 2, 3, 4]) rfl (by decide)) (ma_nd_of (ks := [4, 0, 2, 3]) rfl (by decide)) (ma_le_cons rfl (ma_le_cons rfl (ma_le_cons rfl (ma_le_cons rfl (ma_le_nil _))))) (h d w _ Q (by omega) (by omega) hS rfl HQ)
theorem lp_226_42 {X : Nat × (Nat → Int32)} {P : Option ma_V → (Nat → Nat → Int32) → Prop} {f : Int32} {e : Int32} {m0 : Nat → Nat → Int32} (h0 : zV m0) (K : ∀ v m₉, zF wr_226 m0 m₉ → zV m₉ → (v.toInt = -1 ∨ (f.toInt ≤ v.toInt ∧ v.toInt < e.toInt ∧ 1 ≤ (m₉ 94 84).toInt ∧ v.toInt + (m₉ 94 84).toInt ≤ e.toInt)) → P (some (.inl v)) m₉) : ∀ (n : Nat) (m : Nat → Nat → Int32) (l2 : Int32) (l3 : Int32) (l4 : Int32), (l2.toInt - l4.toInt).toNat = n → zF wr_226 m0 m → zV m → (0 ≤ l3.toInt) → (l3.toInt < l2.toInt) → (l3.toInt ≤ l4.toInt) → (l4.toInt ≤ l2.toInt) → (l2.toInt ≤ 4600) → (l2.toInt = e.toInt) → (f.toInt ≤ l3.toInt) → (l3.toInt < l4.toInt ∨ (l4 = l3 ∧ ((m 111) l3.toNatClampNeg).toInt < 0)) → zm X 1 21 226 42 [(0, .inr (.inr (some 94))), (2, .inl l2), (3, .inl l3), (4, .inl l4)] m P := by
  intro n
  induction n using Nat.strongRecOn with
  | _ n IH =>
    intro m l2 l3 l4 hmu hF hV hi0 hi1 hi2 hi3 hi4 hi5 hi6 r_BQ
    refine g_226_42 l2 l3 l4 ?_
    have b1 := i_bd l2
    have b2 := i_bd l4
    refine zd (fun (h3 : l2 ≤ l4) => ?_) (fun (h3 : ¬ l2 ≤ l4) => ?_)
    · skip
      have g4 := i_le h3
      try have gq : l3.toInt < l4.toInt := r_BQ.elim id (fun z => absurd z.2 (by rw [← z.1]; omega))
      have b6 := i_bd l3
      first | have e7 : (l4 - l3).toInt = l4.toInt - l3.toInt := i_sub (by omega) (by omega) | have b8 := i_bd (l4 - l3)
      have hV5 : zV (ma_u m 94 84 (l4 - l3)) := us_94_84 hV (by omega) (by omega)
      exact K (l3) _ (zF_u hF rfl) hV5 (show l3.toInt = -1 ∨ (f.toInt ≤ l3.toInt ∧ l3.toInt < e.toInt ∧ 1 ≤ (l4 - l3).toInt ∧ l3.toInt + (l4 - l3).toInt ≤ e.toInt) from by omega)
    · skip
      have g9 := i_nle h3
      have hg10 : (0 ≤ l4 ∧ l4.toNatClampNeg < 4600) := i_ix (by omega) (by omega)
      refine ⟨hg10, ?_⟩
      have li11 : (0 : Int32).toInt = 0 := rfl
      first | have f12 : -1 ≤ (m 111 l4.toNatClampNeg).toInt ∧ (m 111 l4.toNatClampNeg).toInt ≤ 3099 := ra_111 (m := m) hV (k := l4.toNatClampNeg) (i_ix (n := 4600) (by omega) (by omega)).2 | have b13 := i_bd (m 111 l4.toNatClampNeg)
      refine zd (fun (h14 : (0 : Int32) ≤ (m 111 l4.toNatClampNeg)) => ?_) (fun (h14 : ¬ (0 : Int32) ≤ (m 111 l4.toNatClampNeg)) => ?_)
      · skip
        have g15 := i_le h14
        try have gq : l3.toInt < l4.toInt := r_BQ.elim id (fun z => absurd z.2 (by rw [← z.1]; omega))
        have b17 := i_bd l3
        first | have e18 : (l4 - l3).toInt = l4.toInt - l3.toInt := i_sub (by omega) (by omega) | have b19 := i_bd (l4 - l3)
        have hV16 : zV (ma_u m 94 84 (l4 - l3)) := us_94_84 hV (by omega) (by omega)
        exact K (l3) _ (zF_u hF rfl) hV16 (show l3.toInt = -1 ∨ (f.toInt ≤ l3.toInt ∧ l3.toInt < e.toInt ∧ 1 ≤ (l4 - l3).toInt ∧ l3.toInt + (l4 - l3).toInt ≤ e.toInt) from by omega)
      · skip
        have g20 := i_nle h14
        try have gq : l3.toInt < l4.toInt := r_BQ.elim id (fun z => absurd z.2 (by rw [← z.1]; omega))
        have b21 := i_bd l3
        first | have e22 : (l4 + (1 : Int32)).toInt = l4.toInt + (1) := i_addk rfl (by omega) (by omega) | have b23 := i_bd (l4 + (1 : Int32))
        exact IH (l2.toInt - (l4 + (1 : Int32)).toInt).toNat (by omega) _ (l2) (l3) ((l4 + (1 : Int32))) rfl hF hV (by omega) (by omega) (by omega) (by omega) (by omega) (by omega) (by omega) (show l3.toInt < (l4 + (1 : Int32)).toInt ∨ ((l4 + (1 : Int32)) = l3 ∧ ((m 111) l3.toNatClampNeg).toInt < 0) from by first | (exact Or.inl (by omega)) | (exact Or.inr ⟨rfl, by omega⟩) | (exfalso; omega; done) | (exfalso; contradiction; done))
theorem lp_226_2 {X : Nat × (Nat → Int32)} {P : Option ma_V → (Nat → Nat → Int32) → Prop} {f : Int32} {e : Int32} {m0 : Nat → Nat → Int32} (h0 : zV m0) (K : ∀ v m₉, zF wr_226 m0 m₉ → zV m₉ → (v.toInt = -1 ∨ (f.toInt ≤ v.toInt ∧ v.toInt < e.toInt ∧ 1 ≤ (m₉ 94 84).toInt ∧ v.toInt + (m₉ 94 84).toInt ≤ e.toInt)) → P (some (.inl v)) m₉) : ∀ (n : Nat) (m : Nat → Nat → Int32) (l2 : Int32) (l3 : Int32), (l2.toInt - l3.toInt).toNat = n → zF wr_226 m0 m → zV m → (0 ≤ l3.toInt) → (l3.toInt ≤ 6000) → (l2.toInt ≤ 4600) → (l2.toInt = e.toInt) → (f.toInt ≤ l3.toInt) → zm X 1 21 226 2 [(0, .inr (.inr (some 94))), (2, .inl l2), (3, .inl l3)] m P := by
  intro n
  induction n using Nat.strongRecOn with
  | _ n IH =>
    intro m l2 l3 hmu hF hV hi0 hi1 hi2 hi3 hi4
    refine g_226_2 l2 l3 ?_
    have b1 := i_bd l2
    have b2 := i_bd l3
    refine zd (fun (h3 : l2 ≤ l3) => ?_) (fun (h3 : ¬ l2 ≤ l3) => ?_)
    · skip
      have g4 := i_le h3
      refine zd (fun (h5 : l3 < l2) => ?_) (fun (h5 : ¬ l3 < l2) => ?_)
      · skip
        have g6 := i_lt h5
        exact lp_226_42 (f := f) (e := e) h0 K _ _ (l2) (l3) (l3) rfl hF hV (by omega) (by omega) (by omega) (by omega) (by omega) (by omega) (by omega) (show l3.toInt < l3.toInt ∨ (l3 = l3 ∧ ((m 111) l3.toNatClampNeg).toInt < 0) from by first | (exact Or.inl (by omega)) | (exact Or.inr ⟨rfl, by omega⟩) | (exfalso; omega; done) | (exfalso; contradiction; done))
      · skip
        have g7 := i_nlt h5
        have li8 : (-1 : Int32).toInt = -1 := rfl
        have f9 : 0 ≤ (m 94 84).toInt ∧ (m 94 84).toInt ≤ 4600 := rs_94_84 (m := m) hV
        exact K ((-1 : Int32)) _ hF hV (show (-1 : Int32).toInt = -1 ∨ (f.toInt ≤ (-1 : Int32).toInt ∧ (-1 : Int32).toInt < e.toInt ∧ 1 ≤ (m 94 84).toInt ∧ (-1 : Int32).toInt + (m 94 84).toInt ≤ e.toInt) from by omega)
    · skip
      have g10 := i_nle h3
      have hg11 : (0 ≤ l3 ∧ l3.toNatClampNeg < 4600) := i_ix (by omega) (by omega)
      refine ⟨hg11, ?_⟩
      first | have f12 : -1 ≤ (m 111 l3.toNatClampNeg).toInt ∧ (m 111 l3.toNatClampNeg).toInt ≤ 3099 := ra_111 (m := m) hV (k := l3.toNatClampNeg) (i_ix (n := 4600) (by omega) (by omega)).2 | have b13 := i_bd (m 111 l3.toNatClampNeg)
      have li14 : (0 : Int32).toInt = 0 := rfl
      refine zd (fun (h15 : (m 111 l3.toNatClampNeg) < (0 : Int32)) => ?_) (fun (h15 : ¬ (m 111 l3.toNatClampNeg) < (0 : Int32)) => ?_)
      · skip
        have g16 := i_lt h15
        refine zd (fun (h17 : l3 < l2) => ?_) (fun (h17 : ¬ l3 < l2) => ?_)
        · skip
          have g18 := i_lt h17
          exact lp_226_42 (f := f) (e := e) h0 K _ _ (l2) (l3) (l3) rfl hF hV (by omega) (by omega) (by omega) (by omega) (by omega) (by omega) (by omega) (show l3.toInt < l3.toInt ∨ (l3 = l3 ∧ ((m 111) l3.toNatClampNeg).toInt < 0) from by first | (exact Or.inl (by omega)) | (exact Or.inr ⟨rfl, by omega⟩) | (exfalso; omega; done) | (exfalso; contradiction; done))
        · skip
          have g19 := i_nlt h17
          have li20 : (-1 : Int32).toInt = -1 := rfl
          have f21 : 0 ≤ (m 94 84).toInt ∧ (m 94 84).toInt ≤ 4600 := rs_94_84 (m := m) hV
          exact K ((-1 : Int32)) _ hF hV (show (-1 : Int32).toInt = -1 ∨ (f.toInt ≤ (-1 : Int32).toInt ∧ (-1 : Int32).toInt < e.toInt ∧ 1 ≤ (m 94 84).toInt ∧ (-1 : Int32).toInt + (m 94 84).toInt ≤ e.toInt) from by omega)
      · skip
        have g22 := i_nlt h15
        have hg23 : (0 ≤ l3 ∧ l3.toNatClampNeg < 4600) := i_ix (by omega) (by omega)
        refine ⟨hg23, ?_⟩
        have hg24 : (0 ≤ (m 111 l3.toNatClampNeg) ∧ (m 111 l3.toNatClampNeg).toNatClampNeg < 3100) := i_ix (by omega) (by omega)
        refine ⟨hg24, ?_⟩
        first | have f25 : 0 ≤ (m 102 (m 111 l3.toNatClampNeg).toNatClampNeg).toInt ∧ (m 102 (m 111 l3.toNatClampNeg).toNatClampNeg).toInt ≤ 60 := ra_102 (m := m) hV (k := (m 111 l3.toNatClampNeg).toNatClampNeg) (i_ix (n := 3100) (by omega) (by omega)).2 | have b26 := i_bd (m 102 (m 111 l3.toNatClampNeg).toNatClampNeg)
        first | have e27 : ((m 102 (m 111 l3.toNatClampNeg).toNatClampNeg) + (1 : Int32)).toInt = (m 102 (m 111 l3.toNatClampNeg).toNatClampNeg).toInt + (1) := i_addk rfl (by omega) (by omega) | have b28 := i_bd ((m 102 (m 111 l3.toNatClampNeg).toNatClampNeg) + (1 : Int32))
        first | have e29 : (l3 + ((m 102 (m 111 l3.toNatClampNeg).toNatClampNeg) + (1 : Int32))).toInt = l3.toInt + ((m 102 (m 111 l3.toNatClampNeg).toNatClampNeg) + (1 : Int32)).toInt := i_add (by omega) (by omega) | have b30 := i_bd (l3 + ((m 102 (m 111 l3.toNatClampNeg).toNatClampNeg) + (1 : Int32)))
        exact IH (l2.toInt - (l3 + ((m 102 (m 111 l3.toNatClampNeg).toNatClampNeg) + (1 : Int32))).toInt).toNat (by omega) _ (l2) ((l3 + ((m 102 (m 111 l3.toNatClampNeg).toNatClampNeg) + (1 : Int32)))) rfl hF hV (by omega) (by omega) (by omega) (by omega) (by omega)
theorem sp_226 {X : Nat × (Nat → Int32)} {P : Option ma_V → (Nat → Nat → Int32) → Prop} {m : Nat → Nat → Int32} (f : Int32) (e : Int32) (hV : zV m) (hpre0 : 0 ≤ f.toInt) (hpre1 : f.toInt ≤ 5000) (hpre2 : e.toInt ≤ 4600) (KZ : ∀ v m₉, zV (zov wr_226 m m₉) → (v.toInt = -1 ∨ (f.toInt ≤ v.toInt ∧ v.toInt < e.toInt ∧ 1 ≤ (m₉ 94 84).toInt ∧ v.toInt + (m₉ 94 84).toInt ≤ e.toInt)) → P (some (.inl v)) (zov wr_226 m m₉)) : zm X 1 21 226 0 [(0, .inr (.inr (some 94))), (1, .inl f), (2, .inl e)] m P := by
  have K : ∀ v m₉, zF wr_226 m m₉ → zV m₉ → (v.toInt = -1 ∨ (f.toInt ≤ v.toInt ∧ v.toInt < e.toInt ∧ 1 ≤ (m₉ 94 84).toInt ∧ v.toInt + (m₉ 94 84).toInt ≤ e.toInt)) → P (some (.inl v)) m₉ := by
    intro v m₉ hf z q0
    have e := zov_eq hf
    rw [e] at z ⊢
    try rw [e] at q0
    exact KZ v m₉ z q0
  refine g_226_0 f e ?_
  have b1 := i_bd e
  have b2 := i_bd f
  exact lp_226_2 (f := f) (e := e) hV K _ _ (e) (f) rfl zF_rfl hV (by omega) (by omega) (by omega) (by omega) (by omega)

/-! from 94.406 -/
/-! the reference (written by wip/tools/gen94m.py) -/
set_option maxRecDepth 100000 in
theorem hm_225 : ma_md 225 = some (12, yX12_firstFit, cX12_firstFit, 5, (some (FieldType.int))) := rfl
theorem f_12_258_12 : ma_fld 12 258 12 = some 50 := by decide +kernel
theorem f_12_420_12 : ma_fld 12 420 12 = some 84 := by decide +kernel
theorem p_12_258_12 : ma_pk 12 258 12 50 = true := by decide +kernel
theorem v_12_423_12 : ma_vl 12 423 12 = some (1, 226, 2) := by decide +kernel
theorem dX12_firstFit_0 : decode cX12_firstFit 0 = .ok (.aload_n 0, 1) := by decide +kernel
theorem dX12_firstFit_1 : decode cX12_firstFit 1 = .ok (.iload_n 2, 1) := by decide +kernel
theorem dX12_firstFit_2 : decode cX12_firstFit 2 = .ok (.iload_n 3, 1) := by decide +kernel
theorem dX12_firstFit_3 : decode cX12_firstFit 3 = .ok (.invokevirtual 423, 3) := by decide +kernel
theorem dX12_firstFit_6 : decode cX12_firstFit 6 = .ok (.istore 4, 2) := by decide +kernel
theorem dX12_firstFit_8 : decode cX12_firstFit 8 = .ok (.iload 4, 2) := by decide +kernel
theorem dX12_firstFit_51 : decode cX12_firstFit 51 = .ok (.iconst (-1), 1) := by decide +kernel
theorem dX12_firstFit_52 : decode cX12_firstFit 52 = .ok (.ireturn, 1) := by decide +kernel
theorem dX12_firstFit_13 : decode cX12_firstFit 13 = .ok (.aload_n 0, 1) := by decide +kernel
theorem dX12_firstFit_14 : decode cX12_firstFit 14 = .ok (.dup, 1) := by decide +kernel
theorem dX12_firstFit_18 : decode cX12_firstFit 18 = .ok (.iconst 1, 1) := by decide +kernel
theorem dX12_firstFit_19 : decode cX12_firstFit 19 = .ok (.iadd, 1) := by decide +kernel
theorem dX12_firstFit_23 : decode cX12_firstFit 23 = .ok (.aload_n 0, 1) := by decide +kernel
theorem dX12_firstFit_27 : decode cX12_firstFit 27 = .ok (.iload_n 1, 1) := by decide +kernel
theorem dX12_firstFit_34 : decode cX12_firstFit 34 = .ok (.aload_n 0, 1) := by decide +kernel
theorem dX12_firstFit_35 : decode cX12_firstFit 35 = .ok (.iload 4, 2) := by decide +kernel
theorem dX12_firstFit_37 : decode cX12_firstFit 37 = .ok (.aload_n 0, 1) := by decide +kernel
theorem dX12_firstFit_41 : decode cX12_firstFit 41 = .ok (.iadd, 1) := by decide +kernel
theorem dX12_firstFit_42 : decode cX12_firstFit 42 = .ok (.iload_n 3, 1) := by decide +kernel
theorem dX12_firstFit_43 : decode cX12_firstFit 43 = .ok (.invokevirtual 423, 3) := by decide +kernel
theorem dX12_firstFit_46 : decode cX12_firstFit 46 = .ok (.istore 4, 2) := by decide +kernel
theorem dX12_firstFit_48 : decode cX12_firstFit 48 = .ok (.goto (-40), 3) := by decide +kernel
theorem dX12_firstFit_38 : decode cX12_firstFit 38 = .ok (.getfield 420, 3) := by decide +kernel
theorem dX12_firstFit_31 : decode cX12_firstFit 31 = .ok (.iload 4, 2) := by decide +kernel
theorem dX12_firstFit_33 : decode cX12_firstFit 33 = .ok (.ireturn, 1) := by decide +kernel
theorem dX12_firstFit_28 : decode cX12_firstFit 28 = .ok (.if_icmp .lt 6, 3) := by decide +kernel
theorem dX12_firstFit_24 : decode cX12_firstFit 24 = .ok (.getfield 420, 3) := by decide +kernel
theorem dX12_firstFit_20 : decode cX12_firstFit 20 = .ok (.putfield 258, 3) := by decide +kernel
theorem dX12_firstFit_15 : decode cX12_firstFit 15 = .ok (.getfield 258, 3) := by decide +kernel
theorem dX12_firstFit_10 : decode cX12_firstFit 10 = .ok (.ifCond .lt 41, 3) := by decide +kernel
def wr_225 (c k : Nat) : Bool := (Nat.beq c 94 && (Nat.beq k 50 || Nat.beq k 84))
theorem ws_226_225 : ∀ c k, wr_226 c k = true → wr_225 c k = true := by
  intro c k h
  simp only [wr_226, wr_225, Bool.or_eq_true, Bool.and_eq_true, Nat.beq_eq] at h ⊢
  omega
theorem g_225_0 {X : Nat × (Nat → Int32)} {m : Nat → Nat → Int32} {P : Option ma_V → (Nat → Nat → Int32) → Prop} (n : Int32) (f : Int32) (e : Int32) (h : zm X 1 21 226 0 [(0, .inr (.inr (some 94))), (1, .inl f), (2, .inl e)] m (zmi (fun v2 m1 => zm X 2 45 225 8 [(0, .inr (.inr (some 94))), (1, .inl n), (3, .inl e), (4, .inl v2)] m1 P))) : zm X 2 45 225 0 [(0, .inr (.inr (some 94))), (1, .inl n), (2, .inl f), (3, .inl e)] m P := by
  intro d w S Q hd hw hS hm HQ
  subst hm
  refine zw_push hm_225 dX12_firstFit_0 (v := .inr (.inr (some 94))) rfl ?_
  refine zw_push hm_225 dX12_firstFit_1 (v := .inl f) rfl ?_
  refine zw_push hm_225 dX12_firstFit_2 (v := .inl e) rfl ?_
  refine zw_cv hm_225 dX12_firstFit_3 v_12_423_12 hm_226 [.inl e, .inl f] [] rfl (zT_rt hS s_94 rfl) ⟨by omega, by omega⟩ rfl (h _ _ S _ (by omega) (by omega) hS rfl (fun o9 m1 hv => ?_))
  obtain ⟨v2, rfl, h⟩ := zmi_of hv
  show ma_wp X d w 225 6 [(0, .inr (.inr (some 94))), (1, .inl n), (2, .inl f), (3, .inl e)] [.inl v2] (zst S m1) _
  refine zw_sto hm_225 dX12_firstFit_6 [(4, .inl v2), (0, .inr (.inr (some 94))), (1, .inl n), (2, .inl f), (3, .inl e)] rfl rfl rfl ?_
  exact zw_sub (ma_nd_of (ks := [0, 1, 3, 4]) rfl (by decide)) (ma_nd_of (ks := [4, 0, 1, 2, 3]) rfl (by decide)) (ma_le_cons rfl (ma_le_cons rfl (ma_le_cons rfl (ma_le_cons rfl (ma_le_nil _))))) (h d w _ Q (by omega) (by omega) (zT_zst hS m1) rfl HQ)
theorem g_225_8 {X : Nat × (Nat → Int32)} {m : Nat → Nat → Int32} {P : Option ma_V → (Nat → Nat → Int32) → Prop} (l1 : Int32) (l3 : Int32) (l4 : Int32) (h : if l4 < 0 then (P (some (.inl (-1 : Int32))) m) else (if (m 94 84) < l1 then (zm X 1 21 226 0 [(0, .inr (.inr (some 94))), (1, .inl (l4 + (m 94 84))), (2, .inl l3)] (ma_u m 94 50 ((m 94 50) + (1 : Int32))) (zmi (fun v2 m1 => zm X 2 45 225 8 [(0, .inr (.inr (some 94))), (1, .inl l1), (3, .inl l3), (4, .inl v2)] m1 P))) else (P (some (.inl l4)) (ma_u m 94 50 ((m 94 50) + (1 : Int32)))))) : zm X 2 45 225 8 [(0, .inr (.inr (some 94))), (1, .inl l1), (3, .inl l3), (4, .inl l4)] m P := by
  intro d w S Q hd hw hS hm HQ
  subst hm
  refine zw_push hm_225 dX12_firstFit_8 (v := .inl l4) rfl ?_
  refine zw_if0 hm_225 dX12_firstFit_10 (t := 51) rfl zc0_lt ?_ ?_
  · intro hc
    rw [if_pos hc] at h
    refine zw_push hm_225 dX12_firstFit_51 (v := .inl (-1 : Int32)) rfl ?_
    exact zw_iret hm_225 dX12_firstFit_52 (HQ _ _ h)
  · intro hc
    rw [if_neg hc] at h
    refine zw_push hm_225 dX12_firstFit_13 (v := .inr (.inr (some 94))) rfl ?_
    refine zw_stk hm_225 dX12_firstFit_14 (st₉ := [.inr (.inr (some 94)), .inr (.inr (some 94))]) rfl rfl ?_
    refine zw_gf hm_225 dX12_firstFit_15 (v := .inl ((mI S) 94 50)) (zT_is hS s_94) (zT_t hS s_94) rfl f_12_258_12 rfl ?_
    refine zw_push hm_225 dX12_firstFit_18 (v := .inl (1 : Int32)) rfl ?_
    refine zw_stk hm_225 dX12_firstFit_19 (st₉ := [.inl (((mI S) 94 50) + (1 : Int32)), .inr (.inr (some 94))]) rfl rfl ?_
    refine zw_pf hm_225 dX12_firstFit_20 (zT_is hS s_94) (zT_t hS s_94) p_12_258_12 zk_int ?_
    refine zw_push hm_225 dX12_firstFit_23 (v := .inr (.inr (some 94))) rfl ?_
    refine zw_gf hm_225 dX12_firstFit_24 (v := .inl ((mI S) 94 84)) (zT_is (zT_pi hS) s_94) (zT_t (zT_pi hS) s_94) rfl f_12_420_12 rfl ?_
    refine zw_push hm_225 dX12_firstFit_27 (v := .inl l1) rfl ?_
    refine zw_if2 hm_225 dX12_firstFit_28 (t := 34) rfl zc2_lt ?_ ?_
    · intro hc
      rw [if_pos hc] at h
      refine zw_push hm_225 dX12_firstFit_34 (v := .inr (.inr (some 94))) rfl ?_
      refine zw_push hm_225 dX12_firstFit_35 (v := .inl l4) rfl ?_
      refine zw_push hm_225 dX12_firstFit_37 (v := .inr (.inr (some 94))) rfl ?_
      refine zw_gf hm_225 dX12_firstFit_38 (v := .inl ((mI S) 94 84)) (zT_is (zT_pi hS) s_94) (zT_t (zT_pi hS) s_94) rfl f_12_420_12 rfl ?_
      refine zw_stk hm_225 dX12_firstFit_41 (st₉ := [.inl (l4 + ((mI S) 94 84)), .inr (.inr (some 94))]) rfl rfl ?_
      refine zw_push hm_225 dX12_firstFit_42 (v := .inl l3) rfl ?_
      refine zw_cv hm_225 dX12_firstFit_43 v_12_423_12 hm_226 [.inl l3, .inl (l4 + ((mI S) 94 84))] [] rfl (zT_rt (zT_pi hS) s_94 rfl) ⟨by omega, by omega⟩ rfl (h _ _ (ma_put S 94 50 (.inl (((mI S) 94 50) + (1 : Int32)))) _ (by omega) (by omega) (zT_pi hS) rfl (fun o9 m1 hv => ?_))
      obtain ⟨v2, rfl, h⟩ := zmi_of hv
      show ma_wp X d w 225 46 [(0, .inr (.inr (some 94))), (1, .inl l1), (3, .inl l3), (4, .inl l4)] [.inl v2] (zst S m1) _
      refine zw_sto hm_225 dX12_firstFit_46 [(4, .inl v2), (0, .inr (.inr (some 94))), (1, .inl l1), (3, .inl l3)] rfl rfl rfl ?_
      refine zw_goto hm_225 dX12_firstFit_48 (t := 8) rfl ?_
      exact zw_sub (ma_nd_of (ks := [0, 1, 3, 4]) rfl (by decide)) (ma_nd_of (ks := [4, 0, 1, 3]) rfl (by decide)) (ma_le_cons rfl (ma_le_cons rfl (ma_le_cons rfl (ma_le_cons rfl (ma_le_nil _))))) (h d w _ Q (by omega) (by omega) (zT_zst hS m1) rfl HQ)
    · intro hc
      rw [if_neg hc] at h
      refine zw_push hm_225 dX12_firstFit_31 (v := .inl l4) rfl ?_
      exact zw_iret hm_225 dX12_firstFit_33 (HQ _ _ h)
theorem lp_225_8 {X : Nat × (Nat → Int32)} {P : Option ma_V → (Nat → Nat → Int32) → Prop} {n : Int32} {f : Int32} {e : Int32} {m0 : Nat → Nat → Int32} (h0 : zV m0) (K : ∀ v m₉, zF wr_225 m0 m₉ → zV m₉ → (-1 ≤ v.toInt ∧ v.toInt ≤ 1500) → P (some (.inl v)) m₉) : ∀ (n : Nat) (m : Nat → Nat → Int32) (l1 : Int32) (l3 : Int32) (l4 : Int32), (4700 - l4.toInt % 4701).toNat = n → zF wr_225 m0 m → zV m → (l3.toInt ≤ 1500) → (l4.toInt = -1 ∨ (0 ≤ l4.toInt ∧ l4.toInt < l3.toInt ∧ 1 ≤ (m 94 84).toInt ∧ l4.toInt + (m 94 84).toInt ≤ l3.toInt)) → zm X 2 45 225 8 [(0, .inr (.inr (some 94))), (1, .inl l1), (3, .inl l3), (4, .inl l4)] m P := by
  intro n
  induction n using Nat.strongRecOn with
  | _ n IH =>
    intro m l1 l3 l4 hmu hF hV hi0 hi1
    refine g_225_8 l1 l3 l4 ?_
    have f1 : 0 ≤ (m 94 84).toInt ∧ (m 94 84).toInt ≤ 4600 := rs_94_84 (m := m) hV
    have b2 := i_bd l4
    have li3 : (0 : Int32).toInt = 0 := rfl
    refine zd (fun (h4 : l4 < (0 : Int32)) => ?_) (fun (h4 : ¬ l4 < (0 : Int32)) => ?_)
    · skip
      have g5 := i_lt h4
      have li6 : (-1 : Int32).toInt = -1 := rfl
      exact K ((-1 : Int32)) _ hF hV (show -1 ≤ (-1 : Int32).toInt ∧ (-1 : Int32).toInt ≤ 1500 from by omega)
    · skip
      have g7 := i_nlt h4
      have b8 := i_bd l1
      refine zd (fun (h9 : (m 94 84) < l1) => ?_) (fun (h9 : ¬ (m 94 84) < l1) => ?_)
      · skip
        have g10 := i_lt h9
        first | have e11 : (l4 + (m 94 84)).toInt = l4.toInt + (m 94 84).toInt := i_add (by omega) (by omega) | have b12 := i_bd (l4 + (m 94 84))
        have b13 := i_bd l3
        have hV14 : zV (ma_u m 94 50 ((m 94 50) + (1 : Int32))) := uf_94_50 hV
        refine sp_226 ((l4 + (m 94 84))) (l3) hV14 (by omega) (by omega) (by omega) (fun v2 m1 hV_m1 p0_m1 => zmi_n ?_)
        have p0_m1 : v2.toInt = -1 ∨ ((l4 + (m 94 84)).toInt ≤ v2.toInt ∧ v2.toInt < l3.toInt ∧ 1 ≤ (m1 94 84).toInt ∧ v2.toInt + (m1 94 84).toInt ≤ l3.toInt) := p0_m1
        have f15 : 0 ≤ (m1 94 84).toInt ∧ (m1 94 84).toInt ≤ 4600 := rs_94_84 (m := (zov wr_226 (ma_u m 94 50 ((m 94 50) + (1 : Int32))) m1)) hV_m1
        have b16 := i_bd v2
        exact IH (4700 - v2.toInt % 4701).toNat (by omega) _ (l1) (l3) (v2) rfl (zF_zov (zF_u hF rfl) ws_226_225) hV_m1 (by omega) (show v2.toInt = -1 ∨ (0 ≤ v2.toInt ∧ v2.toInt < l3.toInt ∧ 1 ≤ (m1 94 84).toInt ∧ v2.toInt + (m1 94 84).toInt ≤ l3.toInt) from by omega)
      · skip
        have g17 := i_nlt h9
        have hV18 : zV (ma_u m 94 50 ((m 94 50) + (1 : Int32))) := uf_94_50 hV
        exact K (l4) _ (zF_u hF rfl) hV18 (show -1 ≤ l4.toInt ∧ l4.toInt ≤ 1500 from by omega)
theorem sp_225 {X : Nat × (Nat → Int32)} {P : Option ma_V → (Nat → Nat → Int32) → Prop} {m : Nat → Nat → Int32} (n : Int32) (f : Int32) (e : Int32) (hV : zV m) (hpre0 : 0 ≤ f.toInt) (hpre1 : f.toInt ≤ 5000) (hpre2 : e.toInt ≤ 1500) (KZ : ∀ v m₉, zV (zov wr_225 m m₉) → (-1 ≤ v.toInt ∧ v.toInt ≤ 1500) → P (some (.inl v)) (zov wr_225 m m₉)) : zm X 2 45 225 0 [(0, .inr (.inr (some 94))), (1, .inl n), (2, .inl f), (3, .inl e)] m P := by
  have K : ∀ v m₉, zF wr_225 m m₉ → zV m₉ → (-1 ≤ v.toInt ∧ v.toInt ≤ 1500) → P (some (.inl v)) m₉ := by
    intro v m₉ hf z q0
    have e := zov_eq hf
    rw [e] at z ⊢
    try rw [e] at q0
    exact KZ v m₉ z q0
  refine g_225_0 n f e ?_
  have b1 := i_bd f
  have b2 := i_bd e
  refine sp_226 (f) (e) hV (by omega) (by omega) (by omega) (fun v2 m1 hV_m1 p0_m1 => zmi_n ?_)
  have p0_m1 : v2.toInt = -1 ∨ (f.toInt ≤ v2.toInt ∧ v2.toInt < e.toInt ∧ 1 ≤ (m1 94 84).toInt ∧ v2.toInt + (m1 94 84).toInt ≤ e.toInt) := p0_m1
  have f3 : 0 ≤ (m1 94 84).toInt ∧ (m1 94 84).toInt ≤ 4600 := rs_94_84 (m := (zov wr_226 m m1)) hV_m1
  have b4 := i_bd n
  have b5 := i_bd v2
  exact lp_225_8 (n := n) (f := f) (e := e) hV K _ _ (n) (e) (v2) rfl (zF_zov zF_rfl ws_226_225) hV_m1 (by omega) (show v2.toInt = -1 ∨ (0 ≤ v2.toInt ∧ v2.toInt < e.toInt ∧ 1 ≤ (m1 94 84).toInt ∧ v2.toInt + (m1 94 84).toInt ≤ e.toInt) from by omega)
set_option maxRecDepth 100000 in
theorem hm_228 : ma_md 228 = some (12, yX12_firstFitAhead, cX12_firstFitAhead, 4, (some (FieldType.int))) := rfl
theorem f_12_202_12 : ma_fld 12 202 12 = some 11 := by decide +kernel
theorem dX12_firstFitAhead_0 : decode cX12_firstFitAhead 0 = .ok (.aload_n 0, 1) := by decide +kernel
theorem dX12_firstFitAhead_1 : decode cX12_firstFitAhead 1 = .ok (.iconst 0, 1) := by decide +kernel
theorem dX12_firstFitAhead_2 : decode cX12_firstFitAhead 2 = .ok (.aload_n 0, 1) := by decide +kernel
theorem dX12_firstFitAhead_6 : decode cX12_firstFitAhead 6 = .ok (.invokevirtual 423, 3) := by decide +kernel
theorem dX12_firstFitAhead_9 : decode cX12_firstFitAhead 9 = .ok (.istore_n 3, 1) := by decide +kernel
theorem dX12_firstFitAhead_3 : decode cX12_firstFitAhead 3 = .ok (.getfield 202, 3) := by decide +kernel
theorem dX12_firstFitAhead_10 : decode cX12_firstFitAhead 10 = .ok (.iload_n 3, 1) := by decide +kernel
theorem dX12_firstFitAhead_57 : decode cX12_firstFitAhead 57 = .ok (.iconst (-1), 1) := by decide +kernel
theorem dX12_firstFitAhead_58 : decode cX12_firstFitAhead 58 = .ok (.ireturn, 1) := by decide +kernel
theorem dX12_firstFitAhead_14 : decode cX12_firstFitAhead 14 = .ok (.iload_n 3, 1) := by decide +kernel
theorem dX12_firstFitAhead_15 : decode cX12_firstFitAhead 15 = .ok (.iload_n 2, 1) := by decide +kernel
theorem dX12_firstFitAhead_19 : decode cX12_firstFitAhead 19 = .ok (.aload_n 0, 1) := by decide +kernel
theorem dX12_firstFitAhead_20 : decode cX12_firstFitAhead 20 = .ok (.dup, 1) := by decide +kernel
theorem dX12_firstFitAhead_24 : decode cX12_firstFitAhead 24 = .ok (.iconst 1, 1) := by decide +kernel
theorem dX12_firstFitAhead_25 : decode cX12_firstFitAhead 25 = .ok (.iadd, 1) := by decide +kernel
theorem dX12_firstFitAhead_29 : decode cX12_firstFitAhead 29 = .ok (.aload_n 0, 1) := by decide +kernel
theorem dX12_firstFitAhead_33 : decode cX12_firstFitAhead 33 = .ok (.iload_n 1, 1) := by decide +kernel
theorem dX12_firstFitAhead_39 : decode cX12_firstFitAhead 39 = .ok (.aload_n 0, 1) := by decide +kernel
theorem dX12_firstFitAhead_40 : decode cX12_firstFitAhead 40 = .ok (.iload_n 3, 1) := by decide +kernel
theorem dX12_firstFitAhead_41 : decode cX12_firstFitAhead 41 = .ok (.aload_n 0, 1) := by decide +kernel
theorem dX12_firstFitAhead_45 : decode cX12_firstFitAhead 45 = .ok (.iadd, 1) := by decide +kernel
theorem dX12_firstFitAhead_46 : decode cX12_firstFitAhead 46 = .ok (.aload_n 0, 1) := by decide +kernel
theorem dX12_firstFitAhead_50 : decode cX12_firstFitAhead 50 = .ok (.invokevirtual 423, 3) := by decide +kernel
theorem dX12_firstFitAhead_53 : decode cX12_firstFitAhead 53 = .ok (.istore_n 3, 1) := by decide +kernel
theorem dX12_firstFitAhead_54 : decode cX12_firstFitAhead 54 = .ok (.goto (-44), 3) := by decide +kernel
theorem dX12_firstFitAhead_47 : decode cX12_firstFitAhead 47 = .ok (.getfield 202, 3) := by decide +kernel
theorem dX12_firstFitAhead_42 : decode cX12_firstFitAhead 42 = .ok (.getfield 420, 3) := by decide +kernel
theorem dX12_firstFitAhead_37 : decode cX12_firstFitAhead 37 = .ok (.iload_n 3, 1) := by decide +kernel
theorem dX12_firstFitAhead_38 : decode cX12_firstFitAhead 38 = .ok (.ireturn, 1) := by decide +kernel
theorem dX12_firstFitAhead_34 : decode cX12_firstFitAhead 34 = .ok (.if_icmp .lt 5, 3) := by decide +kernel
theorem dX12_firstFitAhead_30 : decode cX12_firstFitAhead 30 = .ok (.getfield 420, 3) := by decide +kernel
theorem dX12_firstFitAhead_26 : decode cX12_firstFitAhead 26 = .ok (.putfield 258, 3) := by decide +kernel
theorem dX12_firstFitAhead_21 : decode cX12_firstFitAhead 21 = .ok (.getfield 258, 3) := by decide +kernel
theorem dX12_firstFitAhead_16 : decode cX12_firstFitAhead 16 = .ok (.if_icmp .ge 41, 3) := by decide +kernel
theorem dX12_firstFitAhead_11 : decode cX12_firstFitAhead 11 = .ok (.ifCond .lt 46, 3) := by decide +kernel
def wr_228 (c k : Nat) : Bool := (Nat.beq c 94 && (Nat.beq k 50 || Nat.beq k 84))
theorem ws_226_228 : ∀ c k, wr_226 c k = true → wr_228 c k = true := by
  intro c k h
  simp only [wr_226, wr_228, Bool.or_eq_true, Bool.and_eq_true, Nat.beq_eq] at h ⊢
  omega
theorem g_228_0 {X : Nat × (Nat → Int32)} {m : Nat → Nat → Int32} {P : Option ma_V → (Nat → Nat → Int32) → Prop} (n : Int32) (e : Int32) (h : zm X 1 21 226 0 [(0, .inr (.inr (some 94))), (1, .inl (0 : Int32)), (2, .inl (m 94 11))] m (zmi (fun v2 m1 => zm X 2 45 228 10 [(0, .inr (.inr (some 94))), (1, .inl n), (2, .inl e), (3, .inl v2)] m1 P))) : zm X 2 45 228 0 [(0, .inr (.inr (some 94))), (1, .inl n), (2, .inl e)] m P := by
  intro d w S Q hd hw hS hm HQ
  subst hm
  refine zw_push hm_228 dX12_firstFitAhead_0 (v := .inr (.inr (some 94))) rfl ?_
  refine zw_push hm_228 dX12_firstFitAhead_1 (v := .inl (0 : Int32)) rfl ?_
  refine zw_push hm_228 dX12_firstFitAhead_2 (v := .inr (.inr (some 94))) rfl ?_
  refine zw_gf hm_228 dX12_firstFitAhead_3 (v := .inl ((mI S) 94 11)) (zT_is hS s_94) (zT_t hS s_94) rfl f_12_202_12 rfl ?_
  refine zw_cv hm_228 dX12_firstFitAhead_6 v_12_423_12 hm_226 [.inl ((mI S) 94 11), .inl (0 : Int32)] [] rfl (zT_rt hS s_94 rfl) ⟨by omega, by omega⟩ rfl (h _ _ S _ (by omega) (by omega) hS rfl (fun o9 m1 hv => ?_))
  obtain ⟨v2, rfl, h⟩ := zmi_of hv
  show ma_wp X d w 228 9 [(0, .inr (.inr (some 94))), (1, .inl n), (2, .inl e)] [.inl v2] (zst S m1) _
  refine zw_sto hm_228 dX12_firstFitAhead_9 [(3, .inl v2), (0, .inr (.inr (some 94))), (1, .inl n), (2, .inl e)] rfl rfl rfl ?_
  exact zw_sub (ma_nd_of (ks := [0, 1, 2, 3]) rfl (by decide)) (ma_nd_of (ks := [3, 0, 1, 2]) rfl (by decide)) (ma_le_cons rfl (ma_le_cons rfl (ma_le_cons rfl (ma_le_cons rfl (ma_le_nil _))))) (h d w _ Q (by omega) (by omega) (zT_zst hS m1) rfl HQ)
theorem g_228_10 {X : Nat × (Nat → Int32)} {m : Nat → Nat → Int32} {P : Option ma_V → (Nat → Nat → Int32) → Prop} (l1 : Int32) (l2 : Int32) (l3 : Int32) (h : if l3 < 0 then (P (some (.inl (-1 : Int32))) m) else (if l2 ≤ l3 then (P (some (.inl (-1 : Int32))) m) else (if (m 94 84) < l1 then (zm X 1 21 226 0 [(0, .inr (.inr (some 94))), (1, .inl (l3 + (m 94 84))), (2, .inl (m 94 11))] (ma_u m 94 50 ((m 94 50) + (1 : Int32))) (zmi (fun v2 m1 => zm X 2 45 228 10 [(0, .inr (.inr (some 94))), (1, .inl l1), (2, .inl l2), (3, .inl v2)] m1 P))) else (P (some (.inl l3)) (ma_u m 94 50 ((m 94 50) + (1 : Int32))))))) : zm X 2 45 228 10 [(0, .inr (.inr (some 94))), (1, .inl l1), (2, .inl l2), (3, .inl l3)] m P := by
  intro d w S Q hd hw hS hm HQ
  subst hm
  refine zw_push hm_228 dX12_firstFitAhead_10 (v := .inl l3) rfl ?_
  refine zw_if0 hm_228 dX12_firstFitAhead_11 (t := 57) rfl zc0_lt ?_ ?_
  · intro hc
    rw [if_pos hc] at h
    refine zw_push hm_228 dX12_firstFitAhead_57 (v := .inl (-1 : Int32)) rfl ?_
    exact zw_iret hm_228 dX12_firstFitAhead_58 (HQ _ _ h)
  · intro hc
    rw [if_neg hc] at h
    refine zw_push hm_228 dX12_firstFitAhead_14 (v := .inl l3) rfl ?_
    refine zw_push hm_228 dX12_firstFitAhead_15 (v := .inl l2) rfl ?_
    refine zw_if2 hm_228 dX12_firstFitAhead_16 (t := 57) rfl zc2_ge ?_ ?_
    · intro hc
      rw [if_pos hc] at h
      refine zw_push hm_228 dX12_firstFitAhead_57 (v := .inl (-1 : Int32)) rfl ?_
      exact zw_iret hm_228 dX12_firstFitAhead_58 (HQ _ _ h)
    · intro hc
      rw [if_neg hc] at h
      refine zw_push hm_228 dX12_firstFitAhead_19 (v := .inr (.inr (some 94))) rfl ?_
      refine zw_stk hm_228 dX12_firstFitAhead_20 (st₉ := [.inr (.inr (some 94)), .inr (.inr (some 94))]) rfl rfl ?_
      refine zw_gf hm_228 dX12_firstFitAhead_21 (v := .inl ((mI S) 94 50)) (zT_is hS s_94) (zT_t hS s_94) rfl f_12_258_12 rfl ?_
      refine zw_push hm_228 dX12_firstFitAhead_24 (v := .inl (1 : Int32)) rfl ?_
      refine zw_stk hm_228 dX12_firstFitAhead_25 (st₉ := [.inl (((mI S) 94 50) + (1 : Int32)), .inr (.inr (some 94))]) rfl rfl ?_
      refine zw_pf hm_228 dX12_firstFitAhead_26 (zT_is hS s_94) (zT_t hS s_94) p_12_258_12 zk_int ?_
      refine zw_push hm_228 dX12_firstFitAhead_29 (v := .inr (.inr (some 94))) rfl ?_
      refine zw_gf hm_228 dX12_firstFitAhead_30 (v := .inl ((mI S) 94 84)) (zT_is (zT_pi hS) s_94) (zT_t (zT_pi hS) s_94) rfl f_12_420_12 rfl ?_
      refine zw_push hm_228 dX12_firstFitAhead_33 (v := .inl l1) rfl ?_
      refine zw_if2 hm_228 dX12_firstFitAhead_34 (t := 39) rfl zc2_lt ?_ ?_
      · intro hc
        rw [if_pos hc] at h
        refine zw_push hm_228 dX12_firstFitAhead_39 (v := .inr (.inr (some 94))) rfl ?_
        refine zw_push hm_228 dX12_firstFitAhead_40 (v := .inl l3) rfl ?_
        refine zw_push hm_228 dX12_firstFitAhead_41 (v := .inr (.inr (some 94))) rfl ?_
        refine zw_gf hm_228 dX12_firstFitAhead_42 (v := .inl ((mI S) 94 84)) (zT_is (zT_pi hS) s_94) (zT_t (zT_pi hS) s_94) rfl f_12_420_12 rfl ?_
        refine zw_stk hm_228 dX12_firstFitAhead_45 (st₉ := [.inl (l3 + ((mI S) 94 84)), .inr (.inr (some 94))]) rfl rfl ?_
        refine zw_push hm_228 dX12_firstFitAhead_46 (v := .inr (.inr (some 94))) rfl ?_
        refine zw_gf hm_228 dX12_firstFitAhead_47 (v := .inl ((mI S) 94 11)) (zT_is (zT_pi hS) s_94) (zT_t (zT_pi hS) s_94) rfl f_12_202_12 rfl ?_
        refine zw_cv hm_228 dX12_firstFitAhead_50 v_12_423_12 hm_226 [.inl ((mI S) 94 11), .inl (l3 + ((mI S) 94 84))] [] rfl (zT_rt (zT_pi hS) s_94 rfl) ⟨by omega, by omega⟩ rfl (h _ _ (ma_put S 94 50 (.inl (((mI S) 94 50) + (1 : Int32)))) _ (by omega) (by omega) (zT_pi hS) rfl (fun o9 m1 hv => ?_))
        obtain ⟨v2, rfl, h⟩ := zmi_of hv
        show ma_wp X d w 228 53 [(0, .inr (.inr (some 94))), (1, .inl l1), (2, .inl l2), (3, .inl l3)] [.inl v2] (zst S m1) _
        refine zw_sto hm_228 dX12_firstFitAhead_53 [(3, .inl v2), (0, .inr (.inr (some 94))), (1, .inl l1), (2, .inl l2)] rfl rfl rfl ?_
        refine zw_goto hm_228 dX12_firstFitAhead_54 (t := 10) rfl ?_
        exact zw_sub (ma_nd_of (ks := [0, 1, 2, 3]) rfl (by decide)) (ma_nd_of (ks := [3, 0, 1, 2]) rfl (by decide)) (ma_le_cons rfl (ma_le_cons rfl (ma_le_cons rfl (ma_le_cons rfl (ma_le_nil _))))) (h d w _ Q (by omega) (by omega) (zT_zst hS m1) rfl HQ)
      · intro hc
        rw [if_neg hc] at h
        refine zw_push hm_228 dX12_firstFitAhead_37 (v := .inl l3) rfl ?_
        exact zw_iret hm_228 dX12_firstFitAhead_38 (HQ _ _ h)
theorem lp_228_10 {X : Nat × (Nat → Int32)} {P : Option ma_V → (Nat → Nat → Int32) → Prop} {n : Int32} {e : Int32} {m0 : Nat → Nat → Int32} (h0 : zV m0) (K : ∀ v m₉, zF wr_228 m0 m₉ → zV m₉ → (-1 ≤ v.toInt ∧ v.toInt ≤ 1500) → P (some (.inl v)) m₉) : ∀ (n : Nat) (m : Nat → Nat → Int32) (l1 : Int32) (l2 : Int32) (l3 : Int32), (4700 - l3.toInt % 4701).toNat = n → zF wr_228 m0 m → zV m → (l3.toInt = -1 ∨ (0 ≤ l3.toInt ∧ l3.toInt < (m 94 11).toInt ∧ 1 ≤ (m 94 84).toInt ∧ l3.toInt + (m 94 84).toInt ≤ (m 94 11).toInt)) → zm X 2 45 228 10 [(0, .inr (.inr (some 94))), (1, .inl l1), (2, .inl l2), (3, .inl l3)] m P := by
  intro n
  induction n using Nat.strongRecOn with
  | _ n IH =>
    intro m l1 l2 l3 hmu hF hV hi0
    refine g_228_10 l1 l2 l3 ?_
    have f1 : 0 ≤ (m 94 11).toInt ∧ (m 94 11).toInt ≤ 1500 := rs_94_11 (m := m) hV
    have f2 : 0 ≤ (m 94 84).toInt ∧ (m 94 84).toInt ≤ 4600 := rs_94_84 (m := m) hV
    have b3 := i_bd l3
    have li4 : (0 : Int32).toInt = 0 := rfl
    refine zd (fun (h5 : l3 < (0 : Int32)) => ?_) (fun (h5 : ¬ l3 < (0 : Int32)) => ?_)
    · skip
      have g6 := i_lt h5
      have li7 : (-1 : Int32).toInt = -1 := rfl
      exact K ((-1 : Int32)) _ hF hV (show -1 ≤ (-1 : Int32).toInt ∧ (-1 : Int32).toInt ≤ 1500 from by omega)
    · skip
      have g8 := i_nlt h5
      have b9 := i_bd l2
      refine zd (fun (h10 : l2 ≤ l3) => ?_) (fun (h10 : ¬ l2 ≤ l3) => ?_)
      · skip
        have g11 := i_le h10
        have li12 : (-1 : Int32).toInt = -1 := rfl
        exact K ((-1 : Int32)) _ hF hV (show -1 ≤ (-1 : Int32).toInt ∧ (-1 : Int32).toInt ≤ 1500 from by omega)
      · skip
        have g13 := i_nle h10
        have b14 := i_bd l1
        refine zd (fun (h15 : (m 94 84) < l1) => ?_) (fun (h15 : ¬ (m 94 84) < l1) => ?_)
        · skip
          have g16 := i_lt h15
          first | have e17 : (l3 + (m 94 84)).toInt = l3.toInt + (m 94 84).toInt := i_add (by omega) (by omega) | have b18 := i_bd (l3 + (m 94 84))
          have hV19 : zV (ma_u m 94 50 ((m 94 50) + (1 : Int32))) := uf_94_50 hV
          refine sp_226 ((l3 + (m 94 84))) ((m 94 11)) hV19 (by omega) (by omega) (by omega) (fun v2 m1 hV_m1 p0_m1 => zmi_n ?_)
          have p0_m1 : v2.toInt = -1 ∨ ((l3 + (m 94 84)).toInt ≤ v2.toInt ∧ v2.toInt < (m 94 11).toInt ∧ 1 ≤ (m1 94 84).toInt ∧ v2.toInt + (m1 94 84).toInt ≤ (m 94 11).toInt) := p0_m1
          have f20 : 0 ≤ (m1 94 84).toInt ∧ (m1 94 84).toInt ≤ 4600 := rs_94_84 (m := (zov wr_226 (ma_u m 94 50 ((m 94 50) + (1 : Int32))) m1)) hV_m1
          have b21 := i_bd v2
          exact IH (4700 - v2.toInt % 4701).toNat (by omega) _ (l1) (l2) (v2) rfl (zF_zov (zF_u hF rfl) ws_226_228) hV_m1 (show v2.toInt = -1 ∨ (0 ≤ v2.toInt ∧ v2.toInt < (m 94 11).toInt ∧ 1 ≤ (m1 94 84).toInt ∧ v2.toInt + (m1 94 84).toInt ≤ (m 94 11).toInt) from by omega)
        · skip
          have g22 := i_nlt h15
          have hV23 : zV (ma_u m 94 50 ((m 94 50) + (1 : Int32))) := uf_94_50 hV
          exact K (l3) _ (zF_u hF rfl) hV23 (show -1 ≤ l3.toInt ∧ l3.toInt ≤ 1500 from by omega)
theorem sp_228 {X : Nat × (Nat → Int32)} {P : Option ma_V → (Nat → Nat → Int32) → Prop} {m : Nat → Nat → Int32} (n : Int32) (e : Int32) (hV : zV m)  (KZ : ∀ v m₉, zV (zov wr_228 m m₉) → (-1 ≤ v.toInt ∧ v.toInt ≤ 1500) → P (some (.inl v)) (zov wr_228 m m₉)) : zm X 2 45 228 0 [(0, .inr (.inr (some 94))), (1, .inl n), (2, .inl e)] m P := by
  have K : ∀ v m₉, zF wr_228 m m₉ → zV m₉ → (-1 ≤ v.toInt ∧ v.toInt ≤ 1500) → P (some (.inl v)) m₉ := by
    intro v m₉ hf z q0
    have e := zov_eq hf
    rw [e] at z ⊢
    try rw [e] at q0
    exact KZ v m₉ z q0
  refine g_228_0 n e ?_
  have li1 : (0 : Int32).toInt = 0 := rfl
  have f2 : 0 ≤ (m 94 11).toInt ∧ (m 94 11).toInt ≤ 1500 := rs_94_11 (m := m) hV
  refine sp_226 ((0 : Int32)) ((m 94 11)) hV (by omega) (by omega) (by omega) (fun v2 m1 hV_m1 p0_m1 => zmi_n ?_)
  have p0_m1 : v2.toInt = -1 ∨ ((0 : Int32).toInt ≤ v2.toInt ∧ v2.toInt < (m 94 11).toInt ∧ 1 ≤ (m1 94 84).toInt ∧ v2.toInt + (m1 94 84).toInt ≤ (m 94 11).toInt) := p0_m1
  have f3 : 0 ≤ (m1 94 84).toInt ∧ (m1 94 84).toInt ≤ 4600 := rs_94_84 (m := (zov wr_226 m m1)) hV_m1
  have b4 := i_bd n
  have b5 := i_bd e
  have b6 := i_bd v2
  exact lp_228_10 (n := n) (e := e) hV K _ _ (n) (e) (v2) rfl (zF_zov zF_rfl ws_226_228) hV_m1 (show v2.toInt = -1 ∨ (0 ≤ v2.toInt ∧ v2.toInt < (m 94 11).toInt ∧ 1 ≤ (m1 94 84).toInt ∧ v2.toInt + (m1 94 84).toInt ≤ (m 94 11).toInt) from by omega)

