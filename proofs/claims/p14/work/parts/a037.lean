/-! from 94.441 -/
/-! the reference (written by wip/tools/gen94m.py) -/
set_option maxRecDepth 100000 in
theorem hm_204 : ma_md 204 = some (12, yX12_slide, cX12_slide, 6, (some (FieldType.int))) := rfl
theorem dX12_slide_0 : decode cX12_slide 0 = .ok (.iconst 0, 1) := by decide +kernel
theorem dX12_slide_1 : decode cX12_slide 1 = .ok (.istore_n 2, 1) := by decide +kernel
theorem dX12_slide_2 : decode cX12_slide 2 = .ok (.iconst 0, 1) := by decide +kernel
theorem dX12_slide_3 : decode cX12_slide 3 = .ok (.istore_n 3, 1) := by decide +kernel
theorem dX12_slide_4 : decode cX12_slide 4 = .ok (.iload_n 3, 1) := by decide +kernel
theorem dX12_slide_5 : decode cX12_slide 5 = .ok (.iload_n 1, 1) := by decide +kernel
theorem dX12_slide_76 : decode cX12_slide 76 = .ok (.iload_n 2, 1) := by decide +kernel
theorem dX12_slide_77 : decode cX12_slide 77 = .ok (.ireturn, 1) := by decide +kernel
theorem dX12_slide_9 : decode cX12_slide 9 = .ok (.aload_n 0, 1) := by decide +kernel
theorem dX12_slide_13 : decode cX12_slide 13 = .ok (.iload_n 3, 1) := by decide +kernel
theorem dX12_slide_15 : decode cX12_slide 15 = .ok (.istore 4, 2) := by decide +kernel
theorem dX12_slide_17 : decode cX12_slide 17 = .ok (.iload 4, 2) := by decide +kernel
theorem dX12_slide_28 : decode cX12_slide 28 = .ok (.iload_n 3, 1) := by decide +kernel
theorem dX12_slide_29 : decode cX12_slide 29 = .ok (.aload_n 0, 1) := by decide +kernel
theorem dX12_slide_30 : decode cX12_slide 30 = .ok (.iload 4, 2) := by decide +kernel
theorem dX12_slide_32 : decode cX12_slide 32 = .ok (.invokevirtual 327, 3) := by decide +kernel
theorem dX12_slide_35 : decode cX12_slide 35 = .ok (.iadd, 1) := by decide +kernel
theorem dX12_slide_36 : decode cX12_slide 36 = .ok (.istore 5, 2) := by decide +kernel
theorem dX12_slide_38 : decode cX12_slide 38 = .ok (.aload_n 0, 1) := by decide +kernel
theorem dX12_slide_42 : decode cX12_slide 42 = .ok (.iload 4, 2) := by decide +kernel
theorem dX12_slide_55 : decode cX12_slide 55 = .ok (.aload_n 0, 1) := by decide +kernel
theorem dX12_slide_59 : decode cX12_slide 59 = .ok (.iload 4, 2) := by decide +kernel
theorem dX12_slide_62 : decode cX12_slide 62 = .ok (.aload_n 0, 1) := by decide +kernel
theorem dX12_slide_63 : decode cX12_slide 63 = .ok (.iload 4, 2) := by decide +kernel
theorem dX12_slide_65 : decode cX12_slide 65 = .ok (.invokevirtual 327, 3) := by decide +kernel
theorem dX12_slide_68 : decode cX12_slide 68 = .ok (.iadd, 1) := by decide +kernel
theorem dX12_slide_69 : decode cX12_slide 69 = .ok (.istore_n 2, 1) := by decide +kernel
theorem dX12_slide_70 : decode cX12_slide 70 = .ok (.iload 5, 2) := by decide +kernel
theorem dX12_slide_72 : decode cX12_slide 72 = .ok (.istore_n 3, 1) := by decide +kernel
theorem dX12_slide_73 : decode cX12_slide 73 = .ok (.goto (-69), 3) := by decide +kernel
theorem dX12_slide_61 : decode cX12_slide 61 = .ok (.iaload, 1) := by decide +kernel
theorem dX12_slide_56 : decode cX12_slide 56 = .ok (.getfield 40, 3) := by decide +kernel
theorem dX12_slide_48 : decode cX12_slide 48 = .ok (.aload_n 0, 1) := by decide +kernel
theorem dX12_slide_49 : decode cX12_slide 49 = .ok (.iload 4, 2) := by decide +kernel
theorem dX12_slide_51 : decode cX12_slide 51 = .ok (.iload_n 2, 1) := by decide +kernel
theorem dX12_slide_52 : decode cX12_slide 52 = .ok (.invokevirtual 352, 3) := by decide +kernel
theorem dX12_slide_45 : decode cX12_slide 45 = .ok (.ifCond .ne 10, 3) := by decide +kernel
theorem dX12_slide_44 : decode cX12_slide 44 = .ok (.iaload, 1) := by decide +kernel
theorem dX12_slide_39 : decode cX12_slide 39 = .ok (.getfield 52, 3) := by decide +kernel
theorem dX12_slide_22 : decode cX12_slide 22 = .ok (.iinc 3 1, 3) := by decide +kernel
theorem dX12_slide_25 : decode cX12_slide 25 = .ok (.goto (-21), 3) := by decide +kernel
theorem dX12_slide_19 : decode cX12_slide 19 = .ok (.ifCond .ge 9, 3) := by decide +kernel
theorem dX12_slide_14 : decode cX12_slide 14 = .ok (.iaload, 1) := by decide +kernel
theorem dX12_slide_10 : decode cX12_slide 10 = .ok (.getfield 65, 3) := by decide +kernel
theorem dX12_slide_6 : decode cX12_slide 6 = .ok (.if_icmp .ge 70, 3) := by decide +kernel
def wr_204 (c k : Nat) : Bool := Nat.beq c 103 || Nat.beq c 111 || (Nat.beq c 94 && (Nat.beq k 48))
theorem ws_205_204 : ∀ c k, wr_205 c k = true → wr_204 c k = true := by
  intro c k h
  simp only [wr_205, wr_204, Bool.or_eq_true, Bool.and_eq_true, Nat.beq_eq] at h ⊢
  omega
theorem g_204_0 {X : Nat × (Nat → Int32)} {m : Nat → Nat → Int32} {P : Option ma_V → (Nat → Nat → Int32) → Prop} (lim : Int32) (h : zm X 2 43 204 4 [(0, .inr (.inr (some 94))), (1, .inl lim), (2, .inl (0 : Int32)), (3, .inl (0 : Int32))] m P) : zm X 2 43 204 0 [(0, .inr (.inr (some 94))), (1, .inl lim)] m P := by
  intro d w S Q hd hw hS hm HQ
  subst hm
  refine zw_push hm_204 dX12_slide_0 (v := .inl (0 : Int32)) rfl ?_
  refine zw_sto hm_204 dX12_slide_1 [(2, .inl (0 : Int32)), (0, .inr (.inr (some 94))), (1, .inl lim)] rfl rfl rfl ?_
  refine zw_push hm_204 dX12_slide_2 (v := .inl (0 : Int32)) rfl ?_
  refine zw_sto hm_204 dX12_slide_3 [(3, .inl (0 : Int32)), (2, .inl (0 : Int32)), (0, .inr (.inr (some 94))), (1, .inl lim)] rfl rfl rfl ?_
  exact zw_sub (ma_nd_of (ks := [0, 1, 2, 3]) rfl (by decide)) (ma_nd_of (ks := [3, 2, 0, 1]) rfl (by decide)) (ma_le_cons rfl (ma_le_cons rfl (ma_le_cons rfl (ma_le_cons rfl (ma_le_nil _))))) (h d w _ Q (by omega) (by omega) hS rfl HQ)
theorem g_204_4 {X : Nat × (Nat → Int32)} {m : Nat → Nat → Int32} {P : Option ma_V → (Nat → Nat → Int32) → Prop} (l1 : Int32) (l2 : Int32) (l3 : Int32) (h : if l1 ≤ l3 then (P (some (.inl l2)) m) else ((0 ≤ l3 ∧ l3.toNatClampNeg < 4600) ∧ (if 0 ≤ (m 111 l3.toNatClampNeg) then ((0 ≤ (m 111 l3.toNatClampNeg) ∧ (m 111 l3.toNatClampNeg).toNatClampNeg < 3100) ∧ ((0 ≤ (m 111 l3.toNatClampNeg) ∧ (m 111 l3.toNatClampNeg).toNatClampNeg < 3100) ∧ (if (m 107 (m 111 l3.toNatClampNeg).toNatClampNeg) = 0 then (zm X 1 21 205 0 [(0, .inr (.inr (some 94))), (1, .inl (m 111 l3.toNatClampNeg)), (2, .inl l2)] m (zmv (fun m1 => (0 ≤ (m 111 l3.toNatClampNeg) ∧ (m 111 l3.toNatClampNeg).toNatClampNeg < 3100) ∧ ((0 ≤ (m 111 l3.toNatClampNeg) ∧ (m 111 l3.toNatClampNeg).toNatClampNeg < 3100) ∧ (zm X 2 43 204 4 [(0, .inr (.inr (some 94))), (1, .inl l1), (2, .inl ((m1 103 (m 111 l3.toNatClampNeg).toNatClampNeg) + ((m1 102 (m 111 l3.toNatClampNeg).toNatClampNeg) + (1 : Int32)))), (3, .inl (l3 + ((m 102 (m 111 l3.toNatClampNeg).toNatClampNeg) + (1 : Int32))))] m1 P))))) else ((0 ≤ (m 111 l3.toNatClampNeg) ∧ (m 111 l3.toNatClampNeg).toNatClampNeg < 3100) ∧ ((0 ≤ (m 111 l3.toNatClampNeg) ∧ (m 111 l3.toNatClampNeg).toNatClampNeg < 3100) ∧ (zm X 2 43 204 4 [(0, .inr (.inr (some 94))), (1, .inl l1), (2, .inl ((m 103 (m 111 l3.toNatClampNeg).toNatClampNeg) + ((m 102 (m 111 l3.toNatClampNeg).toNatClampNeg) + (1 : Int32)))), (3, .inl (l3 + ((m 102 (m 111 l3.toNatClampNeg).toNatClampNeg) + (1 : Int32))))] m P)))))) else (zm X 2 43 204 4 [(0, .inr (.inr (some 94))), (1, .inl l1), (2, .inl l2), (3, .inl (l3 + (1 : Int32)))] m P)))) : zm X 2 43 204 4 [(0, .inr (.inr (some 94))), (1, .inl l1), (2, .inl l2), (3, .inl l3)] m P := by
  intro d w S Q hd hw hS hm HQ
  subst hm
  refine zw_push hm_204 dX12_slide_4 (v := .inl l3) rfl ?_
  refine zw_push hm_204 dX12_slide_5 (v := .inl l1) rfl ?_
  refine zw_if2 hm_204 dX12_slide_6 (t := 76) rfl zc2_ge ?_ ?_
  · intro hc
    rw [if_pos hc] at h
    refine zw_push hm_204 dX12_slide_76 (v := .inl l2) rfl ?_
    exact zw_iret hm_204 dX12_slide_77 (HQ _ _ h)
  · intro hc
    rw [if_neg hc] at h
    refine zw_push hm_204 dX12_slide_9 (v := .inr (.inr (some 94))) rfl ?_
    refine zw_gf hm_204 dX12_slide_10 (v := .inr (.inr (some 111))) (zT_is hS s_94) (zT_t hS s_94) rfl f_12_65_12 (zT_f hS r_94_43) ?_
    refine zw_push hm_204 dX12_slide_13 (v := .inl l3) rfl ?_
    obtain ⟨hg, h⟩ := h
    refine zw_ia hm_204 dX12_slide_14 (zT_is hS s_111) (zT_h hS s_111) rfl hg ?_
    show ma_wp X d w 204 15 [(0, .inr (.inr (some 94))), (1, .inl l1), (2, .inl l2), (3, .inl l3)] [.inl ((mI S) 111 l3.toNatClampNeg)] S _
    refine zw_sto hm_204 dX12_slide_15 [(4, .inl ((mI S) 111 l3.toNatClampNeg)), (0, .inr (.inr (some 94))), (1, .inl l1), (2, .inl l2), (3, .inl l3)] rfl rfl rfl ?_
    refine zw_push hm_204 dX12_slide_17 (v := .inl ((mI S) 111 l3.toNatClampNeg)) rfl ?_
    refine zw_if0 hm_204 dX12_slide_19 (t := 28) rfl zc0_ge ?_ ?_
    · intro hc
      rw [if_pos hc] at h
      refine zw_push hm_204 dX12_slide_28 (v := .inl l3) rfl ?_
      refine zw_push hm_204 dX12_slide_29 (v := .inr (.inr (some 94))) rfl ?_
      refine zw_push hm_204 dX12_slide_30 (v := .inl ((mI S) 111 l3.toNatClampNeg)) rfl ?_
      refine zw_cv hm_204 dX12_slide_32 v_12_327_12 hm_201 [.inl ((mI S) 111 l3.toNatClampNeg)] [.inl l3] rfl (zT_rt hS s_94 rfl) ⟨by omega, by omega⟩ rfl ?_
      show ma_wp X (d - 1) (w - 21) 201 0 [(0, .inr (.inr (some 94))), (1, .inl ((mI S) 111 l3.toNatClampNeg))] [] S _
      refine zw_push hm_201 dX12_sizeOf_0 (v := .inr (.inr (some 94))) rfl ?_
      refine zw_gf hm_201 dX12_sizeOf_1 (v := .inr (.inr (some 102))) (zT_is hS s_94) (zT_t hS s_94) rfl f_12_37_12 (zT_f hS r_94_34) ?_
      refine zw_push hm_201 dX12_sizeOf_4 (v := .inl ((mI S) 111 l3.toNatClampNeg)) rfl ?_
      obtain ⟨hg, h⟩ := h
      refine zw_ia hm_201 dX12_sizeOf_5 (zT_is hS s_102) (zT_h hS s_102) rfl hg ?_
      show ma_wp X (d - 1) (w - 21) 201 6 [(0, .inr (.inr (some 94))), (1, .inl ((mI S) 111 l3.toNatClampNeg))] [.inl ((mI S) 102 ((mI S) 111 l3.toNatClampNeg).toNatClampNeg)] S _
      refine zw_push hm_201 dX12_sizeOf_6 (v := .inl (1 : Int32)) rfl ?_
      refine zw_stk hm_201 dX12_sizeOf_7 (st₉ := [.inl (((mI S) 102 ((mI S) 111 l3.toNatClampNeg).toNatClampNeg) + (1 : Int32))]) rfl rfl ?_
      refine zw_iret hm_201 dX12_sizeOf_8 ?_
      show ma_wp X d w 204 35 [(4, .inl ((mI S) 111 l3.toNatClampNeg)), (0, .inr (.inr (some 94))), (1, .inl l1), (2, .inl l2), (3, .inl l3)] [.inl (((mI S) 102 ((mI S) 111 l3.toNatClampNeg).toNatClampNeg) + (1 : Int32)), .inl l3] S _
      refine zw_stk hm_204 dX12_slide_35 (st₉ := [.inl (l3 + (((mI S) 102 ((mI S) 111 l3.toNatClampNeg).toNatClampNeg) + (1 : Int32)))]) rfl rfl ?_
      refine zw_sto hm_204 dX12_slide_36 [(5, .inl (l3 + (((mI S) 102 ((mI S) 111 l3.toNatClampNeg).toNatClampNeg) + (1 : Int32)))), (4, .inl ((mI S) 111 l3.toNatClampNeg)), (0, .inr (.inr (some 94))), (1, .inl l1), (2, .inl l2), (3, .inl l3)] rfl rfl rfl ?_
      refine zw_push hm_204 dX12_slide_38 (v := .inr (.inr (some 94))) rfl ?_
      refine zw_gf hm_204 dX12_slide_39 (v := .inr (.inr (some 107))) (zT_is hS s_94) (zT_t hS s_94) rfl f_12_52_12 (zT_f hS r_94_39) ?_
      refine zw_push hm_204 dX12_slide_42 (v := .inl ((mI S) 111 l3.toNatClampNeg)) rfl ?_
      obtain ⟨hg, h⟩ := h
      refine zw_ia hm_204 dX12_slide_44 (zT_is hS s_107) (zT_h hS s_107) rfl hg ?_
      show ma_wp X d w 204 45 [(5, .inl (l3 + (((mI S) 102 ((mI S) 111 l3.toNatClampNeg).toNatClampNeg) + (1 : Int32)))), (4, .inl ((mI S) 111 l3.toNatClampNeg)), (0, .inr (.inr (some 94))), (1, .inl l1), (2, .inl l2), (3, .inl l3)] [.inl ((mI S) 107 ((mI S) 111 l3.toNatClampNeg).toNatClampNeg)] S _
      refine zw_if0 hm_204 dX12_slide_45 (t := 55) rfl zc0_ne ?_ ?_
      · intro hc
        rw [if_neg hc] at h
        refine zw_push hm_204 dX12_slide_55 (v := .inr (.inr (some 94))) rfl ?_
        refine zw_gf hm_204 dX12_slide_56 (v := .inr (.inr (some 103))) (zT_is hS s_94) (zT_t hS s_94) rfl f_12_40_12 (zT_f hS r_94_35) ?_
        refine zw_push hm_204 dX12_slide_59 (v := .inl ((mI S) 111 l3.toNatClampNeg)) rfl ?_
        obtain ⟨hg, h⟩ := h
        refine zw_ia hm_204 dX12_slide_61 (zT_is hS s_103) (zT_h hS s_103) rfl hg ?_
        show ma_wp X d w 204 62 [(5, .inl (l3 + (((mI S) 102 ((mI S) 111 l3.toNatClampNeg).toNatClampNeg) + (1 : Int32)))), (4, .inl ((mI S) 111 l3.toNatClampNeg)), (0, .inr (.inr (some 94))), (1, .inl l1), (2, .inl l2), (3, .inl l3)] [.inl ((mI S) 103 ((mI S) 111 l3.toNatClampNeg).toNatClampNeg)] S _
        refine zw_push hm_204 dX12_slide_62 (v := .inr (.inr (some 94))) rfl ?_
        refine zw_push hm_204 dX12_slide_63 (v := .inl ((mI S) 111 l3.toNatClampNeg)) rfl ?_
        refine zw_cv hm_204 dX12_slide_65 v_12_327_12 hm_201 [.inl ((mI S) 111 l3.toNatClampNeg)] [.inl ((mI S) 103 ((mI S) 111 l3.toNatClampNeg).toNatClampNeg)] rfl (zT_rt hS s_94 rfl) ⟨by omega, by omega⟩ rfl ?_
        show ma_wp X (d - 1) (w - 21) 201 0 [(0, .inr (.inr (some 94))), (1, .inl ((mI S) 111 l3.toNatClampNeg))] [] S _
        refine zw_push hm_201 dX12_sizeOf_0 (v := .inr (.inr (some 94))) rfl ?_
        refine zw_gf hm_201 dX12_sizeOf_1 (v := .inr (.inr (some 102))) (zT_is hS s_94) (zT_t hS s_94) rfl f_12_37_12 (zT_f hS r_94_34) ?_
        refine zw_push hm_201 dX12_sizeOf_4 (v := .inl ((mI S) 111 l3.toNatClampNeg)) rfl ?_
        obtain ⟨hg, h⟩ := h
        refine zw_ia hm_201 dX12_sizeOf_5 (zT_is hS s_102) (zT_h hS s_102) rfl hg ?_
        show ma_wp X (d - 1) (w - 21) 201 6 [(0, .inr (.inr (some 94))), (1, .inl ((mI S) 111 l3.toNatClampNeg))] [.inl ((mI S) 102 ((mI S) 111 l3.toNatClampNeg).toNatClampNeg)] S _
        refine zw_push hm_201 dX12_sizeOf_6 (v := .inl (1 : Int32)) rfl ?_
        refine zw_stk hm_201 dX12_sizeOf_7 (st₉ := [.inl (((mI S) 102 ((mI S) 111 l3.toNatClampNeg).toNatClampNeg) + (1 : Int32))]) rfl rfl ?_
        refine zw_iret hm_201 dX12_sizeOf_8 ?_
        show ma_wp X d w 204 68 [(5, .inl (l3 + (((mI S) 102 ((mI S) 111 l3.toNatClampNeg).toNatClampNeg) + (1 : Int32)))), (4, .inl ((mI S) 111 l3.toNatClampNeg)), (0, .inr (.inr (some 94))), (1, .inl l1), (2, .inl l2), (3, .inl l3)] [.inl (((mI S) 102 ((mI S) 111 l3.toNatClampNeg).toNatClampNeg) + (1 : Int32)), .inl ((mI S) 103 ((mI S) 111 l3.toNatClampNeg).toNatClampNeg)] S _
        refine zw_stk hm_204 dX12_slide_68 (st₉ := [.inl (((mI S) 103 ((mI S) 111 l3.toNatClampNeg).toNatClampNeg) + (((mI S) 102 ((mI S) 111 l3.toNatClampNeg).toNatClampNeg) + (1 : Int32)))]) rfl rfl ?_
        refine zw_sto hm_204 dX12_slide_69 [(2, .inl (((mI S) 103 ((mI S) 111 l3.toNatClampNeg).toNatClampNeg) + (((mI S) 102 ((mI S) 111 l3.toNatClampNeg).toNatClampNeg) + (1 : Int32)))), (5, .inl (l3 + (((mI S) 102 ((mI S) 111 l3.toNatClampNeg).toNatClampNeg) + (1 : Int32)))), (4, .inl ((mI S) 111 l3.toNatClampNeg)), (0, .inr (.inr (some 94))), (1, .inl l1), (3, .inl l3)] rfl rfl rfl ?_
        refine zw_push hm_204 dX12_slide_70 (v := .inl (l3 + (((mI S) 102 ((mI S) 111 l3.toNatClampNeg).toNatClampNeg) + (1 : Int32)))) rfl ?_
        refine zw_sto hm_204 dX12_slide_72 [(3, .inl (l3 + (((mI S) 102 ((mI S) 111 l3.toNatClampNeg).toNatClampNeg) + (1 : Int32)))), (2, .inl (((mI S) 103 ((mI S) 111 l3.toNatClampNeg).toNatClampNeg) + (((mI S) 102 ((mI S) 111 l3.toNatClampNeg).toNatClampNeg) + (1 : Int32)))), (5, .inl (l3 + (((mI S) 102 ((mI S) 111 l3.toNatClampNeg).toNatClampNeg) + (1 : Int32)))), (4, .inl ((mI S) 111 l3.toNatClampNeg)), (0, .inr (.inr (some 94))), (1, .inl l1)] rfl rfl rfl ?_
        refine zw_goto hm_204 dX12_slide_73 (t := 4) rfl ?_
        exact zw_sub (ma_nd_of (ks := [0, 1, 2, 3]) rfl (by decide)) (ma_nd_of (ks := [3, 2, 5, 4, 0, 1]) rfl (by decide)) (ma_le_cons rfl (ma_le_cons rfl (ma_le_cons rfl (ma_le_cons rfl (ma_le_nil _))))) (h d w _ Q (by omega) (by omega) hS rfl HQ)
      · intro hc
        rw [if_pos (Classical.not_not.mp hc)] at h
        refine zw_push hm_204 dX12_slide_48 (v := .inr (.inr (some 94))) rfl ?_
        refine zw_push hm_204 dX12_slide_49 (v := .inl ((mI S) 111 l3.toNatClampNeg)) rfl ?_
        refine zw_push hm_204 dX12_slide_51 (v := .inl l2) rfl ?_
        refine zw_cv hm_204 dX12_slide_52 v_12_352_12 hm_205 [.inl l2, .inl ((mI S) 111 l3.toNatClampNeg)] [] rfl (zT_rt hS s_94 rfl) ⟨by omega, by omega⟩ rfl (h _ _ S _ (by omega) (by omega) hS rfl (fun o9 m1 hv => ?_))
        obtain ⟨rfl, h⟩ := zmv_of hv
        show ma_wp X d w 204 55 [(5, .inl (l3 + (((mI S) 102 ((mI S) 111 l3.toNatClampNeg).toNatClampNeg) + (1 : Int32)))), (4, .inl ((mI S) 111 l3.toNatClampNeg)), (0, .inr (.inr (some 94))), (1, .inl l1), (2, .inl l2), (3, .inl l3)] [] (zst S m1) _
        refine zw_push hm_204 dX12_slide_55 (v := .inr (.inr (some 94))) rfl ?_
        refine zw_gf hm_204 dX12_slide_56 (v := .inr (.inr (some 103))) (zT_is (zT_zst hS m1) s_94) (zT_t (zT_zst hS m1) s_94) rfl f_12_40_12 (zT_f (zT_zst hS m1) r_94_35) ?_
        refine zw_push hm_204 dX12_slide_59 (v := .inl ((mI S) 111 l3.toNatClampNeg)) rfl ?_
        obtain ⟨hg, h⟩ := h
        refine zw_ia hm_204 dX12_slide_61 (zT_is (zT_zst hS m1) s_103) (zT_h (zT_zst hS m1) s_103) rfl hg ?_
        show ma_wp X d w 204 62 [(5, .inl (l3 + (((mI S) 102 ((mI S) 111 l3.toNatClampNeg).toNatClampNeg) + (1 : Int32)))), (4, .inl ((mI S) 111 l3.toNatClampNeg)), (0, .inr (.inr (some 94))), (1, .inl l1), (2, .inl l2), (3, .inl l3)] [.inl (m1 103 ((mI S) 111 l3.toNatClampNeg).toNatClampNeg)] (zst S m1) _
        refine zw_push hm_204 dX12_slide_62 (v := .inr (.inr (some 94))) rfl ?_
        refine zw_push hm_204 dX12_slide_63 (v := .inl ((mI S) 111 l3.toNatClampNeg)) rfl ?_
        refine zw_cv hm_204 dX12_slide_65 v_12_327_12 hm_201 [.inl ((mI S) 111 l3.toNatClampNeg)] [.inl (m1 103 ((mI S) 111 l3.toNatClampNeg).toNatClampNeg)] rfl (zT_rt (zT_zst hS m1) s_94 rfl) ⟨by omega, by omega⟩ rfl ?_
        show ma_wp X (d - 1) (w - 21) 201 0 [(0, .inr (.inr (some 94))), (1, .inl ((mI S) 111 l3.toNatClampNeg))] [] (zst S m1) _
        refine zw_push hm_201 dX12_sizeOf_0 (v := .inr (.inr (some 94))) rfl ?_
        refine zw_gf hm_201 dX12_sizeOf_1 (v := .inr (.inr (some 102))) (zT_is (zT_zst hS m1) s_94) (zT_t (zT_zst hS m1) s_94) rfl f_12_37_12 (zT_f (zT_zst hS m1) r_94_34) ?_
        refine zw_push hm_201 dX12_sizeOf_4 (v := .inl ((mI S) 111 l3.toNatClampNeg)) rfl ?_
        obtain ⟨hg, h⟩ := h
        refine zw_ia hm_201 dX12_sizeOf_5 (zT_is (zT_zst hS m1) s_102) (zT_h (zT_zst hS m1) s_102) rfl hg ?_
        show ma_wp X (d - 1) (w - 21) 201 6 [(0, .inr (.inr (some 94))), (1, .inl ((mI S) 111 l3.toNatClampNeg))] [.inl (m1 102 ((mI S) 111 l3.toNatClampNeg).toNatClampNeg)] (zst S m1) _
        refine zw_push hm_201 dX12_sizeOf_6 (v := .inl (1 : Int32)) rfl ?_
        refine zw_stk hm_201 dX12_sizeOf_7 (st₉ := [.inl ((m1 102 ((mI S) 111 l3.toNatClampNeg).toNatClampNeg) + (1 : Int32))]) rfl rfl ?_
        refine zw_iret hm_201 dX12_sizeOf_8 ?_
        show ma_wp X d w 204 68 [(5, .inl (l3 + (((mI S) 102 ((mI S) 111 l3.toNatClampNeg).toNatClampNeg) + (1 : Int32)))), (4, .inl ((mI S) 111 l3.toNatClampNeg)), (0, .inr (.inr (some 94))), (1, .inl l1), (2, .inl l2), (3, .inl l3)] [.inl ((m1 102 ((mI S) 111 l3.toNatClampNeg).toNatClampNeg) + (1 : Int32)), .inl (m1 103 ((mI S) 111 l3.toNatClampNeg).toNatClampNeg)] (zst S m1) _
        refine zw_stk hm_204 dX12_slide_68 (st₉ := [.inl ((m1 103 ((mI S) 111 l3.toNatClampNeg).toNatClampNeg) + ((m1 102 ((mI S) 111 l3.toNatClampNeg).toNatClampNeg) + (1 : Int32)))]) rfl rfl ?_
        refine zw_sto hm_204 dX12_slide_69 [(2, .inl ((m1 103 ((mI S) 111 l3.toNatClampNeg).toNatClampNeg) + ((m1 102 ((mI S) 111 l3.toNatClampNeg).toNatClampNeg) + (1 : Int32)))), (5, .inl (l3 + (((mI S) 102 ((mI S) 111 l3.toNatClampNeg).toNatClampNeg) + (1 : Int32)))), (4, .inl ((mI S) 111 l3.toNatClampNeg)), (0, .inr (.inr (some 94))), (1, .inl l1), (3, .inl l3)] rfl rfl rfl ?_
        refine zw_push hm_204 dX12_slide_70 (v := .inl (l3 + (((mI S) 102 ((mI S) 111 l3.toNatClampNeg).toNatClampNeg) + (1 : Int32)))) rfl ?_
        refine zw_sto hm_204 dX12_slide_72 [(3, .inl (l3 + (((mI S) 102 ((mI S) 111 l3.toNatClampNeg).toNatClampNeg) + (1 : Int32)))), (2, .inl ((m1 103 ((mI S) 111 l3.toNatClampNeg).toNatClampNeg) + ((m1 102 ((mI S) 111 l3.toNatClampNeg).toNatClampNeg) + (1 : Int32)))), (5, .inl (l3 + (((mI S) 102 ((mI S) 111 l3.toNatClampNeg).toNatClampNeg) + (1 : Int32)))), (4, .inl ((mI S) 111 l3.toNatClampNeg)), (0, .inr (.inr (some 94))), (1, .inl l1)] rfl rfl rfl ?_
        refine zw_goto hm_204 dX12_slide_73 (t := 4) rfl ?_
        exact zw_sub (ma_nd_of (ks := [0, 1, 2, 3]) rfl (by decide)) (ma_nd_of (ks := [3, 2, 5, 4, 0, 1]) rfl (by decide)) (ma_le_cons rfl (ma_le_cons rfl (ma_le_cons rfl (ma_le_cons rfl (ma_le_nil _))))) (h d w _ Q (by omega) (by omega) (zT_zst hS m1) rfl HQ)
    · intro hc
      rw [if_neg hc] at h
      refine zw_sto hm_204 dX12_slide_22 [(3, .inl (l3 + (1 : Int32))), (4, .inl ((mI S) 111 l3.toNatClampNeg)), (0, .inr (.inr (some 94))), (1, .inl l1), (2, .inl l2)] rfl rfl rfl ?_
      refine zw_goto hm_204 dX12_slide_25 (t := 4) rfl ?_
      exact zw_sub (ma_nd_of (ks := [0, 1, 2, 3]) rfl (by decide)) (ma_nd_of (ks := [3, 4, 0, 1, 2]) rfl (by decide)) (ma_le_cons rfl (ma_le_cons rfl (ma_le_cons rfl (ma_le_cons rfl (ma_le_nil _))))) (h d w _ Q (by omega) (by omega) hS rfl HQ)
theorem lp_204_4 {X : Nat × (Nat → Int32)} {P : Option ma_V → (Nat → Nat → Int32) → Prop} {G : Prop} {E : Int} {lim : Int32} {m0 : Nat → Nat → Int32} (h0 : zV m0) (K : ∀ v m₉, zF wr_204 m0 m₉ → zV m₉ → (zOw (m₉ 99) (m₉ 103) (m₉ 111)) → (G → v.toInt ≤ E ∧ zPK lim.toInt v.toInt (m₉ 99) (m₉ 102) (m₉ 103) (m₉ 111)) → (zLO lim.toInt (m0 103) (m₉ 103)) → (0 ≤ v.toInt ∧ v.toInt ≤ 1600) → P (some (.inl v)) m₉) : ∀ (n : Nat) (m : Nat → Nat → Int32) (l1 : Int32) (l2 : Int32) (l3 : Int32), (1500 - l3.toInt).toNat = n → zF wr_204 m0 m → zV m → (0 ≤ l2.toInt) → (l2.toInt ≤ l3.toInt) → (l3.toInt ≤ 1600) → (l1.toInt = lim.toInt) → (lim.toInt ≤ 1500) → (zOw (m 99) (m 103) (m 111)) → (G → zSL lim.toInt E l2.toInt l3.toInt (m 99) (m 102) (m 103) (m 111)) → (zLO lim.toInt (m0 103) (m 103)) → zm X 2 43 204 4 [(0, .inr (.inr (some 94))), (1, .inl l1), (2, .inl l2), (3, .inl l3)] m P := by
  intro n
  induction n using Nat.strongRecOn with
  | _ n IH =>
    intro m l1 l2 l3 hmu hF hV hi0 hi1 hi2 hi3 hi4 r_OW r_SL r_LO
    refine g_204_4 l1 l2 l3 ?_
    have b1 := i_bd l1
    have b2 := i_bd l3
    refine zd (fun (h3 : l1 ≤ l3) => ?_) (fun (h3 : ¬ l1 ≤ l3) => ?_)
    · skip
      have g4 := i_le h3
      have b5 := i_bd l2
      exact K (l2) _ hF hV r_OW (show G → l2.toInt ≤ E ∧ zPK lim.toInt l2.toInt (m 99) (m 102) (m 103) (m 111) from by first | (exact fun g => SL_end (r_SL g) (by omega)) | (exfalso; omega; done) | (exfalso; contradiction; done)) r_LO (show 0 ≤ l2.toInt ∧ l2.toInt ≤ 1600 from by omega)
    · skip
      have g6 := i_nle h3
      have hg7 : (0 ≤ l3 ∧ l3.toNatClampNeg < 4600) := i_ix (by omega) (by omega)
      refine ⟨hg7, ?_⟩
      have li8 : (0 : Int32).toInt = 0 := rfl
      first | have f9 : -1 ≤ (m 111 l3.toNatClampNeg).toInt ∧ (m 111 l3.toNatClampNeg).toInt ≤ 3099 := ra_111 (m := m) hV (k := l3.toNatClampNeg) (i_ix (n := 4600) (by omega) (by omega)).2 | have b10 := i_bd (m 111 l3.toNatClampNeg)
      refine zd (fun (h11 : (0 : Int32) ≤ (m 111 l3.toNatClampNeg)) => ?_) (fun (h11 : ¬ (0 : Int32) ≤ (m 111 l3.toNatClampNeg)) => ?_)
      · skip
        have g12 := i_le h11
        try have tc3 := tn_cast (x := l3) (by omega)
        try have ow3 := r_OW l3.toNatClampNeg (by omega) (by omega)
        have hg13 : (0 ≤ (m 111 l3.toNatClampNeg) ∧ (m 111 l3.toNatClampNeg).toNatClampNeg < 3100) := i_ix (by omega) (by omega)
        refine ⟨hg13, ?_⟩
        have hg14 : (0 ≤ (m 111 l3.toNatClampNeg) ∧ (m 111 l3.toNatClampNeg).toNatClampNeg < 3100) := i_ix (by omega) (by omega)
        refine ⟨hg14, ?_⟩
        have b15 := i_bd (m 107 (m 111 l3.toNatClampNeg).toNatClampNeg)
        refine zd (fun (h16 : (m 107 (m 111 l3.toNatClampNeg).toNatClampNeg) = (0 : Int32)) => ?_) (fun (h16 : ¬ (m 107 (m 111 l3.toNatClampNeg).toNatClampNeg) = (0 : Int32)) => ?_)
        · skip
          have g17 := i_eq h16
          have b18 := i_bd l2
          refine sp_205 ((m 111 l3.toNatClampNeg)) (l2) hV (by omega) (by omega) (by omega) (by omega) (show (m 99) (m 111 l3.toNatClampNeg).toNatClampNeg ≠ 0 from by first | (assumption; done) | (exact ow5.1) | (exact ow3.1) | (exfalso; omega; done) | (exfalso; contradiction; done)) r_OW (fun m1 hV_m1 p0_m1 p1_m1 => zmv_n ?_)
          have p0_m1 : zOw (m 99) (m1 103) (m1 111) := p0_m1
          have p1_m1 : zmov (m 111 l3.toNatClampNeg) l2 (m 103) (m 111) (m1 103) (m1 111) := p1_m1
          try have mvs := mv_s p1_m1
          have hg19 : (0 ≤ (m 111 l3.toNatClampNeg) ∧ (m 111 l3.toNatClampNeg).toNatClampNeg < 3100) := i_ix (by omega) (by omega)
          refine ⟨hg19, ?_⟩
          try have tc3 := tn_cast (x := l3) (by omega)
          try have ow3 := p0_m1 l3.toNatClampNeg (by omega) (by omega)
          have hg20 : (0 ≤ (m 111 l3.toNatClampNeg) ∧ (m 111 l3.toNatClampNeg).toNatClampNeg < 3100) := i_ix (by omega) (by omega)
          refine ⟨hg20, ?_⟩
          first | have f21 : 0 ≤ (m1 103 (m 111 l3.toNatClampNeg).toNatClampNeg).toInt ∧ (m1 103 (m 111 l3.toNatClampNeg).toNatClampNeg).toInt ≤ 4599 := ra_103 (m := (zov wr_205 m m1)) hV_m1 (k := (m 111 l3.toNatClampNeg).toNatClampNeg) (i_ix (n := 3100) (by omega) (by omega)).2 | have b22 := i_bd (m1 103 (m 111 l3.toNatClampNeg).toNatClampNeg)
          first | have f23 : 0 ≤ (m 102 (m 111 l3.toNatClampNeg).toNatClampNeg).toInt ∧ (m 102 (m 111 l3.toNatClampNeg).toNatClampNeg).toInt ≤ 60 := ra_102 (m := m) hV (k := (m 111 l3.toNatClampNeg).toNatClampNeg) (i_ix (n := 3100) (by omega) (by omega)).2 | have b24 := i_bd (m 102 (m 111 l3.toNatClampNeg).toNatClampNeg)
          first | have e25 : ((m 102 (m 111 l3.toNatClampNeg).toNatClampNeg) + (1 : Int32)).toInt = (m 102 (m 111 l3.toNatClampNeg).toNatClampNeg).toInt + (1) := i_addk rfl (by omega) (by omega) | have b26 := i_bd ((m 102 (m 111 l3.toNatClampNeg).toNatClampNeg) + (1 : Int32))
          first | have e27 : ((m1 103 (m 111 l3.toNatClampNeg).toNatClampNeg) + ((m 102 (m 111 l3.toNatClampNeg).toNatClampNeg) + (1 : Int32))).toInt = (m1 103 (m 111 l3.toNatClampNeg).toNatClampNeg).toInt + ((m 102 (m 111 l3.toNatClampNeg).toNatClampNeg) + (1 : Int32)).toInt := i_add (by omega) (by omega) | have b28 := i_bd ((m1 103 (m 111 l3.toNatClampNeg).toNatClampNeg) + ((m 102 (m 111 l3.toNatClampNeg).toNatClampNeg) + (1 : Int32)))
          first | have e29 : (l3 + ((m 102 (m 111 l3.toNatClampNeg).toNatClampNeg) + (1 : Int32))).toInt = l3.toInt + ((m 102 (m 111 l3.toNatClampNeg).toNatClampNeg) + (1 : Int32)).toInt := i_add (by omega) (by omega) | have b30 := i_bd (l3 + ((m 102 (m 111 l3.toNatClampNeg).toNatClampNeg) + (1 : Int32)))
          exact IH (1500 - (l3 + ((m 102 (m 111 l3.toNatClampNeg).toNatClampNeg) + (1 : Int32))).toInt).toNat (by omega) _ (l1) (((m1 103 (m 111 l3.toNatClampNeg).toNatClampNeg) + ((m 102 (m 111 l3.toNatClampNeg).toNatClampNeg) + (1 : Int32)))) ((l3 + ((m 102 (m 111 l3.toNatClampNeg).toNatClampNeg) + (1 : Int32)))) rfl (zF_zov hF ws_205_204) hV_m1 (by omega) (by omega) (by omega) (by omega) (by omega) p0_m1 (show G → zSL lim.toInt E ((m1 103 (m 111 l3.toNatClampNeg).toNatClampNeg) + ((m 102 (m 111 l3.toNatClampNeg).toNatClampNeg) + (1 : Int32))).toInt (l3 + ((m 102 (m 111 l3.toNatClampNeg).toNatClampNeg) + (1 : Int32))).toInt (m 99) (m 102) (m1 103) (m1 111) from by first | (exact fun g => SL_skip (r_SL g) (show (m 111 l3.toNatClampNeg).toInt < 0 by omega) (by omega) (by omega)) | (exact fun g => SL_move (r_SL g) p1_m1 rfl (by omega) (by omega) (by omega) rfl ow3.1 (by omega) (by omega) (fun t ht => (ra_102 hV ht).1) (fun t ht => (ra_103 hV ht).1) (by omega) (by omega) (by omega)) | (exact fun g => SL_stay (r_SL g) (s := (m 111 l3.toNatClampNeg)) rfl (by omega) (by omega) ow3.1 (by omega) (by omega) (by omega) (by omega) (by omega) (by omega)) | (exfalso; omega; done) | (exfalso; contradiction; done)) (show zLO lim.toInt (m0 103) (m1 103) from by first | (exact LO_rfl) | (exact LO_mv r_LO p1_m1 (by omega) (by omega)) | (exfalso; omega; done) | (exfalso; contradiction; done))
        · skip
          have g31 := i_ne h16
          have hg32 : (0 ≤ (m 111 l3.toNatClampNeg) ∧ (m 111 l3.toNatClampNeg).toNatClampNeg < 3100) := i_ix (by omega) (by omega)
          refine ⟨hg32, ?_⟩
          try have tc3 := tn_cast (x := l3) (by omega)
          try have ow3 := r_OW l3.toNatClampNeg (by omega) (by omega)
          have hg33 : (0 ≤ (m 111 l3.toNatClampNeg) ∧ (m 111 l3.toNatClampNeg).toNatClampNeg < 3100) := i_ix (by omega) (by omega)
          refine ⟨hg33, ?_⟩
          first | have f34 : 0 ≤ (m 103 (m 111 l3.toNatClampNeg).toNatClampNeg).toInt ∧ (m 103 (m 111 l3.toNatClampNeg).toNatClampNeg).toInt ≤ 4599 := ra_103 (m := m) hV (k := (m 111 l3.toNatClampNeg).toNatClampNeg) (i_ix (n := 3100) (by omega) (by omega)).2 | have b35 := i_bd (m 103 (m 111 l3.toNatClampNeg).toNatClampNeg)
          first | have f36 : 0 ≤ (m 102 (m 111 l3.toNatClampNeg).toNatClampNeg).toInt ∧ (m 102 (m 111 l3.toNatClampNeg).toNatClampNeg).toInt ≤ 60 := ra_102 (m := m) hV (k := (m 111 l3.toNatClampNeg).toNatClampNeg) (i_ix (n := 3100) (by omega) (by omega)).2 | have b37 := i_bd (m 102 (m 111 l3.toNatClampNeg).toNatClampNeg)
          first | have e38 : ((m 102 (m 111 l3.toNatClampNeg).toNatClampNeg) + (1 : Int32)).toInt = (m 102 (m 111 l3.toNatClampNeg).toNatClampNeg).toInt + (1) := i_addk rfl (by omega) (by omega) | have b39 := i_bd ((m 102 (m 111 l3.toNatClampNeg).toNatClampNeg) + (1 : Int32))
          first | have e40 : ((m 103 (m 111 l3.toNatClampNeg).toNatClampNeg) + ((m 102 (m 111 l3.toNatClampNeg).toNatClampNeg) + (1 : Int32))).toInt = (m 103 (m 111 l3.toNatClampNeg).toNatClampNeg).toInt + ((m 102 (m 111 l3.toNatClampNeg).toNatClampNeg) + (1 : Int32)).toInt := i_add (by omega) (by omega) | have b41 := i_bd ((m 103 (m 111 l3.toNatClampNeg).toNatClampNeg) + ((m 102 (m 111 l3.toNatClampNeg).toNatClampNeg) + (1 : Int32)))
          first | have e42 : (l3 + ((m 102 (m 111 l3.toNatClampNeg).toNatClampNeg) + (1 : Int32))).toInt = l3.toInt + ((m 102 (m 111 l3.toNatClampNeg).toNatClampNeg) + (1 : Int32)).toInt := i_add (by omega) (by omega) | have b43 := i_bd (l3 + ((m 102 (m 111 l3.toNatClampNeg).toNatClampNeg) + (1 : Int32)))
          exact IH (1500 - (l3 + ((m 102 (m 111 l3.toNatClampNeg).toNatClampNeg) + (1 : Int32))).toInt).toNat (by omega) _ (l1) (((m 103 (m 111 l3.toNatClampNeg).toNatClampNeg) + ((m 102 (m 111 l3.toNatClampNeg).toNatClampNeg) + (1 : Int32)))) ((l3 + ((m 102 (m 111 l3.toNatClampNeg).toNatClampNeg) + (1 : Int32)))) rfl hF hV (by omega) (by omega) (by omega) (by omega) (by omega) r_OW (show G → zSL lim.toInt E ((m 103 (m 111 l3.toNatClampNeg).toNatClampNeg) + ((m 102 (m 111 l3.toNatClampNeg).toNatClampNeg) + (1 : Int32))).toInt (l3 + ((m 102 (m 111 l3.toNatClampNeg).toNatClampNeg) + (1 : Int32))).toInt (m 99) (m 102) (m 103) (m 111) from by first | (exact fun g => SL_skip (r_SL g) (show (m 111 l3.toNatClampNeg).toInt < 0 by omega) (by omega) (by omega)) | (exact fun g => SL_stay (r_SL g) (s := (m 111 l3.toNatClampNeg)) rfl (by omega) (by omega) ow3.1 (by omega) (by omega) (by omega) (by omega) (by omega) (by omega)) | (exfalso; omega; done) | (exfalso; contradiction; done)) r_LO
      · skip
        have g44 := i_nle h11
        have b45 := i_bd l2
        first | have e46 : (l3 + (1 : Int32)).toInt = l3.toInt + (1) := i_addk rfl (by omega) (by omega) | have b47 := i_bd (l3 + (1 : Int32))
        exact IH (1500 - (l3 + (1 : Int32)).toInt).toNat (by omega) _ (l1) (l2) ((l3 + (1 : Int32))) rfl hF hV (by omega) (by omega) (by omega) (by omega) (by omega) r_OW (show G → zSL lim.toInt E l2.toInt (l3 + (1 : Int32)).toInt (m 99) (m 102) (m 103) (m 111) from by first | (exact fun g => SL_skip (r_SL g) (show (m 111 l3.toNatClampNeg).toInt < 0 by omega) (by omega) (by omega)) | (exact fun g => SL_stay (r_SL g) (s := (m 111 l3.toNatClampNeg)) rfl (by omega) (by omega) ow3.1 (by omega) (by omega) (by omega) (by omega) (by omega) (by omega)) | (exfalso; omega; done) | (exfalso; contradiction; done)) r_LO
theorem sp_204 {X : Nat × (Nat → Int32)} {P : Option ma_V → (Nat → Nat → Int32) → Prop} {G : Prop} {E : Int} {m : Nat → Nat → Int32} (lim : Int32) (hV : zV m) (hpre0 : 0 ≤ lim.toInt) (hpre1 : lim.toInt ≤ 1500) (r_OW : zOw (m 99) (m 103) (m 111)) (r_PKx : G → 0 ≤ E ∧ zPK lim.toInt E (m 99) (m 102) (m 103) (m 111)) (KZ : ∀ v m₉, zV (zov wr_204 m m₉) → (zOw (m 99) (m₉ 103) (m₉ 111)) → (G → v.toInt ≤ E ∧ zPK lim.toInt v.toInt (m 99) (m 102) (m₉ 103) (m₉ 111)) → (zLO lim.toInt (m 103) (m₉ 103)) → (0 ≤ v.toInt ∧ v.toInt ≤ 1600) → P (some (.inl v)) (zov wr_204 m m₉)) : zm X 2 43 204 0 [(0, .inr (.inr (some 94))), (1, .inl lim)] m P := by
  have K : ∀ v m₉, zF wr_204 m m₉ → zV m₉ → (zOw (m₉ 99) (m₉ 103) (m₉ 111)) → (G → v.toInt ≤ E ∧ zPK lim.toInt v.toInt (m₉ 99) (m₉ 102) (m₉ 103) (m₉ 111)) → (zLO lim.toInt (m 103) (m₉ 103)) → (0 ≤ v.toInt ∧ v.toInt ≤ 1600) → P (some (.inl v)) m₉ := by
    intro v m₉ hf z q0 q1 q2 q3
    have e := zov_eq hf
    rw [e] at z ⊢
    try rw [e] at q0
    try rw [e] at q1
    try rw [e] at q2
    try rw [e] at q3
    exact KZ v m₉ z q0 q1 q2 q3
  refine g_204_0 lim ?_
  have b1 := i_bd lim
  have li2 : (0 : Int32).toInt = 0 := rfl
  exact lp_204_4 (lim := lim) hV K _ _ (lim) ((0 : Int32)) ((0 : Int32)) rfl zF_rfl hV (by omega) (by omega) (by omega) (by omega) (by omega) r_OW (show G → zSL lim.toInt E (0 : Int32).toInt (0 : Int32).toInt (m 99) (m 102) (m 103) (m 111) from by first | (exact fun g => SL_0 (r_PKx g).2 (r_PKx g).1 (fun t ht => (ra_103 hV ht).1)) | (exfalso; omega; done) | (exfalso; contradiction; done)) (show zLO lim.toInt (m 103) (m 103) from by first | (exact LO_rfl) | (exfalso; omega; done) | (exfalso; contradiction; done))

/-! from 94.442 -/
/-! the reference (written by wip/tools/gen94m.py) -/
set_option maxRecDepth 100000 in
theorem hm_186 : ma_md 186 = some (12, yX12_cleanSlide, cX12_cleanSlide, 2, (some (FieldType.int))) := rfl
theorem p_12_276_12 : ma_pk 12 276 12 59 = true := by decide +kernel
theorem v_12_349_12 : ma_vl 12 349 12 = some (1, 204, 1) := by decide +kernel
theorem dX12_cleanSlide_0 : decode cX12_cleanSlide 0 = .ok (.aload_n 0, 1) := by decide +kernel
theorem dX12_cleanSlide_1 : decode cX12_cleanSlide 1 = .ok (.invokevirtual 346, 3) := by decide +kernel
theorem dX12_cleanSlide_4 : decode cX12_cleanSlide 4 = .ok (.istore_n 1, 1) := by decide +kernel
theorem dX12_cleanSlide_5 : decode cX12_cleanSlide 5 = .ok (.aload_n 0, 1) := by decide +kernel
theorem dX12_cleanSlide_6 : decode cX12_cleanSlide 6 = .ok (.aload_n 0, 1) := by decide +kernel
theorem dX12_cleanSlide_7 : decode cX12_cleanSlide 7 = .ok (.aload_n 0, 1) := by decide +kernel
theorem dX12_cleanSlide_11 : decode cX12_cleanSlide 11 = .ok (.invokevirtual 349, 3) := by decide +kernel
theorem dX12_cleanSlide_17 : decode cX12_cleanSlide 17 = .ok (.iload_n 1, 1) := by decide +kernel
theorem dX12_cleanSlide_18 : decode cX12_cleanSlide 18 = .ok (.ireturn, 1) := by decide +kernel
theorem dX12_cleanSlide_14 : decode cX12_cleanSlide 14 = .ok (.putfield 276, 3) := by decide +kernel
theorem dX12_cleanSlide_8 : decode cX12_cleanSlide 8 = .ok (.getfield 202, 3) := by decide +kernel
def wr_186 (c k : Nat) : Bool := Nat.beq c 99 || Nat.beq c 103 || Nat.beq c 105 || Nat.beq c 109 || Nat.beq c 110 || Nat.beq c 111 || Nat.beq c 113 || Nat.beq c 114 || Nat.beq c 118 || (Nat.beq c 94 && (Nat.beq k 44 || Nat.beq k 45 || Nat.beq k 47 || Nat.beq k 48 || Nat.beq k 49 || Nat.beq k 55 || Nat.beq k 59 || Nat.beq k 73))
theorem ws_187_186 : ∀ c k, wr_187 c k = true → wr_186 c k = true := by
  intro c k h
  simp only [wr_187, wr_186, Bool.or_eq_true, Bool.and_eq_true, Nat.beq_eq] at h ⊢
  omega
theorem ws_204_186 : ∀ c k, wr_204 c k = true → wr_186 c k = true := by
  intro c k h
  simp only [wr_204, wr_186, Bool.or_eq_true, Bool.and_eq_true, Nat.beq_eq] at h ⊢
  omega
theorem g_186_0 {X : Nat × (Nat → Int32)} {m : Nat → Nat → Int32} {P : Option ma_V → (Nat → Nat → Int32) → Prop}  (h : zm X 4 88 187 0 [(0, .inr (.inr (some 94)))] m (zmi (fun v2 m1 => zm X 2 43 204 0 [(0, .inr (.inr (some 94))), (1, .inl (m1 94 11))] m1 (zmi (fun v4 m3 => P (some (.inl v2)) (ma_u m3 94 59 v4)))))) : zm X 5 108 186 0 [(0, .inr (.inr (some 94)))] m P := by
  intro d w S Q hd hw hS hm HQ
  subst hm
  refine zw_push hm_186 dX12_cleanSlide_0 (v := .inr (.inr (some 94))) rfl ?_
  refine zw_cv hm_186 dX12_cleanSlide_1 v_12_346_12 hm_187 [] [] rfl (zT_rt hS s_94 rfl) ⟨by omega, by omega⟩ rfl (h _ _ S _ (by omega) (by omega) hS rfl (fun o9 m1 hv => ?_))
  obtain ⟨v2, rfl, h⟩ := zmi_of hv
  show ma_wp X d w 186 4 [(0, .inr (.inr (some 94)))] [.inl v2] (zst S m1) _
  refine zw_sto hm_186 dX12_cleanSlide_4 [(1, .inl v2), (0, .inr (.inr (some 94)))] rfl rfl rfl ?_
  refine zw_push hm_186 dX12_cleanSlide_5 (v := .inr (.inr (some 94))) rfl ?_
  refine zw_push hm_186 dX12_cleanSlide_6 (v := .inr (.inr (some 94))) rfl ?_
  refine zw_push hm_186 dX12_cleanSlide_7 (v := .inr (.inr (some 94))) rfl ?_
  refine zw_gf hm_186 dX12_cleanSlide_8 (v := .inl (m1 94 11)) (zT_is (zT_zst hS m1) s_94) (zT_t (zT_zst hS m1) s_94) rfl f_12_202_12 rfl ?_
  refine zw_cv hm_186 dX12_cleanSlide_11 v_12_349_12 hm_204 [.inl (m1 94 11)] [.inr (.inr (some 94))] rfl (zT_rt (zT_zst hS m1) s_94 rfl) ⟨by omega, by omega⟩ rfl (h _ _ (zst S m1) _ (by omega) (by omega) (zT_zst hS m1) rfl (fun o9 m3 hv => ?_))
  obtain ⟨v4, rfl, h⟩ := zmi_of hv
  show ma_wp X d w 186 14 [(1, .inl v2), (0, .inr (.inr (some 94)))] [.inl v4, .inr (.inr (some 94))] (zst S m3) _
  refine zw_pf hm_186 dX12_cleanSlide_14 (zT_is (zT_zst hS m3) s_94) (zT_t (zT_zst hS m3) s_94) p_12_276_12 zk_int ?_
  refine zw_push hm_186 dX12_cleanSlide_17 (v := .inl v2) rfl ?_
  exact zw_iret hm_186 dX12_cleanSlide_18 (HQ _ _ h)
theorem sp_186 {X : Nat × (Nat → Int32)} {P : Option ma_V → (Nat → Nat → Int32) → Prop} {T : Nat} {m : Nat → Nat → Int32}  (hV : zV m) (r_W : zW (m 94 7) (m 98) (m 101) (m 102) (m 108)) (r_GW : zGW T (m 94 55) (m 109)) (r_GU : zGU T (m 94 46) (m 99)) (r_OW : zOw (m 99) (m 103) (m 111)) (r_DX : zDX (m 94 10) (m 99) (m 112) (m 113) (m 114) (m 94 55) (m 98) (m 101) (m 102) (m 108)) (KZ : ∀ v m₉, zV (zov wr_186 m m₉) → (zGW T (m₉ 94 55) (m₉ 109)) → (zGU T (m 94 46) (m₉ 99)) → (zOw (m₉ 99) (m₉ 103) (m₉ 111)) → (zDX (m 94 10) (m₉ 99) (m 112) (m₉ 113) (m₉ 114) (m₉ 94 55) (m 98) (m 101) (m 102) (m 108)) → P (some (.inl v)) (zov wr_186 m m₉)) : zm X 5 108 186 0 [(0, .inr (.inr (some 94)))] m P := by
  have K : ∀ v m₉, zF wr_186 m m₉ → zV m₉ → (zGW T (m₉ 94 55) (m₉ 109)) → (zGU T (m₉ 94 46) (m₉ 99)) → (zOw (m₉ 99) (m₉ 103) (m₉ 111)) → (zDX (m₉ 94 10) (m₉ 99) (m₉ 112) (m₉ 113) (m₉ 114) (m₉ 94 55) (m₉ 98) (m₉ 101) (m₉ 102) (m₉ 108)) → P (some (.inl v)) m₉ := by
    intro v m₉ hf z q0 q1 q2 q3
    have e := zov_eq hf
    rw [e] at z ⊢
    try rw [e] at q0
    try rw [e] at q1
    try rw [e] at q2
    try rw [e] at q3
    exact KZ v m₉ z q0 q1 q2 q3
  refine g_186_0  ?_
  refine sp_187  hV r_W r_GW r_GU r_OW r_DX (fun v2 m1 hV_m1 p0_m1 p1_m1 p2_m1 p3_m1 p4_m1 => zmi_n ?_)
  have p0_m1 : zGW T (m1 94 55) (m1 109) := p0_m1
  have p1_m1 : zGU T (m 94 46) (m1 99) := p1_m1
  have p2_m1 : zOw (m1 99) (m 103) (m1 111) := p2_m1
  have p3_m1 : zDX (m 94 10) (m1 99) (m 112) (m1 113) (m1 114) (m1 94 55) (m 98) (m 101) (m 102) (m 108) := p3_m1
  have p4_m1 : zsw (m 99) (m1 99) (m 111) (m1 111) (m 103) := p4_m1
  have f1 : 0 ≤ (m 94 11).toInt ∧ (m 94 11).toInt ≤ 1500 := rs_94_11 (m := m) hV
  refine sp_204 (G := False) (E := 0) ((m 94 11)) hV_m1 (by omega) (by omega) p2_m1 (show False → 0 ≤ 0 ∧ zPK (m 94 11).toInt 0 (m1 99) (m 102) (m 103) (m1 111) from by first | (exact fun g => g.elim) | (exfalso; omega; done) | (exfalso; contradiction; done)) (fun v4 m3 hV_m3 p0_m3 p1_m3 p2_m3 p3_m3 => zmi_n ?_)
  have p0_m3 : zOw (m1 99) (m3 103) (m3 111) := p0_m3
  have p1_m3 : False → v4.toInt ≤ 0 ∧ zPK (m 94 11).toInt v4.toInt (m1 99) (m 102) (m3 103) (m3 111) := p1_m3
  have p2_m3 : zLO (m 94 11).toInt (m 103) (m3 103) := p2_m3
  have p3_m3 : 0 ≤ v4.toInt ∧ v4.toInt ≤ 1600 := p3_m3
  have b3 := i_bd v4
  have hV2 : zV (ma_u (zov wr_204 (zov wr_187 m m1) m3) 94 59 v4) := us_94_59 hV_m3 (by omega) (by omega)
  have b4 := i_bd v2
  exact K (v2) _ (zF_u (zF_zov (zF_zov zF_rfl ws_187_186) ws_204_186) rfl) hV2 p0_m1 p1_m1 p0_m3 p3_m1

/-! from 94.443 -/
/-! by halves and by ages: sums of sizes, dirty cards -/
def sm (b : Nat → Bool) (ws : Nat → Int32) : Nat → Int
  | 0 => 0
  | n + 1 => sm b ws n + (if b n = true then (ws n).toInt + 1 else 0)
def zbU (us : Nat → Int32) : Nat → Bool := fun s => decide (us s ≠ 0)
def zbY (ol : Int) (us at₉ : Nat → Int32) : Nat → Bool := fun s => decide (us s ≠ 0 ∧ ol ≤ (at₉ s).toInt)
/-- an OLD one's word that refers to YOUNG lies in a dirty card -/
def zDC (ol ca : Int) (us at₉ ws kr kd wd di : Nat → Int32) : Prop := ∀ s, s < 3100 → us s ≠ 0 → (at₉ s).toInt < ol → ∀ i : Nat, (i : Int) < (ws s).toInt → (zrf kr kd wd s i).toInt < 0 ∨ (at₉ (zrf kr kd wd s i).toNatClampNeg).toInt < ol ∨ di (((at₉ s).toInt + 1 + i) / ca).toNat ≠ 0
def zB2 (hf ro : Int32) : Int := if hf.toInt = 0 then 0 else ro.toInt
def zB3 (hf ol yo : Int32) : Int := ol.toInt + (if hf.toInt = 0 then 0 else yo.toInt)
/-- what holds by halves and by ages -/
def zHA (po ro yo ol ca hf tp ot : Int32) (us ws at₉ ow di kr kd wd : Nat → Int32) : Prop :=
  (po.toInt = 2 → zB2 hf ro ≤ tp.toInt ∧ tp.toInt ≤ zB2 hf ro + ro.toInt ∧ sm (zbU us) ws 3100 ≤ tp.toInt - zB2 hf ro) ∧
  (po.toInt = 3 → 4 ≤ ca.toInt ∧ (zB3 hf ol yo ≤ tp.toInt ∧ tp.toInt ≤ zB3 hf ol yo + yo.toInt ∧ sm (zbY ol.toInt us at₉) ws 3100 ≤ tp.toInt - zB3 hf ol yo) ∧ ot.toInt ≤ ol.toInt ∧ zPK ol.toInt ot.toInt us ws at₉ ow ∧ zDC ol.toInt ca.toInt us at₉ ws kr kd wd di)
def zRG (po si rg pr : Int32) (us at₉ ws rt : Nat → Int32) : Prop := po.toInt = 6 → zRG1 si rg pr us at₉ ws rt
section HA1
variable {po ro yo ol ca hf tp ot si rg pr : Int32} {us us₉ ws at₉ ow ow₉ di kr kd wd rt wk wk₉ wi wi₉ : Nat → Int32} {wm wm₉ : Int32} {m : Nat → Nat → Int32} {c k : Nat} {x : Int32}
theorem HA_lq (h : zHA po ro yo ol ca hf tp ot us ws at₉ ow di kr kd wd) (q : po.toInt ≠ 4 → us₉ = us ∧ ow₉ = ow) : zHA po ro yo ol ca hf tp ot us₉ ws at₉ ow₉ di kr kd wd := by
  refine ⟨fun e => ?_, fun e => ?_⟩
  · rw [(q (by omega)).1]; exact h.1 e
  · rw [(q (by omega)).1, (q (by omega)).2]; exact h.2 e
theorem RG_lq (h : zRG po si rg pr us at₉ ws rt) (q : po.toInt ≠ 4 → us₉ = us) : zRG po si rg pr us₉ at₉ ws rt := by
  intro e
  rw [q (by omega)]
  exact h e
/-- a ROOT, a WEAK is set -/
theorem cov_set {n : Int} (h : zcov us (m c) n) (hx : x.toInt < 0 ∨ us x.toNatClampNeg ≠ 0) : zcov us (ma_u m c k x c) n := by
  intro j hj
  rw [mu_at]
  split
  · exact hx
  · exact h j hj
theorem DX_root (h : zDX po us (m c) wk wi wm kr kd ws wd) (hx : (po.toInt = 2 ∨ po.toInt = 3) → x.toInt < 0 ∨ us x.toNatClampNeg ≠ 0) : zDX po us (ma_u m c k x c) wk wi wm kr kd ws wd := fun hp => ⟨cov_set (h hp).1 (hx hp), (h hp).2⟩
theorem DX_weak (h : zDX po us rt (m c) wi wm kr kd ws wd) (hx : x.toInt < 0 ∨ us x.toNatClampNeg ≠ 0) : zDX po us rt (ma_u m c k x c) wi wm kr kd ws wd := fun hp => ⟨(h hp).1, cov_set (h hp).2.1 hx, (h hp).2.2⟩
end HA1

