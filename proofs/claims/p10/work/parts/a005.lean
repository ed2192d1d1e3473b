/-! from 94.418 -/
/-! the reference (written by wip/tools/gen94m.py) -/
set_option maxRecDepth 100000 in
theorem hm_200 : ma_md 200 = some (12, yX12_removeRest, cX12_removeRest, 4, (some (FieldType.int))) := rfl
set_option maxRecDepth 100000 in
theorem hm_202 : ma_md 202 = some (12, yX12_uncountKept, cX12_uncountKept, 2, none) := rfl
set_option maxRecDepth 100000 in
theorem hm_203 : ma_md 203 = some (12, yX12_remove, cX12_remove, 2, none) := rfl
theorem f_12_240_12 : ma_fld 12 240 12 = some 44 := by decide +kernel
theorem f_12_243_12 : ma_fld 12 243 12 = some 45 := by decide +kernel
theorem f_12_255_12 : ma_fld 12 255 12 = some 49 := by decide +kernel
theorem p_12_240_12 : ma_pk 12 240 12 44 = true := by decide +kernel
theorem p_12_243_12 : ma_pk 12 243 12 45 = true := by decide +kernel
theorem p_12_255_12 : ma_pk 12 255 12 49 = true := by decide +kernel
theorem v_12_330_12 : ma_vl 12 330 12 = some (1, 202, 1) := by decide +kernel
theorem v_12_333_12 : ma_vl 12 333 12 = some (1, 203, 1) := by decide +kernel
theorem dX12_removeRest_0 : decode cX12_removeRest 0 = .ok (.iconst 0, 1) := by decide +kernel
theorem dX12_removeRest_1 : decode cX12_removeRest 1 = .ok (.istore_n 1, 1) := by decide +kernel
theorem dX12_removeRest_2 : decode cX12_removeRest 2 = .ok (.iconst 0, 1) := by decide +kernel
theorem dX12_removeRest_3 : decode cX12_removeRest 3 = .ok (.istore_n 2, 1) := by decide +kernel
theorem dX12_removeRest_4 : decode cX12_removeRest 4 = .ok (.iload_n 2, 1) := by decide +kernel
theorem dX12_removeRest_5 : decode cX12_removeRest 5 = .ok (.sipush 3100, 3) := by decide +kernel
theorem dX12_removeRest_87 : decode cX12_removeRest 87 = .ok (.iload_n 1, 1) := by decide +kernel
theorem dX12_removeRest_88 : decode cX12_removeRest 88 = .ok (.ireturn, 1) := by decide +kernel
theorem dX12_removeRest_11 : decode cX12_removeRest 11 = .ok (.aload_n 0, 1) := by decide +kernel
theorem dX12_removeRest_15 : decode cX12_removeRest 15 = .ok (.iload_n 2, 1) := by decide +kernel
theorem dX12_removeRest_81 : decode cX12_removeRest 81 = .ok (.iinc 2 1, 3) := by decide +kernel
theorem dX12_removeRest_84 : decode cX12_removeRest 84 = .ok (.goto (-80), 3) := by decide +kernel
theorem dX12_removeRest_20 : decode cX12_removeRest 20 = .ok (.aload_n 0, 1) := by decide +kernel
theorem dX12_removeRest_24 : decode cX12_removeRest 24 = .ok (.iload_n 2, 1) := by decide +kernel
theorem dX12_removeRest_32 : decode cX12_removeRest 32 = .ok (.iload_n 1, 1) := by decide +kernel
theorem dX12_removeRest_33 : decode cX12_removeRest 33 = .ok (.aload_n 0, 1) := by decide +kernel
theorem dX12_removeRest_34 : decode cX12_removeRest 34 = .ok (.iload_n 2, 1) := by decide +kernel
theorem dX12_removeRest_35 : decode cX12_removeRest 35 = .ok (.invokevirtual 327, 3) := by decide +kernel
theorem dX12_removeRest_38 : decode cX12_removeRest 38 = .ok (.iadd, 1) := by decide +kernel
theorem dX12_removeRest_39 : decode cX12_removeRest 39 = .ok (.istore_n 1, 1) := by decide +kernel
theorem dX12_removeRest_40 : decode cX12_removeRest 40 = .ok (.aload_n 0, 1) := by decide +kernel
theorem dX12_removeRest_44 : decode cX12_removeRest 44 = .ok (.iconst 4, 1) := by decide +kernel
theorem dX12_removeRest_76 : decode cX12_removeRest 76 = .ok (.aload_n 0, 1) := by decide +kernel
theorem dX12_removeRest_77 : decode cX12_removeRest 77 = .ok (.iload_n 2, 1) := by decide +kernel
theorem dX12_removeRest_78 : decode cX12_removeRest 78 = .ok (.invokevirtual 333, 3) := by decide +kernel
theorem dX12_remove_0 : decode cX12_remove 0 = .ok (.aload_n 0, 1) := by decide +kernel
theorem dX12_remove_4 : decode cX12_remove 4 = .ok (.iload_n 1, 1) := by decide +kernel
theorem dX12_remove_5 : decode cX12_remove 5 = .ok (.iconst 0, 1) := by decide +kernel
theorem dX12_remove_7 : decode cX12_remove 7 = .ok (.aload_n 0, 1) := by decide +kernel
theorem dX12_remove_11 : decode cX12_remove 11 = .ok (.aload_n 0, 1) := by decide +kernel
theorem dX12_remove_15 : decode cX12_remove 15 = .ok (.iload_n 1, 1) := by decide +kernel
theorem dX12_remove_17 : decode cX12_remove 17 = .ok (.iconst (-1), 1) := by decide +kernel
theorem dX12_remove_19 : decode cX12_remove 19 = .ok (.aload_n 0, 1) := by decide +kernel
theorem dX12_remove_20 : decode cX12_remove 20 = .ok (.dup, 1) := by decide +kernel
theorem dX12_remove_24 : decode cX12_remove 24 = .ok (.iconst 1, 1) := by decide +kernel
theorem dX12_remove_25 : decode cX12_remove 25 = .ok (.isub, 1) := by decide +kernel
theorem dX12_remove_29 : decode cX12_remove 29 = .ok (.aload_n 0, 1) := by decide +kernel
theorem dX12_remove_30 : decode cX12_remove 30 = .ok (.dup, 1) := by decide +kernel
theorem dX12_remove_34 : decode cX12_remove 34 = .ok (.aload_n 0, 1) := by decide +kernel
theorem dX12_remove_35 : decode cX12_remove 35 = .ok (.iload_n 1, 1) := by decide +kernel
theorem dX12_remove_36 : decode cX12_remove 36 = .ok (.invokevirtual 327, 3) := by decide +kernel
theorem dX12_remove_39 : decode cX12_remove 39 = .ok (.isub, 1) := by decide +kernel
theorem dX12_remove_43 : decode cX12_remove 43 = .ok (.aload_n 0, 1) := by decide +kernel
theorem dX12_remove_44 : decode cX12_remove 44 = .ok (.dup, 1) := by decide +kernel
theorem dX12_remove_48 : decode cX12_remove 48 = .ok (.aload_n 0, 1) := by decide +kernel
theorem dX12_remove_49 : decode cX12_remove 49 = .ok (.iload_n 1, 1) := by decide +kernel
theorem dX12_remove_50 : decode cX12_remove 50 = .ok (.invokevirtual 327, 3) := by decide +kernel
theorem dX12_remove_53 : decode cX12_remove 53 = .ok (.iadd, 1) := by decide +kernel
theorem dX12_remove_57 : decode cX12_remove 57 = .ok (.return_, 1) := by decide +kernel
theorem dX12_remove_54 : decode cX12_remove 54 = .ok (.putfield 255, 3) := by decide +kernel
theorem dX12_remove_45 : decode cX12_remove 45 = .ok (.getfield 255, 3) := by decide +kernel
theorem dX12_remove_40 : decode cX12_remove 40 = .ok (.putfield 243, 3) := by decide +kernel
theorem dX12_remove_31 : decode cX12_remove 31 = .ok (.getfield 243, 3) := by decide +kernel
theorem dX12_remove_26 : decode cX12_remove 26 = .ok (.putfield 240, 3) := by decide +kernel
theorem dX12_remove_21 : decode cX12_remove 21 = .ok (.getfield 240, 3) := by decide +kernel
theorem dX12_remove_18 : decode cX12_remove 18 = .ok (.iastore, 1) := by decide +kernel
theorem dX12_remove_16 : decode cX12_remove 16 = .ok (.iaload, 1) := by decide +kernel
theorem dX12_remove_12 : decode cX12_remove 12 = .ok (.getfield 40, 3) := by decide +kernel
theorem dX12_remove_8 : decode cX12_remove 8 = .ok (.getfield 65, 3) := by decide +kernel
theorem dX12_remove_6 : decode cX12_remove 6 = .ok (.bastore, 1) := by decide +kernel
theorem dX12_remove_1 : decode cX12_remove 1 = .ok (.getfield 27, 3) := by decide +kernel
theorem dX12_removeRest_48 : decode cX12_removeRest 48 = .ok (.iconst 0, 1) := by decide +kernel
theorem dX12_removeRest_49 : decode cX12_removeRest 49 = .ok (.istore_n 3, 1) := by decide +kernel
theorem dX12_removeRest_45 : decode cX12_removeRest 45 = .ok (.if_icmp .ne 31, 3) := by decide +kernel
theorem dX12_removeRest_41 : decode cX12_removeRest 41 = .ok (.getfield 199, 3) := by decide +kernel
theorem dX12_removeRest_29 : decode cX12_removeRest 29 = .ok (.goto 52, 3) := by decide +kernel
theorem dX12_removeRest_26 : decode cX12_removeRest 26 = .ok (.ifCond .eq 6, 3) := by decide +kernel
theorem dX12_removeRest_25 : decode cX12_removeRest 25 = .ok (.baload, 1) := by decide +kernel
theorem dX12_removeRest_21 : decode cX12_removeRest 21 = .ok (.getfield 62, 3) := by decide +kernel
theorem dX12_removeRest_17 : decode cX12_removeRest 17 = .ok (.ifCond .eq 64, 3) := by decide +kernel
theorem dX12_removeRest_16 : decode cX12_removeRest 16 = .ok (.baload, 1) := by decide +kernel
theorem dX12_removeRest_12 : decode cX12_removeRest 12 = .ok (.getfield 27, 3) := by decide +kernel
theorem dX12_removeRest_8 : decode cX12_removeRest 8 = .ok (.if_icmp .ge 79, 3) := by decide +kernel
theorem dX12_removeRest_50 : decode cX12_removeRest 50 = .ok (.iload_n 3, 1) := by decide +kernel
theorem dX12_removeRest_51 : decode cX12_removeRest 51 = .ok (.aload_n 0, 1) := by decide +kernel
theorem dX12_removeRest_55 : decode cX12_removeRest 55 = .ok (.iload_n 2, 1) := by decide +kernel
theorem dX12_removeRest_60 : decode cX12_removeRest 60 = .ok (.aload_n 0, 1) := by decide +kernel
theorem dX12_removeRest_61 : decode cX12_removeRest 61 = .ok (.aload_n 0, 1) := by decide +kernel
theorem dX12_removeRest_62 : decode cX12_removeRest 62 = .ok (.iload_n 2, 1) := by decide +kernel
theorem dX12_removeRest_63 : decode cX12_removeRest 63 = .ok (.iload_n 3, 1) := by decide +kernel
theorem dX12_removeRest_64 : decode cX12_removeRest 64 = .ok (.invokevirtual 294, 3) := by decide +kernel
theorem dX12_removeRest_67 : decode cX12_removeRest 67 = .ok (.invokevirtual 330, 3) := by decide +kernel
theorem dX12_uncountKept_0 : decode cX12_uncountKept 0 = .ok (.iload_n 1, 1) := by decide +kernel
theorem dX12_removeRest_70 : decode cX12_removeRest 70 = .ok (.iinc 3 1, 3) := by decide +kernel
theorem dX12_removeRest_73 : decode cX12_removeRest 73 = .ok (.goto (-23), 3) := by decide +kernel
theorem dX12_uncountKept_23 : decode cX12_uncountKept 23 = .ok (.return_, 1) := by decide +kernel
theorem dX12_uncountKept_4 : decode cX12_uncountKept 4 = .ok (.aload_n 0, 1) := by decide +kernel
theorem dX12_uncountKept_8 : decode cX12_uncountKept 8 = .ok (.iload_n 1, 1) := by decide +kernel
theorem dX12_uncountKept_13 : decode cX12_uncountKept 13 = .ok (.aload_n 0, 1) := by decide +kernel
theorem dX12_uncountKept_17 : decode cX12_uncountKept 17 = .ok (.iload_n 1, 1) := by decide +kernel
theorem dX12_uncountKept_18 : decode cX12_uncountKept 18 = .ok (.dup2, 1) := by decide +kernel
theorem dX12_uncountKept_20 : decode cX12_uncountKept 20 = .ok (.iconst 1, 1) := by decide +kernel
theorem dX12_uncountKept_21 : decode cX12_uncountKept 21 = .ok (.isub, 1) := by decide +kernel
theorem dX12_uncountKept_22 : decode cX12_uncountKept 22 = .ok (.iastore, 1) := by decide +kernel
theorem dX12_uncountKept_19 : decode cX12_uncountKept 19 = .ok (.iaload, 1) := by decide +kernel
theorem dX12_uncountKept_14 : decode cX12_uncountKept 14 = .ok (.getfield 46, 3) := by decide +kernel
theorem dX12_uncountKept_10 : decode cX12_uncountKept 10 = .ok (.ifCond .eq 13, 3) := by decide +kernel
theorem dX12_uncountKept_9 : decode cX12_uncountKept 9 = .ok (.baload, 1) := by decide +kernel
theorem dX12_uncountKept_5 : decode cX12_uncountKept 5 = .ok (.getfield 62, 3) := by decide +kernel
theorem dX12_uncountKept_1 : decode cX12_uncountKept 1 = .ok (.ifCond .lt 22, 3) := by decide +kernel
theorem dX12_removeRest_57 : decode cX12_removeRest 57 = .ok (.if_icmp .ge 19, 3) := by decide +kernel
theorem dX12_removeRest_56 : decode cX12_removeRest 56 = .ok (.iaload, 1) := by decide +kernel
theorem dX12_removeRest_52 : decode cX12_removeRest 52 = .ok (.getfield 37, 3) := by decide +kernel
def wr_200 (c k : Nat) : Bool := Nat.beq c 99 || Nat.beq c 105 || Nat.beq c 111 || (Nat.beq c 94 && (Nat.beq k 44 || Nat.beq k 45 || Nat.beq k 49))
theorem ws_192_200 : ∀ c k, wr_192 c k = true → wr_200 c k = true := fun _ _ h => by cases h
theorem g_200_0 {X : Nat × (Nat → Int32)} {m : Nat → Nat → Int32} {P : Option ma_V → (Nat → Nat → Int32) → Prop}  (h : zm X 2 44 200 4 [(0, .inr (.inr (some 94))), (1, .inl (0 : Int32)), (2, .inl (0 : Int32))] m P) : zm X 2 44 200 0 [(0, .inr (.inr (some 94)))] m P := by
  intro d w S Q hd hw hS hm HQ
  subst hm
  refine zw_push hm_200 dX12_removeRest_0 (v := .inl (0 : Int32)) rfl ?_
  refine zw_sto hm_200 dX12_removeRest_1 [(1, .inl (0 : Int32)), (0, .inr (.inr (some 94)))] rfl rfl rfl ?_
  refine zw_push hm_200 dX12_removeRest_2 (v := .inl (0 : Int32)) rfl ?_
  refine zw_sto hm_200 dX12_removeRest_3 [(2, .inl (0 : Int32)), (1, .inl (0 : Int32)), (0, .inr (.inr (some 94)))] rfl rfl rfl ?_
  exact zw_sub (ma_nd_of (ks := [0, 1, 2]) rfl (by decide)) (ma_nd_of (ks := [2, 1, 0]) rfl (by decide)) (ma_le_cons rfl (ma_le_cons rfl (ma_le_cons rfl (ma_le_nil _)))) (h d w _ Q (by omega) (by omega) hS rfl HQ)
theorem g_200_4 {X : Nat × (Nat → Int32)} {m : Nat → Nat → Int32} {P : Option ma_V → (Nat → Nat → Int32) → Prop} (l1 : Int32) (l2 : Int32) (h : if (3100 : Int32) ≤ l2 then (P (some (.inl l1)) m) else ((0 ≤ l2 ∧ l2.toNatClampNeg < 3100) ∧ (if (m 99 l2.toNatClampNeg) = 0 then (zm X 2 44 200 4 [(0, .inr (.inr (some 94))), (1, .inl l1), (2, .inl (l2 + (1 : Int32)))] m P) else ((0 ≤ l2 ∧ l2.toNatClampNeg < 3100) ∧ (if (m 110 l2.toNatClampNeg) = 0 then ((0 ≤ l2 ∧ l2.toNatClampNeg < 3100) ∧ (if (m 94 10) = (4 : Int32) then (zm X 2 44 200 50 [(0, .inr (.inr (some 94))), (1, .inl (l1 + ((m 102 l2.toNatClampNeg) + (1 : Int32)))), (2, .inl l2), (3, .inl (0 : Int32))] m P) else ((0 ≤ l2 ∧ l2.toNatClampNeg < 3100) ∧ ((0 ≤ l2 ∧ l2.toNatClampNeg < 3100) ∧ ((0 ≤ (m 103 l2.toNatClampNeg) ∧ (m 103 l2.toNatClampNeg).toNatClampNeg < 4600) ∧ ((0 ≤ l2 ∧ l2.toNatClampNeg < 3100) ∧ ((0 ≤ l2 ∧ l2.toNatClampNeg < 3100) ∧ (zm X 2 44 200 4 [(0, .inr (.inr (some 94))), (1, .inl (l1 + ((m 102 l2.toNatClampNeg) + (1 : Int32)))), (2, .inl (l2 + (1 : Int32)))] (ma_u (ma_u (ma_u (ma_u (ma_u m 99 l2.toNatClampNeg (0 : Int32)) 111 (m 103 l2.toNatClampNeg).toNatClampNeg (-1 : Int32)) 94 44 ((m 94 44) - (1 : Int32))) 94 45 ((m 94 45) - ((m 102 l2.toNatClampNeg) + (1 : Int32)))) 94 49 ((m 94 49) + ((m 102 l2.toNatClampNeg) + (1 : Int32)))) P)))))))) else (zm X 2 44 200 4 [(0, .inr (.inr (some 94))), (1, .inl l1), (2, .inl (l2 + (1 : Int32)))] m P)))))) : zm X 2 44 200 4 [(0, .inr (.inr (some 94))), (1, .inl l1), (2, .inl l2)] m P := by
  intro d w S Q hd hw hS hm HQ
  subst hm
  refine zw_push hm_200 dX12_removeRest_4 (v := .inl l2) rfl ?_
  refine zw_push hm_200 dX12_removeRest_5 (v := .inl (3100 : Int32)) rfl ?_
  refine zw_if2 hm_200 dX12_removeRest_8 (t := 87) rfl zc2_ge ?_ ?_
  · intro hc
    rw [if_pos hc] at h
    refine zw_push hm_200 dX12_removeRest_87 (v := .inl l1) rfl ?_
    exact zw_iret hm_200 dX12_removeRest_88 (HQ _ _ h)
  · intro hc
    rw [if_neg hc] at h
    refine zw_push hm_200 dX12_removeRest_11 (v := .inr (.inr (some 94))) rfl ?_
    refine zw_gf hm_200 dX12_removeRest_12 (v := .inr (.inr (some 99))) (zT_is hS s_94) (zT_t hS s_94) rfl f_12_27_12 (zT_f hS r_94_31) ?_
    refine zw_push hm_200 dX12_removeRest_15 (v := .inl l2) rfl ?_
    obtain ⟨hg, h⟩ := h
    refine zw_ba hm_200 dX12_removeRest_16 (zT_is hS s_99) (zT_h hS s_99) rfl rfl hg ?_
    show ma_wp X d w 200 17 [(0, .inr (.inr (some 94))), (1, .inl l1), (2, .inl l2)] [.inl ((mI S) 99 l2.toNatClampNeg)] S _
    refine zw_if0 hm_200 dX12_removeRest_17 (t := 81) rfl zc0_eq ?_ ?_
    · intro hc
      rw [if_pos hc] at h
      refine zw_sto hm_200 dX12_removeRest_81 [(2, .inl (l2 + (1 : Int32))), (0, .inr (.inr (some 94))), (1, .inl l1)] rfl rfl rfl ?_
      refine zw_goto hm_200 dX12_removeRest_84 (t := 4) rfl ?_
      exact zw_sub (ma_nd_of (ks := [0, 1, 2]) rfl (by decide)) (ma_nd_of (ks := [2, 0, 1]) rfl (by decide)) (ma_le_cons rfl (ma_le_cons rfl (ma_le_cons rfl (ma_le_nil _)))) (h d w _ Q (by omega) (by omega) hS rfl HQ)
    · intro hc
      rw [if_neg hc] at h
      refine zw_push hm_200 dX12_removeRest_20 (v := .inr (.inr (some 94))) rfl ?_
      refine zw_gf hm_200 dX12_removeRest_21 (v := .inr (.inr (some 110))) (zT_is hS s_94) (zT_t hS s_94) rfl f_12_62_12 (zT_f hS r_94_42) ?_
      refine zw_push hm_200 dX12_removeRest_24 (v := .inl l2) rfl ?_
      obtain ⟨hg, h⟩ := h
      refine zw_ba hm_200 dX12_removeRest_25 (zT_is hS s_110) (zT_h hS s_110) rfl rfl hg ?_
      show ma_wp X d w 200 26 [(0, .inr (.inr (some 94))), (1, .inl l1), (2, .inl l2)] [.inl ((mI S) 110 l2.toNatClampNeg)] S _
      refine zw_if0 hm_200 dX12_removeRest_26 (t := 32) rfl zc0_eq ?_ ?_
      · intro hc
        rw [if_pos hc] at h
        refine zw_push hm_200 dX12_removeRest_32 (v := .inl l1) rfl ?_
        refine zw_push hm_200 dX12_removeRest_33 (v := .inr (.inr (some 94))) rfl ?_
        refine zw_push hm_200 dX12_removeRest_34 (v := .inl l2) rfl ?_
        refine zw_cv hm_200 dX12_removeRest_35 v_12_327_12 hm_201 [.inl l2] [.inl l1] rfl (zT_rt hS s_94 rfl) ⟨by omega, by omega⟩ rfl ?_
        show ma_wp X (d - 1) (w - 21) 201 0 [(0, .inr (.inr (some 94))), (1, .inl l2)] [] S _
        refine zw_push hm_201 dX12_sizeOf_0 (v := .inr (.inr (some 94))) rfl ?_
        refine zw_gf hm_201 dX12_sizeOf_1 (v := .inr (.inr (some 102))) (zT_is hS s_94) (zT_t hS s_94) rfl f_12_37_12 (zT_f hS r_94_34) ?_
        refine zw_push hm_201 dX12_sizeOf_4 (v := .inl l2) rfl ?_
        obtain ⟨hg, h⟩ := h
        refine zw_ia hm_201 dX12_sizeOf_5 (zT_is hS s_102) (zT_h hS s_102) rfl hg ?_
        show ma_wp X (d - 1) (w - 21) 201 6 [(0, .inr (.inr (some 94))), (1, .inl l2)] [.inl ((mI S) 102 l2.toNatClampNeg)] S _
        refine zw_push hm_201 dX12_sizeOf_6 (v := .inl (1 : Int32)) rfl ?_
        refine zw_stk hm_201 dX12_sizeOf_7 (st₉ := [.inl (((mI S) 102 l2.toNatClampNeg) + (1 : Int32))]) rfl rfl ?_
        refine zw_iret hm_201 dX12_sizeOf_8 ?_
        show ma_wp X d w 200 38 [(0, .inr (.inr (some 94))), (1, .inl l1), (2, .inl l2)] [.inl (((mI S) 102 l2.toNatClampNeg) + (1 : Int32)), .inl l1] S _
        refine zw_stk hm_200 dX12_removeRest_38 (st₉ := [.inl (l1 + (((mI S) 102 l2.toNatClampNeg) + (1 : Int32)))]) rfl rfl ?_
        refine zw_sto hm_200 dX12_removeRest_39 [(1, .inl (l1 + (((mI S) 102 l2.toNatClampNeg) + (1 : Int32)))), (0, .inr (.inr (some 94))), (2, .inl l2)] rfl rfl rfl ?_
        refine zw_push hm_200 dX12_removeRest_40 (v := .inr (.inr (some 94))) rfl ?_
        refine zw_gf hm_200 dX12_removeRest_41 (v := .inl ((mI S) 94 10)) (zT_is hS s_94) (zT_t hS s_94) rfl f_12_199_12 rfl ?_
        refine zw_push hm_200 dX12_removeRest_44 (v := .inl (4 : Int32)) rfl ?_
        refine zw_if2 hm_200 dX12_removeRest_45 (t := 76) rfl zc2_ne ?_ ?_
        · intro hc
          rw [if_neg hc] at h
          refine zw_push hm_200 dX12_removeRest_76 (v := .inr (.inr (some 94))) rfl ?_
          refine zw_push hm_200 dX12_removeRest_77 (v := .inl l2) rfl ?_
          refine zw_cv hm_200 dX12_removeRest_78 v_12_333_12 hm_203 [.inl l2] [] rfl (zT_rt hS s_94 rfl) ⟨by omega, by omega⟩ rfl ?_
          show ma_wp X (d - 1) (w - 21) 203 0 [(0, .inr (.inr (some 94))), (1, .inl l2)] [] S _
          refine zw_push hm_203 dX12_remove_0 (v := .inr (.inr (some 94))) rfl ?_
          refine zw_gf hm_203 dX12_remove_1 (v := .inr (.inr (some 99))) (zT_is hS s_94) (zT_t hS s_94) rfl f_12_27_12 (zT_f hS r_94_31) ?_
          refine zw_push hm_203 dX12_remove_4 (v := .inl l2) rfl ?_
          refine zw_push hm_203 dX12_remove_5 (v := .inl (0 : Int32)) rfl ?_
          obtain ⟨hg, h⟩ := h
          refine zw_bas22l hm_203 dX12_remove_6 (hx := by decide) (yv := (0 : Int32)) (zT_is hS s_99) (zT_h hS s_99) rfl hg ?_
          refine zw_push hm_203 dX12_remove_7 (v := .inr (.inr (some 94))) rfl ?_
          refine zw_gf hm_203 dX12_remove_8 (v := .inr (.inr (some 111))) (zT_is (zT_pi hS) s_94) (zT_t (zT_pi hS) s_94) rfl f_12_65_12 (zT_f (zT_pi hS) r_94_43) ?_
          refine zw_push hm_203 dX12_remove_11 (v := .inr (.inr (some 94))) rfl ?_
          refine zw_gf hm_203 dX12_remove_12 (v := .inr (.inr (some 103))) (zT_is (zT_pi hS) s_94) (zT_t (zT_pi hS) s_94) rfl f_12_40_12 (zT_f (zT_pi hS) r_94_35) ?_
          refine zw_push hm_203 dX12_remove_15 (v := .inl l2) rfl ?_
          obtain ⟨hg, h⟩ := h
          refine zw_ia hm_203 dX12_remove_16 (zT_is (zT_pi hS) s_103) (zT_h (zT_pi hS) s_103) rfl hg ?_
          show ma_wp X (d - 1) (w - 21) 203 17 [(0, .inr (.inr (some 94))), (1, .inl l2)] [.inl ((mI S) 103 l2.toNatClampNeg), .inr (.inr (some 111))] (ma_put S 99 l2.toNatClampNeg (.inl (0 : Int32))) _
          refine zw_push hm_203 dX12_remove_17 (v := .inl (-1 : Int32)) rfl ?_
          obtain ⟨hg, h⟩ := h
          refine zw_ias hm_203 dX12_remove_18 (zT_is (zT_pi hS) s_111) (zT_h (zT_pi hS) s_111) rfl hg ?_
          refine zw_push hm_203 dX12_remove_19 (v := .inr (.inr (some 94))) rfl ?_
          refine zw_stk hm_203 dX12_remove_20 (st₉ := [.inr (.inr (some 94)), .inr (.inr (some 94))]) rfl rfl ?_
          refine zw_gf hm_203 dX12_remove_21 (v := .inl ((mI S) 94 44)) (zT_is (zT_pi (zT_pi hS)) s_94) (zT_t (zT_pi (zT_pi hS)) s_94) rfl f_12_240_12 rfl ?_
          refine zw_push hm_203 dX12_remove_24 (v := .inl (1 : Int32)) rfl ?_
          refine zw_stk hm_203 dX12_remove_25 (st₉ := [.inl (((mI S) 94 44) - (1 : Int32)), .inr (.inr (some 94))]) rfl rfl ?_
          refine zw_pf hm_203 dX12_remove_26 (zT_is (zT_pi (zT_pi hS)) s_94) (zT_t (zT_pi (zT_pi hS)) s_94) p_12_240_12 zk_int ?_
          refine zw_push hm_203 dX12_remove_29 (v := .inr (.inr (some 94))) rfl ?_
          refine zw_stk hm_203 dX12_remove_30 (st₉ := [.inr (.inr (some 94)), .inr (.inr (some 94))]) rfl rfl ?_
          refine zw_gf hm_203 dX12_remove_31 (v := .inl ((mI S) 94 45)) (zT_is (zT_pi (zT_pi (zT_pi hS))) s_94) (zT_t (zT_pi (zT_pi (zT_pi hS))) s_94) rfl f_12_243_12 rfl ?_
          refine zw_push hm_203 dX12_remove_34 (v := .inr (.inr (some 94))) rfl ?_
          refine zw_push hm_203 dX12_remove_35 (v := .inl l2) rfl ?_
          refine zw_cv hm_203 dX12_remove_36 v_12_327_12 hm_201 [.inl l2] [.inl ((mI S) 94 45), .inr (.inr (some 94))] rfl (zT_rt (zT_pi (zT_pi (zT_pi hS))) s_94 rfl) ⟨by omega, by omega⟩ rfl ?_
          show ma_wp X ((d - 1) - 1) ((w - 21) - 21) 201 0 [(0, .inr (.inr (some 94))), (1, .inl l2)] [] (ma_put (ma_put (ma_put S 99 l2.toNatClampNeg (.inl (0 : Int32))) 111 ((mI S) 103 l2.toNatClampNeg).toNatClampNeg (.inl (-1 : Int32))) 94 44 (.inl (((mI S) 94 44) - (1 : Int32)))) _
          refine zw_push hm_201 dX12_sizeOf_0 (v := .inr (.inr (some 94))) rfl ?_
          refine zw_gf hm_201 dX12_sizeOf_1 (v := .inr (.inr (some 102))) (zT_is (zT_pi (zT_pi (zT_pi hS))) s_94) (zT_t (zT_pi (zT_pi (zT_pi hS))) s_94) rfl f_12_37_12 (zT_f (zT_pi (zT_pi (zT_pi hS))) r_94_34) ?_
          refine zw_push hm_201 dX12_sizeOf_4 (v := .inl l2) rfl ?_
          obtain ⟨hg, h⟩ := h
          refine zw_ia hm_201 dX12_sizeOf_5 (zT_is (zT_pi (zT_pi (zT_pi hS))) s_102) (zT_h (zT_pi (zT_pi (zT_pi hS))) s_102) rfl hg ?_
          show ma_wp X ((d - 1) - 1) ((w - 21) - 21) 201 6 [(0, .inr (.inr (some 94))), (1, .inl l2)] [.inl ((mI S) 102 l2.toNatClampNeg)] (ma_put (ma_put (ma_put S 99 l2.toNatClampNeg (.inl (0 : Int32))) 111 ((mI S) 103 l2.toNatClampNeg).toNatClampNeg (.inl (-1 : Int32))) 94 44 (.inl (((mI S) 94 44) - (1 : Int32)))) _
          refine zw_push hm_201 dX12_sizeOf_6 (v := .inl (1 : Int32)) rfl ?_
          refine zw_stk hm_201 dX12_sizeOf_7 (st₉ := [.inl (((mI S) 102 l2.toNatClampNeg) + (1 : Int32))]) rfl rfl ?_
          refine zw_iret hm_201 dX12_sizeOf_8 ?_
          show ma_wp X (d - 1) (w - 21) 203 39 [(0, .inr (.inr (some 94))), (1, .inl l2)] [.inl (((mI S) 102 l2.toNatClampNeg) + (1 : Int32)), .inl ((mI S) 94 45), .inr (.inr (some 94))] (ma_put (ma_put (ma_put S 99 l2.toNatClampNeg (.inl (0 : Int32))) 111 ((mI S) 103 l2.toNatClampNeg).toNatClampNeg (.inl (-1 : Int32))) 94 44 (.inl (((mI S) 94 44) - (1 : Int32)))) _
          refine zw_stk hm_203 dX12_remove_39 (st₉ := [.inl (((mI S) 94 45) - (((mI S) 102 l2.toNatClampNeg) + (1 : Int32))), .inr (.inr (some 94))]) rfl rfl ?_
          refine zw_pf hm_203 dX12_remove_40 (zT_is (zT_pi (zT_pi (zT_pi hS))) s_94) (zT_t (zT_pi (zT_pi (zT_pi hS))) s_94) p_12_243_12 zk_int ?_
          refine zw_push hm_203 dX12_remove_43 (v := .inr (.inr (some 94))) rfl ?_
          refine zw_stk hm_203 dX12_remove_44 (st₉ := [.inr (.inr (some 94)), .inr (.inr (some 94))]) rfl rfl ?_
          refine zw_gf hm_203 dX12_remove_45 (v := .inl ((mI S) 94 49)) (zT_is (zT_pi (zT_pi (zT_pi (zT_pi hS)))) s_94) (zT_t (zT_pi (zT_pi (zT_pi (zT_pi hS)))) s_94) rfl f_12_255_12 rfl ?_
          refine zw_push hm_203 dX12_remove_48 (v := .inr (.inr (some 94))) rfl ?_
          refine zw_push hm_203 dX12_remove_49 (v := .inl l2) rfl ?_
          refine zw_cv hm_203 dX12_remove_50 v_12_327_12 hm_201 [.inl l2] [.inl ((mI S) 94 49), .inr (.inr (some 94))] rfl (zT_rt (zT_pi (zT_pi (zT_pi (zT_pi hS)))) s_94 rfl) ⟨by omega, by omega⟩ rfl ?_
          show ma_wp X ((d - 1) - 1) ((w - 21) - 21) 201 0 [(0, .inr (.inr (some 94))), (1, .inl l2)] [] (ma_put (ma_put (ma_put (ma_put S 99 l2.toNatClampNeg (.inl (0 : Int32))) 111 ((mI S) 103 l2.toNatClampNeg).toNatClampNeg (.inl (-1 : Int32))) 94 44 (.inl (((mI S) 94 44) - (1 : Int32)))) 94 45 (.inl (((mI S) 94 45) - (((mI S) 102 l2.toNatClampNeg) + (1 : Int32))))) _
          refine zw_push hm_201 dX12_sizeOf_0 (v := .inr (.inr (some 94))) rfl ?_
          refine zw_gf hm_201 dX12_sizeOf_1 (v := .inr (.inr (some 102))) (zT_is (zT_pi (zT_pi (zT_pi (zT_pi hS)))) s_94) (zT_t (zT_pi (zT_pi (zT_pi (zT_pi hS)))) s_94) rfl f_12_37_12 (zT_f (zT_pi (zT_pi (zT_pi (zT_pi hS)))) r_94_34) ?_
          refine zw_push hm_201 dX12_sizeOf_4 (v := .inl l2) rfl ?_
          obtain ⟨hg, h⟩ := h
          refine zw_ia hm_201 dX12_sizeOf_5 (zT_is (zT_pi (zT_pi (zT_pi (zT_pi hS)))) s_102) (zT_h (zT_pi (zT_pi (zT_pi (zT_pi hS)))) s_102) rfl hg ?_
          show ma_wp X ((d - 1) - 1) ((w - 21) - 21) 201 6 [(0, .inr (.inr (some 94))), (1, .inl l2)] [.inl ((mI S) 102 l2.toNatClampNeg)] (ma_put (ma_put (ma_put (ma_put S 99 l2.toNatClampNeg (.inl (0 : Int32))) 111 ((mI S) 103 l2.toNatClampNeg).toNatClampNeg (.inl (-1 : Int32))) 94 44 (.inl (((mI S) 94 44) - (1 : Int32)))) 94 45 (.inl (((mI S) 94 45) - (((mI S) 102 l2.toNatClampNeg) + (1 : Int32))))) _
          refine zw_push hm_201 dX12_sizeOf_6 (v := .inl (1 : Int32)) rfl ?_
          refine zw_stk hm_201 dX12_sizeOf_7 (st₉ := [.inl (((mI S) 102 l2.toNatClampNeg) + (1 : Int32))]) rfl rfl ?_
          refine zw_iret hm_201 dX12_sizeOf_8 ?_
          show ma_wp X (d - 1) (w - 21) 203 53 [(0, .inr (.inr (some 94))), (1, .inl l2)] [.inl (((mI S) 102 l2.toNatClampNeg) + (1 : Int32)), .inl ((mI S) 94 49), .inr (.inr (some 94))] (ma_put (ma_put (ma_put (ma_put S 99 l2.toNatClampNeg (.inl (0 : Int32))) 111 ((mI S) 103 l2.toNatClampNeg).toNatClampNeg (.inl (-1 : Int32))) 94 44 (.inl (((mI S) 94 44) - (1 : Int32)))) 94 45 (.inl (((mI S) 94 45) - (((mI S) 102 l2.toNatClampNeg) + (1 : Int32))))) _
          refine zw_stk hm_203 dX12_remove_53 (st₉ := [.inl (((mI S) 94 49) + (((mI S) 102 l2.toNatClampNeg) + (1 : Int32))), .inr (.inr (some 94))]) rfl rfl ?_
          refine zw_pf hm_203 dX12_remove_54 (zT_is (zT_pi (zT_pi (zT_pi (zT_pi hS)))) s_94) (zT_t (zT_pi (zT_pi (zT_pi (zT_pi hS)))) s_94) p_12_255_12 zk_int ?_
          refine zw_vret hm_203 dX12_remove_57 ?_
          show ma_wp X d w 200 81 [(1, .inl (l1 + (((mI S) 102 l2.toNatClampNeg) + (1 : Int32)))), (0, .inr (.inr (some 94))), (2, .inl l2)] [] (ma_put (ma_put (ma_put (ma_put (ma_put S 99 l2.toNatClampNeg (.inl (0 : Int32))) 111 ((mI S) 103 l2.toNatClampNeg).toNatClampNeg (.inl (-1 : Int32))) 94 44 (.inl (((mI S) 94 44) - (1 : Int32)))) 94 45 (.inl (((mI S) 94 45) - (((mI S) 102 l2.toNatClampNeg) + (1 : Int32))))) 94 49 (.inl (((mI S) 94 49) + (((mI S) 102 l2.toNatClampNeg) + (1 : Int32))))) _
          refine zw_sto hm_200 dX12_removeRest_81 [(2, .inl (l2 + (1 : Int32))), (1, .inl (l1 + (((mI S) 102 l2.toNatClampNeg) + (1 : Int32)))), (0, .inr (.inr (some 94)))] rfl rfl rfl ?_
          refine zw_goto hm_200 dX12_removeRest_84 (t := 4) rfl ?_
          exact zw_sub (ma_nd_of (ks := [0, 1, 2]) rfl (by decide)) (ma_nd_of (ks := [2, 1, 0]) rfl (by decide)) (ma_le_cons rfl (ma_le_cons rfl (ma_le_cons rfl (ma_le_nil _)))) (h d w _ Q (by omega) (by omega) (zT_pi (zT_pi (zT_pi (zT_pi (zT_pi hS))))) rfl HQ)
        · intro hc
          rw [if_pos (Classical.not_not.mp hc)] at h
          refine zw_push hm_200 dX12_removeRest_48 (v := .inl (0 : Int32)) rfl ?_
          refine zw_sto hm_200 dX12_removeRest_49 [(3, .inl (0 : Int32)), (1, .inl (l1 + (((mI S) 102 l2.toNatClampNeg) + (1 : Int32)))), (0, .inr (.inr (some 94))), (2, .inl l2)] rfl rfl rfl ?_
          exact zw_sub (ma_nd_of (ks := [0, 1, 2, 3]) rfl (by decide)) (ma_nd_of (ks := [3, 1, 0, 2]) rfl (by decide)) (ma_le_cons rfl (ma_le_cons rfl (ma_le_cons rfl (ma_le_cons rfl (ma_le_nil _))))) (h d w _ Q (by omega) (by omega) hS rfl HQ)
      · intro hc
        rw [if_neg hc] at h
        refine zw_goto hm_200 dX12_removeRest_29 (t := 81) rfl ?_
        refine zw_sto hm_200 dX12_removeRest_81 [(2, .inl (l2 + (1 : Int32))), (0, .inr (.inr (some 94))), (1, .inl l1)] rfl rfl rfl ?_
        refine zw_goto hm_200 dX12_removeRest_84 (t := 4) rfl ?_
        exact zw_sub (ma_nd_of (ks := [0, 1, 2]) rfl (by decide)) (ma_nd_of (ks := [2, 0, 1]) rfl (by decide)) (ma_le_cons rfl (ma_le_cons rfl (ma_le_cons rfl (ma_le_nil _)))) (h d w _ Q (by omega) (by omega) hS rfl HQ)
theorem g_200_50 {X : Nat × (Nat → Int32)} {m : Nat → Nat → Int32} {P : Option ma_V → (Nat → Nat → Int32) → Prop} (l1 : Int32) (l2 : Int32) (l3 : Int32) (h : (0 ≤ l2 ∧ l2.toNatClampNeg < 3100) ∧ (if (m 102 l2.toNatClampNeg) ≤ l3 then ((0 ≤ l2 ∧ l2.toNatClampNeg < 3100) ∧ ((0 ≤ l2 ∧ l2.toNatClampNeg < 3100) ∧ ((0 ≤ (m 103 l2.toNatClampNeg) ∧ (m 103 l2.toNatClampNeg).toNatClampNeg < 4600) ∧ ((0 ≤ l2 ∧ l2.toNatClampNeg < 3100) ∧ ((0 ≤ l2 ∧ l2.toNatClampNeg < 3100) ∧ (zm X 2 44 200 4 [(0, .inr (.inr (some 94))), (1, .inl l1), (2, .inl (l2 + (1 : Int32)))] (ma_u (ma_u (ma_u (ma_u (ma_u m 99 l2.toNatClampNeg (0 : Int32)) 111 (m 103 l2.toNatClampNeg).toNatClampNeg (-1 : Int32)) 94 44 ((m 94 44) - (1 : Int32))) 94 45 ((m 94 45) - ((m 102 l2.toNatClampNeg) + (1 : Int32)))) 94 49 ((m 94 49) + ((m 102 l2.toNatClampNeg) + (1 : Int32)))) P)))))) else (zm X 1 22 192 0 [(0, .inr (.inr (some 94))), (1, .inl l2), (2, .inl l3)] m (zmi (fun v2 m1 => if v2 < 0 then (zm X 2 44 200 50 [(0, .inr (.inr (some 94))), (1, .inl l1), (2, .inl l2), (3, .inl (l3 + (1 : Int32)))] m1 P) else ((0 ≤ v2 ∧ v2.toNatClampNeg < 3100) ∧ (if (m1 110 v2.toNatClampNeg) = 0 then (zm X 2 44 200 50 [(0, .inr (.inr (some 94))), (1, .inl l1), (2, .inl l2), (3, .inl (l3 + (1 : Int32)))] m1 P) else ((0 ≤ v2 ∧ v2.toNatClampNeg < 3100) ∧ ((0 ≤ v2 ∧ v2.toNatClampNeg < 3100) ∧ (zm X 2 44 200 50 [(0, .inr (.inr (some 94))), (1, .inl l1), (2, .inl l2), (3, .inl (l3 + (1 : Int32)))] (ma_u m1 105 v2.toNatClampNeg ((m1 105 v2.toNatClampNeg) - (1 : Int32))) P)))))))))) : zm X 2 44 200 50 [(0, .inr (.inr (some 94))), (1, .inl l1), (2, .inl l2), (3, .inl l3)] m P := by
  intro d w S Q hd hw hS hm HQ
  subst hm
  refine zw_push hm_200 dX12_removeRest_50 (v := .inl l3) rfl ?_
  refine zw_push hm_200 dX12_removeRest_51 (v := .inr (.inr (some 94))) rfl ?_
  refine zw_gf hm_200 dX12_removeRest_52 (v := .inr (.inr (some 102))) (zT_is hS s_94) (zT_t hS s_94) rfl f_12_37_12 (zT_f hS r_94_34) ?_
  refine zw_push hm_200 dX12_removeRest_55 (v := .inl l2) rfl ?_
  obtain ⟨hg, h⟩ := h
  refine zw_ia hm_200 dX12_removeRest_56 (zT_is hS s_102) (zT_h hS s_102) rfl hg ?_
  show ma_wp X d w 200 57 [(0, .inr (.inr (some 94))), (1, .inl l1), (2, .inl l2), (3, .inl l3)] [.inl ((mI S) 102 l2.toNatClampNeg), .inl l3] S _
  refine zw_if2 hm_200 dX12_removeRest_57 (t := 76) rfl zc2_ge ?_ ?_
  · intro hc
    rw [if_pos hc] at h
    refine zw_push hm_200 dX12_removeRest_76 (v := .inr (.inr (some 94))) rfl ?_
    refine zw_push hm_200 dX12_removeRest_77 (v := .inl l2) rfl ?_
    refine zw_cv hm_200 dX12_removeRest_78 v_12_333_12 hm_203 [.inl l2] [] rfl (zT_rt hS s_94 rfl) ⟨by omega, by omega⟩ rfl ?_
    show ma_wp X (d - 1) (w - 21) 203 0 [(0, .inr (.inr (some 94))), (1, .inl l2)] [] S _
    refine zw_push hm_203 dX12_remove_0 (v := .inr (.inr (some 94))) rfl ?_
    refine zw_gf hm_203 dX12_remove_1 (v := .inr (.inr (some 99))) (zT_is hS s_94) (zT_t hS s_94) rfl f_12_27_12 (zT_f hS r_94_31) ?_
    refine zw_push hm_203 dX12_remove_4 (v := .inl l2) rfl ?_
    refine zw_push hm_203 dX12_remove_5 (v := .inl (0 : Int32)) rfl ?_
    obtain ⟨hg, h⟩ := h
    refine zw_bas22l hm_203 dX12_remove_6 (hx := by decide) (yv := (0 : Int32)) (zT_is hS s_99) (zT_h hS s_99) rfl hg ?_
    refine zw_push hm_203 dX12_remove_7 (v := .inr (.inr (some 94))) rfl ?_
    refine zw_gf hm_203 dX12_remove_8 (v := .inr (.inr (some 111))) (zT_is (zT_pi hS) s_94) (zT_t (zT_pi hS) s_94) rfl f_12_65_12 (zT_f (zT_pi hS) r_94_43) ?_
    refine zw_push hm_203 dX12_remove_11 (v := .inr (.inr (some 94))) rfl ?_
    refine zw_gf hm_203 dX12_remove_12 (v := .inr (.inr (some 103))) (zT_is (zT_pi hS) s_94) (zT_t (zT_pi hS) s_94) rfl f_12_40_12 (zT_f (zT_pi hS) r_94_35) ?_
    refine zw_push hm_203 dX12_remove_15 (v := .inl l2) rfl ?_
    obtain ⟨hg, h⟩ := h
    refine zw_ia hm_203 dX12_remove_16 (zT_is (zT_pi hS) s_103) (zT_h (zT_pi hS) s_103) rfl hg ?_
    show ma_wp X (d - 1) (w - 21) 203 17 [(0, .inr (.inr (some 94))), (1, .inl l2)] [.inl ((mI S) 103 l2.toNatClampNeg), .inr (.inr (some 111))] (ma_put S 99 l2.toNatClampNeg (.inl (0 : Int32))) _
    refine zw_push hm_203 dX12_remove_17 (v := .inl (-1 : Int32)) rfl ?_
    obtain ⟨hg, h⟩ := h
    refine zw_ias hm_203 dX12_remove_18 (zT_is (zT_pi hS) s_111) (zT_h (zT_pi hS) s_111) rfl hg ?_
    refine zw_push hm_203 dX12_remove_19 (v := .inr (.inr (some 94))) rfl ?_
    refine zw_stk hm_203 dX12_remove_20 (st₉ := [.inr (.inr (some 94)), .inr (.inr (some 94))]) rfl rfl ?_
    refine zw_gf hm_203 dX12_remove_21 (v := .inl ((mI S) 94 44)) (zT_is (zT_pi (zT_pi hS)) s_94) (zT_t (zT_pi (zT_pi hS)) s_94) rfl f_12_240_12 rfl ?_
    refine zw_push hm_203 dX12_remove_24 (v := .inl (1 : Int32)) rfl ?_
    refine zw_stk hm_203 dX12_remove_25 (st₉ := [.inl (((mI S) 94 44) - (1 : Int32)), .inr (.inr (some 94))]) rfl rfl ?_
    refine zw_pf hm_203 dX12_remove_26 (zT_is (zT_pi (zT_pi hS)) s_94) (zT_t (zT_pi (zT_pi hS)) s_94) p_12_240_12 zk_int ?_
    refine zw_push hm_203 dX12_remove_29 (v := .inr (.inr (some 94))) rfl ?_
    refine zw_stk hm_203 dX12_remove_30 (st₉ := [.inr (.inr (some 94)), .inr (.inr (some 94))]) rfl rfl ?_
    refine zw_gf hm_203 dX12_remove_31 (v := .inl ((mI S) 94 45)) (zT_is (zT_pi (zT_pi (zT_pi hS))) s_94) (zT_t (zT_pi (zT_pi (zT_pi hS))) s_94) rfl f_12_243_12 rfl ?_
    refine zw_push hm_203 dX12_remove_34 (v := .inr (.inr (some 94))) rfl ?_
    refine zw_push hm_203 dX12_remove_35 (v := .inl l2) rfl ?_
    refine zw_cv hm_203 dX12_remove_36 v_12_327_12 hm_201 [.inl l2] [.inl ((mI S) 94 45), .inr (.inr (some 94))] rfl (zT_rt (zT_pi (zT_pi (zT_pi hS))) s_94 rfl) ⟨by omega, by omega⟩ rfl ?_
    show ma_wp X ((d - 1) - 1) ((w - 21) - 21) 201 0 [(0, .inr (.inr (some 94))), (1, .inl l2)] [] (ma_put (ma_put (ma_put S 99 l2.toNatClampNeg (.inl (0 : Int32))) 111 ((mI S) 103 l2.toNatClampNeg).toNatClampNeg (.inl (-1 : Int32))) 94 44 (.inl (((mI S) 94 44) - (1 : Int32)))) _
    refine zw_push hm_201 dX12_sizeOf_0 (v := .inr (.inr (some 94))) rfl ?_
    refine zw_gf hm_201 dX12_sizeOf_1 (v := .inr (.inr (some 102))) (zT_is (zT_pi (zT_pi (zT_pi hS))) s_94) (zT_t (zT_pi (zT_pi (zT_pi hS))) s_94) rfl f_12_37_12 (zT_f (zT_pi (zT_pi (zT_pi hS))) r_94_34) ?_
    refine zw_push hm_201 dX12_sizeOf_4 (v := .inl l2) rfl ?_
    obtain ⟨hg, h⟩ := h
    refine zw_ia hm_201 dX12_sizeOf_5 (zT_is (zT_pi (zT_pi (zT_pi hS))) s_102) (zT_h (zT_pi (zT_pi (zT_pi hS))) s_102) rfl hg ?_
    show ma_wp X ((d - 1) - 1) ((w - 21) - 21) 201 6 [(0, .inr (.inr (some 94))), (1, .inl l2)] [.inl ((mI S) 102 l2.toNatClampNeg)] (ma_put (ma_put (ma_put S 99 l2.toNatClampNeg (.inl (0 : Int32))) 111 ((mI S) 103 l2.toNatClampNeg).toNatClampNeg (.inl (-1 : Int32))) 94 44 (.inl (((mI S) 94 44) - (1 : Int32)))) _
    refine zw_push hm_201 dX12_sizeOf_6 (v := .inl (1 : Int32)) rfl ?_
    refine zw_stk hm_201 dX12_sizeOf_7 (st₉ := [.inl (((mI S) 102 l2.toNatClampNeg) + (1 : Int32))]) rfl rfl ?_
    refine zw_iret hm_201 dX12_sizeOf_8 ?_
    show ma_wp X (d - 1) (w - 21) 203 39 [(0, .inr (.inr (some 94))), (1, .inl l2)] [.inl (((mI S) 102 l2.toNatClampNeg) + (1 : Int32)), .inl ((mI S) 94 45), .inr (.inr (some 94))] (ma_put (ma_put (ma_put S 99 l2.toNatClampNeg (.inl (0 : Int32))) 111 ((mI S) 103 l2.toNatClampNeg).toNatClampNeg (.inl (-1 : Int32))) 94 44 (.inl (((mI S) 94 44) - (1 : Int32)))) _
    refine zw_stk hm_203 dX12_remove_39 (st₉ := [.inl (((mI S) 94 45) - (((mI S) 102 l2.toNatClampNeg) + (1 : Int32))), .inr (.inr (some 94))]) rfl rfl ?_
    refine zw_pf hm_203 dX12_remove_40 (zT_is (zT_pi (zT_pi (zT_pi hS))) s_94) (zT_t (zT_pi (zT_pi (zT_pi hS))) s_94) p_12_243_12 zk_int ?_
    refine zw_push hm_203 dX12_remove_43 (v := .inr (.inr (some 94))) rfl ?_
    refine zw_stk hm_203 dX12_remove_44 (st₉ := [.inr (.inr (some 94)), .inr (.inr (some 94))]) rfl rfl ?_
    refine zw_gf hm_203 dX12_remove_45 (v := .inl ((mI S) 94 49)) (zT_is (zT_pi (zT_pi (zT_pi (zT_pi hS)))) s_94) (zT_t (zT_pi (zT_pi (zT_pi (zT_pi hS)))) s_94) rfl f_12_255_12 rfl ?_
    refine zw_push hm_203 dX12_remove_48 (v := .inr (.inr (some 94))) rfl ?_
    refine zw_push hm_203 dX12_remove_49 (v := .inl l2) rfl ?_
    refine zw_cv hm_203 dX12_remove_50 v_12_327_12 hm_201 [.inl l2] [.inl ((mI S) 94 49), .inr (.inr (some 94))] rfl (zT_rt (zT_pi (zT_pi (zT_pi (zT_pi hS)))) s_94 rfl) ⟨by omega, by omega⟩ rfl ?_
    show ma_wp X ((d - 1) - 1) ((w - 21) - 21) 201 0 [(0, .inr (.inr (some 94))), (1, .inl l2)] [] (ma_put (ma_put (ma_put (ma_put S 99 l2.toNatClampNeg (.inl (0 : Int32))) 111 ((mI S) 103 l2.toNatClampNeg).toNatClampNeg (.inl (-1 : Int32))) 94 44 (.inl (((mI S) 94 44) - (1 : Int32)))) 94 45 (.inl (((mI S) 94 45) - (((mI S) 102 l2.toNatClampNeg) + (1 : Int32))))) _
    refine zw_push hm_201 dX12_sizeOf_0 (v := .inr (.inr (some 94))) rfl ?_
    refine zw_gf hm_201 dX12_sizeOf_1 (v := .inr (.inr (some 102))) (zT_is (zT_pi (zT_pi (zT_pi (zT_pi hS)))) s_94) (zT_t (zT_pi (zT_pi (zT_pi (zT_pi hS)))) s_94) rfl f_12_37_12 (zT_f (zT_pi (zT_pi (zT_pi (zT_pi hS)))) r_94_34) ?_
    refine zw_push hm_201 dX12_sizeOf_4 (v := .inl l2) rfl ?_
    obtain ⟨hg, h⟩ := h
    refine zw_ia hm_201 dX12_sizeOf_5 (zT_is (zT_pi (zT_pi (zT_pi (zT_pi hS)))) s_102) (zT_h (zT_pi (zT_pi (zT_pi (zT_pi hS)))) s_102) rfl hg ?_
    show ma_wp X ((d - 1) - 1) ((w - 21) - 21) 201 6 [(0, .inr (.inr (some 94))), (1, .inl l2)] [.inl ((mI S) 102 l2.toNatClampNeg)] (ma_put (ma_put (ma_put (ma_put S 99 l2.toNatClampNeg (.inl (0 : Int32))) 111 ((mI S) 103 l2.toNatClampNeg).toNatClampNeg (.inl (-1 : Int32))) 94 44 (.inl (((mI S) 94 44) - (1 : Int32)))) 94 45 (.inl (((mI S) 94 45) - (((mI S) 102 l2.toNatClampNeg) + (1 : Int32))))) _
    refine zw_push hm_201 dX12_sizeOf_6 (v := .inl (1 : Int32)) rfl ?_
    refine zw_stk hm_201 dX12_sizeOf_7 (st₉ := [.inl (((mI S) 102 l2.toNatClampNeg) + (1 : Int32))]) rfl rfl ?_
    refine zw_iret hm_201 dX12_sizeOf_8 ?_
    show ma_wp X (d - 1) (w - 21) 203 53 [(0, .inr (.inr (some 94))), (1, .inl l2)] [.inl (((mI S) 102 l2.toNatClampNeg) + (1 : Int32)), .inl ((mI S) 94 49), .inr (.inr (some 94))] (ma_put (ma_put (ma_put (ma_put S 99 l2.toNatClampNeg (.inl (0 : Int32))) 111 ((mI S) 103 l2.toNatClampNeg).toNatClampNeg (.inl (-1 : Int32))) 94 44 (.inl (((mI S) 94 44) - (1 : Int32)))) 94 45 (.inl (((mI S) 94 45) - (((mI S) 102 l2.toNatClampNeg) + (1 : Int32))))) _
    refine zw_stk hm_203 dX12_remove_53 (st₉ := [.inl (((mI S) 94 49) + (((mI S) 102 l2.toNatClampNeg) + (1 : Int32))), .inr (.inr (some 94))]) rfl rfl ?_
    refine zw_pf hm_203 dX12_remove_54 (zT_is (zT_pi (zT_pi (zT_pi (zT_pi hS)))) s_94) (zT_t (zT_pi (zT_pi (zT_pi (zT_pi hS)))) s_94) p_12_255_12 zk_int ?_
    refine zw_vret hm_203 dX12_remove_57 ?_
    show ma_wp X d w 200 81 [(0, .inr (.inr (some 94))), (1, .inl l1), (2, .inl l2), (3, .inl l3)] [] (ma_put (ma_put (ma_put (ma_put (ma_put S 99 l2.toNatClampNeg (.inl (0 : Int32))) 111 ((mI S) 103 l2.toNatClampNeg).toNatClampNeg (.inl (-1 : Int32))) 94 44 (.inl (((mI S) 94 44) - (1 : Int32)))) 94 45 (.inl (((mI S) 94 45) - (((mI S) 102 l2.toNatClampNeg) + (1 : Int32))))) 94 49 (.inl (((mI S) 94 49) + (((mI S) 102 l2.toNatClampNeg) + (1 : Int32))))) _
    refine zw_sto hm_200 dX12_removeRest_81 [(2, .inl (l2 + (1 : Int32))), (0, .inr (.inr (some 94))), (1, .inl l1), (3, .inl l3)] rfl rfl rfl ?_
    refine zw_goto hm_200 dX12_removeRest_84 (t := 4) rfl ?_
    exact zw_sub (ma_nd_of (ks := [0, 1, 2]) rfl (by decide)) (ma_nd_of (ks := [2, 0, 1, 3]) rfl (by decide)) (ma_le_cons rfl (ma_le_cons rfl (ma_le_cons rfl (ma_le_nil _)))) (h d w _ Q (by omega) (by omega) (zT_pi (zT_pi (zT_pi (zT_pi (zT_pi hS))))) rfl HQ)
  · intro hc
    rw [if_neg hc] at h
    refine zw_push hm_200 dX12_removeRest_60 (v := .inr (.inr (some 94))) rfl ?_
    refine zw_push hm_200 dX12_removeRest_61 (v := .inr (.inr (some 94))) rfl ?_
    refine zw_push hm_200 dX12_removeRest_62 (v := .inl l2) rfl ?_
    refine zw_push hm_200 dX12_removeRest_63 (v := .inl l3) rfl ?_
    refine zw_cv hm_200 dX12_removeRest_64 v_12_294_12 hm_192 [.inl l3, .inl l2] [.inr (.inr (some 94))] rfl (zT_rt hS s_94 rfl) ⟨by omega, by omega⟩ rfl (h _ _ S _ (by omega) (by omega) hS rfl (fun o9 m1 hv => ?_))
    obtain ⟨v2, rfl, h⟩ := zmi_of hv
    show ma_wp X d w 200 67 [(0, .inr (.inr (some 94))), (1, .inl l1), (2, .inl l2), (3, .inl l3)] [.inl v2, .inr (.inr (some 94))] (zst S m1) _
    refine zw_cv hm_200 dX12_removeRest_67 v_12_330_12 hm_202 [.inl v2] [] rfl (zT_rt (zT_zst hS m1) s_94 rfl) ⟨by omega, by omega⟩ rfl ?_
    show ma_wp X (d - 1) (w - 21) 202 0 [(0, .inr (.inr (some 94))), (1, .inl v2)] [] (zst S m1) _
    refine zw_push hm_202 dX12_uncountKept_0 (v := .inl v2) rfl ?_
    refine zw_if0 hm_202 dX12_uncountKept_1 (t := 23) rfl zc0_lt ?_ ?_
    · intro hc
      rw [if_pos hc] at h
      refine zw_vret hm_202 dX12_uncountKept_23 ?_
      show ma_wp X d w 200 70 [(0, .inr (.inr (some 94))), (1, .inl l1), (2, .inl l2), (3, .inl l3)] [] (zst S m1) _
      refine zw_sto hm_200 dX12_removeRest_70 [(3, .inl (l3 + (1 : Int32))), (0, .inr (.inr (some 94))), (1, .inl l1), (2, .inl l2)] rfl rfl rfl ?_
      refine zw_goto hm_200 dX12_removeRest_73 (t := 50) rfl ?_
      exact zw_sub (ma_nd_of (ks := [0, 1, 2, 3]) rfl (by decide)) (ma_nd_of (ks := [3, 0, 1, 2]) rfl (by decide)) (ma_le_cons rfl (ma_le_cons rfl (ma_le_cons rfl (ma_le_cons rfl (ma_le_nil _))))) (h d w _ Q (by omega) (by omega) (zT_zst hS m1) rfl HQ)
    · intro hc
      rw [if_neg hc] at h
      refine zw_push hm_202 dX12_uncountKept_4 (v := .inr (.inr (some 94))) rfl ?_
      refine zw_gf hm_202 dX12_uncountKept_5 (v := .inr (.inr (some 110))) (zT_is (zT_zst hS m1) s_94) (zT_t (zT_zst hS m1) s_94) rfl f_12_62_12 (zT_f (zT_zst hS m1) r_94_42) ?_
      refine zw_push hm_202 dX12_uncountKept_8 (v := .inl v2) rfl ?_
      obtain ⟨hg, h⟩ := h
      refine zw_ba hm_202 dX12_uncountKept_9 (zT_is (zT_zst hS m1) s_110) (zT_h (zT_zst hS m1) s_110) rfl rfl hg ?_
      show ma_wp X (d - 1) (w - 21) 202 10 [(0, .inr (.inr (some 94))), (1, .inl v2)] [.inl (m1 110 v2.toNatClampNeg)] (zst S m1) _
      refine zw_if0 hm_202 dX12_uncountKept_10 (t := 23) rfl zc0_eq ?_ ?_
      · intro hc
        rw [if_pos hc] at h
        refine zw_vret hm_202 dX12_uncountKept_23 ?_
        show ma_wp X d w 200 70 [(0, .inr (.inr (some 94))), (1, .inl l1), (2, .inl l2), (3, .inl l3)] [] (zst S m1) _
        refine zw_sto hm_200 dX12_removeRest_70 [(3, .inl (l3 + (1 : Int32))), (0, .inr (.inr (some 94))), (1, .inl l1), (2, .inl l2)] rfl rfl rfl ?_
        refine zw_goto hm_200 dX12_removeRest_73 (t := 50) rfl ?_
        exact zw_sub (ma_nd_of (ks := [0, 1, 2, 3]) rfl (by decide)) (ma_nd_of (ks := [3, 0, 1, 2]) rfl (by decide)) (ma_le_cons rfl (ma_le_cons rfl (ma_le_cons rfl (ma_le_cons rfl (ma_le_nil _))))) (h d w _ Q (by omega) (by omega) (zT_zst hS m1) rfl HQ)
      · intro hc
        rw [if_neg hc] at h
        refine zw_push hm_202 dX12_uncountKept_13 (v := .inr (.inr (some 94))) rfl ?_
        refine zw_gf hm_202 dX12_uncountKept_14 (v := .inr (.inr (some 105))) (zT_is (zT_zst hS m1) s_94) (zT_t (zT_zst hS m1) s_94) rfl f_12_46_12 (zT_f (zT_zst hS m1) r_94_37) ?_
        refine zw_push hm_202 dX12_uncountKept_17 (v := .inl v2) rfl ?_
        refine zw_stk hm_202 dX12_uncountKept_18 (st₉ := [.inl v2, .inr (.inr (some 105)), .inl v2, .inr (.inr (some 105))]) rfl rfl ?_
        obtain ⟨hg, h⟩ := h
        refine zw_ia hm_202 dX12_uncountKept_19 (zT_is (zT_zst hS m1) s_105) (zT_h (zT_zst hS m1) s_105) rfl hg ?_
        show ma_wp X (d - 1) (w - 21) 202 20 [(0, .inr (.inr (some 94))), (1, .inl v2)] [.inl (m1 105 v2.toNatClampNeg), .inl v2, .inr (.inr (some 105))] (zst S m1) _
        refine zw_push hm_202 dX12_uncountKept_20 (v := .inl (1 : Int32)) rfl ?_
        refine zw_stk hm_202 dX12_uncountKept_21 (st₉ := [.inl ((m1 105 v2.toNatClampNeg) - (1 : Int32)), .inl v2, .inr (.inr (some 105))]) rfl rfl ?_
        obtain ⟨hg, h⟩ := h
        refine zw_ias hm_202 dX12_uncountKept_22 (zT_is (zT_zst hS m1) s_105) (zT_h (zT_zst hS m1) s_105) rfl hg ?_
        refine zw_vret hm_202 dX12_uncountKept_23 ?_
        show ma_wp X d w 200 70 [(0, .inr (.inr (some 94))), (1, .inl l1), (2, .inl l2), (3, .inl l3)] [] (ma_put (zst S m1) 105 v2.toNatClampNeg (.inl ((m1 105 v2.toNatClampNeg) - (1 : Int32)))) _
        refine zw_sto hm_200 dX12_removeRest_70 [(3, .inl (l3 + (1 : Int32))), (0, .inr (.inr (some 94))), (1, .inl l1), (2, .inl l2)] rfl rfl rfl ?_
        refine zw_goto hm_200 dX12_removeRest_73 (t := 50) rfl ?_
        exact zw_sub (ma_nd_of (ks := [0, 1, 2, 3]) rfl (by decide)) (ma_nd_of (ks := [3, 0, 1, 2]) rfl (by decide)) (ma_le_cons rfl (ma_le_cons rfl (ma_le_cons rfl (ma_le_cons rfl (ma_le_nil _))))) (h d w _ Q (by omega) (by omega) (zT_pi (zT_zst hS m1)) rfl HQ)
theorem lp_200_50 {X : Nat × (Nat → Int32)} {P : Option ma_V → (Nat → Nat → Int32) → Prop} {T : Nat} {m0 : Nat → Nat → Int32} (h0 : zV m0) (K : ∀ v m₉, zF wr_200 m0 m₉ → zV m₉ → (zrm (m0 99) (m₉ 99) (m₉ 110) 3100) → (zowr (m0 111) (m₉ 111) (m0 99) (m₉ 110) (m₉ 103)) → (zGU T (m₉ 94 46) (m₉ 99)) → (zOw (m₉ 99) (m₉ 103) (m₉ 111)) → P (some (.inl v)) m₉) {n4 : Nat} (OUT4 : ∀ (m₉ : Nat → Nat → Int32) (l1 : Int32) (l2 : Int32), (3100 - l2.toInt).toNat < n4 → zF wr_200 m0 m₉ → zV m₉ → (0 ≤ l2.toInt) → (zW (m₉ 94 7) (m₉ 98) (m₉ 101) (m₉ 102) (m₉ 108)) → (zGU T (m₉ 94 46) (m₉ 99)) → (zOw (m₉ 99) (m₉ 103) (m₉ 111)) → (zrm (m0 99) (m₉ 99) (m₉ 110) l2.toNatClampNeg) → (zowr (m0 111) (m₉ 111) (m0 99) (m₉ 110) (m₉ 103)) → zm X 2 44 200 4 [(0, .inr (.inr (some 94))), (1, .inl l1), (2, .inl l2)] m₉ P) : ∀ (n : Nat) (m : Nat → Nat → Int32) (l1 : Int32) (l2 : Int32) (l3 : Int32), (61 - l3.toInt).toNat = n → zF wr_200 m0 m → zV m → (0 ≤ l2.toInt) → (l2.toInt ≤ 3099) → (0 ≤ l3.toInt) → ((3100 - l2.toInt).toNat = n4) → (zW (m 94 7) (m 98) (m 101) (m 102) (m 108)) → (zGU T (m 94 46) (m 99)) → (zOw (m 99) (m 103) (m 111)) → (zrm (m0 99) (m 99) (m 110) l2.toNatClampNeg) → (zowr (m0 111) (m 111) (m0 99) (m 110) (m 103)) → ((m 99) l2.toNatClampNeg ≠ 0 ∧ (m 110) l2.toNatClampNeg = 0) → zm X 2 44 200 50 [(0, .inr (.inr (some 94))), (1, .inl l1), (2, .inl l2), (3, .inl l3)] m P := by
  intro n
  induction n using Nat.strongRecOn with
  | _ n IH =>
    intro m l1 l2 l3 hmu hF hV hi0 hi1 hi2 hi3 r_W r_GU r_OW r_RM r_OWR r_UK
    refine g_200_50 l1 l2 l3 ?_
    have b1 := i_bd l2
    have hg2 : (0 ≤ l2 ∧ l2.toNatClampNeg < 3100) := i_ix (by omega) (by omega)
    refine ⟨hg2, ?_⟩
    first | have f3 : 0 ≤ (m 102 l2.toNatClampNeg).toInt ∧ (m 102 l2.toNatClampNeg).toInt ≤ 60 := ra_102 (m := m) hV (k := l2.toNatClampNeg) (i_ix (n := 3100) (by omega) (by omega)).2 | have b4 := i_bd (m 102 l2.toNatClampNeg)
    have b5 := i_bd l3
    refine zd (fun (h6 : (m 102 l2.toNatClampNeg) ≤ l3) => ?_) (fun (h6 : ¬ (m 102 l2.toNatClampNeg) ≤ l3) => ?_)
    · skip
      have g7 := i_le h6
      have hg8 : (0 ≤ l2 ∧ l2.toNatClampNeg < 3100) := i_ix (by omega) (by omega)
      refine ⟨hg8, ?_⟩
      have hg9 : (0 ≤ l2 ∧ l2.toNatClampNeg < 3100) := i_ix (by omega) (by omega)
      refine ⟨hg9, ?_⟩
      first | have f10 : 0 ≤ (m 103 l2.toNatClampNeg).toInt ∧ (m 103 l2.toNatClampNeg).toInt ≤ 4599 := ra_103 (m := m) hV (k := l2.toNatClampNeg) (i_ix (n := 3100) (by omega) (by omega)).2 | have b11 := i_bd (m 103 l2.toNatClampNeg)
      have hg12 : (0 ≤ (m 103 l2.toNatClampNeg) ∧ (m 103 l2.toNatClampNeg).toNatClampNeg < 4600) := i_ix (by omega) (by omega)
      refine ⟨hg12, ?_⟩
      have hg13 : (0 ≤ l2 ∧ l2.toNatClampNeg < 3100) := i_ix (by omega) (by omega)
      refine ⟨hg13, ?_⟩
      have hg14 : (0 ≤ l2 ∧ l2.toNatClampNeg < 3100) := i_ix (by omega) (by omega)
      refine ⟨hg14, ?_⟩
      have li16 : (0 : Int32).toInt = 0 := rfl
      have hV15 : zV (ma_u m 99 l2.toNatClampNeg (0 : Int32)) := ua_99 hV (by omega) (by omega)
      have li18 : (-1 : Int32).toInt = -1 := rfl
      have hV17 : zV (ma_u (ma_u m 99 l2.toNatClampNeg (0 : Int32)) 111 (m 103 l2.toNatClampNeg).toNatClampNeg (-1 : Int32)) := ua_111 hV15 (by omega) (by omega)
      have hV19 : zV (ma_u (ma_u (ma_u m 99 l2.toNatClampNeg (0 : Int32)) 111 (m 103 l2.toNatClampNeg).toNatClampNeg (-1 : Int32)) 94 44 ((m 94 44) - (1 : Int32))) := uf_94_44 hV17
      have hV20 : zV (ma_u (ma_u (ma_u (ma_u m 99 l2.toNatClampNeg (0 : Int32)) 111 (m 103 l2.toNatClampNeg).toNatClampNeg (-1 : Int32)) 94 44 ((m 94 44) - (1 : Int32))) 94 45 ((m 94 45) - ((m 102 l2.toNatClampNeg) + (1 : Int32)))) := uf_94_45 hV19
      have hV21 : zV (ma_u (ma_u (ma_u (ma_u (ma_u m 99 l2.toNatClampNeg (0 : Int32)) 111 (m 103 l2.toNatClampNeg).toNatClampNeg (-1 : Int32)) 94 44 ((m 94 44) - (1 : Int32))) 94 45 ((m 94 45) - ((m 102 l2.toNatClampNeg) + (1 : Int32)))) 94 49 ((m 94 49) + ((m 102 l2.toNatClampNeg) + (1 : Int32)))) := uf_94_49 hV20
      have b22 := i_bd l1
      first | have e23 : (l2 + (1 : Int32)).toInt = l2.toInt + (1) := i_addk rfl (by omega) (by omega) | have b24 := i_bd (l2 + (1 : Int32))
      exact OUT4 _ (l1) ((l2 + (1 : Int32))) (show (3100 - (l2 + (1 : Int32)).toInt).toNat < n4 from by omega) (zF_u (zF_u (zF_u (zF_u (zF_u hF rfl) rfl) rfl) rfl) rfl) hV21 (by omega) r_W (show zGU T (m 94 46) ((ma_u m 99 l2.toNatClampNeg (0 : Int32)) 99) from by first | (exact GU_0 r_GU) | (exfalso; omega; done) | (exfalso; contradiction; done)) (show zOw ((ma_u m 99 l2.toNatClampNeg (0 : Int32)) 99) (m 103) ((ma_u m 111 (m 103 l2.toNatClampNeg).toNatClampNeg (-1 : Int32)) 111) from by first | (exact Ow_rm r_OW (by decide) (tn_cast (by omega)).symm) | (exfalso; omega; done) | (exfalso; contradiction; done)) (show zrm (m0 99) ((ma_u m 99 l2.toNatClampNeg (0 : Int32)) 99) (m 110) (l2 + (1 : Int32)).toNatClampNeg from by first | (exact rm_put r_RM (by assumption) (tn_succ (by omega) (by omega))) | (exact rm_put r_RM r_UK.2 (tn_succ (by omega) (by omega))) | (exfalso; omega; done) | (exfalso; contradiction; done)) (show zowr (m0 111) ((ma_u m 111 (m 103 l2.toNatClampNeg).toNatClampNeg (-1 : Int32)) 111) (m0 99) (m 110) (m 103) from by first | (exact owr_put r_OWR (s := l2.toNatClampNeg) (by omega) (rm_us r_RM (by omega) (by assumption)) (by assumption) (by decide) (tn_cast (by omega)).symm) | (exact owr_put r_OWR (s := l2.toNatClampNeg) (by omega) (rm_us r_RM (by omega) r_UK.1) r_UK.2 (by decide) (tn_cast (by omega)).symm) | (exfalso; omega; done) | (exfalso; contradiction; done))
    · skip
      have g25 := i_nle h6
      refine sp_192 (l2) (l3) hV (by omega) (by omega) (by omega) (show l3.toInt < (m 102 l2.toNatClampNeg).toInt from by omega) (fun v2 m1 hV_m1 p0_m1 => zmi_n ?_)
      have p0_m1 : v2 = zrf (m 98) (m 101) (m 108) l2.toNatClampNeg l3.toNatClampNeg := p0_m1
      try have := W_ref r_W (by omega) (by omega) (by omega) (by omega) p0_m1
      have b26 := i_bd v2
      have li27 : (0 : Int32).toInt = 0 := rfl
      refine zd (fun (h28 : v2 < (0 : Int32)) => ?_) (fun (h28 : ¬ v2 < (0 : Int32)) => ?_)
      · skip
        have g29 := i_lt h28
        have b30 := i_bd l1
        first | have e31 : (l3 + (1 : Int32)).toInt = l3.toInt + (1) := i_addk rfl (by omega) (by omega) | have b32 := i_bd (l3 + (1 : Int32))
        exact IH (61 - (l3 + (1 : Int32)).toInt).toNat (by omega) _ (l1) (l2) ((l3 + (1 : Int32))) rfl (zF_zov hF ws_192_200) hV_m1 (by omega) (by omega) (by omega) (by omega) r_W r_GU r_OW r_RM r_OWR r_UK
      · skip
        have g33 := i_nlt h28
        have hg34 : (0 ≤ v2 ∧ v2.toNatClampNeg < 3100) := i_ix (by omega) (by omega)
        refine ⟨hg34, ?_⟩
        first | have f35 : 0 ≤ (m 110 v2.toNatClampNeg).toInt ∧ (m 110 v2.toNatClampNeg).toInt ≤ 1 := ra_110 (m := m) hV (k := v2.toNatClampNeg) (i_ix (n := 3100) (by omega) (by omega)).2 | have b36 := i_bd (m 110 v2.toNatClampNeg)
        refine zd (fun (h37 : (m 110 v2.toNatClampNeg) = (0 : Int32)) => ?_) (fun (h37 : ¬ (m 110 v2.toNatClampNeg) = (0 : Int32)) => ?_)
        · skip
          have g38 := i_eq h37
          have b39 := i_bd l1
          first | have e40 : (l3 + (1 : Int32)).toInt = l3.toInt + (1) := i_addk rfl (by omega) (by omega) | have b41 := i_bd (l3 + (1 : Int32))
          exact IH (61 - (l3 + (1 : Int32)).toInt).toNat (by omega) _ (l1) (l2) ((l3 + (1 : Int32))) rfl (zF_zov hF ws_192_200) hV_m1 (by omega) (by omega) (by omega) (by omega) r_W r_GU r_OW r_RM r_OWR r_UK
        · skip
          have g42 := i_ne h37
          have hg43 : (0 ≤ v2 ∧ v2.toNatClampNeg < 3100) := i_ix (by omega) (by omega)
          refine ⟨hg43, ?_⟩
          have hg44 : (0 ≤ v2 ∧ v2.toNatClampNeg < 3100) := i_ix (by omega) (by omega)
          refine ⟨hg44, ?_⟩
          have hV45 : zV (ma_u (zov wr_192 m m1) 105 v2.toNatClampNeg ((m 105 v2.toNatClampNeg) - (1 : Int32))) := ua_105 hV_m1
          have b46 := i_bd l1
          first | have e47 : (l3 + (1 : Int32)).toInt = l3.toInt + (1) := i_addk rfl (by omega) (by omega) | have b48 := i_bd (l3 + (1 : Int32))
          exact IH (61 - (l3 + (1 : Int32)).toInt).toNat (by omega) _ (l1) (l2) ((l3 + (1 : Int32))) rfl (zF_u (zF_zov hF ws_192_200) rfl) hV45 (by omega) (by omega) (by omega) (by omega) r_W r_GU r_OW r_RM r_OWR r_UK
theorem lp_200_4 {X : Nat × (Nat → Int32)} {P : Option ma_V → (Nat → Nat → Int32) → Prop} {T : Nat} {m0 : Nat → Nat → Int32} (h0 : zV m0) (K : ∀ v m₉, zF wr_200 m0 m₉ → zV m₉ → (zrm (m0 99) (m₉ 99) (m₉ 110) 3100) → (zowr (m0 111) (m₉ 111) (m0 99) (m₉ 110) (m₉ 103)) → (zGU T (m₉ 94 46) (m₉ 99)) → (zOw (m₉ 99) (m₉ 103) (m₉ 111)) → P (some (.inl v)) m₉) : ∀ (n : Nat) (m : Nat → Nat → Int32) (l1 : Int32) (l2 : Int32), (3100 - l2.toInt).toNat = n → zF wr_200 m0 m → zV m → (0 ≤ l2.toInt) → (zW (m 94 7) (m 98) (m 101) (m 102) (m 108)) → (zGU T (m 94 46) (m 99)) → (zOw (m 99) (m 103) (m 111)) → (zrm (m0 99) (m 99) (m 110) l2.toNatClampNeg) → (zowr (m0 111) (m 111) (m0 99) (m 110) (m 103)) → zm X 2 44 200 4 [(0, .inr (.inr (some 94))), (1, .inl l1), (2, .inl l2)] m P := by
  intro n
  induction n using Nat.strongRecOn with
  | _ n IH =>
    intro m l1 l2 hmu hF hV hi0 r_W r_GU r_OW r_RM r_OWR
    refine g_200_4 l1 l2 ?_
    have li1 : (3100 : Int32).toInt = 3100 := rfl
    have b2 := i_bd l2
    refine zd (fun (h3 : (3100 : Int32) ≤ l2) => ?_) (fun (h3 : ¬ (3100 : Int32) ≤ l2) => ?_)
    · skip
      have g4 := i_le h3
      have b5 := i_bd l1
      exact K (l1) _ hF hV (show zrm (m0 99) (m 99) (m 110) 3100 from by first | (exact rm_end r_RM (by rw [tn_eq]; omega)) | (exfalso; omega; done) | (exfalso; contradiction; done)) r_OWR r_GU r_OW
    · skip
      have g6 := i_nle h3
      have hg7 : (0 ≤ l2 ∧ l2.toNatClampNeg < 3100) := i_ix (by omega) (by omega)
      refine ⟨hg7, ?_⟩
      first | have f8 : 0 ≤ (m 99 l2.toNatClampNeg).toInt ∧ (m 99 l2.toNatClampNeg).toInt ≤ 1 := ra_99 (m := m) hV (k := l2.toNatClampNeg) (i_ix (n := 3100) (by omega) (by omega)).2 | have b9 := i_bd (m 99 l2.toNatClampNeg)
      have li10 : (0 : Int32).toInt = 0 := rfl
      refine zd (fun (h11 : (m 99 l2.toNatClampNeg) = (0 : Int32)) => ?_) (fun (h11 : ¬ (m 99 l2.toNatClampNeg) = (0 : Int32)) => ?_)
      · skip
        have g12 := i_eq h11
        have b13 := i_bd l1
        first | have e14 : (l2 + (1 : Int32)).toInt = l2.toInt + (1) := i_addk rfl (by omega) (by omega) | have b15 := i_bd (l2 + (1 : Int32))
        exact IH (3100 - (l2 + (1 : Int32)).toInt).toNat (by omega) _ (l1) ((l2 + (1 : Int32))) rfl hF hV (by omega) r_W r_GU r_OW (show zrm (m0 99) (m 99) (m 110) (l2 + (1 : Int32)).toNatClampNeg from by first | (exact rm_skip r_RM (Or.inl (by assumption)) (tn_succ (by omega) (by omega))) | (exact rm_skip r_RM (Or.inr (by assumption)) (tn_succ (by omega) (by omega))) | (exfalso; omega; done) | (exfalso; contradiction; done)) r_OWR
      · skip
        have g16 := i_ne h11
        have hg17 : (0 ≤ l2 ∧ l2.toNatClampNeg < 3100) := i_ix (by omega) (by omega)
        refine ⟨hg17, ?_⟩
        first | have f18 : 0 ≤ (m 110 l2.toNatClampNeg).toInt ∧ (m 110 l2.toNatClampNeg).toInt ≤ 1 := ra_110 (m := m) hV (k := l2.toNatClampNeg) (i_ix (n := 3100) (by omega) (by omega)).2 | have b19 := i_bd (m 110 l2.toNatClampNeg)
        refine zd (fun (h20 : (m 110 l2.toNatClampNeg) = (0 : Int32)) => ?_) (fun (h20 : ¬ (m 110 l2.toNatClampNeg) = (0 : Int32)) => ?_)
        · skip
          have g21 := i_eq h20
          have hg22 : (0 ≤ l2 ∧ l2.toNatClampNeg < 3100) := i_ix (by omega) (by omega)
          refine ⟨hg22, ?_⟩
          have f23 : 0 ≤ (m 94 10).toInt ∧ (m 94 10).toInt ≤ 6 := rs_94_10 (m := m) hV
          have li24 : (4 : Int32).toInt = 4 := rfl
          refine zd (fun (h25 : (m 94 10) = (4 : Int32)) => ?_) (fun (h25 : ¬ (m 94 10) = (4 : Int32)) => ?_)
          · skip
            have g26 := i_eq h25
            have b27 := i_bd l1
            first | have f28 : 0 ≤ (m 102 l2.toNatClampNeg).toInt ∧ (m 102 l2.toNatClampNeg).toInt ≤ 60 := ra_102 (m := m) hV (k := l2.toNatClampNeg) (i_ix (n := 3100) (by omega) (by omega)).2 | have b29 := i_bd (m 102 l2.toNatClampNeg)
            first | have e30 : ((m 102 l2.toNatClampNeg) + (1 : Int32)).toInt = (m 102 l2.toNatClampNeg).toInt + (1) := i_addk rfl (by omega) (by omega) | have b31 := i_bd ((m 102 l2.toNatClampNeg) + (1 : Int32))
            first | have e32 : (l1 + ((m 102 l2.toNatClampNeg) + (1 : Int32))).toInt = l1.toInt + ((m 102 l2.toNatClampNeg) + (1 : Int32)).toInt := i_add (by omega) (by omega) | have b33 := i_bd (l1 + ((m 102 l2.toNatClampNeg) + (1 : Int32)))
            exact lp_200_50 h0 K (fun _ _ _ z1 z2 z3 y0 y1 y2 y3 y4 y5 => IH _ z1 _ _ _ rfl z2 z3 y0 y1 y2 y3 y4 y5) _ _ ((l1 + ((m 102 l2.toNatClampNeg) + (1 : Int32)))) (l2) ((0 : Int32)) rfl hF hV (by omega) (by omega) (by omega) (by omega) r_W r_GU r_OW r_RM r_OWR (show (m 99) l2.toNatClampNeg ≠ 0 ∧ (m 110) l2.toNatClampNeg = 0 from by first | (exact ⟨by assumption, by assumption⟩) | (exfalso; omega; done) | (exfalso; contradiction; done))
          · skip
            have g34 := i_ne h25
            have hg35 : (0 ≤ l2 ∧ l2.toNatClampNeg < 3100) := i_ix (by omega) (by omega)
            refine ⟨hg35, ?_⟩
            have hg36 : (0 ≤ l2 ∧ l2.toNatClampNeg < 3100) := i_ix (by omega) (by omega)
            refine ⟨hg36, ?_⟩
            first | have f37 : 0 ≤ (m 103 l2.toNatClampNeg).toInt ∧ (m 103 l2.toNatClampNeg).toInt ≤ 4599 := ra_103 (m := m) hV (k := l2.toNatClampNeg) (i_ix (n := 3100) (by omega) (by omega)).2 | have b38 := i_bd (m 103 l2.toNatClampNeg)
            have hg39 : (0 ≤ (m 103 l2.toNatClampNeg) ∧ (m 103 l2.toNatClampNeg).toNatClampNeg < 4600) := i_ix (by omega) (by omega)
            refine ⟨hg39, ?_⟩
            have hg40 : (0 ≤ l2 ∧ l2.toNatClampNeg < 3100) := i_ix (by omega) (by omega)
            refine ⟨hg40, ?_⟩
            have hg41 : (0 ≤ l2 ∧ l2.toNatClampNeg < 3100) := i_ix (by omega) (by omega)
            refine ⟨hg41, ?_⟩
            have hV42 : zV (ma_u m 99 l2.toNatClampNeg (0 : Int32)) := ua_99 hV (by omega) (by omega)
            have li44 : (-1 : Int32).toInt = -1 := rfl
            have hV43 : zV (ma_u (ma_u m 99 l2.toNatClampNeg (0 : Int32)) 111 (m 103 l2.toNatClampNeg).toNatClampNeg (-1 : Int32)) := ua_111 hV42 (by omega) (by omega)
            have hV45 : zV (ma_u (ma_u (ma_u m 99 l2.toNatClampNeg (0 : Int32)) 111 (m 103 l2.toNatClampNeg).toNatClampNeg (-1 : Int32)) 94 44 ((m 94 44) - (1 : Int32))) := uf_94_44 hV43
            have hV46 : zV (ma_u (ma_u (ma_u (ma_u m 99 l2.toNatClampNeg (0 : Int32)) 111 (m 103 l2.toNatClampNeg).toNatClampNeg (-1 : Int32)) 94 44 ((m 94 44) - (1 : Int32))) 94 45 ((m 94 45) - ((m 102 l2.toNatClampNeg) + (1 : Int32)))) := uf_94_45 hV45
            have hV47 : zV (ma_u (ma_u (ma_u (ma_u (ma_u m 99 l2.toNatClampNeg (0 : Int32)) 111 (m 103 l2.toNatClampNeg).toNatClampNeg (-1 : Int32)) 94 44 ((m 94 44) - (1 : Int32))) 94 45 ((m 94 45) - ((m 102 l2.toNatClampNeg) + (1 : Int32)))) 94 49 ((m 94 49) + ((m 102 l2.toNatClampNeg) + (1 : Int32)))) := uf_94_49 hV46
            have b48 := i_bd l1
            first | have f49 : 0 ≤ (m 102 l2.toNatClampNeg).toInt ∧ (m 102 l2.toNatClampNeg).toInt ≤ 60 := ra_102 (m := m) hV (k := l2.toNatClampNeg) (i_ix (n := 3100) (by omega) (by omega)).2 | have b50 := i_bd (m 102 l2.toNatClampNeg)
            first | have e51 : ((m 102 l2.toNatClampNeg) + (1 : Int32)).toInt = (m 102 l2.toNatClampNeg).toInt + (1) := i_addk rfl (by omega) (by omega) | have b52 := i_bd ((m 102 l2.toNatClampNeg) + (1 : Int32))
            first | have e53 : (l1 + ((m 102 l2.toNatClampNeg) + (1 : Int32))).toInt = l1.toInt + ((m 102 l2.toNatClampNeg) + (1 : Int32)).toInt := i_add (by omega) (by omega) | have b54 := i_bd (l1 + ((m 102 l2.toNatClampNeg) + (1 : Int32)))
            first | have e55 : (l2 + (1 : Int32)).toInt = l2.toInt + (1) := i_addk rfl (by omega) (by omega) | have b56 := i_bd (l2 + (1 : Int32))
            exact IH (3100 - (l2 + (1 : Int32)).toInt).toNat (by omega) _ ((l1 + ((m 102 l2.toNatClampNeg) + (1 : Int32)))) ((l2 + (1 : Int32))) rfl (zF_u (zF_u (zF_u (zF_u (zF_u hF rfl) rfl) rfl) rfl) rfl) hV47 (by omega) r_W (show zGU T (m 94 46) ((ma_u m 99 l2.toNatClampNeg (0 : Int32)) 99) from by first | (exact GU_0 r_GU) | (exfalso; omega; done) | (exfalso; contradiction; done)) (show zOw ((ma_u m 99 l2.toNatClampNeg (0 : Int32)) 99) (m 103) ((ma_u m 111 (m 103 l2.toNatClampNeg).toNatClampNeg (-1 : Int32)) 111) from by first | (exact Ow_rm r_OW (by decide) (tn_cast (by omega)).symm) | (exfalso; omega; done) | (exfalso; contradiction; done)) (show zrm (m0 99) ((ma_u m 99 l2.toNatClampNeg (0 : Int32)) 99) (m 110) (l2 + (1 : Int32)).toNatClampNeg from by first | (exact rm_put r_RM (by assumption) (tn_succ (by omega) (by omega))) | (exfalso; omega; done) | (exfalso; contradiction; done)) (show zowr (m0 111) ((ma_u m 111 (m 103 l2.toNatClampNeg).toNatClampNeg (-1 : Int32)) 111) (m0 99) (m 110) (m 103) from by first | (exact owr_put r_OWR (s := l2.toNatClampNeg) (by omega) (rm_us r_RM (by omega) (by assumption)) (by assumption) (by decide) (tn_cast (by omega)).symm) | (exfalso; omega; done) | (exfalso; contradiction; done))
        · skip
          have g57 := i_ne h20
          have b58 := i_bd l1
          first | have e59 : (l2 + (1 : Int32)).toInt = l2.toInt + (1) := i_addk rfl (by omega) (by omega) | have b60 := i_bd (l2 + (1 : Int32))
          exact IH (3100 - (l2 + (1 : Int32)).toInt).toNat (by omega) _ (l1) ((l2 + (1 : Int32))) rfl hF hV (by omega) r_W r_GU r_OW (show zrm (m0 99) (m 99) (m 110) (l2 + (1 : Int32)).toNatClampNeg from by first | (exact rm_skip r_RM (Or.inl (by assumption)) (tn_succ (by omega) (by omega))) | (exact rm_skip r_RM (Or.inr (by assumption)) (tn_succ (by omega) (by omega))) | (exfalso; omega; done) | (exfalso; contradiction; done)) r_OWR
theorem sp_200 {X : Nat × (Nat → Int32)} {P : Option ma_V → (Nat → Nat → Int32) → Prop} {T : Nat} {m : Nat → Nat → Int32}  (hV : zV m) (r_W : zW (m 94 7) (m 98) (m 101) (m 102) (m 108)) (r_GU : zGU T (m 94 46) (m 99)) (r_OW : zOw (m 99) (m 103) (m 111)) (KZ : ∀ v m₉, zV (zov wr_200 m m₉) → (zrm (m 99) (m₉ 99) (m 110) 3100) → (zowr (m 111) (m₉ 111) (m 99) (m 110) (m 103)) → (zGU T (m 94 46) (m₉ 99)) → (zOw (m₉ 99) (m 103) (m₉ 111)) → P (some (.inl v)) (zov wr_200 m m₉)) : zm X 2 44 200 0 [(0, .inr (.inr (some 94)))] m P := by
  have K : ∀ v m₉, zF wr_200 m m₉ → zV m₉ → (zrm (m 99) (m₉ 99) (m₉ 110) 3100) → (zowr (m 111) (m₉ 111) (m 99) (m₉ 110) (m₉ 103)) → (zGU T (m₉ 94 46) (m₉ 99)) → (zOw (m₉ 99) (m₉ 103) (m₉ 111)) → P (some (.inl v)) m₉ := by
    intro v m₉ hf z q0 q1 q2 q3
    have e := zov_eq hf
    rw [e] at z ⊢
    try rw [e] at q0
    try rw [e] at q1
    try rw [e] at q2
    try rw [e] at q3
    exact KZ v m₉ z q0 q1 q2 q3
  refine g_200_0  ?_
  have li1 : (0 : Int32).toInt = 0 := rfl
  exact lp_200_4 hV K _ _ ((0 : Int32)) ((0 : Int32)) rfl zF_rfl hV (by omega) r_W r_GU r_OW (show zrm (m 99) (m 99) (m 110) (0 : Int32).toNatClampNeg from by first | (exact rm_0) | (exfalso; omega; done) | (exfalso; contradiction; done)) (show zowr (m 111) (m 111) (m 99) (m 110) (m 103) from by first | (exact owr_rfl) | (exfalso; omega; done) | (exfalso; contradiction; done))

/-! from 94.419 -/
/-! the reference (written by wip/tools/gen94m.py) -/
set_option maxRecDepth 100000 in
theorem hm_187 : ma_md 187 = some (12, yX12_sweep, cX12_sweep, 1, (some (FieldType.int))) := rfl
theorem f_12_249_12 : ma_fld 12 249 12 = some 47 := by decide +kernel
theorem p_12_249_12 : ma_pk 12 249 12 47 = true := by decide +kernel
theorem v_12_311_12 : ma_vl 12 311 12 = some (1, 188, 0) := by decide +kernel
theorem v_12_336_12 : ma_vl 12 336 12 = some (1, 194, 0) := by decide +kernel
theorem v_12_339_12 : ma_vl 12 339 12 = some (1, 199, 0) := by decide +kernel
theorem v_12_342_12 : ma_vl 12 342 12 = some (1, 200, 0) := by decide +kernel
theorem dX12_sweep_0 : decode cX12_sweep 0 = .ok (.aload_n 0, 1) := by decide +kernel
theorem dX12_sweep_1 : decode cX12_sweep 1 = .ok (.dup, 1) := by decide +kernel
theorem dX12_sweep_5 : decode cX12_sweep 5 = .ok (.iconst 1, 1) := by decide +kernel
theorem dX12_sweep_6 : decode cX12_sweep 6 = .ok (.iadd, 1) := by decide +kernel
theorem dX12_sweep_10 : decode cX12_sweep 10 = .ok (.aload_n 0, 1) := by decide +kernel
theorem dX12_sweep_11 : decode cX12_sweep 11 = .ok (.invokevirtual 311, 3) := by decide +kernel
theorem dX12_sweep_14 : decode cX12_sweep 14 = .ok (.aload_n 0, 1) := by decide +kernel
theorem dX12_sweep_15 : decode cX12_sweep 15 = .ok (.invokevirtual 336, 3) := by decide +kernel
theorem dX12_sweep_18 : decode cX12_sweep 18 = .ok (.aload_n 0, 1) := by decide +kernel
theorem dX12_sweep_19 : decode cX12_sweep 19 = .ok (.invokevirtual 339, 3) := by decide +kernel
theorem dX12_sweep_22 : decode cX12_sweep 22 = .ok (.aload_n 0, 1) := by decide +kernel
theorem dX12_sweep_23 : decode cX12_sweep 23 = .ok (.invokevirtual 342, 3) := by decide +kernel
theorem dX12_sweep_26 : decode cX12_sweep 26 = .ok (.ireturn, 1) := by decide +kernel
theorem dX12_sweep_7 : decode cX12_sweep 7 = .ok (.putfield 249, 3) := by decide +kernel
theorem dX12_sweep_2 : decode cX12_sweep 2 = .ok (.getfield 249, 3) := by decide +kernel
def wr_187 (c k : Nat) : Bool := Nat.beq c 99 || Nat.beq c 105 || Nat.beq c 109 || Nat.beq c 110 || Nat.beq c 111 || Nat.beq c 113 || Nat.beq c 114 || Nat.beq c 118 || (Nat.beq c 94 && (Nat.beq k 44 || Nat.beq k 45 || Nat.beq k 47 || Nat.beq k 49 || Nat.beq k 55 || Nat.beq k 73))
theorem ws_188_187 : ∀ c k, wr_188 c k = true → wr_187 c k = true := by
  intro c k h
  simp only [wr_188, Bool.or_eq_true, Bool.and_eq_true, Nat.beq_eq] at h
  rcases h with (rfl | rfl) | ⟨rfl, rfl⟩ <;> rfl
theorem ws_194_187 : ∀ c k, wr_194 c k = true → wr_187 c k = true := by
  intro c k h
  simp only [wr_194, Bool.or_eq_true, Bool.and_eq_true, Nat.beq_eq] at h
  rcases h with (((((rfl | rfl) | rfl) | rfl) | rfl) | rfl) | ⟨rfl, (rfl | rfl)⟩ <;> rfl
theorem ws_199_187 : ∀ c k, wr_199 c k = true → wr_187 c k = true := by
  intro c k h
  simp only [wr_199, wr_187, Bool.or_eq_true, Bool.and_eq_true, Nat.beq_eq] at h ⊢
  omega
theorem ws_200_187 : ∀ c k, wr_200 c k = true → wr_187 c k = true := by
  intro c k h
  simp only [wr_200, Bool.or_eq_true, Bool.and_eq_true, Nat.beq_eq] at h
  rcases h with ((rfl | rfl) | rfl) | ⟨rfl, ((rfl | rfl) | rfl)⟩ <;> rfl
theorem g_187_0 {X : Nat × (Nat → Int32)} {m : Nat → Nat → Int32} {P : Option ma_V → (Nat → Nat → Int32) → Prop}  (h : zm X 3 66 188 0 [(0, .inr (.inr (some 94)))] (ma_u m 94 47 ((m 94 47) + (1 : Int32))) (zmv (fun m1 => zm X 3 66 194 0 [(0, .inr (.inr (some 94)))] m1 (zmv (fun m3 => zm X 0 0 199 0 [(0, .inr (.inr (some 94)))] m3 (zmv (fun m5 => zm X 2 44 200 0 [(0, .inr (.inr (some 94)))] m5 (zmi (fun v8 m7 => P (some (.inl v8)) m7))))))))) : zm X 4 88 187 0 [(0, .inr (.inr (some 94)))] m P := by
  intro d w S Q hd hw hS hm HQ
  subst hm
  refine zw_push hm_187 dX12_sweep_0 (v := .inr (.inr (some 94))) rfl ?_
  refine zw_stk hm_187 dX12_sweep_1 (st₉ := [.inr (.inr (some 94)), .inr (.inr (some 94))]) rfl rfl ?_
  refine zw_gf hm_187 dX12_sweep_2 (v := .inl ((mI S) 94 47)) (zT_is hS s_94) (zT_t hS s_94) rfl f_12_249_12 rfl ?_
  refine zw_push hm_187 dX12_sweep_5 (v := .inl (1 : Int32)) rfl ?_
  refine zw_stk hm_187 dX12_sweep_6 (st₉ := [.inl (((mI S) 94 47) + (1 : Int32)), .inr (.inr (some 94))]) rfl rfl ?_
  refine zw_pf hm_187 dX12_sweep_7 (zT_is hS s_94) (zT_t hS s_94) p_12_249_12 zk_int ?_
  refine zw_push hm_187 dX12_sweep_10 (v := .inr (.inr (some 94))) rfl ?_
  refine zw_cv hm_187 dX12_sweep_11 v_12_311_12 hm_188 [] [] rfl (zT_rt (zT_pi hS) s_94 rfl) ⟨by omega, by omega⟩ rfl (h _ _ (ma_put S 94 47 (.inl (((mI S) 94 47) + (1 : Int32)))) _ (by omega) (by omega) (zT_pi hS) rfl (fun o9 m1 hv => ?_))
  obtain ⟨rfl, h⟩ := zmv_of hv
  show ma_wp X d w 187 14 [(0, .inr (.inr (some 94)))] [] (zst S m1) _
  refine zw_push hm_187 dX12_sweep_14 (v := .inr (.inr (some 94))) rfl ?_
  refine zw_cv hm_187 dX12_sweep_15 v_12_336_12 hm_194 [] [] rfl (zT_rt (zT_zst hS m1) s_94 rfl) ⟨by omega, by omega⟩ rfl (h _ _ (zst S m1) _ (by omega) (by omega) (zT_zst hS m1) rfl (fun o9 m3 hv => ?_))
  obtain ⟨rfl, h⟩ := zmv_of hv
  show ma_wp X d w 187 18 [(0, .inr (.inr (some 94)))] [] (zst S m3) _
  refine zw_push hm_187 dX12_sweep_18 (v := .inr (.inr (some 94))) rfl ?_
  refine zw_cv hm_187 dX12_sweep_19 v_12_339_12 hm_199 [] [] rfl (zT_rt (zT_zst hS m3) s_94 rfl) ⟨by omega, by omega⟩ rfl (h _ _ (zst S m3) _ (by omega) (by omega) (zT_zst hS m3) rfl (fun o9 m5 hv => ?_))
  obtain ⟨rfl, h⟩ := zmv_of hv
  show ma_wp X d w 187 22 [(0, .inr (.inr (some 94)))] [] (zst S m5) _
  refine zw_push hm_187 dX12_sweep_22 (v := .inr (.inr (some 94))) rfl ?_
  refine zw_cv hm_187 dX12_sweep_23 v_12_342_12 hm_200 [] [] rfl (zT_rt (zT_zst hS m5) s_94 rfl) ⟨by omega, by omega⟩ rfl (h _ _ (zst S m5) _ (by omega) (by omega) (zT_zst hS m5) rfl (fun o9 m7 hv => ?_))
  obtain ⟨v8, rfl, h⟩ := zmi_of hv
  show ma_wp X d w 187 26 [(0, .inr (.inr (some 94)))] [.inl v8] (zst S m7) _
  exact zw_iret hm_187 dX12_sweep_26 (HQ _ _ h)
theorem sp_187 {X : Nat × (Nat → Int32)} {P : Option ma_V → (Nat → Nat → Int32) → Prop} {T : Nat} {m : Nat → Nat → Int32}  (hV : zV m) (r_W : zW (m 94 7) (m 98) (m 101) (m 102) (m 108)) (r_GW : zGW T (m 94 55) (m 109)) (r_GU : zGU T (m 94 46) (m 99)) (r_OW : zOw (m 99) (m 103) (m 111)) (r_DX : zDX (m 94 10) (m 99) (m 112) (m 113) (m 114) (m 94 55) (m 98) (m 101) (m 102) (m 108)) (KZ : ∀ v m₉, zV (zov wr_187 m m₉) → (zGW T (m₉ 94 55) (m₉ 109)) → (zGU T (m 94 46) (m₉ 99)) → (zOw (m₉ 99) (m 103) (m₉ 111)) → (zDX (m 94 10) (m₉ 99) (m 112) (m₉ 113) (m₉ 114) (m₉ 94 55) (m 98) (m 101) (m 102) (m 108)) → (zsw (m 99) (m₉ 99) (m 111) (m₉ 111) (m 103)) → P (some (.inl v)) (zov wr_187 m m₉)) : zm X 4 88 187 0 [(0, .inr (.inr (some 94)))] m P := by
  have K : ∀ v m₉, zF wr_187 m m₉ → zV m₉ → (zGW T (m₉ 94 55) (m₉ 109)) → (zGU T (m₉ 94 46) (m₉ 99)) → (zOw (m₉ 99) (m₉ 103) (m₉ 111)) → (zDX (m₉ 94 10) (m₉ 99) (m₉ 112) (m₉ 113) (m₉ 114) (m₉ 94 55) (m₉ 98) (m₉ 101) (m₉ 102) (m₉ 108)) → (zsw (m 99) (m₉ 99) (m 111) (m₉ 111) (m₉ 103)) → P (some (.inl v)) m₉ := by
    intro v m₉ hf z q0 q1 q2 q3 q4
    have e := zov_eq hf
    rw [e] at z ⊢
    try rw [e] at q0
    try rw [e] at q1
    try rw [e] at q2
    try rw [e] at q3
    try rw [e] at q4
    exact KZ v m₉ z q0 q1 q2 q3 q4
  refine g_187_0  ?_
  have hV1 : zV (ma_u m 94 47 ((m 94 47) + (1 : Int32))) := uf_94_47 hV
  refine sp_188  hV1 r_W r_DX (fun m1 hV_m1 p0_m1 p1_m1 p2_m1 p3_m1 p4_m1 => zmv_n ?_)
  have p0_m1 : (m1 94 73).toInt = 0 := p0_m1
  have p1_m1 : ((m 94 10).toInt = 2 ∨ (m 94 10).toInt = 3) → zCL (m1 110) (m 98) (m 101) (m 102) (m 108) (m1 118) (m1 94 73) 3100 0 := p1_m1
  have p2_m1 : zKU (m 94 10) (m 99) (m1 110) := p2_m1
  have p3_m1 : ((m 94 10).toInt = 2 ∨ (m 94 10).toInt = 3) → zcov (m1 110) (m 112) 16 := p3_m1
  have p4_m1 : ((m 94 10).toInt = 2 ∨ (m 94 10).toInt = 3) → zcov (m1 110) (m 114) (m 94 55).toInt := p4_m1
  have f2 : 0 ≤ (m1 94 73).toInt ∧ (m1 94 73).toInt ≤ 3100 := rs_94_73 (m := (zov wr_188 (ma_u m 94 47 ((m 94 47) + (1 : Int32))) m1)) hV_m1
  refine sp_194  hV_m1 (show (m1 94 73).toInt = 0 from by omega) r_W r_GW p1_m1 p2_m1 r_DX p3_m1 p4_m1 (fun m3 hV_m3 p0_m3 p1_m3 p2_m3 p3_m3 p4_m3 p5_m3 p6_m3 p7_m3 => zmv_n ?_)
  have p0_m3 : (m3 94 73).toInt = 0 := p0_m3
  have p1_m3 : zGW T (m3 94 55) (m3 109) := p1_m3
  have p2_m3 : ((m 94 10).toInt = 2 ∨ (m 94 10).toInt = 3) → zCL (m3 110) (m 98) (m 101) (m 102) (m 108) (m3 118) (m3 94 73) 3100 0 := p2_m3
  have p3_m3 : zKU (m 94 10) (m 99) (m3 110) := p3_m3
  have p4_m3 : zDX (m 94 10) (m 99) (m 112) (m3 113) (m3 114) (m3 94 55) (m 98) (m 101) (m 102) (m 108) := p4_m3
  have p5_m3 : ((m 94 10).toInt = 2 ∨ (m 94 10).toInt = 3) → zcov (m3 110) (m 112) 16 := p5_m3
  have p6_m3 : ((m 94 10).toInt = 2 ∨ (m 94 10).toInt = 3) → zcov (m3 110) (m3 114) (m3 94 55).toInt := p6_m3
  have p7_m3 : zuw (m 113) (m3 113) := p7_m3
  have f3 : 0 ≤ (m3 94 73).toInt ∧ (m3 94 73).toInt ≤ 3100 := rs_94_73 (m := (zov wr_194 (zov wr_188 (ma_u m 94 47 ((m 94 47) + (1 : Int32))) m1) m3)) hV_m3
  refine sp_199  hV_m3  (fun m5 hV_m5 p0_m5 p1_m5 => zmv_n ?_)
  have p0_m5 : zuw (m3 113) (m5 113) := p0_m5
  have p1_m5 : zcov (m3 110) (m5 113) 16 := p1_m5
  refine sp_200  hV_m5 r_W r_GU r_OW (fun v8 m7 hV_m7 p0_m7 p1_m7 p2_m7 p3_m7 => zmi_n ?_)
  have p0_m7 : zrm (m 99) (m7 99) (m3 110) 3100 := p0_m7
  have p1_m7 : zowr (m 111) (m7 111) (m 99) (m3 110) (m 103) := p1_m7
  have p2_m7 : zGU T (m 94 46) (m7 99) := p2_m7
  have p3_m7 : zOw (m7 99) (m 103) (m7 111) := p3_m7
  have b4 := i_bd v8
  exact K (v8) _ (zF_zov (zF_zov (zF_zov (zF_zov (zF_u zF_rfl rfl) ws_188_187) ws_194_187) ws_199_187) ws_200_187) hV_m7 p1_m3 p2_m7 p3_m7 (show zDX (m 94 10) (m7 99) (m 112) (m5 113) (m3 114) (m3 94 55) (m 98) (m 101) (m 102) (m 108) from by first | (exact fun hp => DX_sweep (p2_m3 hp) (by omega) (p5_m3 hp) (p6_m3 hp) p1_m5 p3_m3 p0_m7 (fun k hk => (ra_112 hV_m7 (by omega)).2) (fun k hk => (ra_114 hV_m7 (by have := GW_room p1_m3; omega)).2) (fun k hk => (ra_113 hV_m7 (by omega)).2) (W_hi r_W) hp) | (exfalso; omega; done) | (exfalso; contradiction; done)) (show zsw (m 99) (m7 99) (m 111) (m7 111) (m 103) from by first | (exact sw_of p0_m7 p1_m7) | (exfalso; omega; done) | (exfalso; contradiction; done))

/-! from 94.420 -/
/-! marking in steps -/
def zG1 (gm ga : Int32) (co : Nat → Int32) : Prop := ga.toInt ≤ gm.toInt ∧ gm.toInt ≤ (cnt co 3100 : Int)
def zGG (im gm ga : Int32) (co : Nat → Int32) : Prop := im.toInt ≠ 0 → zG1 gm ga co
def zfm (im ga gm : Int32) : Nat := if im.toInt = 0 then 0 else 1 + 2 * (3100 - ga.toInt).toNat + (if ga.toInt < gm.toInt then 0 else 1)
section GG1
variable {m : Nat → Nat → Int32} {c k : Nat} {gm gm₉ ga ga₉ x im im₉ : Int32} {r : Nat → Int32}
theorem G1_push (h : zG1 gm ga (m c)) (h0 : m c k = 0) (hk : k < 3100) (hx : x ≠ 0) (hy : gm₉.toInt = gm.toInt + 1) : zG1 gm₉ ga (ma_u m c k x c) := by
  have := cnt_up (x := x) hk h0 hx
  exact ⟨by have := h.1; omega, by have := h.2; omega⟩
theorem G1_room (h : zG1 gm ga r) (h0 : r k = 0) (hk : k < 3100) : gm.toInt < 3100 := by
  have := cnt_lt hk h0
  have := h.2
  omega
theorem G1_dark (h : zG1 gm ga (m c)) (hx : x ≠ 0) (hy : ga₉.toInt ≤ gm.toInt) : zG1 gm ga₉ (ma_u m c k x c) := by
  have := cnt_u1 (m := m) (c := c) (k := k) (n := 3100) hx
  exact ⟨hy, by have := h.2; omega⟩
theorem G1_dark0 (h : zG1 gm ga (m c)) (hx : x ≠ 0) : zG1 gm ga (ma_u m c k x c) := G1_dark h hx h.1
theorem G1_0 (h : gm.toInt = 0) (h₉ : ga.toInt = 0) : zG1 gm ga r := ⟨by omega, by omega⟩
theorem zfm_lt (him : im.toInt ≠ 0) (hle : ga.toInt ≤ gm.toInt) (h0 : 0 ≤ ga.toInt) (h : im₉.toInt = 0 ∨ (ga₉.toInt < gm₉.toInt ∧ gm₉.toInt ≤ 3100 ∧ (ga.toInt < gm.toInt → ga.toInt < ga₉.toInt) ∧ ga.toInt ≤ ga₉.toInt)) : zfm im₉ ga₉ gm₉ < zfm im ga gm := by
  unfold zfm
  rw [if_neg him]
  rcases h with e | ⟨e1, e2, e3, e4⟩
  · rw [if_pos e]; omega
  · split
    · omega
    · (try rw [if_pos e1])
      split <;> omega
end GG1

/-! from 94.421 -/
/-! the reference (written by wip/tools/gen94m.py) -/
set_option maxRecDepth 100000 in
theorem hm_220 : ma_md 220 = some (12, yX12_greyRoots, cX12_greyRoots, 4, none) := rfl
set_option maxRecDepth 100000 in
theorem hm_221 : ma_md 221 = some (12, yX12_toGrey, cX12_toGrey, 2, none) := rfl
theorem s_106 : zs 106 = some (20, 3100) := rfl
theorem s_115 : zs 115 = some (20, 3100) := rfl
theorem r_94_38 : zfi 94 38 = some 106 := rfl
theorem r_94_54 : zfi 94 54 = some 115 := rfl
theorem f_12_49_12 : ma_fld 12 49 12 = some 38 := by decide +kernel
theorem f_12_77_12 : ma_fld 12 77 12 = some 54 := by decide +kernel
theorem f_12_264_12 : ma_fld 12 264 12 = some 56 := by decide +kernel
theorem p_12_264_12 : ma_pk 12 264 12 56 = true := by decide +kernel
theorem v_12_396_12 : ma_vl 12 396 12 = some (1, 221, 1) := by decide +kernel
theorem dX12_greyRoots_0 : decode cX12_greyRoots 0 = .ok (.iconst 0, 1) := by decide +kernel
theorem dX12_greyRoots_1 : decode cX12_greyRoots 1 = .ok (.istore_n 1, 1) := by decide +kernel
theorem dX12_greyRoots_2 : decode cX12_greyRoots 2 = .ok (.iload_n 1, 1) := by decide +kernel
theorem dX12_greyRoots_3 : decode cX12_greyRoots 3 = .ok (.bipush 16, 2) := by decide +kernel
theorem dX12_greyRoots_24 : decode cX12_greyRoots 24 = .ok (.iconst 0, 1) := by decide +kernel
theorem dX12_greyRoots_25 : decode cX12_greyRoots 25 = .ok (.istore_n 1, 1) := by decide +kernel
theorem dX12_greyRoots_8 : decode cX12_greyRoots 8 = .ok (.aload_n 0, 1) := by decide +kernel
theorem dX12_greyRoots_9 : decode cX12_greyRoots 9 = .ok (.aload_n 0, 1) := by decide +kernel
theorem dX12_greyRoots_13 : decode cX12_greyRoots 13 = .ok (.iload_n 1, 1) := by decide +kernel
theorem dX12_greyRoots_15 : decode cX12_greyRoots 15 = .ok (.invokevirtual 396, 3) := by decide +kernel
theorem dX12_toGrey_0 : decode cX12_toGrey 0 = .ok (.iload_n 1, 1) := by decide +kernel
theorem dX12_greyRoots_18 : decode cX12_greyRoots 18 = .ok (.iinc 1 1, 3) := by decide +kernel
theorem dX12_greyRoots_21 : decode cX12_greyRoots 21 = .ok (.goto (-19), 3) := by decide +kernel
theorem dX12_toGrey_13 : decode cX12_toGrey 13 = .ok (.return_, 1) := by decide +kernel
theorem dX12_toGrey_4 : decode cX12_toGrey 4 = .ok (.aload_n 0, 1) := by decide +kernel
theorem dX12_toGrey_8 : decode cX12_toGrey 8 = .ok (.iload_n 1, 1) := by decide +kernel
theorem dX12_toGrey_14 : decode cX12_toGrey 14 = .ok (.aload_n 0, 1) := by decide +kernel
theorem dX12_toGrey_18 : decode cX12_toGrey 18 = .ok (.iload_n 1, 1) := by decide +kernel
theorem dX12_toGrey_19 : decode cX12_toGrey 19 = .ok (.iconst 1, 1) := by decide +kernel
theorem dX12_toGrey_21 : decode cX12_toGrey 21 = .ok (.aload_n 0, 1) := by decide +kernel
theorem dX12_toGrey_25 : decode cX12_toGrey 25 = .ok (.aload_n 0, 1) := by decide +kernel
theorem dX12_toGrey_29 : decode cX12_toGrey 29 = .ok (.iload_n 1, 1) := by decide +kernel
theorem dX12_toGrey_31 : decode cX12_toGrey 31 = .ok (.aload_n 0, 1) := by decide +kernel
theorem dX12_toGrey_32 : decode cX12_toGrey 32 = .ok (.dup, 1) := by decide +kernel
theorem dX12_toGrey_36 : decode cX12_toGrey 36 = .ok (.iconst 1, 1) := by decide +kernel
theorem dX12_toGrey_37 : decode cX12_toGrey 37 = .ok (.iadd, 1) := by decide +kernel
theorem dX12_toGrey_41 : decode cX12_toGrey 41 = .ok (.return_, 1) := by decide +kernel
theorem dX12_toGrey_38 : decode cX12_toGrey 38 = .ok (.putfield 264, 3) := by decide +kernel
theorem dX12_toGrey_33 : decode cX12_toGrey 33 = .ok (.getfield 264, 3) := by decide +kernel
theorem dX12_toGrey_30 : decode cX12_toGrey 30 = .ok (.iastore, 1) := by decide +kernel
theorem dX12_toGrey_26 : decode cX12_toGrey 26 = .ok (.getfield 264, 3) := by decide +kernel
theorem dX12_toGrey_22 : decode cX12_toGrey 22 = .ok (.getfield 77, 3) := by decide +kernel
theorem dX12_toGrey_20 : decode cX12_toGrey 20 = .ok (.iastore, 1) := by decide +kernel
theorem dX12_toGrey_15 : decode cX12_toGrey 15 = .ok (.getfield 49, 3) := by decide +kernel
theorem dX12_toGrey_10 : decode cX12_toGrey 10 = .ok (.ifCond .eq 4, 3) := by decide +kernel
theorem dX12_toGrey_9 : decode cX12_toGrey 9 = .ok (.iaload, 1) := by decide +kernel
theorem dX12_toGrey_5 : decode cX12_toGrey 5 = .ok (.getfield 49, 3) := by decide +kernel
theorem dX12_toGrey_1 : decode cX12_toGrey 1 = .ok (.ifCond .lt 12, 3) := by decide +kernel
theorem dX12_greyRoots_14 : decode cX12_greyRoots 14 = .ok (.iaload, 1) := by decide +kernel
theorem dX12_greyRoots_10 : decode cX12_greyRoots 10 = .ok (.getfield 68, 3) := by decide +kernel
theorem dX12_greyRoots_5 : decode cX12_greyRoots 5 = .ok (.if_icmp .ge 19, 3) := by decide +kernel
theorem dX12_greyRoots_26 : decode cX12_greyRoots 26 = .ok (.iload_n 1, 1) := by decide +kernel
theorem dX12_greyRoots_27 : decode cX12_greyRoots 27 = .ok (.aload_n 0, 1) := by decide +kernel
theorem dX12_greyRoots_50 : decode cX12_greyRoots 50 = .ok (.iconst (-1), 1) := by decide +kernel
theorem dX12_greyRoots_51 : decode cX12_greyRoots 51 = .ok (.istore_n 1, 1) := by decide +kernel
theorem dX12_greyRoots_34 : decode cX12_greyRoots 34 = .ok (.aload_n 0, 1) := by decide +kernel
theorem dX12_greyRoots_35 : decode cX12_greyRoots 35 = .ok (.aload_n 0, 1) := by decide +kernel
theorem dX12_greyRoots_39 : decode cX12_greyRoots 39 = .ok (.iload_n 1, 1) := by decide +kernel
theorem dX12_greyRoots_41 : decode cX12_greyRoots 41 = .ok (.invokevirtual 396, 3) := by decide +kernel
theorem dX12_greyRoots_44 : decode cX12_greyRoots 44 = .ok (.iinc 1 1, 3) := by decide +kernel
theorem dX12_greyRoots_47 : decode cX12_greyRoots 47 = .ok (.goto (-21), 3) := by decide +kernel
theorem dX12_greyRoots_40 : decode cX12_greyRoots 40 = .ok (.iaload, 1) := by decide +kernel
theorem dX12_greyRoots_36 : decode cX12_greyRoots 36 = .ok (.getfield 74, 3) := by decide +kernel
theorem dX12_greyRoots_31 : decode cX12_greyRoots 31 = .ok (.if_icmp .ge 19, 3) := by decide +kernel
theorem dX12_greyRoots_28 : decode cX12_greyRoots 28 = .ok (.getfield 261, 3) := by decide +kernel
theorem dX12_greyRoots_52 : decode cX12_greyRoots 52 = .ok (.iload_n 1, 1) := by decide +kernel
theorem dX12_greyRoots_53 : decode cX12_greyRoots 53 = .ok (.bipush (-2), 2) := by decide +kernel
theorem dX12_greyRoots_149 : decode cX12_greyRoots 149 = .ok (.return_, 1) := by decide +kernel
theorem dX12_greyRoots_58 : decode cX12_greyRoots 58 = .ok (.iconst (-1), 1) := by decide +kernel
theorem dX12_greyRoots_59 : decode cX12_greyRoots 59 = .ok (.istore_n 2, 1) := by decide +kernel
theorem dX12_greyRoots_60 : decode cX12_greyRoots 60 = .ok (.iconst 0, 1) := by decide +kernel
theorem dX12_greyRoots_61 : decode cX12_greyRoots 61 = .ok (.istore_n 3, 1) := by decide +kernel
theorem dX12_greyRoots_55 : decode cX12_greyRoots 55 = .ok (.if_icmp .eq 94, 3) := by decide +kernel
theorem dX12_greyRoots_62 : decode cX12_greyRoots 62 = .ok (.iload_n 3, 1) := by decide +kernel
theorem dX12_greyRoots_63 : decode cX12_greyRoots 63 = .ok (.sipush 3100, 3) := by decide +kernel
theorem dX12_greyRoots_124 : decode cX12_greyRoots 124 = .ok (.iload_n 2, 1) := by decide +kernel
theorem dX12_greyRoots_134 : decode cX12_greyRoots 134 = .ok (.aload_n 0, 1) := by decide +kernel
theorem dX12_greyRoots_135 : decode cX12_greyRoots 135 = .ok (.iload_n 2, 1) := by decide +kernel
theorem dX12_greyRoots_136 : decode cX12_greyRoots 136 = .ok (.invokevirtual 396, 3) := by decide +kernel
theorem dX12_greyRoots_139 : decode cX12_greyRoots 139 = .ok (.aload_n 0, 1) := by decide +kernel
theorem dX12_greyRoots_143 : decode cX12_greyRoots 143 = .ok (.iload_n 2, 1) := by decide +kernel
theorem dX12_greyRoots_145 : decode cX12_greyRoots 145 = .ok (.istore_n 1, 1) := by decide +kernel
theorem dX12_greyRoots_146 : decode cX12_greyRoots 146 = .ok (.goto (-94), 3) := by decide +kernel
theorem dX12_greyRoots_144 : decode cX12_greyRoots 144 = .ok (.iaload, 1) := by decide +kernel
theorem dX12_greyRoots_140 : decode cX12_greyRoots 140 = .ok (.getfield 31, 3) := by decide +kernel
theorem dX12_greyRoots_128 : decode cX12_greyRoots 128 = .ok (.bipush (-2), 2) := by decide +kernel
theorem dX12_greyRoots_130 : decode cX12_greyRoots 130 = .ok (.istore_n 1, 1) := by decide +kernel
theorem dX12_greyRoots_131 : decode cX12_greyRoots 131 = .ok (.goto 15, 3) := by decide +kernel
theorem dX12_greyRoots_125 : decode cX12_greyRoots 125 = .ok (.ifCond .ge 9, 3) := by decide +kernel
theorem dX12_greyRoots_69 : decode cX12_greyRoots 69 = .ok (.aload_n 0, 1) := by decide +kernel
theorem dX12_greyRoots_73 : decode cX12_greyRoots 73 = .ok (.iload_n 3, 1) := by decide +kernel
theorem dX12_greyRoots_118 : decode cX12_greyRoots 118 = .ok (.iinc 3 1, 3) := by decide +kernel
theorem dX12_greyRoots_121 : decode cX12_greyRoots 121 = .ok (.goto (-59), 3) := by decide +kernel
theorem dX12_greyRoots_78 : decode cX12_greyRoots 78 = .ok (.aload_n 0, 1) := by decide +kernel
theorem dX12_greyRoots_82 : decode cX12_greyRoots 82 = .ok (.iload_n 3, 1) := by decide +kernel
theorem dX12_greyRoots_87 : decode cX12_greyRoots 87 = .ok (.aload_n 0, 1) := by decide +kernel
theorem dX12_greyRoots_91 : decode cX12_greyRoots 91 = .ok (.iload_n 3, 1) := by decide +kernel
theorem dX12_greyRoots_93 : decode cX12_greyRoots 93 = .ok (.iload_n 1, 1) := by decide +kernel
theorem dX12_greyRoots_97 : decode cX12_greyRoots 97 = .ok (.iload_n 2, 1) := by decide +kernel
theorem dX12_greyRoots_116 : decode cX12_greyRoots 116 = .ok (.iload_n 3, 1) := by decide +kernel
theorem dX12_greyRoots_117 : decode cX12_greyRoots 117 = .ok (.istore_n 2, 1) := by decide +kernel
theorem dX12_greyRoots_101 : decode cX12_greyRoots 101 = .ok (.aload_n 0, 1) := by decide +kernel
theorem dX12_greyRoots_105 : decode cX12_greyRoots 105 = .ok (.iload_n 3, 1) := by decide +kernel
theorem dX12_greyRoots_107 : decode cX12_greyRoots 107 = .ok (.aload_n 0, 1) := by decide +kernel
theorem dX12_greyRoots_111 : decode cX12_greyRoots 111 = .ok (.iload_n 2, 1) := by decide +kernel
theorem dX12_greyRoots_113 : decode cX12_greyRoots 113 = .ok (.if_icmp .ge 5, 3) := by decide +kernel
theorem dX12_greyRoots_112 : decode cX12_greyRoots 112 = .ok (.iaload, 1) := by decide +kernel
theorem dX12_greyRoots_108 : decode cX12_greyRoots 108 = .ok (.getfield 31, 3) := by decide +kernel
theorem dX12_greyRoots_106 : decode cX12_greyRoots 106 = .ok (.iaload, 1) := by decide +kernel
theorem dX12_greyRoots_102 : decode cX12_greyRoots 102 = .ok (.getfield 31, 3) := by decide +kernel
theorem dX12_greyRoots_98 : decode cX12_greyRoots 98 = .ok (.ifCond .lt 18, 3) := by decide +kernel
theorem dX12_greyRoots_94 : decode cX12_greyRoots 94 = .ok (.if_icmp .le 24, 3) := by decide +kernel
theorem dX12_greyRoots_92 : decode cX12_greyRoots 92 = .ok (.iaload, 1) := by decide +kernel
theorem dX12_greyRoots_88 : decode cX12_greyRoots 88 = .ok (.getfield 31, 3) := by decide +kernel
theorem dX12_greyRoots_84 : decode cX12_greyRoots 84 = .ok (.ifCond .le 34, 3) := by decide +kernel
theorem dX12_greyRoots_83 : decode cX12_greyRoots 83 = .ok (.iaload, 1) := by decide +kernel
theorem dX12_greyRoots_79 : decode cX12_greyRoots 79 = .ok (.getfield 52, 3) := by decide +kernel
theorem dX12_greyRoots_75 : decode cX12_greyRoots 75 = .ok (.ifCond .eq 43, 3) := by decide +kernel
theorem dX12_greyRoots_74 : decode cX12_greyRoots 74 = .ok (.baload, 1) := by decide +kernel
theorem dX12_greyRoots_70 : decode cX12_greyRoots 70 = .ok (.getfield 27, 3) := by decide +kernel
theorem dX12_greyRoots_66 : decode cX12_greyRoots 66 = .ok (.if_icmp .ge 58, 3) := by decide +kernel
def wr_220 (c k : Nat) : Bool := Nat.beq c 106 || Nat.beq c 115 || (Nat.beq c 94 && (Nat.beq k 56))
theorem g_220_0 {X : Nat × (Nat → Int32)} {m : Nat → Nat → Int32} {P : Option ma_V → (Nat → Nat → Int32) → Prop}  (h : zm X 1 21 220 2 [(0, .inr (.inr (some 94))), (1, .inl (0 : Int32))] m P) : zm X 1 21 220 0 [(0, .inr (.inr (some 94)))] m P := by
  intro d w S Q hd hw hS hm HQ
  subst hm
  refine zw_push hm_220 dX12_greyRoots_0 (v := .inl (0 : Int32)) rfl ?_
  refine zw_sto hm_220 dX12_greyRoots_1 [(1, .inl (0 : Int32)), (0, .inr (.inr (some 94)))] rfl rfl rfl ?_
  exact zw_sub (ma_nd_of (ks := [0, 1]) rfl (by decide)) (ma_nd_of (ks := [1, 0]) rfl (by decide)) (ma_le_cons rfl (ma_le_cons rfl (ma_le_nil _))) (h d w _ Q (by omega) (by omega) hS rfl HQ)
theorem g_220_2 {X : Nat × (Nat → Int32)} {m : Nat → Nat → Int32} {P : Option ma_V → (Nat → Nat → Int32) → Prop} (l1 : Int32) (h : if (16 : Int32) ≤ l1 then (zm X 1 21 220 26 [(0, .inr (.inr (some 94))), (1, .inl (0 : Int32))] m P) else ((0 ≤ l1 ∧ l1.toNatClampNeg < 16) ∧ (if (m 112 l1.toNatClampNeg) < 0 then (zm X 1 21 220 2 [(0, .inr (.inr (some 94))), (1, .inl (l1 + (1 : Int32)))] m P) else ((0 ≤ (m 112 l1.toNatClampNeg) ∧ (m 112 l1.toNatClampNeg).toNatClampNeg < 3100) ∧ (if (m 106 (m 112 l1.toNatClampNeg).toNatClampNeg) = 0 then ((0 ≤ (m 112 l1.toNatClampNeg) ∧ (m 112 l1.toNatClampNeg).toNatClampNeg < 3100) ∧ ((0 ≤ (m 94 56) ∧ (m 94 56).toNatClampNeg < 3100) ∧ (zm X 1 21 220 2 [(0, .inr (.inr (some 94))), (1, .inl (l1 + (1 : Int32)))] (ma_u (ma_u (ma_u m 106 (m 112 l1.toNatClampNeg).toNatClampNeg (1 : Int32)) 115 (m 94 56).toNatClampNeg (m 112 l1.toNatClampNeg)) 94 56 ((m 94 56) + (1 : Int32))) P))) else (zm X 1 21 220 2 [(0, .inr (.inr (some 94))), (1, .inl (l1 + (1 : Int32)))] m P)))))) : zm X 1 21 220 2 [(0, .inr (.inr (some 94))), (1, .inl l1)] m P := by
  intro d w S Q hd hw hS hm HQ
  subst hm
  refine zw_push hm_220 dX12_greyRoots_2 (v := .inl l1) rfl ?_
  refine zw_push hm_220 dX12_greyRoots_3 (v := .inl (16 : Int32)) rfl ?_
  refine zw_if2 hm_220 dX12_greyRoots_5 (t := 24) rfl zc2_ge ?_ ?_
  · intro hc
    rw [if_pos hc] at h
    refine zw_push hm_220 dX12_greyRoots_24 (v := .inl (0 : Int32)) rfl ?_
    refine zw_sto hm_220 dX12_greyRoots_25 [(1, .inl (0 : Int32)), (0, .inr (.inr (some 94)))] rfl rfl rfl ?_
    exact zw_sub (ma_nd_of (ks := [0, 1]) rfl (by decide)) (ma_nd_of (ks := [1, 0]) rfl (by decide)) (ma_le_cons rfl (ma_le_cons rfl (ma_le_nil _))) (h d w _ Q (by omega) (by omega) hS rfl HQ)
  · intro hc
    rw [if_neg hc] at h
    refine zw_push hm_220 dX12_greyRoots_8 (v := .inr (.inr (some 94))) rfl ?_
    refine zw_push hm_220 dX12_greyRoots_9 (v := .inr (.inr (some 94))) rfl ?_
    refine zw_gf hm_220 dX12_greyRoots_10 (v := .inr (.inr (some 112))) (zT_is hS s_94) (zT_t hS s_94) rfl f_12_68_12 (zT_f hS r_94_51) ?_
    refine zw_push hm_220 dX12_greyRoots_13 (v := .inl l1) rfl ?_
    obtain ⟨hg, h⟩ := h
    refine zw_ia hm_220 dX12_greyRoots_14 (zT_is hS s_112) (zT_h hS s_112) rfl hg ?_
    show ma_wp X d w 220 15 [(0, .inr (.inr (some 94))), (1, .inl l1)] [.inl ((mI S) 112 l1.toNatClampNeg), .inr (.inr (some 94))] S _
    refine zw_cv hm_220 dX12_greyRoots_15 v_12_396_12 hm_221 [.inl ((mI S) 112 l1.toNatClampNeg)] [] rfl (zT_rt hS s_94 rfl) ⟨by omega, by omega⟩ rfl ?_
    show ma_wp X (d - 1) (w - 21) 221 0 [(0, .inr (.inr (some 94))), (1, .inl ((mI S) 112 l1.toNatClampNeg))] [] S _
    refine zw_push hm_221 dX12_toGrey_0 (v := .inl ((mI S) 112 l1.toNatClampNeg)) rfl ?_
    refine zw_if0 hm_221 dX12_toGrey_1 (t := 13) rfl zc0_lt ?_ ?_
    · intro hc
      rw [if_pos hc] at h
      refine zw_vret hm_221 dX12_toGrey_13 ?_
      show ma_wp X d w 220 18 [(0, .inr (.inr (some 94))), (1, .inl l1)] [] S _
      refine zw_sto hm_220 dX12_greyRoots_18 [(1, .inl (l1 + (1 : Int32))), (0, .inr (.inr (some 94)))] rfl rfl rfl ?_
      refine zw_goto hm_220 dX12_greyRoots_21 (t := 2) rfl ?_
      exact zw_sub (ma_nd_of (ks := [0, 1]) rfl (by decide)) (ma_nd_of (ks := [1, 0]) rfl (by decide)) (ma_le_cons rfl (ma_le_cons rfl (ma_le_nil _))) (h d w _ Q (by omega) (by omega) hS rfl HQ)
    · intro hc
      rw [if_neg hc] at h
      refine zw_push hm_221 dX12_toGrey_4 (v := .inr (.inr (some 94))) rfl ?_
      refine zw_gf hm_221 dX12_toGrey_5 (v := .inr (.inr (some 106))) (zT_is hS s_94) (zT_t hS s_94) rfl f_12_49_12 (zT_f hS r_94_38) ?_
      refine zw_push hm_221 dX12_toGrey_8 (v := .inl ((mI S) 112 l1.toNatClampNeg)) rfl ?_
      obtain ⟨hg, h⟩ := h
      refine zw_ia hm_221 dX12_toGrey_9 (zT_is hS s_106) (zT_h hS s_106) rfl hg ?_
      show ma_wp X (d - 1) (w - 21) 221 10 [(0, .inr (.inr (some 94))), (1, .inl ((mI S) 112 l1.toNatClampNeg))] [.inl ((mI S) 106 ((mI S) 112 l1.toNatClampNeg).toNatClampNeg)] S _
      refine zw_if0 hm_221 dX12_toGrey_10 (t := 14) rfl zc0_eq ?_ ?_
      · intro hc
        rw [if_pos hc] at h
        refine zw_push hm_221 dX12_toGrey_14 (v := .inr (.inr (some 94))) rfl ?_
        refine zw_gf hm_221 dX12_toGrey_15 (v := .inr (.inr (some 106))) (zT_is hS s_94) (zT_t hS s_94) rfl f_12_49_12 (zT_f hS r_94_38) ?_
        refine zw_push hm_221 dX12_toGrey_18 (v := .inl ((mI S) 112 l1.toNatClampNeg)) rfl ?_
        refine zw_push hm_221 dX12_toGrey_19 (v := .inl (1 : Int32)) rfl ?_
        obtain ⟨hg, h⟩ := h
        refine zw_ias hm_221 dX12_toGrey_20 (zT_is hS s_106) (zT_h hS s_106) rfl hg ?_
        refine zw_push hm_221 dX12_toGrey_21 (v := .inr (.inr (some 94))) rfl ?_
        refine zw_gf hm_221 dX12_toGrey_22 (v := .inr (.inr (some 115))) (zT_is (zT_pi hS) s_94) (zT_t (zT_pi hS) s_94) rfl f_12_77_12 (zT_f (zT_pi hS) r_94_54) ?_
        refine zw_push hm_221 dX12_toGrey_25 (v := .inr (.inr (some 94))) rfl ?_
        refine zw_gf hm_221 dX12_toGrey_26 (v := .inl ((mI S) 94 56)) (zT_is (zT_pi hS) s_94) (zT_t (zT_pi hS) s_94) rfl f_12_264_12 rfl ?_
        refine zw_push hm_221 dX12_toGrey_29 (v := .inl ((mI S) 112 l1.toNatClampNeg)) rfl ?_
        obtain ⟨hg, h⟩ := h
        refine zw_ias hm_221 dX12_toGrey_30 (zT_is (zT_pi hS) s_115) (zT_h (zT_pi hS) s_115) rfl hg ?_
        refine zw_push hm_221 dX12_toGrey_31 (v := .inr (.inr (some 94))) rfl ?_
        refine zw_stk hm_221 dX12_toGrey_32 (st₉ := [.inr (.inr (some 94)), .inr (.inr (some 94))]) rfl rfl ?_
        refine zw_gf hm_221 dX12_toGrey_33 (v := .inl ((mI S) 94 56)) (zT_is (zT_pi (zT_pi hS)) s_94) (zT_t (zT_pi (zT_pi hS)) s_94) rfl f_12_264_12 rfl ?_
        refine zw_push hm_221 dX12_toGrey_36 (v := .inl (1 : Int32)) rfl ?_
        refine zw_stk hm_221 dX12_toGrey_37 (st₉ := [.inl (((mI S) 94 56) + (1 : Int32)), .inr (.inr (some 94))]) rfl rfl ?_
        refine zw_pf hm_221 dX12_toGrey_38 (zT_is (zT_pi (zT_pi hS)) s_94) (zT_t (zT_pi (zT_pi hS)) s_94) p_12_264_12 zk_int ?_
        refine zw_vret hm_221 dX12_toGrey_41 ?_
        show ma_wp X d w 220 18 [(0, .inr (.inr (some 94))), (1, .inl l1)] [] (ma_put (ma_put (ma_put S 106 ((mI S) 112 l1.toNatClampNeg).toNatClampNeg (.inl (1 : Int32))) 115 ((mI S) 94 56).toNatClampNeg (.inl ((mI S) 112 l1.toNatClampNeg))) 94 56 (.inl (((mI S) 94 56) + (1 : Int32)))) _
        refine zw_sto hm_220 dX12_greyRoots_18 [(1, .inl (l1 + (1 : Int32))), (0, .inr (.inr (some 94)))] rfl rfl rfl ?_
        refine zw_goto hm_220 dX12_greyRoots_21 (t := 2) rfl ?_
        exact zw_sub (ma_nd_of (ks := [0, 1]) rfl (by decide)) (ma_nd_of (ks := [1, 0]) rfl (by decide)) (ma_le_cons rfl (ma_le_cons rfl (ma_le_nil _))) (h d w _ Q (by omega) (by omega) (zT_pi (zT_pi (zT_pi hS))) rfl HQ)
      · intro hc
        rw [if_neg hc] at h
        refine zw_vret hm_221 dX12_toGrey_13 ?_
        show ma_wp X d w 220 18 [(0, .inr (.inr (some 94))), (1, .inl l1)] [] S _
        refine zw_sto hm_220 dX12_greyRoots_18 [(1, .inl (l1 + (1 : Int32))), (0, .inr (.inr (some 94)))] rfl rfl rfl ?_
        refine zw_goto hm_220 dX12_greyRoots_21 (t := 2) rfl ?_
        exact zw_sub (ma_nd_of (ks := [0, 1]) rfl (by decide)) (ma_nd_of (ks := [1, 0]) rfl (by decide)) (ma_le_cons rfl (ma_le_cons rfl (ma_le_nil _))) (h d w _ Q (by omega) (by omega) hS rfl HQ)
theorem g_220_26 {X : Nat × (Nat → Int32)} {m : Nat → Nat → Int32} {P : Option ma_V → (Nat → Nat → Int32) → Prop} (l1 : Int32) (h : if (m 94 55) ≤ l1 then (zm X 1 21 220 52 [(0, .inr (.inr (some 94))), (1, .inl (-1 : Int32))] m P) else ((0 ≤ l1 ∧ l1.toNatClampNeg < 3100) ∧ (if (m 114 l1.toNatClampNeg) < 0 then (zm X 1 21 220 26 [(0, .inr (.inr (some 94))), (1, .inl (l1 + (1 : Int32)))] m P) else ((0 ≤ (m 114 l1.toNatClampNeg) ∧ (m 114 l1.toNatClampNeg).toNatClampNeg < 3100) ∧ (if (m 106 (m 114 l1.toNatClampNeg).toNatClampNeg) = 0 then ((0 ≤ (m 114 l1.toNatClampNeg) ∧ (m 114 l1.toNatClampNeg).toNatClampNeg < 3100) ∧ ((0 ≤ (m 94 56) ∧ (m 94 56).toNatClampNeg < 3100) ∧ (zm X 1 21 220 26 [(0, .inr (.inr (some 94))), (1, .inl (l1 + (1 : Int32)))] (ma_u (ma_u (ma_u m 106 (m 114 l1.toNatClampNeg).toNatClampNeg (1 : Int32)) 115 (m 94 56).toNatClampNeg (m 114 l1.toNatClampNeg)) 94 56 ((m 94 56) + (1 : Int32))) P))) else (zm X 1 21 220 26 [(0, .inr (.inr (some 94))), (1, .inl (l1 + (1 : Int32)))] m P)))))) : zm X 1 21 220 26 [(0, .inr (.inr (some 94))), (1, .inl l1)] m P := by
  intro d w S Q hd hw hS hm HQ
  subst hm
  refine zw_push hm_220 dX12_greyRoots_26 (v := .inl l1) rfl ?_
  refine zw_push hm_220 dX12_greyRoots_27 (v := .inr (.inr (some 94))) rfl ?_
  refine zw_gf hm_220 dX12_greyRoots_28 (v := .inl ((mI S) 94 55)) (zT_is hS s_94) (zT_t hS s_94) rfl f_12_261_12 rfl ?_
  refine zw_if2 hm_220 dX12_greyRoots_31 (t := 50) rfl zc2_ge ?_ ?_
  · intro hc
    rw [if_pos hc] at h
    refine zw_push hm_220 dX12_greyRoots_50 (v := .inl (-1 : Int32)) rfl ?_
    refine zw_sto hm_220 dX12_greyRoots_51 [(1, .inl (-1 : Int32)), (0, .inr (.inr (some 94)))] rfl rfl rfl ?_
    exact zw_sub (ma_nd_of (ks := [0, 1]) rfl (by decide)) (ma_nd_of (ks := [1, 0]) rfl (by decide)) (ma_le_cons rfl (ma_le_cons rfl (ma_le_nil _))) (h d w _ Q (by omega) (by omega) hS rfl HQ)
  · intro hc
    rw [if_neg hc] at h
    refine zw_push hm_220 dX12_greyRoots_34 (v := .inr (.inr (some 94))) rfl ?_
    refine zw_push hm_220 dX12_greyRoots_35 (v := .inr (.inr (some 94))) rfl ?_
    refine zw_gf hm_220 dX12_greyRoots_36 (v := .inr (.inr (some 114))) (zT_is hS s_94) (zT_t hS s_94) rfl f_12_74_12 (zT_f hS r_94_53) ?_
    refine zw_push hm_220 dX12_greyRoots_39 (v := .inl l1) rfl ?_
    obtain ⟨hg, h⟩ := h
    refine zw_ia hm_220 dX12_greyRoots_40 (zT_is hS s_114) (zT_h hS s_114) rfl hg ?_
    show ma_wp X d w 220 41 [(0, .inr (.inr (some 94))), (1, .inl l1)] [.inl ((mI S) 114 l1.toNatClampNeg), .inr (.inr (some 94))] S _
    refine zw_cv hm_220 dX12_greyRoots_41 v_12_396_12 hm_221 [.inl ((mI S) 114 l1.toNatClampNeg)] [] rfl (zT_rt hS s_94 rfl) ⟨by omega, by omega⟩ rfl ?_
    show ma_wp X (d - 1) (w - 21) 221 0 [(0, .inr (.inr (some 94))), (1, .inl ((mI S) 114 l1.toNatClampNeg))] [] S _
    refine zw_push hm_221 dX12_toGrey_0 (v := .inl ((mI S) 114 l1.toNatClampNeg)) rfl ?_
    refine zw_if0 hm_221 dX12_toGrey_1 (t := 13) rfl zc0_lt ?_ ?_
    · intro hc
      rw [if_pos hc] at h
      refine zw_vret hm_221 dX12_toGrey_13 ?_
      show ma_wp X d w 220 44 [(0, .inr (.inr (some 94))), (1, .inl l1)] [] S _
      refine zw_sto hm_220 dX12_greyRoots_44 [(1, .inl (l1 + (1 : Int32))), (0, .inr (.inr (some 94)))] rfl rfl rfl ?_
      refine zw_goto hm_220 dX12_greyRoots_47 (t := 26) rfl ?_
      exact zw_sub (ma_nd_of (ks := [0, 1]) rfl (by decide)) (ma_nd_of (ks := [1, 0]) rfl (by decide)) (ma_le_cons rfl (ma_le_cons rfl (ma_le_nil _))) (h d w _ Q (by omega) (by omega) hS rfl HQ)
    · intro hc
      rw [if_neg hc] at h
      refine zw_push hm_221 dX12_toGrey_4 (v := .inr (.inr (some 94))) rfl ?_
      refine zw_gf hm_221 dX12_toGrey_5 (v := .inr (.inr (some 106))) (zT_is hS s_94) (zT_t hS s_94) rfl f_12_49_12 (zT_f hS r_94_38) ?_
      refine zw_push hm_221 dX12_toGrey_8 (v := .inl ((mI S) 114 l1.toNatClampNeg)) rfl ?_
      obtain ⟨hg, h⟩ := h
      refine zw_ia hm_221 dX12_toGrey_9 (zT_is hS s_106) (zT_h hS s_106) rfl hg ?_
      show ma_wp X (d - 1) (w - 21) 221 10 [(0, .inr (.inr (some 94))), (1, .inl ((mI S) 114 l1.toNatClampNeg))] [.inl ((mI S) 106 ((mI S) 114 l1.toNatClampNeg).toNatClampNeg)] S _
      refine zw_if0 hm_221 dX12_toGrey_10 (t := 14) rfl zc0_eq ?_ ?_
      · intro hc
        rw [if_pos hc] at h
        refine zw_push hm_221 dX12_toGrey_14 (v := .inr (.inr (some 94))) rfl ?_
        refine zw_gf hm_221 dX12_toGrey_15 (v := .inr (.inr (some 106))) (zT_is hS s_94) (zT_t hS s_94) rfl f_12_49_12 (zT_f hS r_94_38) ?_
        refine zw_push hm_221 dX12_toGrey_18 (v := .inl ((mI S) 114 l1.toNatClampNeg)) rfl ?_
        refine zw_push hm_221 dX12_toGrey_19 (v := .inl (1 : Int32)) rfl ?_
        obtain ⟨hg, h⟩ := h
        refine zw_ias hm_221 dX12_toGrey_20 (zT_is hS s_106) (zT_h hS s_106) rfl hg ?_
        refine zw_push hm_221 dX12_toGrey_21 (v := .inr (.inr (some 94))) rfl ?_
        refine zw_gf hm_221 dX12_toGrey_22 (v := .inr (.inr (some 115))) (zT_is (zT_pi hS) s_94) (zT_t (zT_pi hS) s_94) rfl f_12_77_12 (zT_f (zT_pi hS) r_94_54) ?_
        refine zw_push hm_221 dX12_toGrey_25 (v := .inr (.inr (some 94))) rfl ?_
        refine zw_gf hm_221 dX12_toGrey_26 (v := .inl ((mI S) 94 56)) (zT_is (zT_pi hS) s_94) (zT_t (zT_pi hS) s_94) rfl f_12_264_12 rfl ?_
        refine zw_push hm_221 dX12_toGrey_29 (v := .inl ((mI S) 114 l1.toNatClampNeg)) rfl ?_
        obtain ⟨hg, h⟩ := h
        refine zw_ias hm_221 dX12_toGrey_30 (zT_is (zT_pi hS) s_115) (zT_h (zT_pi hS) s_115) rfl hg ?_
        refine zw_push hm_221 dX12_toGrey_31 (v := .inr (.inr (some 94))) rfl ?_
        refine zw_stk hm_221 dX12_toGrey_32 (st₉ := [.inr (.inr (some 94)), .inr (.inr (some 94))]) rfl rfl ?_
        refine zw_gf hm_221 dX12_toGrey_33 (v := .inl ((mI S) 94 56)) (zT_is (zT_pi (zT_pi hS)) s_94) (zT_t (zT_pi (zT_pi hS)) s_94) rfl f_12_264_12 rfl ?_
        refine zw_push hm_221 dX12_toGrey_36 (v := .inl (1 : Int32)) rfl ?_
        refine zw_stk hm_221 dX12_toGrey_37 (st₉ := [.inl (((mI S) 94 56) + (1 : Int32)), .inr (.inr (some 94))]) rfl rfl ?_
        refine zw_pf hm_221 dX12_toGrey_38 (zT_is (zT_pi (zT_pi hS)) s_94) (zT_t (zT_pi (zT_pi hS)) s_94) p_12_264_12 zk_int ?_
        refine zw_vret hm_221 dX12_toGrey_41 ?_
        show ma_wp X d w 220 44 [(0, .inr (.inr (some 94))), (1, .inl l1)] [] (ma_put (ma_put (ma_put S 106 ((mI S) 114 l1.toNatClampNeg).toNatClampNeg (.inl (1 : Int32))) 115 ((mI S) 94 56).toNatClampNeg (.inl ((mI S) 114 l1.toNatClampNeg))) 94 56 (.inl (((mI S) 94 56) + (1 : Int32)))) _
        refine zw_sto hm_220 dX12_greyRoots_44 [(1, .inl (l1 + (1 : Int32))), (0, .inr (.inr (some 94)))] rfl rfl rfl ?_
        refine zw_goto hm_220 dX12_greyRoots_47 (t := 26) rfl ?_
        exact zw_sub (ma_nd_of (ks := [0, 1]) rfl (by decide)) (ma_nd_of (ks := [1, 0]) rfl (by decide)) (ma_le_cons rfl (ma_le_cons rfl (ma_le_nil _))) (h d w _ Q (by omega) (by omega) (zT_pi (zT_pi (zT_pi hS))) rfl HQ)
      · intro hc
        rw [if_neg hc] at h
        refine zw_vret hm_221 dX12_toGrey_13 ?_
        show ma_wp X d w 220 44 [(0, .inr (.inr (some 94))), (1, .inl l1)] [] S _
        refine zw_sto hm_220 dX12_greyRoots_44 [(1, .inl (l1 + (1 : Int32))), (0, .inr (.inr (some 94)))] rfl rfl rfl ?_
        refine zw_goto hm_220 dX12_greyRoots_47 (t := 26) rfl ?_
        exact zw_sub (ma_nd_of (ks := [0, 1]) rfl (by decide)) (ma_nd_of (ks := [1, 0]) rfl (by decide)) (ma_le_cons rfl (ma_le_cons rfl (ma_le_nil _))) (h d w _ Q (by omega) (by omega) hS rfl HQ)
theorem g_220_52 {X : Nat × (Nat → Int32)} {m : Nat → Nat → Int32} {P : Option ma_V → (Nat → Nat → Int32) → Prop} (l1 : Int32) (h : if l1 = (-2 : Int32) then (P none m) else (zm X 1 21 220 62 [(0, .inr (.inr (some 94))), (1, .inl l1), (2, .inl (-1 : Int32)), (3, .inl (0 : Int32))] m P)) : zm X 1 21 220 52 [(0, .inr (.inr (some 94))), (1, .inl l1)] m P := by
  intro d w S Q hd hw hS hm HQ
  subst hm
  refine zw_push hm_220 dX12_greyRoots_52 (v := .inl l1) rfl ?_
  refine zw_push hm_220 dX12_greyRoots_53 (v := .inl (-2 : Int32)) rfl ?_
  refine zw_if2 hm_220 dX12_greyRoots_55 (t := 149) rfl zc2_eq ?_ ?_
  · intro hc
    rw [if_pos hc] at h
    exact zw_vret hm_220 dX12_greyRoots_149 (HQ _ _ h)
  · intro hc
    rw [if_neg hc] at h
    refine zw_push hm_220 dX12_greyRoots_58 (v := .inl (-1 : Int32)) rfl ?_
    refine zw_sto hm_220 dX12_greyRoots_59 [(2, .inl (-1 : Int32)), (0, .inr (.inr (some 94))), (1, .inl l1)] rfl rfl rfl ?_
    refine zw_push hm_220 dX12_greyRoots_60 (v := .inl (0 : Int32)) rfl ?_
    refine zw_sto hm_220 dX12_greyRoots_61 [(3, .inl (0 : Int32)), (2, .inl (-1 : Int32)), (0, .inr (.inr (some 94))), (1, .inl l1)] rfl rfl rfl ?_
    exact zw_sub (ma_nd_of (ks := [0, 1, 2, 3]) rfl (by decide)) (ma_nd_of (ks := [3, 2, 0, 1]) rfl (by decide)) (ma_le_cons rfl (ma_le_cons rfl (ma_le_cons rfl (ma_le_cons rfl (ma_le_nil _))))) (h d w _ Q (by omega) (by omega) hS rfl HQ)
theorem g_220_62 {X : Nat × (Nat → Int32)} {m : Nat → Nat → Int32} {P : Option ma_V → (Nat → Nat → Int32) → Prop} (l1 : Int32) (l2 : Int32) (l3 : Int32) (h : if (3100 : Int32) ≤ l3 then (if 0 ≤ l2 then (if l2 < 0 then ((0 ≤ l2 ∧ l2.toNatClampNeg < 3100) ∧ (zm X 1 21 220 52 [(0, .inr (.inr (some 94))), (1, .inl (m 100 l2.toNatClampNeg))] m P)) else ((0 ≤ l2 ∧ l2.toNatClampNeg < 3100) ∧ (if (m 106 l2.toNatClampNeg) = 0 then ((0 ≤ l2 ∧ l2.toNatClampNeg < 3100) ∧ ((0 ≤ (m 94 56) ∧ (m 94 56).toNatClampNeg < 3100) ∧ ((0 ≤ l2 ∧ l2.toNatClampNeg < 3100) ∧ (zm X 1 21 220 52 [(0, .inr (.inr (some 94))), (1, .inl (m 100 l2.toNatClampNeg))] (ma_u (ma_u (ma_u m 106 l2.toNatClampNeg (1 : Int32)) 115 (m 94 56).toNatClampNeg l2) 94 56 ((m 94 56) + (1 : Int32))) P)))) else ((0 ≤ l2 ∧ l2.toNatClampNeg < 3100) ∧ (zm X 1 21 220 52 [(0, .inr (.inr (some 94))), (1, .inl (m 100 l2.toNatClampNeg))] m P))))) else (zm X 1 21 220 52 [(0, .inr (.inr (some 94))), (1, .inl (-2 : Int32))] m P)) else ((0 ≤ l3 ∧ l3.toNatClampNeg < 3100) ∧ (if (m 99 l3.toNatClampNeg) = 0 then (zm X 1 21 220 62 [(0, .inr (.inr (some 94))), (1, .inl l1), (2, .inl l2), (3, .inl (l3 + (1 : Int32)))] m P) else ((0 ≤ l3 ∧ l3.toNatClampNeg < 3100) ∧ (if (m 107 l3.toNatClampNeg) ≤ 0 then (zm X 1 21 220 62 [(0, .inr (.inr (some 94))), (1, .inl l1), (2, .inl l2), (3, .inl (l3 + (1 : Int32)))] m P) else ((0 ≤ l3 ∧ l3.toNatClampNeg < 3100) ∧ (if (m 100 l3.toNatClampNeg) ≤ l1 then (zm X 1 21 220 62 [(0, .inr (.inr (some 94))), (1, .inl l1), (2, .inl l2), (3, .inl (l3 + (1 : Int32)))] m P) else (if l2 < 0 then (zm X 1 21 220 62 [(0, .inr (.inr (some 94))), (1, .inl l1), (2, .inl l3), (3, .inl (l3 + (1 : Int32)))] m P) else ((0 ≤ l3 ∧ l3.toNatClampNeg < 3100) ∧ ((0 ≤ l2 ∧ l2.toNatClampNeg < 3100) ∧ (if (m 100 l2.toNatClampNeg) ≤ (m 100 l3.toNatClampNeg) then (zm X 1 21 220 62 [(0, .inr (.inr (some 94))), (1, .inl l1), (2, .inl l2), (3, .inl (l3 + (1 : Int32)))] m P) else (zm X 1 21 220 62 [(0, .inr (.inr (some 94))), (1, .inl l1), (2, .inl l3), (3, .inl (l3 + (1 : Int32)))] m P)))))))))))) : zm X 1 21 220 62 [(0, .inr (.inr (some 94))), (1, .inl l1), (2, .inl l2), (3, .inl l3)] m P := by
  intro d w S Q hd hw hS hm HQ
  subst hm
  refine zw_push hm_220 dX12_greyRoots_62 (v := .inl l3) rfl ?_
  refine zw_push hm_220 dX12_greyRoots_63 (v := .inl (3100 : Int32)) rfl ?_
  refine zw_if2 hm_220 dX12_greyRoots_66 (t := 124) rfl zc2_ge ?_ ?_
  · intro hc
    rw [if_pos hc] at h
    refine zw_push hm_220 dX12_greyRoots_124 (v := .inl l2) rfl ?_
    refine zw_if0 hm_220 dX12_greyRoots_125 (t := 134) rfl zc0_ge ?_ ?_
    · intro hc
      rw [if_pos hc] at h
      refine zw_push hm_220 dX12_greyRoots_134 (v := .inr (.inr (some 94))) rfl ?_
      refine zw_push hm_220 dX12_greyRoots_135 (v := .inl l2) rfl ?_
      refine zw_cv hm_220 dX12_greyRoots_136 v_12_396_12 hm_221 [.inl l2] [] rfl (zT_rt hS s_94 rfl) ⟨by omega, by omega⟩ rfl ?_
      show ma_wp X (d - 1) (w - 21) 221 0 [(0, .inr (.inr (some 94))), (1, .inl l2)] [] S _
      refine zw_push hm_221 dX12_toGrey_0 (v := .inl l2) rfl ?_
      refine zw_if0 hm_221 dX12_toGrey_1 (t := 13) rfl zc0_lt ?_ ?_
      · intro hc
        rw [if_pos hc] at h
        refine zw_vret hm_221 dX12_toGrey_13 ?_
        show ma_wp X d w 220 139 [(0, .inr (.inr (some 94))), (1, .inl l1), (2, .inl l2), (3, .inl l3)] [] S _
        refine zw_push hm_220 dX12_greyRoots_139 (v := .inr (.inr (some 94))) rfl ?_
        refine zw_gf hm_220 dX12_greyRoots_140 (v := .inr (.inr (some 100))) (zT_is hS s_94) (zT_t hS s_94) rfl f_12_31_12 (zT_f hS r_94_32) ?_
        refine zw_push hm_220 dX12_greyRoots_143 (v := .inl l2) rfl ?_
        obtain ⟨hg, h⟩ := h
        refine zw_ia hm_220 dX12_greyRoots_144 (zT_is hS s_100) (zT_h hS s_100) rfl hg ?_
        show ma_wp X d w 220 145 [(0, .inr (.inr (some 94))), (1, .inl l1), (2, .inl l2), (3, .inl l3)] [.inl ((mI S) 100 l2.toNatClampNeg)] S _
        refine zw_sto hm_220 dX12_greyRoots_145 [(1, .inl ((mI S) 100 l2.toNatClampNeg)), (0, .inr (.inr (some 94))), (2, .inl l2), (3, .inl l3)] rfl rfl rfl ?_
        refine zw_goto hm_220 dX12_greyRoots_146 (t := 52) rfl ?_
        exact zw_sub (ma_nd_of (ks := [0, 1]) rfl (by decide)) (ma_nd_of (ks := [1, 0, 2, 3]) rfl (by decide)) (ma_le_cons rfl (ma_le_cons rfl (ma_le_nil _))) (h d w _ Q (by omega) (by omega) hS rfl HQ)
      · intro hc
        rw [if_neg hc] at h
        refine zw_push hm_221 dX12_toGrey_4 (v := .inr (.inr (some 94))) rfl ?_
        refine zw_gf hm_221 dX12_toGrey_5 (v := .inr (.inr (some 106))) (zT_is hS s_94) (zT_t hS s_94) rfl f_12_49_12 (zT_f hS r_94_38) ?_
        refine zw_push hm_221 dX12_toGrey_8 (v := .inl l2) rfl ?_
        obtain ⟨hg, h⟩ := h
        refine zw_ia hm_221 dX12_toGrey_9 (zT_is hS s_106) (zT_h hS s_106) rfl hg ?_
        show ma_wp X (d - 1) (w - 21) 221 10 [(0, .inr (.inr (some 94))), (1, .inl l2)] [.inl ((mI S) 106 l2.toNatClampNeg)] S _
        refine zw_if0 hm_221 dX12_toGrey_10 (t := 14) rfl zc0_eq ?_ ?_
        · intro hc
          rw [if_pos hc] at h
          refine zw_push hm_221 dX12_toGrey_14 (v := .inr (.inr (some 94))) rfl ?_
          refine zw_gf hm_221 dX12_toGrey_15 (v := .inr (.inr (some 106))) (zT_is hS s_94) (zT_t hS s_94) rfl f_12_49_12 (zT_f hS r_94_38) ?_
          refine zw_push hm_221 dX12_toGrey_18 (v := .inl l2) rfl ?_
          refine zw_push hm_221 dX12_toGrey_19 (v := .inl (1 : Int32)) rfl ?_
          obtain ⟨hg, h⟩ := h
          refine zw_ias hm_221 dX12_toGrey_20 (zT_is hS s_106) (zT_h hS s_106) rfl hg ?_
          refine zw_push hm_221 dX12_toGrey_21 (v := .inr (.inr (some 94))) rfl ?_
          refine zw_gf hm_221 dX12_toGrey_22 (v := .inr (.inr (some 115))) (zT_is (zT_pi hS) s_94) (zT_t (zT_pi hS) s_94) rfl f_12_77_12 (zT_f (zT_pi hS) r_94_54) ?_
          refine zw_push hm_221 dX12_toGrey_25 (v := .inr (.inr (some 94))) rfl ?_
          refine zw_gf hm_221 dX12_toGrey_26 (v := .inl ((mI S) 94 56)) (zT_is (zT_pi hS) s_94) (zT_t (zT_pi hS) s_94) rfl f_12_264_12 rfl ?_
          refine zw_push hm_221 dX12_toGrey_29 (v := .inl l2) rfl ?_
          obtain ⟨hg, h⟩ := h
          refine zw_ias hm_221 dX12_toGrey_30 (zT_is (zT_pi hS) s_115) (zT_h (zT_pi hS) s_115) rfl hg ?_
          refine zw_push hm_221 dX12_toGrey_31 (v := .inr (.inr (some 94))) rfl ?_
          refine zw_stk hm_221 dX12_toGrey_32 (st₉ := [.inr (.inr (some 94)), .inr (.inr (some 94))]) rfl rfl ?_
          refine zw_gf hm_221 dX12_toGrey_33 (v := .inl ((mI S) 94 56)) (zT_is (zT_pi (zT_pi hS)) s_94) (zT_t (zT_pi (zT_pi hS)) s_94) rfl f_12_264_12 rfl ?_
          refine zw_push hm_221 dX12_toGrey_36 (v := .inl (1 : Int32)) rfl ?_
          refine zw_stk hm_221 dX12_toGrey_37 (st₉ := [.inl (((mI S) 94 56) + (1 : Int32)), .inr (.inr (some 94))]) rfl rfl ?_
          refine zw_pf hm_221 dX12_toGrey_38 (zT_is (zT_pi (zT_pi hS)) s_94) (zT_t (zT_pi (zT_pi hS)) s_94) p_12_264_12 zk_int ?_
          refine zw_vret hm_221 dX12_toGrey_41 ?_
          show ma_wp X d w 220 139 [(0, .inr (.inr (some 94))), (1, .inl l1), (2, .inl l2), (3, .inl l3)] [] (ma_put (ma_put (ma_put S 106 l2.toNatClampNeg (.inl (1 : Int32))) 115 ((mI S) 94 56).toNatClampNeg (.inl l2)) 94 56 (.inl (((mI S) 94 56) + (1 : Int32)))) _
          refine zw_push hm_220 dX12_greyRoots_139 (v := .inr (.inr (some 94))) rfl ?_
          refine zw_gf hm_220 dX12_greyRoots_140 (v := .inr (.inr (some 100))) (zT_is (zT_pi (zT_pi (zT_pi hS))) s_94) (zT_t (zT_pi (zT_pi (zT_pi hS))) s_94) rfl f_12_31_12 (zT_f (zT_pi (zT_pi (zT_pi hS))) r_94_32) ?_
          refine zw_push hm_220 dX12_greyRoots_143 (v := .inl l2) rfl ?_
          obtain ⟨hg, h⟩ := h
          refine zw_ia hm_220 dX12_greyRoots_144 (zT_is (zT_pi (zT_pi (zT_pi hS))) s_100) (zT_h (zT_pi (zT_pi (zT_pi hS))) s_100) rfl hg ?_
          show ma_wp X d w 220 145 [(0, .inr (.inr (some 94))), (1, .inl l1), (2, .inl l2), (3, .inl l3)] [.inl ((mI S) 100 l2.toNatClampNeg)] (ma_put (ma_put (ma_put S 106 l2.toNatClampNeg (.inl (1 : Int32))) 115 ((mI S) 94 56).toNatClampNeg (.inl l2)) 94 56 (.inl (((mI S) 94 56) + (1 : Int32)))) _
          refine zw_sto hm_220 dX12_greyRoots_145 [(1, .inl ((mI S) 100 l2.toNatClampNeg)), (0, .inr (.inr (some 94))), (2, .inl l2), (3, .inl l3)] rfl rfl rfl ?_
          refine zw_goto hm_220 dX12_greyRoots_146 (t := 52) rfl ?_
          exact zw_sub (ma_nd_of (ks := [0, 1]) rfl (by decide)) (ma_nd_of (ks := [1, 0, 2, 3]) rfl (by decide)) (ma_le_cons rfl (ma_le_cons rfl (ma_le_nil _))) (h d w _ Q (by omega) (by omega) (zT_pi (zT_pi (zT_pi hS))) rfl HQ)
        · intro hc
          rw [if_neg hc] at h
          refine zw_vret hm_221 dX12_toGrey_13 ?_
          show ma_wp X d w 220 139 [(0, .inr (.inr (some 94))), (1, .inl l1), (2, .inl l2), (3, .inl l3)] [] S _
          refine zw_push hm_220 dX12_greyRoots_139 (v := .inr (.inr (some 94))) rfl ?_
          refine zw_gf hm_220 dX12_greyRoots_140 (v := .inr (.inr (some 100))) (zT_is hS s_94) (zT_t hS s_94) rfl f_12_31_12 (zT_f hS r_94_32) ?_
          refine zw_push hm_220 dX12_greyRoots_143 (v := .inl l2) rfl ?_
          obtain ⟨hg, h⟩ := h
          refine zw_ia hm_220 dX12_greyRoots_144 (zT_is hS s_100) (zT_h hS s_100) rfl hg ?_
          show ma_wp X d w 220 145 [(0, .inr (.inr (some 94))), (1, .inl l1), (2, .inl l2), (3, .inl l3)] [.inl ((mI S) 100 l2.toNatClampNeg)] S _
          refine zw_sto hm_220 dX12_greyRoots_145 [(1, .inl ((mI S) 100 l2.toNatClampNeg)), (0, .inr (.inr (some 94))), (2, .inl l2), (3, .inl l3)] rfl rfl rfl ?_
          refine zw_goto hm_220 dX12_greyRoots_146 (t := 52) rfl ?_
          exact zw_sub (ma_nd_of (ks := [0, 1]) rfl (by decide)) (ma_nd_of (ks := [1, 0, 2, 3]) rfl (by decide)) (ma_le_cons rfl (ma_le_cons rfl (ma_le_nil _))) (h d w _ Q (by omega) (by omega) hS rfl HQ)
    · intro hc
      rw [if_neg hc] at h
      refine zw_push hm_220 dX12_greyRoots_128 (v := .inl (-2 : Int32)) rfl ?_
      refine zw_sto hm_220 dX12_greyRoots_130 [(1, .inl (-2 : Int32)), (0, .inr (.inr (some 94))), (2, .inl l2), (3, .inl l3)] rfl rfl rfl ?_
      refine zw_goto hm_220 dX12_greyRoots_131 (t := 146) rfl ?_
      refine zw_goto hm_220 dX12_greyRoots_146 (t := 52) rfl ?_
      exact zw_sub (ma_nd_of (ks := [0, 1]) rfl (by decide)) (ma_nd_of (ks := [1, 0, 2, 3]) rfl (by decide)) (ma_le_cons rfl (ma_le_cons rfl (ma_le_nil _))) (h d w _ Q (by omega) (by omega) hS rfl HQ)
  · intro hc
    rw [if_neg hc] at h
    refine zw_push hm_220 dX12_greyRoots_69 (v := .inr (.inr (some 94))) rfl ?_
    refine zw_gf hm_220 dX12_greyRoots_70 (v := .inr (.inr (some 99))) (zT_is hS s_94) (zT_t hS s_94) rfl f_12_27_12 (zT_f hS r_94_31) ?_
    refine zw_push hm_220 dX12_greyRoots_73 (v := .inl l3) rfl ?_
    obtain ⟨hg, h⟩ := h
    refine zw_ba hm_220 dX12_greyRoots_74 (zT_is hS s_99) (zT_h hS s_99) rfl rfl hg ?_
    show ma_wp X d w 220 75 [(0, .inr (.inr (some 94))), (1, .inl l1), (2, .inl l2), (3, .inl l3)] [.inl ((mI S) 99 l3.toNatClampNeg)] S _
    refine zw_if0 hm_220 dX12_greyRoots_75 (t := 118) rfl zc0_eq ?_ ?_
    · intro hc
      rw [if_pos hc] at h
      refine zw_sto hm_220 dX12_greyRoots_118 [(3, .inl (l3 + (1 : Int32))), (0, .inr (.inr (some 94))), (1, .inl l1), (2, .inl l2)] rfl rfl rfl ?_
      refine zw_goto hm_220 dX12_greyRoots_121 (t := 62) rfl ?_
      exact zw_sub (ma_nd_of (ks := [0, 1, 2, 3]) rfl (by decide)) (ma_nd_of (ks := [3, 0, 1, 2]) rfl (by decide)) (ma_le_cons rfl (ma_le_cons rfl (ma_le_cons rfl (ma_le_cons rfl (ma_le_nil _))))) (h d w _ Q (by omega) (by omega) hS rfl HQ)
    · intro hc
      rw [if_neg hc] at h
      refine zw_push hm_220 dX12_greyRoots_78 (v := .inr (.inr (some 94))) rfl ?_
      refine zw_gf hm_220 dX12_greyRoots_79 (v := .inr (.inr (some 107))) (zT_is hS s_94) (zT_t hS s_94) rfl f_12_52_12 (zT_f hS r_94_39) ?_
      refine zw_push hm_220 dX12_greyRoots_82 (v := .inl l3) rfl ?_
      obtain ⟨hg, h⟩ := h
      refine zw_ia hm_220 dX12_greyRoots_83 (zT_is hS s_107) (zT_h hS s_107) rfl hg ?_
      show ma_wp X d w 220 84 [(0, .inr (.inr (some 94))), (1, .inl l1), (2, .inl l2), (3, .inl l3)] [.inl ((mI S) 107 l3.toNatClampNeg)] S _
      refine zw_if0 hm_220 dX12_greyRoots_84 (t := 118) rfl zc0_le ?_ ?_
      · intro hc
        rw [if_pos hc] at h
        refine zw_sto hm_220 dX12_greyRoots_118 [(3, .inl (l3 + (1 : Int32))), (0, .inr (.inr (some 94))), (1, .inl l1), (2, .inl l2)] rfl rfl rfl ?_
        refine zw_goto hm_220 dX12_greyRoots_121 (t := 62) rfl ?_
        exact zw_sub (ma_nd_of (ks := [0, 1, 2, 3]) rfl (by decide)) (ma_nd_of (ks := [3, 0, 1, 2]) rfl (by decide)) (ma_le_cons rfl (ma_le_cons rfl (ma_le_cons rfl (ma_le_cons rfl (ma_le_nil _))))) (h d w _ Q (by omega) (by omega) hS rfl HQ)
      · intro hc
        rw [if_neg hc] at h
        refine zw_push hm_220 dX12_greyRoots_87 (v := .inr (.inr (some 94))) rfl ?_
        refine zw_gf hm_220 dX12_greyRoots_88 (v := .inr (.inr (some 100))) (zT_is hS s_94) (zT_t hS s_94) rfl f_12_31_12 (zT_f hS r_94_32) ?_
        refine zw_push hm_220 dX12_greyRoots_91 (v := .inl l3) rfl ?_
        obtain ⟨hg, h⟩ := h
        refine zw_ia hm_220 dX12_greyRoots_92 (zT_is hS s_100) (zT_h hS s_100) rfl hg ?_
        show ma_wp X d w 220 93 [(0, .inr (.inr (some 94))), (1, .inl l1), (2, .inl l2), (3, .inl l3)] [.inl ((mI S) 100 l3.toNatClampNeg)] S _
        refine zw_push hm_220 dX12_greyRoots_93 (v := .inl l1) rfl ?_
        refine zw_if2 hm_220 dX12_greyRoots_94 (t := 118) rfl zc2_le ?_ ?_
        · intro hc
          rw [if_pos hc] at h
          refine zw_sto hm_220 dX12_greyRoots_118 [(3, .inl (l3 + (1 : Int32))), (0, .inr (.inr (some 94))), (1, .inl l1), (2, .inl l2)] rfl rfl rfl ?_
          refine zw_goto hm_220 dX12_greyRoots_121 (t := 62) rfl ?_
          exact zw_sub (ma_nd_of (ks := [0, 1, 2, 3]) rfl (by decide)) (ma_nd_of (ks := [3, 0, 1, 2]) rfl (by decide)) (ma_le_cons rfl (ma_le_cons rfl (ma_le_cons rfl (ma_le_cons rfl (ma_le_nil _))))) (h d w _ Q (by omega) (by omega) hS rfl HQ)
        · intro hc
          rw [if_neg hc] at h
          refine zw_push hm_220 dX12_greyRoots_97 (v := .inl l2) rfl ?_
          refine zw_if0 hm_220 dX12_greyRoots_98 (t := 116) rfl zc0_lt ?_ ?_
          · intro hc
            rw [if_pos hc] at h
            refine zw_push hm_220 dX12_greyRoots_116 (v := .inl l3) rfl ?_
            refine zw_sto hm_220 dX12_greyRoots_117 [(2, .inl l3), (0, .inr (.inr (some 94))), (1, .inl l1), (3, .inl l3)] rfl rfl rfl ?_
            refine zw_sto hm_220 dX12_greyRoots_118 [(3, .inl (l3 + (1 : Int32))), (2, .inl l3), (0, .inr (.inr (some 94))), (1, .inl l1)] rfl rfl rfl ?_
            refine zw_goto hm_220 dX12_greyRoots_121 (t := 62) rfl ?_
            exact zw_sub (ma_nd_of (ks := [0, 1, 2, 3]) rfl (by decide)) (ma_nd_of (ks := [3, 2, 0, 1]) rfl (by decide)) (ma_le_cons rfl (ma_le_cons rfl (ma_le_cons rfl (ma_le_cons rfl (ma_le_nil _))))) (h d w _ Q (by omega) (by omega) hS rfl HQ)
          · intro hc
            rw [if_neg hc] at h
            refine zw_push hm_220 dX12_greyRoots_101 (v := .inr (.inr (some 94))) rfl ?_
            refine zw_gf hm_220 dX12_greyRoots_102 (v := .inr (.inr (some 100))) (zT_is hS s_94) (zT_t hS s_94) rfl f_12_31_12 (zT_f hS r_94_32) ?_
            refine zw_push hm_220 dX12_greyRoots_105 (v := .inl l3) rfl ?_
            obtain ⟨hg, h⟩ := h
            refine zw_ia hm_220 dX12_greyRoots_106 (zT_is hS s_100) (zT_h hS s_100) rfl hg ?_
            show ma_wp X d w 220 107 [(0, .inr (.inr (some 94))), (1, .inl l1), (2, .inl l2), (3, .inl l3)] [.inl ((mI S) 100 l3.toNatClampNeg)] S _
            refine zw_push hm_220 dX12_greyRoots_107 (v := .inr (.inr (some 94))) rfl ?_
            refine zw_gf hm_220 dX12_greyRoots_108 (v := .inr (.inr (some 100))) (zT_is hS s_94) (zT_t hS s_94) rfl f_12_31_12 (zT_f hS r_94_32) ?_
            refine zw_push hm_220 dX12_greyRoots_111 (v := .inl l2) rfl ?_
            obtain ⟨hg, h⟩ := h
            refine zw_ia hm_220 dX12_greyRoots_112 (zT_is hS s_100) (zT_h hS s_100) rfl hg ?_
            show ma_wp X d w 220 113 [(0, .inr (.inr (some 94))), (1, .inl l1), (2, .inl l2), (3, .inl l3)] [.inl ((mI S) 100 l2.toNatClampNeg), .inl ((mI S) 100 l3.toNatClampNeg)] S _
            refine zw_if2 hm_220 dX12_greyRoots_113 (t := 118) rfl zc2_ge ?_ ?_
            · intro hc
              rw [if_pos hc] at h
              refine zw_sto hm_220 dX12_greyRoots_118 [(3, .inl (l3 + (1 : Int32))), (0, .inr (.inr (some 94))), (1, .inl l1), (2, .inl l2)] rfl rfl rfl ?_
              refine zw_goto hm_220 dX12_greyRoots_121 (t := 62) rfl ?_
              exact zw_sub (ma_nd_of (ks := [0, 1, 2, 3]) rfl (by decide)) (ma_nd_of (ks := [3, 0, 1, 2]) rfl (by decide)) (ma_le_cons rfl (ma_le_cons rfl (ma_le_cons rfl (ma_le_cons rfl (ma_le_nil _))))) (h d w _ Q (by omega) (by omega) hS rfl HQ)
            · intro hc
              rw [if_neg hc] at h
              refine zw_push hm_220 dX12_greyRoots_116 (v := .inl l3) rfl ?_
              refine zw_sto hm_220 dX12_greyRoots_117 [(2, .inl l3), (0, .inr (.inr (some 94))), (1, .inl l1), (3, .inl l3)] rfl rfl rfl ?_
              refine zw_sto hm_220 dX12_greyRoots_118 [(3, .inl (l3 + (1 : Int32))), (2, .inl l3), (0, .inr (.inr (some 94))), (1, .inl l1)] rfl rfl rfl ?_
              refine zw_goto hm_220 dX12_greyRoots_121 (t := 62) rfl ?_
              exact zw_sub (ma_nd_of (ks := [0, 1, 2, 3]) rfl (by decide)) (ma_nd_of (ks := [3, 2, 0, 1]) rfl (by decide)) (ma_le_cons rfl (ma_le_cons rfl (ma_le_cons rfl (ma_le_cons rfl (ma_le_nil _))))) (h d w _ Q (by omega) (by omega) hS rfl HQ)
theorem lp_220_62 {X : Nat × (Nat → Int32)} {P : Option ma_V → (Nat → Nat → Int32) → Prop} {m0 : Nat → Nat → Int32} (h0 : zV m0) (K : ∀ m₉, zF wr_220 m0 m₉ → zV m₉ → (zG1 (m₉ 94 56) (m₉ 94 57) (m₉ 106)) → ((m0 94 56).toInt ≤ (m₉ 94 56).toInt) → P none m₉) {n52 : Nat} (OUT52 : ∀ (m₉ : Nat → Nat → Int32) (l1 : Int32), (100002 - (l1.toInt + 1) % 100003).toNat < n52 → zF wr_220 m0 m₉ → zV m₉ → (-2 ≤ l1.toInt) → (l1.toInt ≤ 100000) → (zG1 (m₉ 94 56) (m₉ 94 57) (m₉ 106)) → ((m0 94 56).toInt ≤ (m₉ 94 56).toInt) → zm X 1 21 220 52 [(0, .inr (.inr (some 94))), (1, .inl l1)] m₉ P) : ∀ (n : Nat) (m : Nat → Nat → Int32) (l1 : Int32) (l2 : Int32) (l3 : Int32), (3100 - l3.toInt).toNat = n → zF wr_220 m0 m → zV m → (-1 ≤ l1.toInt) → (l1.toInt ≤ 100000) → (0 ≤ l3.toInt) → (-1 ≤ l2.toInt) → (l2.toInt ≤ 3099) → ((100002 - (l1.toInt + 1) % 100003).toNat = n52) → (l2.toInt < 0 ∨ l1.toInt < ((m 100) l2.toNatClampNeg).toInt) → (zG1 (m 94 56) (m 94 57) (m 106)) → ((m0 94 56).toInt ≤ (m 94 56).toInt) → zm X 1 21 220 62 [(0, .inr (.inr (some 94))), (1, .inl l1), (2, .inl l2), (3, .inl l3)] m P := by
  intro n
  induction n using Nat.strongRecOn with
  | _ n IH =>
    intro m l1 l2 l3 hmu hF hV hi0 hi1 hi2 hi3 hi4 hi5 r_NB r_G1 hi8
    refine g_220_62 l1 l2 l3 ?_
    have f1 : 0 ≤ (m0 94 56).toInt ∧ (m0 94 56).toInt ≤ 3100 := rs_94_56 (m := m0) h0
    have f2 : 0 ≤ (m 94 56).toInt ∧ (m 94 56).toInt ≤ 3100 := rs_94_56 (m := m) hV
    have li3 : (3100 : Int32).toInt = 3100 := rfl
    have b4 := i_bd l3
    refine zd (fun (h5 : (3100 : Int32) ≤ l3) => ?_) (fun (h5 : ¬ (3100 : Int32) ≤ l3) => ?_)
    · skip
      have g6 := i_le h5
      have li7 : (0 : Int32).toInt = 0 := rfl
      have b8 := i_bd l2
      refine zd (fun (h9 : (0 : Int32) ≤ l2) => ?_) (fun (h9 : ¬ (0 : Int32) ≤ l2) => ?_)
      · skip
        have g10 := i_le h9
        refine zd (fun (h11 : l2 < (0 : Int32)) => ?_) (fun (h11 : ¬ l2 < (0 : Int32)) => ?_)
        · skip
          have g12 := i_lt h11
          have hg13 : (0 ≤ l2 ∧ l2.toNatClampNeg < 3100) := i_ix (by omega) (by omega)
          refine ⟨hg13, ?_⟩
          try have nb := r_NB
          first | have f14 : 0 ≤ (m 100 l2.toNatClampNeg).toInt ∧ (m 100 l2.toNatClampNeg).toInt ≤ 100000 := ra_100 (m := m) hV (k := l2.toNatClampNeg) (i_ix (n := 3100) (by omega) (by omega)).2 | have b15 := i_bd (m 100 l2.toNatClampNeg)
          exact OUT52 _ ((m 100 l2.toNatClampNeg)) (show (100002 - ((m 100 l2.toNatClampNeg).toInt + 1) % 100003).toNat < n52 from by omega) hF hV (by omega) (by omega) r_G1 (show (m0 94 56).toInt ≤ (m 94 56).toInt from by omega)
        · skip
          have g16 := i_nlt h11
          have hg17 : (0 ≤ l2 ∧ l2.toNatClampNeg < 3100) := i_ix (by omega) (by omega)
          refine ⟨hg17, ?_⟩
          have b18 := i_bd (m 106 l2.toNatClampNeg)
          refine zd (fun (h19 : (m 106 l2.toNatClampNeg) = (0 : Int32)) => ?_) (fun (h19 : ¬ (m 106 l2.toNatClampNeg) = (0 : Int32)) => ?_)
          · skip
            have g20 := i_eq h19
            have hg21 : (0 ≤ l2 ∧ l2.toNatClampNeg < 3100) := i_ix (by omega) (by omega)
            refine ⟨hg21, ?_⟩
            try have gk := G1_room r_G1 (by assumption) (by omega)
            have hg22 : (0 ≤ (m 94 56) ∧ (m 94 56).toNatClampNeg < 3100) := i_ix (by omega) (by omega)
            refine ⟨hg22, ?_⟩
            have hg23 : (0 ≤ l2 ∧ l2.toNatClampNeg < 3100) := i_ix (by omega) (by omega)
            refine ⟨hg23, ?_⟩
            try have nb := r_NB
            have hV24 : zV (ma_u m 106 l2.toNatClampNeg (1 : Int32)) := ua_106 hV
            have hV25 : zV (ma_u (ma_u m 106 l2.toNatClampNeg (1 : Int32)) 115 (m 94 56).toNatClampNeg l2) := ua_115 hV24 (by omega) (by omega)
            first | have e27 : ((m 94 56) + (1 : Int32)).toInt = (m 94 56).toInt + (1) := i_addk rfl (by omega) (by omega) | have b28 := i_bd ((m 94 56) + (1 : Int32))
            have hV26 : zV (ma_u (ma_u (ma_u m 106 l2.toNatClampNeg (1 : Int32)) 115 (m 94 56).toNatClampNeg l2) 94 56 ((m 94 56) + (1 : Int32))) := us_94_56 hV25 (by omega) (by omega)
            first | have f29 : 0 ≤ (m 100 l2.toNatClampNeg).toInt ∧ (m 100 l2.toNatClampNeg).toInt ≤ 100000 := ra_100 (m := m) hV (k := l2.toNatClampNeg) (i_ix (n := 3100) (by omega) (by omega)).2 | have b30 := i_bd (m 100 l2.toNatClampNeg)
            exact OUT52 _ ((m 100 l2.toNatClampNeg)) (show (100002 - ((m 100 l2.toNatClampNeg).toInt + 1) % 100003).toNat < n52 from by omega) (zF_u (zF_u (zF_u hF rfl) rfl) rfl) hV26 (by omega) (by omega) (show zG1 ((m 94 56) + (1 : Int32)) (m 94 57) ((ma_u m 106 l2.toNatClampNeg (1 : Int32)) 106) from by first | (exact G1_push r_G1 (by assumption) (by omega) (by decide) (by assumption)) | (exact G1_dark0 r_G1 (by decide)) | (exfalso; omega; done) | (exfalso; contradiction; done)) (show (m0 94 56).toInt ≤ ((m 94 56) + (1 : Int32)).toInt from by omega)
          · skip
            have g31 := i_ne h19
            have hg32 : (0 ≤ l2 ∧ l2.toNatClampNeg < 3100) := i_ix (by omega) (by omega)
            refine ⟨hg32, ?_⟩
            try have nb := r_NB
            first | have f33 : 0 ≤ (m 100 l2.toNatClampNeg).toInt ∧ (m 100 l2.toNatClampNeg).toInt ≤ 100000 := ra_100 (m := m) hV (k := l2.toNatClampNeg) (i_ix (n := 3100) (by omega) (by omega)).2 | have b34 := i_bd (m 100 l2.toNatClampNeg)
            exact OUT52 _ ((m 100 l2.toNatClampNeg)) (show (100002 - ((m 100 l2.toNatClampNeg).toInt + 1) % 100003).toNat < n52 from by omega) hF hV (by omega) (by omega) r_G1 (show (m0 94 56).toInt ≤ (m 94 56).toInt from by omega)
      · skip
        have g35 := i_nle h9
        try have nb := r_NB
        have li36 : (-2 : Int32).toInt = -2 := rfl
        exact OUT52 _ ((-2 : Int32)) (show (100002 - ((-2 : Int32).toInt + 1) % 100003).toNat < n52 from by omega) hF hV (by omega) (by omega) r_G1 (show (m0 94 56).toInt ≤ (m 94 56).toInt from by omega)
    · skip
      have g37 := i_nle h5
      have hg38 : (0 ≤ l3 ∧ l3.toNatClampNeg < 3100) := i_ix (by omega) (by omega)
      refine ⟨hg38, ?_⟩
      first | have f39 : 0 ≤ (m 99 l3.toNatClampNeg).toInt ∧ (m 99 l3.toNatClampNeg).toInt ≤ 1 := ra_99 (m := m) hV (k := l3.toNatClampNeg) (i_ix (n := 3100) (by omega) (by omega)).2 | have b40 := i_bd (m 99 l3.toNatClampNeg)
      have li41 : (0 : Int32).toInt = 0 := rfl
      refine zd (fun (h42 : (m 99 l3.toNatClampNeg) = (0 : Int32)) => ?_) (fun (h42 : ¬ (m 99 l3.toNatClampNeg) = (0 : Int32)) => ?_)
      · skip
        have g43 := i_eq h42
        try have nb := r_NB
        have b44 := i_bd l1
        have b45 := i_bd l2
        first | have e46 : (l3 + (1 : Int32)).toInt = l3.toInt + (1) := i_addk rfl (by omega) (by omega) | have b47 := i_bd (l3 + (1 : Int32))
        exact IH (3100 - (l3 + (1 : Int32)).toInt).toNat (by omega) _ (l1) (l2) ((l3 + (1 : Int32))) rfl hF hV (by omega) (by omega) (by omega) (by omega) (by omega) (show (100002 - (l1.toInt + 1) % 100003).toNat = n52 from by omega) r_NB r_G1 (show (m0 94 56).toInt ≤ (m 94 56).toInt from by omega)
      · skip
        have g48 := i_ne h42
        have hg49 : (0 ≤ l3 ∧ l3.toNatClampNeg < 3100) := i_ix (by omega) (by omega)
        refine ⟨hg49, ?_⟩
        have b50 := i_bd (m 107 l3.toNatClampNeg)
        refine zd (fun (h51 : (m 107 l3.toNatClampNeg) ≤ (0 : Int32)) => ?_) (fun (h51 : ¬ (m 107 l3.toNatClampNeg) ≤ (0 : Int32)) => ?_)
        · skip
          have g52 := i_le h51
          try have nb := r_NB
          have b53 := i_bd l1
          have b54 := i_bd l2
          first | have e55 : (l3 + (1 : Int32)).toInt = l3.toInt + (1) := i_addk rfl (by omega) (by omega) | have b56 := i_bd (l3 + (1 : Int32))
          exact IH (3100 - (l3 + (1 : Int32)).toInt).toNat (by omega) _ (l1) (l2) ((l3 + (1 : Int32))) rfl hF hV (by omega) (by omega) (by omega) (by omega) (by omega) (show (100002 - (l1.toInt + 1) % 100003).toNat = n52 from by omega) r_NB r_G1 (show (m0 94 56).toInt ≤ (m 94 56).toInt from by omega)
        · skip
          have g57 := i_nle h51
          have hg58 : (0 ≤ l3 ∧ l3.toNatClampNeg < 3100) := i_ix (by omega) (by omega)
          refine ⟨hg58, ?_⟩
          first | have f59 : 0 ≤ (m 100 l3.toNatClampNeg).toInt ∧ (m 100 l3.toNatClampNeg).toInt ≤ 100000 := ra_100 (m := m) hV (k := l3.toNatClampNeg) (i_ix (n := 3100) (by omega) (by omega)).2 | have b60 := i_bd (m 100 l3.toNatClampNeg)
          have b61 := i_bd l1
          refine zd (fun (h62 : (m 100 l3.toNatClampNeg) ≤ l1) => ?_) (fun (h62 : ¬ (m 100 l3.toNatClampNeg) ≤ l1) => ?_)
          · skip
            have g63 := i_le h62
            try have nb := r_NB
            have b64 := i_bd l2
            first | have e65 : (l3 + (1 : Int32)).toInt = l3.toInt + (1) := i_addk rfl (by omega) (by omega) | have b66 := i_bd (l3 + (1 : Int32))
            exact IH (3100 - (l3 + (1 : Int32)).toInt).toNat (by omega) _ (l1) (l2) ((l3 + (1 : Int32))) rfl hF hV (by omega) (by omega) (by omega) (by omega) (by omega) (show (100002 - (l1.toInt + 1) % 100003).toNat = n52 from by omega) r_NB r_G1 (show (m0 94 56).toInt ≤ (m 94 56).toInt from by omega)
          · skip
            have g67 := i_nle h62
            have b68 := i_bd l2
            refine zd (fun (h69 : l2 < (0 : Int32)) => ?_) (fun (h69 : ¬ l2 < (0 : Int32)) => ?_)
            · skip
              have g70 := i_lt h69
              try have nb := r_NB
              first | have e71 : (l3 + (1 : Int32)).toInt = l3.toInt + (1) := i_addk rfl (by omega) (by omega) | have b72 := i_bd (l3 + (1 : Int32))
              exact IH (3100 - (l3 + (1 : Int32)).toInt).toNat (by omega) _ (l1) (l3) ((l3 + (1 : Int32))) rfl hF hV (by omega) (by omega) (by omega) (by omega) (by omega) (show (100002 - (l1.toInt + 1) % 100003).toNat = n52 from by omega) (show l3.toInt < 0 ∨ l1.toInt < ((m 100) l3.toNatClampNeg).toInt from by first | (exact Or.inl (by decide)) | (exact Or.inr (by omega)) | (exfalso; omega; done) | (exfalso; contradiction; done)) r_G1 (show (m0 94 56).toInt ≤ (m 94 56).toInt from by omega)
            · skip
              have g73 := i_nlt h69
              have hg74 : (0 ≤ l3 ∧ l3.toNatClampNeg < 3100) := i_ix (by omega) (by omega)
              refine ⟨hg74, ?_⟩
              have hg75 : (0 ≤ l2 ∧ l2.toNatClampNeg < 3100) := i_ix (by omega) (by omega)
              refine ⟨hg75, ?_⟩
              first | have f76 : 0 ≤ (m 100 l2.toNatClampNeg).toInt ∧ (m 100 l2.toNatClampNeg).toInt ≤ 100000 := ra_100 (m := m) hV (k := l2.toNatClampNeg) (i_ix (n := 3100) (by omega) (by omega)).2 | have b77 := i_bd (m 100 l2.toNatClampNeg)
              refine zd (fun (h78 : (m 100 l2.toNatClampNeg) ≤ (m 100 l3.toNatClampNeg)) => ?_) (fun (h78 : ¬ (m 100 l2.toNatClampNeg) ≤ (m 100 l3.toNatClampNeg)) => ?_)
              · skip
                have g79 := i_le h78
                try have nb := r_NB
                first | have e80 : (l3 + (1 : Int32)).toInt = l3.toInt + (1) := i_addk rfl (by omega) (by omega) | have b81 := i_bd (l3 + (1 : Int32))
                exact IH (3100 - (l3 + (1 : Int32)).toInt).toNat (by omega) _ (l1) (l2) ((l3 + (1 : Int32))) rfl hF hV (by omega) (by omega) (by omega) (by omega) (by omega) (show (100002 - (l1.toInt + 1) % 100003).toNat = n52 from by omega) r_NB r_G1 (show (m0 94 56).toInt ≤ (m 94 56).toInt from by omega)
              · skip
                have g82 := i_nle h78
                try have nb := r_NB
                first | have e83 : (l3 + (1 : Int32)).toInt = l3.toInt + (1) := i_addk rfl (by omega) (by omega) | have b84 := i_bd (l3 + (1 : Int32))
                exact IH (3100 - (l3 + (1 : Int32)).toInt).toNat (by omega) _ (l1) (l3) ((l3 + (1 : Int32))) rfl hF hV (by omega) (by omega) (by omega) (by omega) (by omega) (show (100002 - (l1.toInt + 1) % 100003).toNat = n52 from by omega) (show l3.toInt < 0 ∨ l1.toInt < ((m 100) l3.toNatClampNeg).toInt from by first | (exact Or.inl (by decide)) | (exact Or.inr (by omega)) | (exfalso; omega; done) | (exfalso; contradiction; done)) r_G1 (show (m0 94 56).toInt ≤ (m 94 56).toInt from by omega)
theorem lp_220_52 {X : Nat × (Nat → Int32)} {P : Option ma_V → (Nat → Nat → Int32) → Prop} {m0 : Nat → Nat → Int32} (h0 : zV m0) (K : ∀ m₉, zF wr_220 m0 m₉ → zV m₉ → (zG1 (m₉ 94 56) (m₉ 94 57) (m₉ 106)) → ((m0 94 56).toInt ≤ (m₉ 94 56).toInt) → P none m₉) : ∀ (n : Nat) (m : Nat → Nat → Int32) (l1 : Int32), (100002 - (l1.toInt + 1) % 100003).toNat = n → zF wr_220 m0 m → zV m → (-2 ≤ l1.toInt) → (l1.toInt ≤ 100000) → (zG1 (m 94 56) (m 94 57) (m 106)) → ((m0 94 56).toInt ≤ (m 94 56).toInt) → zm X 1 21 220 52 [(0, .inr (.inr (some 94))), (1, .inl l1)] m P := by
  intro n
  induction n using Nat.strongRecOn with
  | _ n IH =>
    intro m l1 hmu hF hV hi0 hi1 r_G1 hi3
    refine g_220_52 l1 ?_
    have f1 : 0 ≤ (m0 94 56).toInt ∧ (m0 94 56).toInt ≤ 3100 := rs_94_56 (m := m0) h0
    have f2 : 0 ≤ (m 94 56).toInt ∧ (m 94 56).toInt ≤ 3100 := rs_94_56 (m := m) hV
    have b3 := i_bd l1
    have li4 : (-2 : Int32).toInt = -2 := rfl
    refine zd (fun (h5 : l1 = (-2 : Int32)) => ?_) (fun (h5 : ¬ l1 = (-2 : Int32)) => ?_)
    · skip
      have g6 := i_eq h5
      exact K _ hF hV r_G1 (show (m0 94 56).toInt ≤ (m 94 56).toInt from by omega)
    · skip
      have g7 := i_ne h5
      have li8 : (-1 : Int32).toInt = -1 := rfl
      have li9 : (0 : Int32).toInt = 0 := rfl
      exact lp_220_62 h0 K (fun _ _ z1 z2 z3 y0 y1 y2 y3 => IH _ z1 _ _ rfl z2 z3 y0 y1 y2 y3) _ _ (l1) ((-1 : Int32)) ((0 : Int32)) rfl hF hV (by omega) (by omega) (by omega) (by omega) (by omega) (show (100002 - (l1.toInt + 1) % 100003).toNat = n from by omega) (show (-1 : Int32).toInt < 0 ∨ l1.toInt < ((m 100) (-1 : Int32).toNatClampNeg).toInt from by first | (exact Or.inl (by decide)) | (exact Or.inr (by omega)) | (exfalso; omega; done) | (exfalso; contradiction; done)) r_G1 (show (m0 94 56).toInt ≤ (m 94 56).toInt from by omega)
theorem lp_220_26 {X : Nat × (Nat → Int32)} {P : Option ma_V → (Nat → Nat → Int32) → Prop} {m0 : Nat → Nat → Int32} (h0 : zV m0) (K : ∀ m₉, zF wr_220 m0 m₉ → zV m₉ → (zG1 (m₉ 94 56) (m₉ 94 57) (m₉ 106)) → ((m0 94 56).toInt ≤ (m₉ 94 56).toInt) → P none m₉) : ∀ (n : Nat) (m : Nat → Nat → Int32) (l1 : Int32), (3100 - l1.toInt).toNat = n → zF wr_220 m0 m → zV m → (0 ≤ l1.toInt) → (zG1 (m 94 56) (m 94 57) (m 106)) → ((m0 94 56).toInt ≤ (m 94 56).toInt) → zm X 1 21 220 26 [(0, .inr (.inr (some 94))), (1, .inl l1)] m P := by
  intro n
  induction n using Nat.strongRecOn with
  | _ n IH =>
    intro m l1 hmu hF hV hi0 r_G1 hi2
    refine g_220_26 l1 ?_
    have f1 : 0 ≤ (m0 94 56).toInt ∧ (m0 94 56).toInt ≤ 3100 := rs_94_56 (m := m0) h0
    have f2 : 0 ≤ (m 94 56).toInt ∧ (m 94 56).toInt ≤ 3100 := rs_94_56 (m := m) hV
    have f3 : 0 ≤ (m 94 55).toInt ∧ (m 94 55).toInt ≤ 3100 := rs_94_55 (m := m) hV
    have b4 := i_bd l1
    refine zd (fun (h5 : (m 94 55) ≤ l1) => ?_) (fun (h5 : ¬ (m 94 55) ≤ l1) => ?_)
    · skip
      have g6 := i_le h5
      have li7 : (-1 : Int32).toInt = -1 := rfl
      exact lp_220_52 h0 K _ _ ((-1 : Int32)) rfl hF hV (by omega) (by omega) r_G1 (show (m0 94 56).toInt ≤ (m 94 56).toInt from by omega)
    · skip
      have g8 := i_nle h5
      have hg9 : (0 ≤ l1 ∧ l1.toNatClampNeg < 3100) := i_ix (by omega) (by omega)
      refine ⟨hg9, ?_⟩
      first | have f10 : 0 ≤ (m 114 l1.toNatClampNeg).toInt ∧ (m 114 l1.toNatClampNeg).toInt ≤ 3099 := ra_114 (m := m) hV (k := l1.toNatClampNeg) (i_ix (n := 3100) (by omega) (by omega)).2 | have b11 := i_bd (m 114 l1.toNatClampNeg)
      have li12 : (0 : Int32).toInt = 0 := rfl
      refine zd (fun (h13 : (m 114 l1.toNatClampNeg) < (0 : Int32)) => ?_) (fun (h13 : ¬ (m 114 l1.toNatClampNeg) < (0 : Int32)) => ?_)
      · skip
        have g14 := i_lt h13
        first | have e15 : (l1 + (1 : Int32)).toInt = l1.toInt + (1) := i_addk rfl (by omega) (by omega) | have b16 := i_bd (l1 + (1 : Int32))
        exact IH (3100 - (l1 + (1 : Int32)).toInt).toNat (by omega) _ ((l1 + (1 : Int32))) rfl hF hV (by omega) r_G1 (show (m0 94 56).toInt ≤ (m 94 56).toInt from by omega)
      · skip
        have g17 := i_nlt h13
        have hg18 : (0 ≤ (m 114 l1.toNatClampNeg) ∧ (m 114 l1.toNatClampNeg).toNatClampNeg < 3100) := i_ix (by omega) (by omega)
        refine ⟨hg18, ?_⟩
        have b19 := i_bd (m 106 (m 114 l1.toNatClampNeg).toNatClampNeg)
        refine zd (fun (h20 : (m 106 (m 114 l1.toNatClampNeg).toNatClampNeg) = (0 : Int32)) => ?_) (fun (h20 : ¬ (m 106 (m 114 l1.toNatClampNeg).toNatClampNeg) = (0 : Int32)) => ?_)
        · skip
          have g21 := i_eq h20
          have hg22 : (0 ≤ (m 114 l1.toNatClampNeg) ∧ (m 114 l1.toNatClampNeg).toNatClampNeg < 3100) := i_ix (by omega) (by omega)
          refine ⟨hg22, ?_⟩
          try have gk := G1_room r_G1 (by assumption) (by omega)
          have hg23 : (0 ≤ (m 94 56) ∧ (m 94 56).toNatClampNeg < 3100) := i_ix (by omega) (by omega)
          refine ⟨hg23, ?_⟩
          have hV24 : zV (ma_u m 106 (m 114 l1.toNatClampNeg).toNatClampNeg (1 : Int32)) := ua_106 hV
          have hV25 : zV (ma_u (ma_u m 106 (m 114 l1.toNatClampNeg).toNatClampNeg (1 : Int32)) 115 (m 94 56).toNatClampNeg (m 114 l1.toNatClampNeg)) := ua_115 hV24 (by omega) (by omega)
          first | have e27 : ((m 94 56) + (1 : Int32)).toInt = (m 94 56).toInt + (1) := i_addk rfl (by omega) (by omega) | have b28 := i_bd ((m 94 56) + (1 : Int32))
          have hV26 : zV (ma_u (ma_u (ma_u m 106 (m 114 l1.toNatClampNeg).toNatClampNeg (1 : Int32)) 115 (m 94 56).toNatClampNeg (m 114 l1.toNatClampNeg)) 94 56 ((m 94 56) + (1 : Int32))) := us_94_56 hV25 (by omega) (by omega)
          first | have e29 : (l1 + (1 : Int32)).toInt = l1.toInt + (1) := i_addk rfl (by omega) (by omega) | have b30 := i_bd (l1 + (1 : Int32))
          exact IH (3100 - (l1 + (1 : Int32)).toInt).toNat (by omega) _ ((l1 + (1 : Int32))) rfl (zF_u (zF_u (zF_u hF rfl) rfl) rfl) hV26 (by omega) (show zG1 ((m 94 56) + (1 : Int32)) (m 94 57) ((ma_u m 106 (m 114 l1.toNatClampNeg).toNatClampNeg (1 : Int32)) 106) from by first | (exact G1_push r_G1 (by assumption) (by omega) (by decide) (by assumption)) | (exact G1_dark0 r_G1 (by decide)) | (exfalso; omega; done) | (exfalso; contradiction; done)) (show (m0 94 56).toInt ≤ ((m 94 56) + (1 : Int32)).toInt from by omega)
        · skip
          have g31 := i_ne h20
          first | have e32 : (l1 + (1 : Int32)).toInt = l1.toInt + (1) := i_addk rfl (by omega) (by omega) | have b33 := i_bd (l1 + (1 : Int32))
          exact IH (3100 - (l1 + (1 : Int32)).toInt).toNat (by omega) _ ((l1 + (1 : Int32))) rfl hF hV (by omega) r_G1 (show (m0 94 56).toInt ≤ (m 94 56).toInt from by omega)
theorem lp_220_2 {X : Nat × (Nat → Int32)} {P : Option ma_V → (Nat → Nat → Int32) → Prop} {m0 : Nat → Nat → Int32} (h0 : zV m0) (K : ∀ m₉, zF wr_220 m0 m₉ → zV m₉ → (zG1 (m₉ 94 56) (m₉ 94 57) (m₉ 106)) → ((m0 94 56).toInt ≤ (m₉ 94 56).toInt) → P none m₉) : ∀ (n : Nat) (m : Nat → Nat → Int32) (l1 : Int32), (16 - l1.toInt).toNat = n → zF wr_220 m0 m → zV m → (0 ≤ l1.toInt) → (zG1 (m 94 56) (m 94 57) (m 106)) → ((m0 94 56).toInt ≤ (m 94 56).toInt) → zm X 1 21 220 2 [(0, .inr (.inr (some 94))), (1, .inl l1)] m P := by
  intro n
  induction n using Nat.strongRecOn with
  | _ n IH =>
    intro m l1 hmu hF hV hi0 r_G1 hi2
    refine g_220_2 l1 ?_
    have f1 : 0 ≤ (m0 94 56).toInt ∧ (m0 94 56).toInt ≤ 3100 := rs_94_56 (m := m0) h0
    have f2 : 0 ≤ (m 94 56).toInt ∧ (m 94 56).toInt ≤ 3100 := rs_94_56 (m := m) hV
    have li3 : (16 : Int32).toInt = 16 := rfl
    have b4 := i_bd l1
    refine zd (fun (h5 : (16 : Int32) ≤ l1) => ?_) (fun (h5 : ¬ (16 : Int32) ≤ l1) => ?_)
    · skip
      have g6 := i_le h5
      have li7 : (0 : Int32).toInt = 0 := rfl
      exact lp_220_26 h0 K _ _ ((0 : Int32)) rfl hF hV (by omega) r_G1 (show (m0 94 56).toInt ≤ (m 94 56).toInt from by omega)
    · skip
      have g8 := i_nle h5
      have hg9 : (0 ≤ l1 ∧ l1.toNatClampNeg < 16) := i_ix (by omega) (by omega)
      refine ⟨hg9, ?_⟩
      first | have f10 : -1 ≤ (m 112 l1.toNatClampNeg).toInt ∧ (m 112 l1.toNatClampNeg).toInt ≤ 3099 := ra_112 (m := m) hV (k := l1.toNatClampNeg) (i_ix (n := 16) (by omega) (by omega)).2 | have b11 := i_bd (m 112 l1.toNatClampNeg)
      have li12 : (0 : Int32).toInt = 0 := rfl
      refine zd (fun (h13 : (m 112 l1.toNatClampNeg) < (0 : Int32)) => ?_) (fun (h13 : ¬ (m 112 l1.toNatClampNeg) < (0 : Int32)) => ?_)
      · skip
        have g14 := i_lt h13
        first | have e15 : (l1 + (1 : Int32)).toInt = l1.toInt + (1) := i_addk rfl (by omega) (by omega) | have b16 := i_bd (l1 + (1 : Int32))
        exact IH (16 - (l1 + (1 : Int32)).toInt).toNat (by omega) _ ((l1 + (1 : Int32))) rfl hF hV (by omega) r_G1 (show (m0 94 56).toInt ≤ (m 94 56).toInt from by omega)
      · skip
        have g17 := i_nlt h13
        have hg18 : (0 ≤ (m 112 l1.toNatClampNeg) ∧ (m 112 l1.toNatClampNeg).toNatClampNeg < 3100) := i_ix (by omega) (by omega)
        refine ⟨hg18, ?_⟩
        have b19 := i_bd (m 106 (m 112 l1.toNatClampNeg).toNatClampNeg)
        refine zd (fun (h20 : (m 106 (m 112 l1.toNatClampNeg).toNatClampNeg) = (0 : Int32)) => ?_) (fun (h20 : ¬ (m 106 (m 112 l1.toNatClampNeg).toNatClampNeg) = (0 : Int32)) => ?_)
        · skip
          have g21 := i_eq h20
          have hg22 : (0 ≤ (m 112 l1.toNatClampNeg) ∧ (m 112 l1.toNatClampNeg).toNatClampNeg < 3100) := i_ix (by omega) (by omega)
          refine ⟨hg22, ?_⟩
          try have gk := G1_room r_G1 (by assumption) (by omega)
          have hg23 : (0 ≤ (m 94 56) ∧ (m 94 56).toNatClampNeg < 3100) := i_ix (by omega) (by omega)
          refine ⟨hg23, ?_⟩
          have hV24 : zV (ma_u m 106 (m 112 l1.toNatClampNeg).toNatClampNeg (1 : Int32)) := ua_106 hV
          have hV25 : zV (ma_u (ma_u m 106 (m 112 l1.toNatClampNeg).toNatClampNeg (1 : Int32)) 115 (m 94 56).toNatClampNeg (m 112 l1.toNatClampNeg)) := ua_115 hV24 (by omega) (by omega)
          first | have e27 : ((m 94 56) + (1 : Int32)).toInt = (m 94 56).toInt + (1) := i_addk rfl (by omega) (by omega) | have b28 := i_bd ((m 94 56) + (1 : Int32))
          have hV26 : zV (ma_u (ma_u (ma_u m 106 (m 112 l1.toNatClampNeg).toNatClampNeg (1 : Int32)) 115 (m 94 56).toNatClampNeg (m 112 l1.toNatClampNeg)) 94 56 ((m 94 56) + (1 : Int32))) := us_94_56 hV25 (by omega) (by omega)
          first | have e29 : (l1 + (1 : Int32)).toInt = l1.toInt + (1) := i_addk rfl (by omega) (by omega) | have b30 := i_bd (l1 + (1 : Int32))
          exact IH (16 - (l1 + (1 : Int32)).toInt).toNat (by omega) _ ((l1 + (1 : Int32))) rfl (zF_u (zF_u (zF_u hF rfl) rfl) rfl) hV26 (by omega) (show zG1 ((m 94 56) + (1 : Int32)) (m 94 57) ((ma_u m 106 (m 112 l1.toNatClampNeg).toNatClampNeg (1 : Int32)) 106) from by first | (exact G1_push r_G1 (by assumption) (by omega) (by decide) (by assumption)) | (exact G1_dark0 r_G1 (by decide)) | (exfalso; omega; done) | (exfalso; contradiction; done)) (show (m0 94 56).toInt ≤ ((m 94 56) + (1 : Int32)).toInt from by omega)
        · skip
          have g31 := i_ne h20
          first | have e32 : (l1 + (1 : Int32)).toInt = l1.toInt + (1) := i_addk rfl (by omega) (by omega) | have b33 := i_bd (l1 + (1 : Int32))
          exact IH (16 - (l1 + (1 : Int32)).toInt).toNat (by omega) _ ((l1 + (1 : Int32))) rfl hF hV (by omega) r_G1 (show (m0 94 56).toInt ≤ (m 94 56).toInt from by omega)
theorem sp_220 {X : Nat × (Nat → Int32)} {P : Option ma_V → (Nat → Nat → Int32) → Prop} {m : Nat → Nat → Int32}  (hV : zV m) (r_G1 : zG1 (m 94 56) (m 94 57) (m 106)) (KZ : ∀ m₉, zV (zov wr_220 m m₉) → (zG1 (m₉ 94 56) (m 94 57) (m₉ 106)) → ((m 94 56).toInt ≤ (m₉ 94 56).toInt) → P none (zov wr_220 m m₉)) : zm X 1 21 220 0 [(0, .inr (.inr (some 94)))] m P := by
  have K : ∀ m₉, zF wr_220 m m₉ → zV m₉ → (zG1 (m₉ 94 56) (m₉ 94 57) (m₉ 106)) → ((m 94 56).toInt ≤ (m₉ 94 56).toInt) → P none m₉ := by
    intro m₉ hf z q0 q1
    have e := zov_eq hf
    rw [e] at z ⊢
    try rw [e] at q0
    try rw [e] at q1
    exact KZ m₉ z q0 q1
  refine g_220_0  ?_
  have li1 : (0 : Int32).toInt = 0 := rfl
  have f2 : 0 ≤ (m 94 56).toInt ∧ (m 94 56).toInt ≤ 3100 := rs_94_56 (m := m) hV
  exact lp_220_2 hV K _ _ ((0 : Int32)) rfl zF_rfl hV (by omega) r_G1 (show (m 94 56).toInt ≤ (m 94 56).toInt from by omega)

/-! from 94.422 -/
/-! the reference (written by wip/tools/gen94m.py) -/
set_option maxRecDepth 100000 in
theorem hm_219 : ma_md 219 = some (12, yX12_beginMarking, cX12_beginMarking, 2, none) := rfl
theorem p_12_267_12 : ma_pk 12 267 12 57 = true := by decide +kernel
theorem p_12_270_12 : ma_pk 12 270 12 58 = true := by decide +kernel
theorem v_12_399_12 : ma_vl 12 399 12 = some (1, 220, 0) := by decide +kernel
theorem dX12_beginMarking_0 : decode cX12_beginMarking 0 = .ok (.aload_n 0, 1) := by decide +kernel
theorem dX12_beginMarking_1 : decode cX12_beginMarking 1 = .ok (.iconst 1, 1) := by decide +kernel
theorem dX12_beginMarking_5 : decode cX12_beginMarking 5 = .ok (.iconst 0, 1) := by decide +kernel
theorem dX12_beginMarking_6 : decode cX12_beginMarking 6 = .ok (.istore_n 1, 1) := by decide +kernel
theorem dX12_beginMarking_2 : decode cX12_beginMarking 2 = .ok (.putfield 270, 3) := by decide +kernel
theorem dX12_beginMarking_7 : decode cX12_beginMarking 7 = .ok (.iload_n 1, 1) := by decide +kernel
theorem dX12_beginMarking_8 : decode cX12_beginMarking 8 = .ok (.sipush 3100, 3) := by decide +kernel
theorem dX12_beginMarking_27 : decode cX12_beginMarking 27 = .ok (.aload_n 0, 1) := by decide +kernel
theorem dX12_beginMarking_28 : decode cX12_beginMarking 28 = .ok (.iconst 0, 1) := by decide +kernel
theorem dX12_beginMarking_32 : decode cX12_beginMarking 32 = .ok (.aload_n 0, 1) := by decide +kernel
theorem dX12_beginMarking_33 : decode cX12_beginMarking 33 = .ok (.iconst 0, 1) := by decide +kernel
theorem dX12_beginMarking_37 : decode cX12_beginMarking 37 = .ok (.aload_n 0, 1) := by decide +kernel
theorem dX12_beginMarking_38 : decode cX12_beginMarking 38 = .ok (.invokevirtual 399, 3) := by decide +kernel
theorem dX12_beginMarking_41 : decode cX12_beginMarking 41 = .ok (.return_, 1) := by decide +kernel
theorem dX12_beginMarking_34 : decode cX12_beginMarking 34 = .ok (.putfield 267, 3) := by decide +kernel
theorem dX12_beginMarking_29 : decode cX12_beginMarking 29 = .ok (.putfield 264, 3) := by decide +kernel
theorem dX12_beginMarking_14 : decode cX12_beginMarking 14 = .ok (.aload_n 0, 1) := by decide +kernel
theorem dX12_beginMarking_18 : decode cX12_beginMarking 18 = .ok (.iload_n 1, 1) := by decide +kernel
theorem dX12_beginMarking_19 : decode cX12_beginMarking 19 = .ok (.iconst 0, 1) := by decide +kernel
theorem dX12_beginMarking_21 : decode cX12_beginMarking 21 = .ok (.iinc 1 1, 3) := by decide +kernel
theorem dX12_beginMarking_24 : decode cX12_beginMarking 24 = .ok (.goto (-17), 3) := by decide +kernel
theorem dX12_beginMarking_20 : decode cX12_beginMarking 20 = .ok (.iastore, 1) := by decide +kernel
theorem dX12_beginMarking_15 : decode cX12_beginMarking 15 = .ok (.getfield 49, 3) := by decide +kernel
theorem dX12_beginMarking_11 : decode cX12_beginMarking 11 = .ok (.if_icmp .ge 16, 3) := by decide +kernel
def wr_219 (c k : Nat) : Bool := Nat.beq c 106 || Nat.beq c 115 || (Nat.beq c 94 && (Nat.beq k 56 || Nat.beq k 57 || Nat.beq k 58))
theorem ws_220_219 : ∀ c k, wr_220 c k = true → wr_219 c k = true := by
  intro c k h
  simp only [wr_220, Bool.or_eq_true, Bool.and_eq_true, Nat.beq_eq] at h
  rcases h with (rfl | rfl) | ⟨rfl, rfl⟩ <;> rfl
theorem g_219_0 {X : Nat × (Nat → Int32)} {m : Nat → Nat → Int32} {P : Option ma_V → (Nat → Nat → Int32) → Prop}  (h : zm X 2 44 219 7 [(0, .inr (.inr (some 94))), (1, .inl (0 : Int32))] (ma_u m 94 58 (1 : Int32)) P) : zm X 2 44 219 0 [(0, .inr (.inr (some 94)))] m P := by
  intro d w S Q hd hw hS hm HQ
  subst hm
  refine zw_push hm_219 dX12_beginMarking_0 (v := .inr (.inr (some 94))) rfl ?_
  refine zw_push hm_219 dX12_beginMarking_1 (v := .inl (1 : Int32)) rfl ?_
  refine zw_pf hm_219 dX12_beginMarking_2 (zT_is hS s_94) (zT_t hS s_94) p_12_270_12 (zk_bool (by decide)) ?_
  refine zw_push hm_219 dX12_beginMarking_5 (v := .inl (0 : Int32)) rfl ?_
  refine zw_sto hm_219 dX12_beginMarking_6 [(1, .inl (0 : Int32)), (0, .inr (.inr (some 94)))] rfl rfl rfl ?_
  exact zw_sub (ma_nd_of (ks := [0, 1]) rfl (by decide)) (ma_nd_of (ks := [1, 0]) rfl (by decide)) (ma_le_cons rfl (ma_le_cons rfl (ma_le_nil _))) (h d w _ Q (by omega) (by omega) (zT_pi hS) rfl HQ)
theorem g_219_7 {X : Nat × (Nat → Int32)} {m : Nat → Nat → Int32} {P : Option ma_V → (Nat → Nat → Int32) → Prop} (l1 : Int32) (h : if (3100 : Int32) ≤ l1 then (zm X 1 21 220 0 [(0, .inr (.inr (some 94)))] (ma_u (ma_u m 94 56 (0 : Int32)) 94 57 (0 : Int32)) (zmv (fun m1 => P none m1))) else ((0 ≤ l1 ∧ l1.toNatClampNeg < 3100) ∧ (zm X 2 44 219 7 [(0, .inr (.inr (some 94))), (1, .inl (l1 + (1 : Int32)))] (ma_u m 106 l1.toNatClampNeg (0 : Int32)) P))) : zm X 2 44 219 7 [(0, .inr (.inr (some 94))), (1, .inl l1)] m P := by
  intro d w S Q hd hw hS hm HQ
  subst hm
  refine zw_push hm_219 dX12_beginMarking_7 (v := .inl l1) rfl ?_
  refine zw_push hm_219 dX12_beginMarking_8 (v := .inl (3100 : Int32)) rfl ?_
  refine zw_if2 hm_219 dX12_beginMarking_11 (t := 27) rfl zc2_ge ?_ ?_
  · intro hc
    rw [if_pos hc] at h
    refine zw_push hm_219 dX12_beginMarking_27 (v := .inr (.inr (some 94))) rfl ?_
    refine zw_push hm_219 dX12_beginMarking_28 (v := .inl (0 : Int32)) rfl ?_
    refine zw_pf hm_219 dX12_beginMarking_29 (zT_is hS s_94) (zT_t hS s_94) p_12_264_12 zk_int ?_
    refine zw_push hm_219 dX12_beginMarking_32 (v := .inr (.inr (some 94))) rfl ?_
    refine zw_push hm_219 dX12_beginMarking_33 (v := .inl (0 : Int32)) rfl ?_
    refine zw_pf hm_219 dX12_beginMarking_34 (zT_is (zT_pi hS) s_94) (zT_t (zT_pi hS) s_94) p_12_267_12 zk_int ?_
    refine zw_push hm_219 dX12_beginMarking_37 (v := .inr (.inr (some 94))) rfl ?_
    refine zw_cv hm_219 dX12_beginMarking_38 v_12_399_12 hm_220 [] [] rfl (zT_rt (zT_pi (zT_pi hS)) s_94 rfl) ⟨by omega, by omega⟩ rfl (h _ _ (ma_put (ma_put S 94 56 (.inl (0 : Int32))) 94 57 (.inl (0 : Int32))) _ (by omega) (by omega) (zT_pi (zT_pi hS)) rfl (fun o9 m1 hv => ?_))
    obtain ⟨rfl, h⟩ := zmv_of hv
    show ma_wp X d w 219 41 [(0, .inr (.inr (some 94))), (1, .inl l1)] [] (zst S m1) _
    exact zw_vret hm_219 dX12_beginMarking_41 (HQ _ _ h)
  · intro hc
    rw [if_neg hc] at h
    refine zw_push hm_219 dX12_beginMarking_14 (v := .inr (.inr (some 94))) rfl ?_
    refine zw_gf hm_219 dX12_beginMarking_15 (v := .inr (.inr (some 106))) (zT_is hS s_94) (zT_t hS s_94) rfl f_12_49_12 (zT_f hS r_94_38) ?_
    refine zw_push hm_219 dX12_beginMarking_18 (v := .inl l1) rfl ?_
    refine zw_push hm_219 dX12_beginMarking_19 (v := .inl (0 : Int32)) rfl ?_
    obtain ⟨hg, h⟩ := h
    refine zw_ias hm_219 dX12_beginMarking_20 (zT_is hS s_106) (zT_h hS s_106) rfl hg ?_
    refine zw_sto hm_219 dX12_beginMarking_21 [(1, .inl (l1 + (1 : Int32))), (0, .inr (.inr (some 94)))] rfl rfl rfl ?_
    refine zw_goto hm_219 dX12_beginMarking_24 (t := 7) rfl ?_
    exact zw_sub (ma_nd_of (ks := [0, 1]) rfl (by decide)) (ma_nd_of (ks := [1, 0]) rfl (by decide)) (ma_le_cons rfl (ma_le_cons rfl (ma_le_nil _))) (h d w _ Q (by omega) (by omega) (zT_pi hS) rfl HQ)
theorem lp_219_7 {X : Nat × (Nat → Int32)} {P : Option ma_V → (Nat → Nat → Int32) → Prop} {m0 : Nat → Nat → Int32} (h0 : zV m0) (K : ∀ m₉, zF wr_219 m0 m₉ → zV m₉ → (zG1 (m₉ 94 56) (m₉ 94 57) (m₉ 106)) → ((m₉ 94 58).toInt = 1) → P none m₉) : ∀ (n : Nat) (m : Nat → Nat → Int32) (l1 : Int32), (3100 - l1.toInt).toNat = n → zF wr_219 m0 m → zV m → (0 ≤ l1.toInt) → ((m 94 58).toInt = 1) → zm X 2 44 219 7 [(0, .inr (.inr (some 94))), (1, .inl l1)] m P := by
  intro n
  induction n using Nat.strongRecOn with
  | _ n IH =>
    intro m l1 hmu hF hV hi0 hi1
    refine g_219_7 l1 ?_
    have f1 : 0 ≤ (m 94 58).toInt ∧ (m 94 58).toInt ≤ 1 := rs_94_58 (m := m) hV
    have li2 : (3100 : Int32).toInt = 3100 := rfl
    have b3 := i_bd l1
    refine zd (fun (h4 : (3100 : Int32) ≤ l1) => ?_) (fun (h4 : ¬ (3100 : Int32) ≤ l1) => ?_)
    · skip
      have g5 := i_le h4
      have li7 : (0 : Int32).toInt = 0 := rfl
      have hV6 : zV (ma_u m 94 56 (0 : Int32)) := us_94_56 hV (by omega) (by omega)
      have hV8 : zV (ma_u (ma_u m 94 56 (0 : Int32)) 94 57 (0 : Int32)) := us_94_57 hV6 (by omega) (by omega)
      refine sp_220  hV8 (show zG1 (0 : Int32) (0 : Int32) (m 106) from by first | (exact G1_0 (by omega) (by omega)) | (exfalso; omega; done) | (exfalso; contradiction; done)) (fun m1 hV_m1 p0_m1 p1_m1 => zmv_n ?_)
      have p0_m1 : zG1 (m1 94 56) (0 : Int32) (m1 106) := p0_m1
      have p1_m1 : (0 : Int32).toInt ≤ (m1 94 56).toInt := p1_m1
      have f9 : 0 ≤ (m1 94 56).toInt ∧ (m1 94 56).toInt ≤ 3100 := rs_94_56 (m := (zov wr_220 (ma_u (ma_u m 94 56 (0 : Int32)) 94 57 (0 : Int32)) m1)) hV_m1
      exact K _ (zF_zov (zF_u (zF_u hF rfl) rfl) ws_220_219) hV_m1 p0_m1 (show (m 94 58).toInt = 1 from by omega)
    · skip
      have g10 := i_nle h4
      have hg11 : (0 ≤ l1 ∧ l1.toNatClampNeg < 3100) := i_ix (by omega) (by omega)
      refine ⟨hg11, ?_⟩
      have hV12 : zV (ma_u m 106 l1.toNatClampNeg (0 : Int32)) := ua_106 hV
      first | have e13 : (l1 + (1 : Int32)).toInt = l1.toInt + (1) := i_addk rfl (by omega) (by omega) | have b14 := i_bd (l1 + (1 : Int32))
      exact IH (3100 - (l1 + (1 : Int32)).toInt).toNat (by omega) _ ((l1 + (1 : Int32))) rfl (zF_u hF rfl) hV12 (by omega) (show (m 94 58).toInt = 1 from by omega)
theorem sp_219 {X : Nat × (Nat → Int32)} {P : Option ma_V → (Nat → Nat → Int32) → Prop} {m : Nat → Nat → Int32}  (hV : zV m)  (KZ : ∀ m₉, zV (zov wr_219 m m₉) → (zG1 (m₉ 94 56) (m₉ 94 57) (m₉ 106)) → ((m₉ 94 58).toInt = 1) → P none (zov wr_219 m m₉)) : zm X 2 44 219 0 [(0, .inr (.inr (some 94)))] m P := by
  have K : ∀ m₉, zF wr_219 m m₉ → zV m₉ → (zG1 (m₉ 94 56) (m₉ 94 57) (m₉ 106)) → ((m₉ 94 58).toInt = 1) → P none m₉ := by
    intro m₉ hf z q0 q1
    have e := zov_eq hf
    rw [e] at z ⊢
    try rw [e] at q0
    try rw [e] at q1
    exact KZ m₉ z q0 q1
  refine g_219_0  ?_
  have li2 : (1 : Int32).toInt = 1 := rfl
  have hV1 : zV (ma_u m 94 58 (1 : Int32)) := us_94_58 hV (by omega) (by omega)
  have li3 : (0 : Int32).toInt = 0 := rfl
  exact lp_219_7 hV K _ _ ((0 : Int32)) rfl (zF_u zF_rfl rfl) hV1 (by omega) (show (1 : Int32).toInt = 1 from by omega)

/-! from 94.423 -/
/-! the reference (written by wip/tools/gen94m.py) -/
set_option maxRecDepth 100000 in
theorem hm_222 : ma_md 222 = some (12, yX12_steps, cX12_steps, 5, (some (FieldType.int))) := rfl
theorem f_12_267_12 : ma_fld 12 267 12 = some 57 := by decide +kernel
theorem dX12_steps_0 : decode cX12_steps 0 = .ok (.iconst 0, 1) := by decide +kernel
theorem dX12_steps_1 : decode cX12_steps 1 = .ok (.istore_n 2, 1) := by decide +kernel
theorem dX12_steps_2 : decode cX12_steps 2 = .ok (.iload_n 2, 1) := by decide +kernel
theorem dX12_steps_3 : decode cX12_steps 3 = .ok (.iload_n 1, 1) := by decide +kernel
theorem dX12_steps_82 : decode cX12_steps 82 = .ok (.iload_n 2, 1) := by decide +kernel
theorem dX12_steps_83 : decode cX12_steps 83 = .ok (.ireturn, 1) := by decide +kernel
theorem dX12_steps_7 : decode cX12_steps 7 = .ok (.aload_n 0, 1) := by decide +kernel
theorem dX12_steps_11 : decode cX12_steps 11 = .ok (.aload_n 0, 1) := by decide +kernel
theorem dX12_steps_18 : decode cX12_steps 18 = .ok (.aload_n 0, 1) := by decide +kernel
theorem dX12_steps_22 : decode cX12_steps 22 = .ok (.aload_n 0, 1) := by decide +kernel
theorem dX12_steps_27 : decode cX12_steps 27 = .ok (.istore_n 3, 1) := by decide +kernel
theorem dX12_steps_28 : decode cX12_steps 28 = .ok (.aload_n 0, 1) := by decide +kernel
theorem dX12_steps_29 : decode cX12_steps 29 = .ok (.dup, 1) := by decide +kernel
theorem dX12_steps_33 : decode cX12_steps 33 = .ok (.iconst 1, 1) := by decide +kernel
theorem dX12_steps_34 : decode cX12_steps 34 = .ok (.iadd, 1) := by decide +kernel
theorem dX12_steps_38 : decode cX12_steps 38 = .ok (.aload_n 0, 1) := by decide +kernel
theorem dX12_steps_42 : decode cX12_steps 42 = .ok (.iload_n 3, 1) := by decide +kernel
theorem dX12_steps_43 : decode cX12_steps 43 = .ok (.iconst 2, 1) := by decide +kernel
theorem dX12_steps_45 : decode cX12_steps 45 = .ok (.iconst 0, 1) := by decide +kernel
theorem dX12_steps_46 : decode cX12_steps 46 = .ok (.istore 4, 2) := by decide +kernel
theorem dX12_steps_44 : decode cX12_steps 44 = .ok (.iastore, 1) := by decide +kernel
theorem dX12_steps_39 : decode cX12_steps 39 = .ok (.getfield 49, 3) := by decide +kernel
theorem dX12_steps_35 : decode cX12_steps 35 = .ok (.putfield 267, 3) := by decide +kernel
theorem dX12_steps_30 : decode cX12_steps 30 = .ok (.getfield 267, 3) := by decide +kernel
theorem dX12_steps_26 : decode cX12_steps 26 = .ok (.iaload, 1) := by decide +kernel
theorem dX12_steps_23 : decode cX12_steps 23 = .ok (.getfield 267, 3) := by decide +kernel
theorem dX12_steps_19 : decode cX12_steps 19 = .ok (.getfield 77, 3) := by decide +kernel
theorem dX12_steps_15 : decode cX12_steps 15 = .ok (.if_icmp .ge 67, 3) := by decide +kernel
theorem dX12_steps_12 : decode cX12_steps 12 = .ok (.getfield 264, 3) := by decide +kernel
theorem dX12_steps_8 : decode cX12_steps 8 = .ok (.getfield 267, 3) := by decide +kernel
theorem dX12_steps_4 : decode cX12_steps 4 = .ok (.if_icmp .ge 78, 3) := by decide +kernel
theorem dX12_steps_48 : decode cX12_steps 48 = .ok (.iload 4, 2) := by decide +kernel
theorem dX12_steps_50 : decode cX12_steps 50 = .ok (.aload_n 0, 1) := by decide +kernel
theorem dX12_steps_54 : decode cX12_steps 54 = .ok (.iload_n 3, 1) := by decide +kernel
theorem dX12_steps_76 : decode cX12_steps 76 = .ok (.iinc 2 1, 3) := by decide +kernel
theorem dX12_steps_79 : decode cX12_steps 79 = .ok (.goto (-77), 3) := by decide +kernel
theorem dX12_steps_59 : decode cX12_steps 59 = .ok (.aload_n 0, 1) := by decide +kernel
theorem dX12_steps_60 : decode cX12_steps 60 = .ok (.aload_n 0, 1) := by decide +kernel
theorem dX12_steps_61 : decode cX12_steps 61 = .ok (.iload_n 3, 1) := by decide +kernel
theorem dX12_steps_62 : decode cX12_steps 62 = .ok (.iload 4, 2) := by decide +kernel
theorem dX12_steps_64 : decode cX12_steps 64 = .ok (.invokevirtual 294, 3) := by decide +kernel
theorem dX12_steps_67 : decode cX12_steps 67 = .ok (.invokevirtual 396, 3) := by decide +kernel
theorem dX12_steps_70 : decode cX12_steps 70 = .ok (.iinc 4 1, 3) := by decide +kernel
theorem dX12_steps_73 : decode cX12_steps 73 = .ok (.goto (-25), 3) := by decide +kernel
theorem dX12_steps_56 : decode cX12_steps 56 = .ok (.if_icmp .ge 20, 3) := by decide +kernel
theorem dX12_steps_55 : decode cX12_steps 55 = .ok (.iaload, 1) := by decide +kernel
theorem dX12_steps_51 : decode cX12_steps 51 = .ok (.getfield 37, 3) := by decide +kernel
def wr_222 (c k : Nat) : Bool := Nat.beq c 106 || Nat.beq c 115 || (Nat.beq c 94 && (Nat.beq k 56 || Nat.beq k 57))
theorem ws_192_222 : ∀ c k, wr_192 c k = true → wr_222 c k = true := fun _ _ h => by cases h
theorem g_222_0 {X : Nat × (Nat → Int32)} {m : Nat → Nat → Int32} {P : Option ma_V → (Nat → Nat → Int32) → Prop} (nn : Int32) (h : zm X 2 44 222 2 [(0, .inr (.inr (some 94))), (1, .inl nn), (2, .inl (0 : Int32))] m P) : zm X 2 44 222 0 [(0, .inr (.inr (some 94))), (1, .inl nn)] m P := by
  intro d w S Q hd hw hS hm HQ
  subst hm
  refine zw_push hm_222 dX12_steps_0 (v := .inl (0 : Int32)) rfl ?_
  refine zw_sto hm_222 dX12_steps_1 [(2, .inl (0 : Int32)), (0, .inr (.inr (some 94))), (1, .inl nn)] rfl rfl rfl ?_
  exact zw_sub (ma_nd_of (ks := [0, 1, 2]) rfl (by decide)) (ma_nd_of (ks := [2, 0, 1]) rfl (by decide)) (ma_le_cons rfl (ma_le_cons rfl (ma_le_cons rfl (ma_le_nil _)))) (h d w _ Q (by omega) (by omega) hS rfl HQ)
theorem g_222_2 {X : Nat × (Nat → Int32)} {m : Nat → Nat → Int32} {P : Option ma_V → (Nat → Nat → Int32) → Prop} (l1 : Int32) (l2 : Int32) (h : if l1 ≤ l2 then (P (some (.inl l2)) m) else (if (m 94 56) ≤ (m 94 57) then (P (some (.inl l2)) m) else ((0 ≤ (m 94 57) ∧ (m 94 57).toNatClampNeg < 3100) ∧ ((0 ≤ (m 115 (m 94 57).toNatClampNeg) ∧ (m 115 (m 94 57).toNatClampNeg).toNatClampNeg < 3100) ∧ (zm X 2 44 222 48 [(0, .inr (.inr (some 94))), (1, .inl l1), (2, .inl l2), (3, .inl (m 115 (m 94 57).toNatClampNeg)), (4, .inl (0 : Int32))] (ma_u (ma_u m 94 57 ((m 94 57) + (1 : Int32))) 106 (m 115 (m 94 57).toNatClampNeg).toNatClampNeg (2 : Int32)) P))))) : zm X 2 44 222 2 [(0, .inr (.inr (some 94))), (1, .inl l1), (2, .inl l2)] m P := by
  intro d w S Q hd hw hS hm HQ
  subst hm
  refine zw_push hm_222 dX12_steps_2 (v := .inl l2) rfl ?_
  refine zw_push hm_222 dX12_steps_3 (v := .inl l1) rfl ?_
  refine zw_if2 hm_222 dX12_steps_4 (t := 82) rfl zc2_ge ?_ ?_
  · intro hc
    rw [if_pos hc] at h
    refine zw_push hm_222 dX12_steps_82 (v := .inl l2) rfl ?_
    exact zw_iret hm_222 dX12_steps_83 (HQ _ _ h)
  · intro hc
    rw [if_neg hc] at h
    refine zw_push hm_222 dX12_steps_7 (v := .inr (.inr (some 94))) rfl ?_
    refine zw_gf hm_222 dX12_steps_8 (v := .inl ((mI S) 94 57)) (zT_is hS s_94) (zT_t hS s_94) rfl f_12_267_12 rfl ?_
    refine zw_push hm_222 dX12_steps_11 (v := .inr (.inr (some 94))) rfl ?_
    refine zw_gf hm_222 dX12_steps_12 (v := .inl ((mI S) 94 56)) (zT_is hS s_94) (zT_t hS s_94) rfl f_12_264_12 rfl ?_
    refine zw_if2 hm_222 dX12_steps_15 (t := 82) rfl zc2_ge ?_ ?_
    · intro hc
      rw [if_pos hc] at h
      refine zw_push hm_222 dX12_steps_82 (v := .inl l2) rfl ?_
      exact zw_iret hm_222 dX12_steps_83 (HQ _ _ h)
    · intro hc
      rw [if_neg hc] at h
      refine zw_push hm_222 dX12_steps_18 (v := .inr (.inr (some 94))) rfl ?_
      refine zw_gf hm_222 dX12_steps_19 (v := .inr (.inr (some 115))) (zT_is hS s_94) (zT_t hS s_94) rfl f_12_77_12 (zT_f hS r_94_54) ?_
      refine zw_push hm_222 dX12_steps_22 (v := .inr (.inr (some 94))) rfl ?_
      refine zw_gf hm_222 dX12_steps_23 (v := .inl ((mI S) 94 57)) (zT_is hS s_94) (zT_t hS s_94) rfl f_12_267_12 rfl ?_
      obtain ⟨hg, h⟩ := h
      refine zw_ia hm_222 dX12_steps_26 (zT_is hS s_115) (zT_h hS s_115) rfl hg ?_
      show ma_wp X d w 222 27 [(0, .inr (.inr (some 94))), (1, .inl l1), (2, .inl l2)] [.inl ((mI S) 115 ((mI S) 94 57).toNatClampNeg)] S _
      refine zw_sto hm_222 dX12_steps_27 [(3, .inl ((mI S) 115 ((mI S) 94 57).toNatClampNeg)), (0, .inr (.inr (some 94))), (1, .inl l1), (2, .inl l2)] rfl rfl rfl ?_
      refine zw_push hm_222 dX12_steps_28 (v := .inr (.inr (some 94))) rfl ?_
      refine zw_stk hm_222 dX12_steps_29 (st₉ := [.inr (.inr (some 94)), .inr (.inr (some 94))]) rfl rfl ?_
      refine zw_gf hm_222 dX12_steps_30 (v := .inl ((mI S) 94 57)) (zT_is hS s_94) (zT_t hS s_94) rfl f_12_267_12 rfl ?_
      refine zw_push hm_222 dX12_steps_33 (v := .inl (1 : Int32)) rfl ?_
      refine zw_stk hm_222 dX12_steps_34 (st₉ := [.inl (((mI S) 94 57) + (1 : Int32)), .inr (.inr (some 94))]) rfl rfl ?_
      refine zw_pf hm_222 dX12_steps_35 (zT_is hS s_94) (zT_t hS s_94) p_12_267_12 zk_int ?_
      refine zw_push hm_222 dX12_steps_38 (v := .inr (.inr (some 94))) rfl ?_
      refine zw_gf hm_222 dX12_steps_39 (v := .inr (.inr (some 106))) (zT_is (zT_pi hS) s_94) (zT_t (zT_pi hS) s_94) rfl f_12_49_12 (zT_f (zT_pi hS) r_94_38) ?_
      refine zw_push hm_222 dX12_steps_42 (v := .inl ((mI S) 115 ((mI S) 94 57).toNatClampNeg)) rfl ?_
      refine zw_push hm_222 dX12_steps_43 (v := .inl (2 : Int32)) rfl ?_
      obtain ⟨hg, h⟩ := h
      refine zw_ias hm_222 dX12_steps_44 (zT_is (zT_pi hS) s_106) (zT_h (zT_pi hS) s_106) rfl hg ?_
      refine zw_push hm_222 dX12_steps_45 (v := .inl (0 : Int32)) rfl ?_
      refine zw_sto hm_222 dX12_steps_46 [(4, .inl (0 : Int32)), (3, .inl ((mI S) 115 ((mI S) 94 57).toNatClampNeg)), (0, .inr (.inr (some 94))), (1, .inl l1), (2, .inl l2)] rfl rfl rfl ?_
      exact zw_sub (ma_nd_of (ks := [0, 1, 2, 3, 4]) rfl (by decide)) (ma_nd_of (ks := [4, 3, 0, 1, 2]) rfl (by decide)) (ma_le_cons rfl (ma_le_cons rfl (ma_le_cons rfl (ma_le_cons rfl (ma_le_cons rfl (ma_le_nil _)))))) (h d w _ Q (by omega) (by omega) (zT_pi (zT_pi hS)) rfl HQ)
theorem g_222_48 {X : Nat × (Nat → Int32)} {m : Nat → Nat → Int32} {P : Option ma_V → (Nat → Nat → Int32) → Prop} (l1 : Int32) (l2 : Int32) (l3 : Int32) (l4 : Int32) (h : (0 ≤ l3 ∧ l3.toNatClampNeg < 3100) ∧ (if (m 102 l3.toNatClampNeg) ≤ l4 then (zm X 2 44 222 2 [(0, .inr (.inr (some 94))), (1, .inl l1), (2, .inl (l2 + (1 : Int32)))] m P) else (zm X 1 22 192 0 [(0, .inr (.inr (some 94))), (1, .inl l3), (2, .inl l4)] m (zmi (fun v2 m1 => if v2 < 0 then (zm X 2 44 222 48 [(0, .inr (.inr (some 94))), (1, .inl l1), (2, .inl l2), (3, .inl l3), (4, .inl (l4 + (1 : Int32)))] m1 P) else ((0 ≤ v2 ∧ v2.toNatClampNeg < 3100) ∧ (if (m1 106 v2.toNatClampNeg) = 0 then ((0 ≤ v2 ∧ v2.toNatClampNeg < 3100) ∧ ((0 ≤ (m1 94 56) ∧ (m1 94 56).toNatClampNeg < 3100) ∧ (zm X 2 44 222 48 [(0, .inr (.inr (some 94))), (1, .inl l1), (2, .inl l2), (3, .inl l3), (4, .inl (l4 + (1 : Int32)))] (ma_u (ma_u (ma_u m1 106 v2.toNatClampNeg (1 : Int32)) 115 (m1 94 56).toNatClampNeg v2) 94 56 ((m1 94 56) + (1 : Int32))) P))) else (zm X 2 44 222 48 [(0, .inr (.inr (some 94))), (1, .inl l1), (2, .inl l2), (3, .inl l3), (4, .inl (l4 + (1 : Int32)))] m1 P)))))))) : zm X 2 44 222 48 [(0, .inr (.inr (some 94))), (1, .inl l1), (2, .inl l2), (3, .inl l3), (4, .inl l4)] m P := by
  intro d w S Q hd hw hS hm HQ
  subst hm
  refine zw_push hm_222 dX12_steps_48 (v := .inl l4) rfl ?_
  refine zw_push hm_222 dX12_steps_50 (v := .inr (.inr (some 94))) rfl ?_
  refine zw_gf hm_222 dX12_steps_51 (v := .inr (.inr (some 102))) (zT_is hS s_94) (zT_t hS s_94) rfl f_12_37_12 (zT_f hS r_94_34) ?_
  refine zw_push hm_222 dX12_steps_54 (v := .inl l3) rfl ?_
  obtain ⟨hg, h⟩ := h
  refine zw_ia hm_222 dX12_steps_55 (zT_is hS s_102) (zT_h hS s_102) rfl hg ?_
  show ma_wp X d w 222 56 [(0, .inr (.inr (some 94))), (1, .inl l1), (2, .inl l2), (3, .inl l3), (4, .inl l4)] [.inl ((mI S) 102 l3.toNatClampNeg), .inl l4] S _
  refine zw_if2 hm_222 dX12_steps_56 (t := 76) rfl zc2_ge ?_ ?_
  · intro hc
    rw [if_pos hc] at h
    refine zw_sto hm_222 dX12_steps_76 [(2, .inl (l2 + (1 : Int32))), (0, .inr (.inr (some 94))), (1, .inl l1), (3, .inl l3), (4, .inl l4)] rfl rfl rfl ?_
    refine zw_goto hm_222 dX12_steps_79 (t := 2) rfl ?_
    exact zw_sub (ma_nd_of (ks := [0, 1, 2]) rfl (by decide)) (ma_nd_of (ks := [2, 0, 1, 3, 4]) rfl (by decide)) (ma_le_cons rfl (ma_le_cons rfl (ma_le_cons rfl (ma_le_nil _)))) (h d w _ Q (by omega) (by omega) hS rfl HQ)
  · intro hc
    rw [if_neg hc] at h
    refine zw_push hm_222 dX12_steps_59 (v := .inr (.inr (some 94))) rfl ?_
    refine zw_push hm_222 dX12_steps_60 (v := .inr (.inr (some 94))) rfl ?_
    refine zw_push hm_222 dX12_steps_61 (v := .inl l3) rfl ?_
    refine zw_push hm_222 dX12_steps_62 (v := .inl l4) rfl ?_
    refine zw_cv hm_222 dX12_steps_64 v_12_294_12 hm_192 [.inl l4, .inl l3] [.inr (.inr (some 94))] rfl (zT_rt hS s_94 rfl) ⟨by omega, by omega⟩ rfl (h _ _ S _ (by omega) (by omega) hS rfl (fun o9 m1 hv => ?_))
    obtain ⟨v2, rfl, h⟩ := zmi_of hv
    show ma_wp X d w 222 67 [(0, .inr (.inr (some 94))), (1, .inl l1), (2, .inl l2), (3, .inl l3), (4, .inl l4)] [.inl v2, .inr (.inr (some 94))] (zst S m1) _
    refine zw_cv hm_222 dX12_steps_67 v_12_396_12 hm_221 [.inl v2] [] rfl (zT_rt (zT_zst hS m1) s_94 rfl) ⟨by omega, by omega⟩ rfl ?_
    show ma_wp X (d - 1) (w - 21) 221 0 [(0, .inr (.inr (some 94))), (1, .inl v2)] [] (zst S m1) _
    refine zw_push hm_221 dX12_toGrey_0 (v := .inl v2) rfl ?_
    refine zw_if0 hm_221 dX12_toGrey_1 (t := 13) rfl zc0_lt ?_ ?_
    · intro hc
      rw [if_pos hc] at h
      refine zw_vret hm_221 dX12_toGrey_13 ?_
      show ma_wp X d w 222 70 [(0, .inr (.inr (some 94))), (1, .inl l1), (2, .inl l2), (3, .inl l3), (4, .inl l4)] [] (zst S m1) _
      refine zw_sto hm_222 dX12_steps_70 [(4, .inl (l4 + (1 : Int32))), (0, .inr (.inr (some 94))), (1, .inl l1), (2, .inl l2), (3, .inl l3)] rfl rfl rfl ?_
      refine zw_goto hm_222 dX12_steps_73 (t := 48) rfl ?_
      exact zw_sub (ma_nd_of (ks := [0, 1, 2, 3, 4]) rfl (by decide)) (ma_nd_of (ks := [4, 0, 1, 2, 3]) rfl (by decide)) (ma_le_cons rfl (ma_le_cons rfl (ma_le_cons rfl (ma_le_cons rfl (ma_le_cons rfl (ma_le_nil _)))))) (h d w _ Q (by omega) (by omega) (zT_zst hS m1) rfl HQ)
    · intro hc
      rw [if_neg hc] at h
      refine zw_push hm_221 dX12_toGrey_4 (v := .inr (.inr (some 94))) rfl ?_
      refine zw_gf hm_221 dX12_toGrey_5 (v := .inr (.inr (some 106))) (zT_is (zT_zst hS m1) s_94) (zT_t (zT_zst hS m1) s_94) rfl f_12_49_12 (zT_f (zT_zst hS m1) r_94_38) ?_
      refine zw_push hm_221 dX12_toGrey_8 (v := .inl v2) rfl ?_
      obtain ⟨hg, h⟩ := h
      refine zw_ia hm_221 dX12_toGrey_9 (zT_is (zT_zst hS m1) s_106) (zT_h (zT_zst hS m1) s_106) rfl hg ?_
      show ma_wp X (d - 1) (w - 21) 221 10 [(0, .inr (.inr (some 94))), (1, .inl v2)] [.inl (m1 106 v2.toNatClampNeg)] (zst S m1) _
      refine zw_if0 hm_221 dX12_toGrey_10 (t := 14) rfl zc0_eq ?_ ?_
      · intro hc
        rw [if_pos hc] at h
        refine zw_push hm_221 dX12_toGrey_14 (v := .inr (.inr (some 94))) rfl ?_
        refine zw_gf hm_221 dX12_toGrey_15 (v := .inr (.inr (some 106))) (zT_is (zT_zst hS m1) s_94) (zT_t (zT_zst hS m1) s_94) rfl f_12_49_12 (zT_f (zT_zst hS m1) r_94_38) ?_
        refine zw_push hm_221 dX12_toGrey_18 (v := .inl v2) rfl ?_
        refine zw_push hm_221 dX12_toGrey_19 (v := .inl (1 : Int32)) rfl ?_
        obtain ⟨hg, h⟩ := h
        refine zw_ias hm_221 dX12_toGrey_20 (zT_is (zT_zst hS m1) s_106) (zT_h (zT_zst hS m1) s_106) rfl hg ?_
        refine zw_push hm_221 dX12_toGrey_21 (v := .inr (.inr (some 94))) rfl ?_
        refine zw_gf hm_221 dX12_toGrey_22 (v := .inr (.inr (some 115))) (zT_is (zT_pi (zT_zst hS m1)) s_94) (zT_t (zT_pi (zT_zst hS m1)) s_94) rfl f_12_77_12 (zT_f (zT_pi (zT_zst hS m1)) r_94_54) ?_
        refine zw_push hm_221 dX12_toGrey_25 (v := .inr (.inr (some 94))) rfl ?_
        refine zw_gf hm_221 dX12_toGrey_26 (v := .inl (m1 94 56)) (zT_is (zT_pi (zT_zst hS m1)) s_94) (zT_t (zT_pi (zT_zst hS m1)) s_94) rfl f_12_264_12 rfl ?_
        refine zw_push hm_221 dX12_toGrey_29 (v := .inl v2) rfl ?_
        obtain ⟨hg, h⟩ := h
        refine zw_ias hm_221 dX12_toGrey_30 (zT_is (zT_pi (zT_zst hS m1)) s_115) (zT_h (zT_pi (zT_zst hS m1)) s_115) rfl hg ?_
        refine zw_push hm_221 dX12_toGrey_31 (v := .inr (.inr (some 94))) rfl ?_
        refine zw_stk hm_221 dX12_toGrey_32 (st₉ := [.inr (.inr (some 94)), .inr (.inr (some 94))]) rfl rfl ?_
        refine zw_gf hm_221 dX12_toGrey_33 (v := .inl (m1 94 56)) (zT_is (zT_pi (zT_pi (zT_zst hS m1))) s_94) (zT_t (zT_pi (zT_pi (zT_zst hS m1))) s_94) rfl f_12_264_12 rfl ?_
        refine zw_push hm_221 dX12_toGrey_36 (v := .inl (1 : Int32)) rfl ?_
        refine zw_stk hm_221 dX12_toGrey_37 (st₉ := [.inl ((m1 94 56) + (1 : Int32)), .inr (.inr (some 94))]) rfl rfl ?_
        refine zw_pf hm_221 dX12_toGrey_38 (zT_is (zT_pi (zT_pi (zT_zst hS m1))) s_94) (zT_t (zT_pi (zT_pi (zT_zst hS m1))) s_94) p_12_264_12 zk_int ?_
        refine zw_vret hm_221 dX12_toGrey_41 ?_
        show ma_wp X d w 222 70 [(0, .inr (.inr (some 94))), (1, .inl l1), (2, .inl l2), (3, .inl l3), (4, .inl l4)] [] (ma_put (ma_put (ma_put (zst S m1) 106 v2.toNatClampNeg (.inl (1 : Int32))) 115 (m1 94 56).toNatClampNeg (.inl v2)) 94 56 (.inl ((m1 94 56) + (1 : Int32)))) _
        refine zw_sto hm_222 dX12_steps_70 [(4, .inl (l4 + (1 : Int32))), (0, .inr (.inr (some 94))), (1, .inl l1), (2, .inl l2), (3, .inl l3)] rfl rfl rfl ?_
        refine zw_goto hm_222 dX12_steps_73 (t := 48) rfl ?_
        exact zw_sub (ma_nd_of (ks := [0, 1, 2, 3, 4]) rfl (by decide)) (ma_nd_of (ks := [4, 0, 1, 2, 3]) rfl (by decide)) (ma_le_cons rfl (ma_le_cons rfl (ma_le_cons rfl (ma_le_cons rfl (ma_le_cons rfl (ma_le_nil _)))))) (h d w _ Q (by omega) (by omega) (zT_pi (zT_pi (zT_pi (zT_zst hS m1)))) rfl HQ)
      · intro hc
        rw [if_neg hc] at h
        refine zw_vret hm_221 dX12_toGrey_13 ?_
        show ma_wp X d w 222 70 [(0, .inr (.inr (some 94))), (1, .inl l1), (2, .inl l2), (3, .inl l3), (4, .inl l4)] [] (zst S m1) _
        refine zw_sto hm_222 dX12_steps_70 [(4, .inl (l4 + (1 : Int32))), (0, .inr (.inr (some 94))), (1, .inl l1), (2, .inl l2), (3, .inl l3)] rfl rfl rfl ?_
        refine zw_goto hm_222 dX12_steps_73 (t := 48) rfl ?_
        exact zw_sub (ma_nd_of (ks := [0, 1, 2, 3, 4]) rfl (by decide)) (ma_nd_of (ks := [4, 0, 1, 2, 3]) rfl (by decide)) (ma_le_cons rfl (ma_le_cons rfl (ma_le_cons rfl (ma_le_cons rfl (ma_le_cons rfl (ma_le_nil _)))))) (h d w _ Q (by omega) (by omega) (zT_zst hS m1) rfl HQ)
theorem lp_222_48 {X : Nat × (Nat → Int32)} {P : Option ma_V → (Nat → Nat → Int32) → Prop} {nn : Int32} {m0 : Nat → Nat → Int32} (h0 : zV m0) (K : ∀ v m₉, zF wr_222 m0 m₉ → zV m₉ → (zG1 (m₉ 94 56) (m₉ 94 57) (m₉ 106)) → ((m0 94 56).toInt ≤ (m₉ 94 56).toInt) → ((m0 94 57).toInt ≤ (m₉ 94 57).toInt ∧ ((m₉ 94 56).toInt ≤ (m₉ 94 57).toInt ∨ (m0 94 57).toInt + nn.toInt ≤ (m₉ 94 57).toInt)) → P (some (.inl v)) m₉) {n2 : Nat} (OUT2 : ∀ (m₉ : Nat → Nat → Int32) (l1 : Int32) (l2 : Int32), (3101 - (m₉ 94 57).toInt).toNat < n2 → zF wr_222 m0 m₉ → zV m₉ → (0 ≤ l2.toInt) → (l1.toInt = nn.toInt) → (zW (m₉ 94 7) (m₉ 98) (m₉ 101) (m₉ 102) (m₉ 108)) → (zG1 (m₉ 94 56) (m₉ 94 57) (m₉ 106)) → ((m0 94 56).toInt ≤ (m₉ 94 56).toInt) → ((m₉ 94 57).toInt = (m0 94 57).toInt + l2.toInt) → zm X 2 44 222 2 [(0, .inr (.inr (some 94))), (1, .inl l1), (2, .inl l2)] m₉ P) : ∀ (n : Nat) (m : Nat → Nat → Int32) (l1 : Int32) (l2 : Int32) (l3 : Int32) (l4 : Int32), (61 - l4.toInt).toNat = n → zF wr_222 m0 m → zV m → (0 ≤ l2.toInt) → (l1.toInt = nn.toInt) → (0 ≤ l3.toInt) → (l3.toInt ≤ 3099) → (0 ≤ l4.toInt) → (zW (m 94 7) (m 98) (m 101) (m 102) (m 108)) → (zG1 (m 94 56) (m 94 57) (m 106)) → ((m0 94 56).toInt ≤ (m 94 56).toInt) → ((m 94 57).toInt = (m0 94 57).toInt + l2.toInt + 1) → ((3101 - (m 94 57).toInt).toNat < n2) → zm X 2 44 222 48 [(0, .inr (.inr (some 94))), (1, .inl l1), (2, .inl l2), (3, .inl l3), (4, .inl l4)] m P := by
  intro n
  induction n using Nat.strongRecOn with
  | _ n IH =>
    intro m l1 l2 l3 l4 hmu hF hV hi0 hi1 hi2 hi3 hi4 r_W r_G1 hi7 hi8 hi9
    refine g_222_48 l1 l2 l3 l4 ?_
    have f1 : 0 ≤ (m0 94 56).toInt ∧ (m0 94 56).toInt ≤ 3100 := rs_94_56 (m := m0) h0
    have f2 : 0 ≤ (m 94 56).toInt ∧ (m 94 56).toInt ≤ 3100 := rs_94_56 (m := m) hV
    have f3 : 0 ≤ (m 94 57).toInt ∧ (m 94 57).toInt ≤ 3100 := rs_94_57 (m := m) hV
    have f4 : 0 ≤ (m0 94 57).toInt ∧ (m0 94 57).toInt ≤ 3100 := rs_94_57 (m := m0) h0
    have b5 := i_bd l3
    have hg6 : (0 ≤ l3 ∧ l3.toNatClampNeg < 3100) := i_ix (by omega) (by omega)
    refine ⟨hg6, ?_⟩
    first | have f7 : 0 ≤ (m 102 l3.toNatClampNeg).toInt ∧ (m 102 l3.toNatClampNeg).toInt ≤ 60 := ra_102 (m := m) hV (k := l3.toNatClampNeg) (i_ix (n := 3100) (by omega) (by omega)).2 | have b8 := i_bd (m 102 l3.toNatClampNeg)
    have b9 := i_bd l4
    refine zd (fun (h10 : (m 102 l3.toNatClampNeg) ≤ l4) => ?_) (fun (h10 : ¬ (m 102 l3.toNatClampNeg) ≤ l4) => ?_)
    · skip
      have g11 := i_le h10
      have b12 := i_bd l1
      have b13 := i_bd l2
      first | have e14 : (l2 + (1 : Int32)).toInt = l2.toInt + (1) := i_addk rfl (by omega) (by omega) | have b15 := i_bd (l2 + (1 : Int32))
      exact OUT2 _ (l1) ((l2 + (1 : Int32))) (show (3101 - (m 94 57).toInt).toNat < n2 from by omega) hF hV (by omega) (by omega) r_W r_G1 (show (m0 94 56).toInt ≤ (m 94 56).toInt from by omega) (show (m 94 57).toInt = (m0 94 57).toInt + (l2 + (1 : Int32)).toInt from by omega)
    · skip
      have g16 := i_nle h10
      refine sp_192 (l3) (l4) hV (by omega) (by omega) (by omega) (show l4.toInt < (m 102 l3.toNatClampNeg).toInt from by omega) (fun v2 m1 hV_m1 p0_m1 => zmi_n ?_)
      have p0_m1 : v2 = zrf (m 98) (m 101) (m 108) l3.toNatClampNeg l4.toNatClampNeg := p0_m1
      try have := W_ref r_W (by omega) (by omega) (by omega) (by omega) p0_m1
      have b17 := i_bd v2
      have li18 : (0 : Int32).toInt = 0 := rfl
      refine zd (fun (h19 : v2 < (0 : Int32)) => ?_) (fun (h19 : ¬ v2 < (0 : Int32)) => ?_)
      · skip
        have g20 := i_lt h19
        have b21 := i_bd l1
        have b22 := i_bd l2
        first | have e23 : (l4 + (1 : Int32)).toInt = l4.toInt + (1) := i_addk rfl (by omega) (by omega) | have b24 := i_bd (l4 + (1 : Int32))
        exact IH (61 - (l4 + (1 : Int32)).toInt).toNat (by omega) _ (l1) (l2) (l3) ((l4 + (1 : Int32))) rfl (zF_zov hF ws_192_222) hV_m1 (by omega) (by omega) (by omega) (by omega) (by omega) r_W r_G1 (show (m0 94 56).toInt ≤ (m 94 56).toInt from by omega) (show (m 94 57).toInt = (m0 94 57).toInt + l2.toInt + 1 from by omega) (show (3101 - (m 94 57).toInt).toNat < n2 from by omega)
      · skip
        have g25 := i_nlt h19
        have hg26 : (0 ≤ v2 ∧ v2.toNatClampNeg < 3100) := i_ix (by omega) (by omega)
        refine ⟨hg26, ?_⟩
        have b27 := i_bd (m 106 v2.toNatClampNeg)
        refine zd (fun (h28 : (m 106 v2.toNatClampNeg) = (0 : Int32)) => ?_) (fun (h28 : ¬ (m 106 v2.toNatClampNeg) = (0 : Int32)) => ?_)
        · skip
          have g29 := i_eq h28
          have hg30 : (0 ≤ v2 ∧ v2.toNatClampNeg < 3100) := i_ix (by omega) (by omega)
          refine ⟨hg30, ?_⟩
          try have gk := G1_room r_G1 (by assumption) (by omega)
          have hg31 : (0 ≤ (m 94 56) ∧ (m 94 56).toNatClampNeg < 3100) := i_ix (by omega) (by omega)
          refine ⟨hg31, ?_⟩
          have hV32 : zV (ma_u (zov wr_192 m m1) 106 v2.toNatClampNeg (1 : Int32)) := ua_106 hV_m1
          have hV33 : zV (ma_u (ma_u (zov wr_192 m m1) 106 v2.toNatClampNeg (1 : Int32)) 115 (m 94 56).toNatClampNeg v2) := ua_115 hV32 (by omega) (by omega)
          first | have e35 : ((m 94 56) + (1 : Int32)).toInt = (m 94 56).toInt + (1) := i_addk rfl (by omega) (by omega) | have b36 := i_bd ((m 94 56) + (1 : Int32))
          have hV34 : zV (ma_u (ma_u (ma_u (zov wr_192 m m1) 106 v2.toNatClampNeg (1 : Int32)) 115 (m 94 56).toNatClampNeg v2) 94 56 ((m 94 56) + (1 : Int32))) := us_94_56 hV33 (by omega) (by omega)
          have b37 := i_bd l1
          have b38 := i_bd l2
          first | have e39 : (l4 + (1 : Int32)).toInt = l4.toInt + (1) := i_addk rfl (by omega) (by omega) | have b40 := i_bd (l4 + (1 : Int32))
          exact IH (61 - (l4 + (1 : Int32)).toInt).toNat (by omega) _ (l1) (l2) (l3) ((l4 + (1 : Int32))) rfl (zF_u (zF_u (zF_u (zF_zov hF ws_192_222) rfl) rfl) rfl) hV34 (by omega) (by omega) (by omega) (by omega) (by omega) r_W (show zG1 ((m 94 56) + (1 : Int32)) (m 94 57) ((ma_u m 106 v2.toNatClampNeg (1 : Int32)) 106) from by first | (exact G1_push r_G1 (by assumption) (by omega) (by decide) (by assumption)) | (exact G1_push r_G1 (by assumption) (by omega) (by decide) (by assumption)) | (exact G1_dark0 r_G1 (by decide)) | (exfalso; omega; done) | (exfalso; contradiction; done)) (show (m0 94 56).toInt ≤ ((m 94 56) + (1 : Int32)).toInt from by omega) (show (m 94 57).toInt = (m0 94 57).toInt + l2.toInt + 1 from by omega) (show (3101 - (m 94 57).toInt).toNat < n2 from by omega)
        · skip
          have g41 := i_ne h28
          have b42 := i_bd l1
          have b43 := i_bd l2
          first | have e44 : (l4 + (1 : Int32)).toInt = l4.toInt + (1) := i_addk rfl (by omega) (by omega) | have b45 := i_bd (l4 + (1 : Int32))
          exact IH (61 - (l4 + (1 : Int32)).toInt).toNat (by omega) _ (l1) (l2) (l3) ((l4 + (1 : Int32))) rfl (zF_zov hF ws_192_222) hV_m1 (by omega) (by omega) (by omega) (by omega) (by omega) r_W r_G1 (show (m0 94 56).toInt ≤ (m 94 56).toInt from by omega) (show (m 94 57).toInt = (m0 94 57).toInt + l2.toInt + 1 from by omega) (show (3101 - (m 94 57).toInt).toNat < n2 from by omega)
theorem lp_222_2 {X : Nat × (Nat → Int32)} {P : Option ma_V → (Nat → Nat → Int32) → Prop} {nn : Int32} {m0 : Nat → Nat → Int32} (h0 : zV m0) (K : ∀ v m₉, zF wr_222 m0 m₉ → zV m₉ → (zG1 (m₉ 94 56) (m₉ 94 57) (m₉ 106)) → ((m0 94 56).toInt ≤ (m₉ 94 56).toInt) → ((m0 94 57).toInt ≤ (m₉ 94 57).toInt ∧ ((m₉ 94 56).toInt ≤ (m₉ 94 57).toInt ∨ (m0 94 57).toInt + nn.toInt ≤ (m₉ 94 57).toInt)) → P (some (.inl v)) m₉) : ∀ (n : Nat) (m : Nat → Nat → Int32) (l1 : Int32) (l2 : Int32), (3101 - (m 94 57).toInt).toNat = n → zF wr_222 m0 m → zV m → (0 ≤ l2.toInt) → (l1.toInt = nn.toInt) → (zW (m 94 7) (m 98) (m 101) (m 102) (m 108)) → (zG1 (m 94 56) (m 94 57) (m 106)) → ((m0 94 56).toInt ≤ (m 94 56).toInt) → ((m 94 57).toInt = (m0 94 57).toInt + l2.toInt) → zm X 2 44 222 2 [(0, .inr (.inr (some 94))), (1, .inl l1), (2, .inl l2)] m P := by
  intro n
  induction n using Nat.strongRecOn with
  | _ n IH =>
    intro m l1 l2 hmu hF hV hi0 hi1 r_W r_G1 hi4 hi5
    refine g_222_2 l1 l2 ?_
    have f1 : 0 ≤ (m0 94 56).toInt ∧ (m0 94 56).toInt ≤ 3100 := rs_94_56 (m := m0) h0
    have f2 : 0 ≤ (m 94 56).toInt ∧ (m 94 56).toInt ≤ 3100 := rs_94_56 (m := m) hV
    have f3 : 0 ≤ (m 94 57).toInt ∧ (m 94 57).toInt ≤ 3100 := rs_94_57 (m := m) hV
    have f4 : 0 ≤ (m0 94 57).toInt ∧ (m0 94 57).toInt ≤ 3100 := rs_94_57 (m := m0) h0
    have b5 := i_bd l1
    have b6 := i_bd l2
    refine zd (fun (h7 : l1 ≤ l2) => ?_) (fun (h7 : ¬ l1 ≤ l2) => ?_)
    · skip
      have g8 := i_le h7
      exact K (l2) _ hF hV r_G1 (show (m0 94 56).toInt ≤ (m 94 56).toInt from by omega) (show (m0 94 57).toInt ≤ (m 94 57).toInt ∧ ((m 94 56).toInt ≤ (m 94 57).toInt ∨ (m0 94 57).toInt + nn.toInt ≤ (m 94 57).toInt) from by omega)
    · skip
      have g9 := i_nle h7
      refine zd (fun (h10 : (m 94 56) ≤ (m 94 57)) => ?_) (fun (h10 : ¬ (m 94 56) ≤ (m 94 57)) => ?_)
      · skip
        have g11 := i_le h10
        exact K (l2) _ hF hV r_G1 (show (m0 94 56).toInt ≤ (m 94 56).toInt from by omega) (show (m0 94 57).toInt ≤ (m 94 57).toInt ∧ ((m 94 56).toInt ≤ (m 94 57).toInt ∨ (m0 94 57).toInt + nn.toInt ≤ (m 94 57).toInt) from by omega)
      · skip
        have g12 := i_nle h10
        try have gk := G1_room r_G1 (by assumption) (by omega)
        have hg13 : (0 ≤ (m 94 57) ∧ (m 94 57).toNatClampNeg < 3100) := i_ix (by omega) (by omega)
        refine ⟨hg13, ?_⟩
        first | have f14 : 0 ≤ (m 115 (m 94 57).toNatClampNeg).toInt ∧ (m 115 (m 94 57).toNatClampNeg).toInt ≤ 3099 := ra_115 (m := m) hV (k := (m 94 57).toNatClampNeg) (i_ix (n := 3100) (by omega) (by omega)).2 | have b15 := i_bd (m 115 (m 94 57).toNatClampNeg)
        have hg16 : (0 ≤ (m 115 (m 94 57).toNatClampNeg) ∧ (m 115 (m 94 57).toNatClampNeg).toNatClampNeg < 3100) := i_ix (by omega) (by omega)
        refine ⟨hg16, ?_⟩
        first | have e18 : ((m 94 57) + (1 : Int32)).toInt = (m 94 57).toInt + (1) := i_addk rfl (by omega) (by omega) | have b19 := i_bd ((m 94 57) + (1 : Int32))
        have hV17 : zV (ma_u m 94 57 ((m 94 57) + (1 : Int32))) := us_94_57 hV (by omega) (by omega)
        have hV20 : zV (ma_u (ma_u m 94 57 ((m 94 57) + (1 : Int32))) 106 (m 115 (m 94 57).toNatClampNeg).toNatClampNeg (2 : Int32)) := ua_106 hV17
        have li21 : (0 : Int32).toInt = 0 := rfl
        exact lp_222_48 (nn := nn) h0 K (fun _ _ _ z1 z2 z3 y0 y1 y2 y3 y4 y5 => IH _ z1 _ _ _ rfl z2 z3 y0 y1 y2 y3 y4 y5) _ _ (l1) (l2) ((m 115 (m 94 57).toNatClampNeg)) ((0 : Int32)) rfl (zF_u (zF_u hF rfl) rfl) hV20 (by omega) (by omega) (by omega) (by omega) (by omega) r_W (show zG1 (m 94 56) ((m 94 57) + (1 : Int32)) ((ma_u m 106 (m 115 (m 94 57).toNatClampNeg).toNatClampNeg (2 : Int32)) 106) from by first | (exact G1_dark r_G1 (by decide) (by omega)) | (exact G1_push r_G1 (by assumption) (by omega) (by decide) (by assumption)) | (exact G1_dark0 r_G1 (by decide)) | (exfalso; omega; done) | (exfalso; contradiction; done)) (show (m0 94 56).toInt ≤ (m 94 56).toInt from by omega) (show ((m 94 57) + (1 : Int32)).toInt = (m0 94 57).toInt + l2.toInt + 1 from by omega) (show (3101 - ((m 94 57) + (1 : Int32)).toInt).toNat < n from by omega)
theorem sp_222 {X : Nat × (Nat → Int32)} {P : Option ma_V → (Nat → Nat → Int32) → Prop} {m : Nat → Nat → Int32} (nn : Int32) (hV : zV m) (r_W : zW (m 94 7) (m 98) (m 101) (m 102) (m 108)) (r_G1 : zG1 (m 94 56) (m 94 57) (m 106)) (KZ : ∀ v m₉, zV (zov wr_222 m m₉) → (zG1 (m₉ 94 56) (m₉ 94 57) (m₉ 106)) → ((m 94 56).toInt ≤ (m₉ 94 56).toInt) → ((m 94 57).toInt ≤ (m₉ 94 57).toInt ∧ ((m₉ 94 56).toInt ≤ (m₉ 94 57).toInt ∨ (m 94 57).toInt + nn.toInt ≤ (m₉ 94 57).toInt)) → P (some (.inl v)) (zov wr_222 m m₉)) : zm X 2 44 222 0 [(0, .inr (.inr (some 94))), (1, .inl nn)] m P := by
  have K : ∀ v m₉, zF wr_222 m m₉ → zV m₉ → (zG1 (m₉ 94 56) (m₉ 94 57) (m₉ 106)) → ((m 94 56).toInt ≤ (m₉ 94 56).toInt) → ((m 94 57).toInt ≤ (m₉ 94 57).toInt ∧ ((m₉ 94 56).toInt ≤ (m₉ 94 57).toInt ∨ (m 94 57).toInt + nn.toInt ≤ (m₉ 94 57).toInt)) → P (some (.inl v)) m₉ := by
    intro v m₉ hf z q0 q1 q2
    have e := zov_eq hf
    rw [e] at z ⊢
    try rw [e] at q0
    try rw [e] at q1
    try rw [e] at q2
    exact KZ v m₉ z q0 q1 q2
  refine g_222_0 nn ?_
  have b1 := i_bd nn
  have li2 : (0 : Int32).toInt = 0 := rfl
  have f3 : 0 ≤ (m 94 56).toInt ∧ (m 94 56).toInt ≤ 3100 := rs_94_56 (m := m) hV
  have f4 : 0 ≤ (m 94 57).toInt ∧ (m 94 57).toInt ≤ 3100 := rs_94_57 (m := m) hV
  exact lp_222_2 (nn := nn) hV K _ _ (nn) ((0 : Int32)) rfl zF_rfl hV (by omega) (by omega) r_W r_G1 (show (m 94 56).toInt ≤ (m 94 56).toInt from by omega) (show (m 94 57).toInt = (m 94 57).toInt + (0 : Int32).toInt from by omega)

/-! from 94.424 -/
/-! the reference (written by wip/tools/gen94m.py) -/
set_option maxRecDepth 100000 in
theorem hm_223 : ma_md 223 = some (12, yX12_lookEmpty, cX12_lookEmpty, 2, (some (FieldType.int))) := rfl
theorem f_12_228_12 : ma_fld 12 228 12 = some 9 := by decide +kernel
theorem dX12_lookEmpty_0 : decode cX12_lookEmpty 0 = .ok (.aload_n 0, 1) := by decide +kernel
theorem dX12_lookEmpty_4 : decode cX12_lookEmpty 4 = .ok (.aload_n 0, 1) := by decide +kernel
theorem dX12_lookEmpty_13 : decode cX12_lookEmpty 13 = .ok (.aload_n 0, 1) := by decide +kernel
theorem dX12_lookEmpty_24 : decode cX12_lookEmpty 24 = .ok (.aload_n 0, 1) := by decide +kernel
theorem dX12_lookEmpty_28 : decode cX12_lookEmpty 28 = .ok (.aload_n 0, 1) := by decide +kernel
theorem dX12_lookEmpty_37 : decode cX12_lookEmpty 37 = .ok (.aload_n 0, 1) := by decide +kernel
theorem dX12_lookEmpty_38 : decode cX12_lookEmpty 38 = .ok (.dup, 1) := by decide +kernel
theorem dX12_lookEmpty_42 : decode cX12_lookEmpty 42 = .ok (.iconst 1, 1) := by decide +kernel
theorem dX12_lookEmpty_43 : decode cX12_lookEmpty 43 = .ok (.iadd, 1) := by decide +kernel
theorem dX12_lookEmpty_47 : decode cX12_lookEmpty 47 = .ok (.iconst 0, 1) := by decide +kernel
theorem dX12_lookEmpty_48 : decode cX12_lookEmpty 48 = .ok (.istore_n 1, 1) := by decide +kernel
theorem dX12_lookEmpty_44 : decode cX12_lookEmpty 44 = .ok (.putfield 249, 3) := by decide +kernel
theorem dX12_lookEmpty_39 : decode cX12_lookEmpty 39 = .ok (.getfield 249, 3) := by decide +kernel
theorem dX12_lookEmpty_35 : decode cX12_lookEmpty 35 = .ok (.iconst 0, 1) := by decide +kernel
theorem dX12_lookEmpty_36 : decode cX12_lookEmpty 36 = .ok (.ireturn, 1) := by decide +kernel
theorem dX12_lookEmpty_32 : decode cX12_lookEmpty 32 = .ok (.if_icmp .ge 5, 3) := by decide +kernel
theorem dX12_lookEmpty_29 : decode cX12_lookEmpty 29 = .ok (.getfield 264, 3) := by decide +kernel
theorem dX12_lookEmpty_25 : decode cX12_lookEmpty 25 = .ok (.getfield 267, 3) := by decide +kernel
theorem dX12_lookEmpty_20 : decode cX12_lookEmpty 20 = .ok (.aload_n 0, 1) := by decide +kernel
theorem dX12_lookEmpty_21 : decode cX12_lookEmpty 21 = .ok (.invokevirtual 399, 3) := by decide +kernel
theorem dX12_lookEmpty_17 : decode cX12_lookEmpty 17 = .ok (.ifCond .ne 7, 3) := by decide +kernel
theorem dX12_lookEmpty_14 : decode cX12_lookEmpty 14 = .ok (.getfield 228, 3) := by decide +kernel
theorem dX12_lookEmpty_11 : decode cX12_lookEmpty 11 = .ok (.iconst 0, 1) := by decide +kernel
theorem dX12_lookEmpty_12 : decode cX12_lookEmpty 12 = .ok (.ireturn, 1) := by decide +kernel
theorem dX12_lookEmpty_8 : decode cX12_lookEmpty 8 = .ok (.if_icmp .ge 5, 3) := by decide +kernel
theorem dX12_lookEmpty_5 : decode cX12_lookEmpty 5 = .ok (.getfield 264, 3) := by decide +kernel
theorem dX12_lookEmpty_1 : decode cX12_lookEmpty 1 = .ok (.getfield 267, 3) := by decide +kernel
theorem dX12_lookEmpty_49 : decode cX12_lookEmpty 49 = .ok (.iload_n 1, 1) := by decide +kernel
theorem dX12_lookEmpty_50 : decode cX12_lookEmpty 50 = .ok (.sipush 3100, 3) := by decide +kernel
theorem dX12_lookEmpty_91 : decode cX12_lookEmpty 91 = .ok (.aload_n 0, 1) := by decide +kernel
theorem dX12_lookEmpty_92 : decode cX12_lookEmpty 92 = .ok (.iconst 0, 1) := by decide +kernel
theorem dX12_lookEmpty_96 : decode cX12_lookEmpty 96 = .ok (.aload_n 0, 1) := by decide +kernel
theorem dX12_lookEmpty_97 : decode cX12_lookEmpty 97 = .ok (.invokevirtual 336, 3) := by decide +kernel
theorem dX12_lookEmpty_100 : decode cX12_lookEmpty 100 = .ok (.aload_n 0, 1) := by decide +kernel
theorem dX12_lookEmpty_101 : decode cX12_lookEmpty 101 = .ok (.invokevirtual 339, 3) := by decide +kernel
theorem dX12_lookEmpty_104 : decode cX12_lookEmpty 104 = .ok (.aload_n 0, 1) := by decide +kernel
theorem dX12_lookEmpty_105 : decode cX12_lookEmpty 105 = .ok (.iconst 0, 1) := by decide +kernel
theorem dX12_lookEmpty_109 : decode cX12_lookEmpty 109 = .ok (.aload_n 0, 1) := by decide +kernel
theorem dX12_lookEmpty_110 : decode cX12_lookEmpty 110 = .ok (.invokevirtual 342, 3) := by decide +kernel
theorem dX12_lookEmpty_113 : decode cX12_lookEmpty 113 = .ok (.ireturn, 1) := by decide +kernel
theorem dX12_lookEmpty_106 : decode cX12_lookEmpty 106 = .ok (.putfield 270, 3) := by decide +kernel
theorem dX12_lookEmpty_93 : decode cX12_lookEmpty 93 = .ok (.putfield 291, 3) := by decide +kernel
theorem dX12_lookEmpty_56 : decode cX12_lookEmpty 56 = .ok (.aload_n 0, 1) := by decide +kernel
theorem dX12_lookEmpty_60 : decode cX12_lookEmpty 60 = .ok (.iload_n 1, 1) := by decide +kernel
theorem dX12_lookEmpty_61 : decode cX12_lookEmpty 61 = .ok (.aload_n 0, 1) := by decide +kernel
theorem dX12_lookEmpty_65 : decode cX12_lookEmpty 65 = .ok (.iload_n 1, 1) := by decide +kernel
theorem dX12_lookEmpty_83 : decode cX12_lookEmpty 83 = .ok (.iconst 0, 1) := by decide +kernel
theorem dX12_lookEmpty_85 : decode cX12_lookEmpty 85 = .ok (.iinc 1 1, 3) := by decide +kernel
theorem dX12_lookEmpty_88 : decode cX12_lookEmpty 88 = .ok (.goto (-39), 3) := by decide +kernel
theorem dX12_lookEmpty_84 : decode cX12_lookEmpty 84 = .ok (.bastore, 1) := by decide +kernel
theorem dX12_lookEmpty_70 : decode cX12_lookEmpty 70 = .ok (.aload_n 0, 1) := by decide +kernel
theorem dX12_lookEmpty_74 : decode cX12_lookEmpty 74 = .ok (.iload_n 1, 1) := by decide +kernel
theorem dX12_lookEmpty_79 : decode cX12_lookEmpty 79 = .ok (.iconst 1, 1) := by decide +kernel
theorem dX12_lookEmpty_80 : decode cX12_lookEmpty 80 = .ok (.goto 4, 3) := by decide +kernel
theorem dX12_lookEmpty_76 : decode cX12_lookEmpty 76 = .ok (.ifCond .eq 7, 3) := by decide +kernel
theorem dX12_lookEmpty_75 : decode cX12_lookEmpty 75 = .ok (.iaload, 1) := by decide +kernel
theorem dX12_lookEmpty_71 : decode cX12_lookEmpty 71 = .ok (.getfield 49, 3) := by decide +kernel
theorem dX12_lookEmpty_67 : decode cX12_lookEmpty 67 = .ok (.ifCond .eq 16, 3) := by decide +kernel
theorem dX12_lookEmpty_66 : decode cX12_lookEmpty 66 = .ok (.baload, 1) := by decide +kernel
theorem dX12_lookEmpty_62 : decode cX12_lookEmpty 62 = .ok (.getfield 27, 3) := by decide +kernel
theorem dX12_lookEmpty_57 : decode cX12_lookEmpty 57 = .ok (.getfield 62, 3) := by decide +kernel
theorem dX12_lookEmpty_53 : decode cX12_lookEmpty 53 = .ok (.if_icmp .ge 38, 3) := by decide +kernel
def wr_223 (c k : Nat) : Bool := Nat.beq c 99 || Nat.beq c 105 || Nat.beq c 106 || Nat.beq c 109 || Nat.beq c 110 || Nat.beq c 111 || Nat.beq c 113 || Nat.beq c 114 || Nat.beq c 115 || Nat.beq c 118 || (Nat.beq c 94 && (Nat.beq k 44 || Nat.beq k 45 || Nat.beq k 47 || Nat.beq k 49 || Nat.beq k 55 || Nat.beq k 56 || Nat.beq k 58 || Nat.beq k 73))
theorem ws_194_223 : ∀ c k, wr_194 c k = true → wr_223 c k = true := by
  intro c k h
  simp only [wr_194, Bool.or_eq_true, Bool.and_eq_true, Nat.beq_eq] at h
  rcases h with (((((rfl | rfl) | rfl) | rfl) | rfl) | rfl) | ⟨rfl, (rfl | rfl)⟩ <;> rfl
theorem ws_199_223 : ∀ c k, wr_199 c k = true → wr_223 c k = true := by
  intro c k h
  simp only [wr_199, wr_223, Bool.or_eq_true, Bool.and_eq_true, Nat.beq_eq] at h ⊢
  omega
theorem ws_200_223 : ∀ c k, wr_200 c k = true → wr_223 c k = true := by
  intro c k h
  simp only [wr_200, Bool.or_eq_true, Bool.and_eq_true, Nat.beq_eq] at h
  rcases h with ((rfl | rfl) | rfl) | ⟨rfl, ((rfl | rfl) | rfl)⟩ <;> rfl
theorem ws_220_223 : ∀ c k, wr_220 c k = true → wr_223 c k = true := by
  intro c k h
  simp only [wr_220, Bool.or_eq_true, Bool.and_eq_true, Nat.beq_eq] at h
  rcases h with (rfl | rfl) | ⟨rfl, rfl⟩ <;> rfl
theorem g_223_0 {X : Nat × (Nat → Int32)} {m : Nat → Nat → Int32} {P : Option ma_V → (Nat → Nat → Int32) → Prop}  (h : if (m 94 56) ≤ (m 94 57) then (if (m 94 9) = 0 then (zm X 1 21 220 0 [(0, .inr (.inr (some 94)))] m (zmv (fun m1 => if (m1 94 56) ≤ (m1 94 57) then (zm X 4 88 223 49 [(0, .inr (.inr (some 94))), (1, .inl (0 : Int32))] (ma_u m1 94 47 ((m1 94 47) + (1 : Int32))) P) else (P (some (.inl (0 : Int32))) m1)))) else (if (m 94 56) ≤ (m 94 57) then (zm X 4 88 223 49 [(0, .inr (.inr (some 94))), (1, .inl (0 : Int32))] (ma_u m 94 47 ((m 94 47) + (1 : Int32))) P) else (P (some (.inl (0 : Int32))) m))) else (P (some (.inl (0 : Int32))) m)) : zm X 4 88 223 0 [(0, .inr (.inr (some 94)))] m P := by
  intro d w S Q hd hw hS hm HQ
  subst hm
  refine zw_push hm_223 dX12_lookEmpty_0 (v := .inr (.inr (some 94))) rfl ?_
  refine zw_gf hm_223 dX12_lookEmpty_1 (v := .inl ((mI S) 94 57)) (zT_is hS s_94) (zT_t hS s_94) rfl f_12_267_12 rfl ?_
  refine zw_push hm_223 dX12_lookEmpty_4 (v := .inr (.inr (some 94))) rfl ?_
  refine zw_gf hm_223 dX12_lookEmpty_5 (v := .inl ((mI S) 94 56)) (zT_is hS s_94) (zT_t hS s_94) rfl f_12_264_12 rfl ?_
  refine zw_if2 hm_223 dX12_lookEmpty_8 (t := 13) rfl zc2_ge ?_ ?_
  · intro hc
    rw [if_pos hc] at h
    refine zw_push hm_223 dX12_lookEmpty_13 (v := .inr (.inr (some 94))) rfl ?_
    refine zw_gf hm_223 dX12_lookEmpty_14 (v := .inl ((mI S) 94 9)) (zT_is hS s_94) (zT_t hS s_94) rfl f_12_228_12 rfl ?_
    refine zw_if0 hm_223 dX12_lookEmpty_17 (t := 24) rfl zc0_ne ?_ ?_
    · intro hc
      rw [if_neg hc] at h
      refine zw_push hm_223 dX12_lookEmpty_24 (v := .inr (.inr (some 94))) rfl ?_
      refine zw_gf hm_223 dX12_lookEmpty_25 (v := .inl ((mI S) 94 57)) (zT_is hS s_94) (zT_t hS s_94) rfl f_12_267_12 rfl ?_
      refine zw_push hm_223 dX12_lookEmpty_28 (v := .inr (.inr (some 94))) rfl ?_
      refine zw_gf hm_223 dX12_lookEmpty_29 (v := .inl ((mI S) 94 56)) (zT_is hS s_94) (zT_t hS s_94) rfl f_12_264_12 rfl ?_
      refine zw_if2 hm_223 dX12_lookEmpty_32 (t := 37) rfl zc2_ge ?_ ?_
      · intro hc
        rw [if_pos hc] at h
        refine zw_push hm_223 dX12_lookEmpty_37 (v := .inr (.inr (some 94))) rfl ?_
        refine zw_stk hm_223 dX12_lookEmpty_38 (st₉ := [.inr (.inr (some 94)), .inr (.inr (some 94))]) rfl rfl ?_
        refine zw_gf hm_223 dX12_lookEmpty_39 (v := .inl ((mI S) 94 47)) (zT_is hS s_94) (zT_t hS s_94) rfl f_12_249_12 rfl ?_
        refine zw_push hm_223 dX12_lookEmpty_42 (v := .inl (1 : Int32)) rfl ?_
        refine zw_stk hm_223 dX12_lookEmpty_43 (st₉ := [.inl (((mI S) 94 47) + (1 : Int32)), .inr (.inr (some 94))]) rfl rfl ?_
        refine zw_pf hm_223 dX12_lookEmpty_44 (zT_is hS s_94) (zT_t hS s_94) p_12_249_12 zk_int ?_
        refine zw_push hm_223 dX12_lookEmpty_47 (v := .inl (0 : Int32)) rfl ?_
        refine zw_sto hm_223 dX12_lookEmpty_48 [(1, .inl (0 : Int32)), (0, .inr (.inr (some 94)))] rfl rfl rfl ?_
        exact zw_sub (ma_nd_of (ks := [0, 1]) rfl (by decide)) (ma_nd_of (ks := [1, 0]) rfl (by decide)) (ma_le_cons rfl (ma_le_cons rfl (ma_le_nil _))) (h d w _ Q (by omega) (by omega) (zT_pi hS) rfl HQ)
      · intro hc
        rw [if_neg hc] at h
        refine zw_push hm_223 dX12_lookEmpty_35 (v := .inl (0 : Int32)) rfl ?_
        exact zw_iret hm_223 dX12_lookEmpty_36 (HQ _ _ h)
    · intro hc
      rw [if_pos (Classical.not_not.mp hc)] at h
      refine zw_push hm_223 dX12_lookEmpty_20 (v := .inr (.inr (some 94))) rfl ?_
      refine zw_cv hm_223 dX12_lookEmpty_21 v_12_399_12 hm_220 [] [] rfl (zT_rt hS s_94 rfl) ⟨by omega, by omega⟩ rfl (h _ _ S _ (by omega) (by omega) hS rfl (fun o9 m1 hv => ?_))
      obtain ⟨rfl, h⟩ := zmv_of hv
      show ma_wp X d w 223 24 [(0, .inr (.inr (some 94)))] [] (zst S m1) _
      refine zw_push hm_223 dX12_lookEmpty_24 (v := .inr (.inr (some 94))) rfl ?_
      refine zw_gf hm_223 dX12_lookEmpty_25 (v := .inl (m1 94 57)) (zT_is (zT_zst hS m1) s_94) (zT_t (zT_zst hS m1) s_94) rfl f_12_267_12 rfl ?_
      refine zw_push hm_223 dX12_lookEmpty_28 (v := .inr (.inr (some 94))) rfl ?_
      refine zw_gf hm_223 dX12_lookEmpty_29 (v := .inl (m1 94 56)) (zT_is (zT_zst hS m1) s_94) (zT_t (zT_zst hS m1) s_94) rfl f_12_264_12 rfl ?_
      refine zw_if2 hm_223 dX12_lookEmpty_32 (t := 37) rfl zc2_ge ?_ ?_
      · intro hc
        rw [if_pos hc] at h
        refine zw_push hm_223 dX12_lookEmpty_37 (v := .inr (.inr (some 94))) rfl ?_
        refine zw_stk hm_223 dX12_lookEmpty_38 (st₉ := [.inr (.inr (some 94)), .inr (.inr (some 94))]) rfl rfl ?_
        refine zw_gf hm_223 dX12_lookEmpty_39 (v := .inl (m1 94 47)) (zT_is (zT_zst hS m1) s_94) (zT_t (zT_zst hS m1) s_94) rfl f_12_249_12 rfl ?_
        refine zw_push hm_223 dX12_lookEmpty_42 (v := .inl (1 : Int32)) rfl ?_
        refine zw_stk hm_223 dX12_lookEmpty_43 (st₉ := [.inl ((m1 94 47) + (1 : Int32)), .inr (.inr (some 94))]) rfl rfl ?_
        refine zw_pf hm_223 dX12_lookEmpty_44 (zT_is (zT_zst hS m1) s_94) (zT_t (zT_zst hS m1) s_94) p_12_249_12 zk_int ?_
        refine zw_push hm_223 dX12_lookEmpty_47 (v := .inl (0 : Int32)) rfl ?_
        refine zw_sto hm_223 dX12_lookEmpty_48 [(1, .inl (0 : Int32)), (0, .inr (.inr (some 94)))] rfl rfl rfl ?_
        exact zw_sub (ma_nd_of (ks := [0, 1]) rfl (by decide)) (ma_nd_of (ks := [1, 0]) rfl (by decide)) (ma_le_cons rfl (ma_le_cons rfl (ma_le_nil _))) (h d w _ Q (by omega) (by omega) (zT_pi (zT_zst hS m1)) rfl HQ)
      · intro hc
        rw [if_neg hc] at h
        refine zw_push hm_223 dX12_lookEmpty_35 (v := .inl (0 : Int32)) rfl ?_
        exact zw_iret hm_223 dX12_lookEmpty_36 (HQ _ _ h)
  · intro hc
    rw [if_neg hc] at h
    refine zw_push hm_223 dX12_lookEmpty_11 (v := .inl (0 : Int32)) rfl ?_
    exact zw_iret hm_223 dX12_lookEmpty_12 (HQ _ _ h)
theorem g_223_49 {X : Nat × (Nat → Int32)} {m : Nat → Nat → Int32} {P : Option ma_V → (Nat → Nat → Int32) → Prop} (l1 : Int32) (h : if (3100 : Int32) ≤ l1 then (zm X 3 66 194 0 [(0, .inr (.inr (some 94)))] (ma_u m 94 73 (0 : Int32)) (zmv (fun m1 => zm X 0 0 199 0 [(0, .inr (.inr (some 94)))] m1 (zmv (fun m3 => zm X 2 44 200 0 [(0, .inr (.inr (some 94)))] (ma_u m3 94 58 (0 : Int32)) (zmi (fun v6 m5 => P (some (.inl v6)) m5))))))) else ((0 ≤ l1 ∧ l1.toNatClampNeg < 3100) ∧ (if (m 99 l1.toNatClampNeg) = 0 then ((0 ≤ l1 ∧ l1.toNatClampNeg < 3100) ∧ (zm X 4 88 223 49 [(0, .inr (.inr (some 94))), (1, .inl (l1 + (1 : Int32)))] (ma_u m 110 l1.toNatClampNeg (0 : Int32)) P)) else ((0 ≤ l1 ∧ l1.toNatClampNeg < 3100) ∧ (if (m 106 l1.toNatClampNeg) = 0 then ((0 ≤ l1 ∧ l1.toNatClampNeg < 3100) ∧ (zm X 4 88 223 49 [(0, .inr (.inr (some 94))), (1, .inl (l1 + (1 : Int32)))] (ma_u m 110 l1.toNatClampNeg (0 : Int32)) P)) else ((0 ≤ l1 ∧ l1.toNatClampNeg < 3100) ∧ (zm X 4 88 223 49 [(0, .inr (.inr (some 94))), (1, .inl (l1 + (1 : Int32)))] (ma_u m 110 l1.toNatClampNeg (1 : Int32)) P))))))) : zm X 4 88 223 49 [(0, .inr (.inr (some 94))), (1, .inl l1)] m P := by
  intro d w S Q hd hw hS hm HQ
  subst hm
  refine zw_push hm_223 dX12_lookEmpty_49 (v := .inl l1) rfl ?_
  refine zw_push hm_223 dX12_lookEmpty_50 (v := .inl (3100 : Int32)) rfl ?_
  refine zw_if2 hm_223 dX12_lookEmpty_53 (t := 91) rfl zc2_ge ?_ ?_
  · intro hc
    rw [if_pos hc] at h
    refine zw_push hm_223 dX12_lookEmpty_91 (v := .inr (.inr (some 94))) rfl ?_
    refine zw_push hm_223 dX12_lookEmpty_92 (v := .inl (0 : Int32)) rfl ?_
    refine zw_pf hm_223 dX12_lookEmpty_93 (zT_is hS s_94) (zT_t hS s_94) p_12_291_12 zk_int ?_
    refine zw_push hm_223 dX12_lookEmpty_96 (v := .inr (.inr (some 94))) rfl ?_
    refine zw_cv hm_223 dX12_lookEmpty_97 v_12_336_12 hm_194 [] [] rfl (zT_rt (zT_pi hS) s_94 rfl) ⟨by omega, by omega⟩ rfl (h _ _ (ma_put S 94 73 (.inl (0 : Int32))) _ (by omega) (by omega) (zT_pi hS) rfl (fun o9 m1 hv => ?_))
    obtain ⟨rfl, h⟩ := zmv_of hv
    show ma_wp X d w 223 100 [(0, .inr (.inr (some 94))), (1, .inl l1)] [] (zst S m1) _
    refine zw_push hm_223 dX12_lookEmpty_100 (v := .inr (.inr (some 94))) rfl ?_
    refine zw_cv hm_223 dX12_lookEmpty_101 v_12_339_12 hm_199 [] [] rfl (zT_rt (zT_zst hS m1) s_94 rfl) ⟨by omega, by omega⟩ rfl (h _ _ (zst S m1) _ (by omega) (by omega) (zT_zst hS m1) rfl (fun o9 m3 hv => ?_))
    obtain ⟨rfl, h⟩ := zmv_of hv
    show ma_wp X d w 223 104 [(0, .inr (.inr (some 94))), (1, .inl l1)] [] (zst S m3) _
    refine zw_push hm_223 dX12_lookEmpty_104 (v := .inr (.inr (some 94))) rfl ?_
    refine zw_push hm_223 dX12_lookEmpty_105 (v := .inl (0 : Int32)) rfl ?_
    refine zw_pf hm_223 dX12_lookEmpty_106 (zT_is (zT_zst hS m3) s_94) (zT_t (zT_zst hS m3) s_94) p_12_270_12 (zk_bool (by decide)) ?_
    refine zw_push hm_223 dX12_lookEmpty_109 (v := .inr (.inr (some 94))) rfl ?_
    refine zw_cv hm_223 dX12_lookEmpty_110 v_12_342_12 hm_200 [] [] rfl (zT_rt (zT_pi (zT_zst hS m3)) s_94 rfl) ⟨by omega, by omega⟩ rfl (h _ _ (ma_put (zst S m3) 94 58 (.inl (0 : Int32))) _ (by omega) (by omega) (zT_pi (zT_zst hS m3)) rfl (fun o9 m5 hv => ?_))
    obtain ⟨v6, rfl, h⟩ := zmi_of hv
    show ma_wp X d w 223 113 [(0, .inr (.inr (some 94))), (1, .inl l1)] [.inl v6] (zst S m5) _
    exact zw_iret hm_223 dX12_lookEmpty_113 (HQ _ _ h)
  · intro hc
    rw [if_neg hc] at h
    refine zw_push hm_223 dX12_lookEmpty_56 (v := .inr (.inr (some 94))) rfl ?_
    refine zw_gf hm_223 dX12_lookEmpty_57 (v := .inr (.inr (some 110))) (zT_is hS s_94) (zT_t hS s_94) rfl f_12_62_12 (zT_f hS r_94_42) ?_
    refine zw_push hm_223 dX12_lookEmpty_60 (v := .inl l1) rfl ?_
    refine zw_push hm_223 dX12_lookEmpty_61 (v := .inr (.inr (some 94))) rfl ?_
    refine zw_gf hm_223 dX12_lookEmpty_62 (v := .inr (.inr (some 99))) (zT_is hS s_94) (zT_t hS s_94) rfl f_12_27_12 (zT_f hS r_94_31) ?_
    refine zw_push hm_223 dX12_lookEmpty_65 (v := .inl l1) rfl ?_
    obtain ⟨hg, h⟩ := h
    refine zw_ba hm_223 dX12_lookEmpty_66 (zT_is hS s_99) (zT_h hS s_99) rfl rfl hg ?_
    show ma_wp X d w 223 67 [(0, .inr (.inr (some 94))), (1, .inl l1)] [.inl ((mI S) 99 l1.toNatClampNeg), .inl l1, .inr (.inr (some 110))] S _
    refine zw_if0 hm_223 dX12_lookEmpty_67 (t := 83) rfl zc0_eq ?_ ?_
    · intro hc
      rw [if_pos hc] at h
      refine zw_push hm_223 dX12_lookEmpty_83 (v := .inl (0 : Int32)) rfl ?_
      obtain ⟨hg, h⟩ := h
      refine zw_bas22l hm_223 dX12_lookEmpty_84 (hx := by decide) (yv := (0 : Int32)) (zT_is hS s_110) (zT_h hS s_110) rfl hg ?_
      refine zw_sto hm_223 dX12_lookEmpty_85 [(1, .inl (l1 + (1 : Int32))), (0, .inr (.inr (some 94)))] rfl rfl rfl ?_
      refine zw_goto hm_223 dX12_lookEmpty_88 (t := 49) rfl ?_
      exact zw_sub (ma_nd_of (ks := [0, 1]) rfl (by decide)) (ma_nd_of (ks := [1, 0]) rfl (by decide)) (ma_le_cons rfl (ma_le_cons rfl (ma_le_nil _))) (h d w _ Q (by omega) (by omega) (zT_pi hS) rfl HQ)
    · intro hc
      rw [if_neg hc] at h
      refine zw_push hm_223 dX12_lookEmpty_70 (v := .inr (.inr (some 94))) rfl ?_
      refine zw_gf hm_223 dX12_lookEmpty_71 (v := .inr (.inr (some 106))) (zT_is hS s_94) (zT_t hS s_94) rfl f_12_49_12 (zT_f hS r_94_38) ?_
      refine zw_push hm_223 dX12_lookEmpty_74 (v := .inl l1) rfl ?_
      obtain ⟨hg, h⟩ := h
      refine zw_ia hm_223 dX12_lookEmpty_75 (zT_is hS s_106) (zT_h hS s_106) rfl hg ?_
      show ma_wp X d w 223 76 [(0, .inr (.inr (some 94))), (1, .inl l1)] [.inl ((mI S) 106 l1.toNatClampNeg), .inl l1, .inr (.inr (some 110))] S _
      refine zw_if0 hm_223 dX12_lookEmpty_76 (t := 83) rfl zc0_eq ?_ ?_
      · intro hc
        rw [if_pos hc] at h
        refine zw_push hm_223 dX12_lookEmpty_83 (v := .inl (0 : Int32)) rfl ?_
        obtain ⟨hg, h⟩ := h
        refine zw_bas22l hm_223 dX12_lookEmpty_84 (hx := by decide) (yv := (0 : Int32)) (zT_is hS s_110) (zT_h hS s_110) rfl hg ?_
        refine zw_sto hm_223 dX12_lookEmpty_85 [(1, .inl (l1 + (1 : Int32))), (0, .inr (.inr (some 94)))] rfl rfl rfl ?_
        refine zw_goto hm_223 dX12_lookEmpty_88 (t := 49) rfl ?_
        exact zw_sub (ma_nd_of (ks := [0, 1]) rfl (by decide)) (ma_nd_of (ks := [1, 0]) rfl (by decide)) (ma_le_cons rfl (ma_le_cons rfl (ma_le_nil _))) (h d w _ Q (by omega) (by omega) (zT_pi hS) rfl HQ)
      · intro hc
        rw [if_neg hc] at h
        refine zw_push hm_223 dX12_lookEmpty_79 (v := .inl (1 : Int32)) rfl ?_
        refine zw_goto hm_223 dX12_lookEmpty_80 (t := 84) rfl ?_
        obtain ⟨hg, h⟩ := h
        refine zw_bas22l hm_223 dX12_lookEmpty_84 (hx := by decide) (yv := (1 : Int32)) (zT_is hS s_110) (zT_h hS s_110) rfl hg ?_
        refine zw_sto hm_223 dX12_lookEmpty_85 [(1, .inl (l1 + (1 : Int32))), (0, .inr (.inr (some 94)))] rfl rfl rfl ?_
        refine zw_goto hm_223 dX12_lookEmpty_88 (t := 49) rfl ?_
        exact zw_sub (ma_nd_of (ks := [0, 1]) rfl (by decide)) (ma_nd_of (ks := [1, 0]) rfl (by decide)) (ma_le_cons rfl (ma_le_cons rfl (ma_le_nil _))) (h d w _ Q (by omega) (by omega) (zT_pi hS) rfl HQ)
theorem lp_223_49 {X : Nat × (Nat → Int32)} {P : Option ma_V → (Nat → Nat → Int32) → Prop} {T : Nat} {m0 : Nat → Nat → Int32} (h0 : zV m0) (K : ∀ v m₉, zF wr_223 m0 m₉ → zV m₉ → (zGW T (m₉ 94 55) (m₉ 109)) → (zGU T (m₉ 94 46) (m₉ 99)) → (zOw (m₉ 99) (m₉ 103) (m₉ 111)) → (zDX (m₉ 94 10) (m₉ 99) (m₉ 112) (m₉ 113) (m₉ 114) (m₉ 94 55) (m₉ 98) (m₉ 101) (m₉ 102) (m₉ 108)) → (zGG (m₉ 94 58) (m₉ 94 56) (m₉ 94 57) (m₉ 106)) → ((m₉ 94 58).toInt = 0 ∨ ((m₉ 94 58).toInt = 1 ∧ (m₉ 94 57).toInt < (m₉ 94 56).toInt ∧ (m₉ 94 57).toInt = (m0 94 57).toInt)) → P (some (.inl v)) m₉) : ∀ (n : Nat) (m : Nat → Nat → Int32) (l1 : Int32), (3100 - l1.toInt).toNat = n → zF wr_223 m0 m → zV m → (0 ≤ l1.toInt) → (zW (m 94 7) (m 98) (m 101) (m 102) (m 108)) → (zGW T (m 94 55) (m 109)) → (zGU T (m 94 46) (m 99)) → (zOw (m 99) (m 103) (m 111)) → (zDX (m 94 10) (m 99) (m 112) (m 113) (m 114) (m 94 55) (m 98) (m 101) (m 102) (m 108)) → ((m 94 10).toInt = 5) → ((m 94 57).toInt = (m0 94 57).toInt) → zm X 4 88 223 49 [(0, .inr (.inr (some 94))), (1, .inl l1)] m P := by
  intro n
  induction n using Nat.strongRecOn with
  | _ n IH =>
    intro m l1 hmu hF hV hi0 r_W r_GW r_GU r_OW r_DX hi6 hi7
    refine g_223_49 l1 ?_
    have f1 : 0 ≤ (m 94 10).toInt ∧ (m 94 10).toInt ≤ 6 := rs_94_10 (m := m) hV
    have f2 : 0 ≤ (m 94 57).toInt ∧ (m 94 57).toInt ≤ 3100 := rs_94_57 (m := m) hV
    have f3 : 0 ≤ (m0 94 57).toInt ∧ (m0 94 57).toInt ≤ 3100 := rs_94_57 (m := m0) h0
    have li4 : (3100 : Int32).toInt = 3100 := rfl
    have b5 := i_bd l1
    refine zd (fun (h6 : (3100 : Int32) ≤ l1) => ?_) (fun (h6 : ¬ (3100 : Int32) ≤ l1) => ?_)
    · skip
      have g7 := i_le h6
      have li9 : (0 : Int32).toInt = 0 := rfl
      have hV8 : zV (ma_u m 94 73 (0 : Int32)) := us_94_73 hV (by omega) (by omega)
      refine sp_194  hV8 (show (0 : Int32).toInt = 0 from by omega) r_W r_GW (show ((m 94 10).toInt = 2 ∨ (m 94 10).toInt = 3) → zCL (m 110) (m 98) (m 101) (m 102) (m 108) (m 118) (0 : Int32) 3100 0 from by first | (exact fun hp => absurd hp (by omega)) | (exfalso; omega; done) | (exfalso; contradiction; done)) (show zKU (m 94 10) (m 99) (m 110) from by first | (exact fun hp => absurd hp (by omega)) | (exfalso; omega; done) | (exfalso; contradiction; done)) r_DX (show ((m 94 10).toInt = 2 ∨ (m 94 10).toInt = 3) → zcov (m 110) (m 112) 16 from by first | (exact fun hp => absurd hp (by omega)) | (exact fun hp => cov_0 (by decide)) | (exfalso; omega; done) | (exfalso; contradiction; done)) (show ((m 94 10).toInt = 2 ∨ (m 94 10).toInt = 3) → zcov (m 110) (m 114) (m 94 55).toInt from by first | (exact fun hp => absurd hp (by omega)) | (exact fun hp => cov_0 (by decide)) | (exfalso; omega; done) | (exfalso; contradiction; done)) (fun m1 hV_m1 p0_m1 p1_m1 p2_m1 p3_m1 p4_m1 p5_m1 p6_m1 p7_m1 => zmv_n ?_)
      have p0_m1 : (m1 94 73).toInt = 0 := p0_m1
      have p1_m1 : zGW T (m1 94 55) (m1 109) := p1_m1
      have p2_m1 : ((m 94 10).toInt = 2 ∨ (m 94 10).toInt = 3) → zCL (m1 110) (m 98) (m 101) (m 102) (m 108) (m1 118) (m1 94 73) 3100 0 := p2_m1
      have p3_m1 : zKU (m 94 10) (m 99) (m1 110) := p3_m1
      have p4_m1 : zDX (m 94 10) (m 99) (m 112) (m1 113) (m1 114) (m1 94 55) (m 98) (m 101) (m 102) (m 108) := p4_m1
      have p5_m1 : ((m 94 10).toInt = 2 ∨ (m 94 10).toInt = 3) → zcov (m1 110) (m 112) 16 := p5_m1
      have p6_m1 : ((m 94 10).toInt = 2 ∨ (m 94 10).toInt = 3) → zcov (m1 110) (m1 114) (m1 94 55).toInt := p6_m1
      have p7_m1 : zuw (m 113) (m1 113) := p7_m1
      have f10 : 0 ≤ (m1 94 73).toInt ∧ (m1 94 73).toInt ≤ 3100 := rs_94_73 (m := (zov wr_194 (ma_u m 94 73 (0 : Int32)) m1)) hV_m1
      refine sp_199  hV_m1  (fun m3 hV_m3 p0_m3 p1_m3 => zmv_n ?_)
      have p0_m3 : zuw (m1 113) (m3 113) := p0_m3
      have p1_m3 : zcov (m1 110) (m3 113) 16 := p1_m3
      have hV11 : zV (ma_u (zov wr_199 (zov wr_194 (ma_u m 94 73 (0 : Int32)) m1) m3) 94 58 (0 : Int32)) := us_94_58 hV_m3 (by omega) (by omega)
      refine sp_200  hV11 r_W r_GU r_OW (fun v6 m5 hV_m5 p0_m5 p1_m5 p2_m5 p3_m5 => zmi_n ?_)
      have p0_m5 : zrm (m 99) (m5 99) (m1 110) 3100 := p0_m5
      have p1_m5 : zowr (m 111) (m5 111) (m 99) (m1 110) (m 103) := p1_m5
      have p2_m5 : zGU T (m 94 46) (m5 99) := p2_m5
      have p3_m5 : zOw (m5 99) (m 103) (m5 111) := p3_m5
      have b12 := i_bd v6
      have f13 : 0 ≤ (m 94 56).toInt ∧ (m 94 56).toInt ≤ 3100 := rs_94_56 (m := m) hV
      exact K (v6) _ (zF_zov (zF_u (zF_zov (zF_zov (zF_u hF rfl) ws_194_223) ws_199_223) rfl) ws_200_223) hV_m5 p1_m1 p2_m5 p3_m5 (show zDX (m 94 10) (m5 99) (m 112) (m3 113) (m1 114) (m1 94 55) (m 98) (m 101) (m 102) (m 108) from by first | (exact fun hp => absurd hp (by omega)) | (exfalso; omega; done) | (exfalso; contradiction; done)) (show zGG (0 : Int32) (m 94 56) (m 94 57) (m 106) from by first | (exact fun z => absurd z (by decide)) | (exact fun z => absurd z (by omega)) | (exfalso; omega; done) | (exfalso; contradiction; done)) (show (0 : Int32).toInt = 0 ∨ ((0 : Int32).toInt = 1 ∧ (m 94 57).toInt < (m 94 56).toInt ∧ (m 94 57).toInt = (m0 94 57).toInt) from by omega)
    · skip
      have g14 := i_nle h6
      have hg15 : (0 ≤ l1 ∧ l1.toNatClampNeg < 3100) := i_ix (by omega) (by omega)
      refine ⟨hg15, ?_⟩
      first | have f16 : 0 ≤ (m 99 l1.toNatClampNeg).toInt ∧ (m 99 l1.toNatClampNeg).toInt ≤ 1 := ra_99 (m := m) hV (k := l1.toNatClampNeg) (i_ix (n := 3100) (by omega) (by omega)).2 | have b17 := i_bd (m 99 l1.toNatClampNeg)
      have li18 : (0 : Int32).toInt = 0 := rfl
      refine zd (fun (h19 : (m 99 l1.toNatClampNeg) = (0 : Int32)) => ?_) (fun (h19 : ¬ (m 99 l1.toNatClampNeg) = (0 : Int32)) => ?_)
      · skip
        have g20 := i_eq h19
        have hg21 : (0 ≤ l1 ∧ l1.toNatClampNeg < 3100) := i_ix (by omega) (by omega)
        refine ⟨hg21, ?_⟩
        have hV22 : zV (ma_u m 110 l1.toNatClampNeg (0 : Int32)) := ua_110 hV (by omega) (by omega)
        first | have e23 : (l1 + (1 : Int32)).toInt = l1.toInt + (1) := i_addk rfl (by omega) (by omega) | have b24 := i_bd (l1 + (1 : Int32))
        exact IH (3100 - (l1 + (1 : Int32)).toInt).toNat (by omega) _ ((l1 + (1 : Int32))) rfl (zF_u hF rfl) hV22 (by omega) r_W r_GW r_GU r_OW r_DX (show (m 94 10).toInt = 5 from by omega) (show (m 94 57).toInt = (m0 94 57).toInt from by omega)
      · skip
        have g25 := i_ne h19
        have hg26 : (0 ≤ l1 ∧ l1.toNatClampNeg < 3100) := i_ix (by omega) (by omega)
        refine ⟨hg26, ?_⟩
        have b27 := i_bd (m 106 l1.toNatClampNeg)
        refine zd (fun (h28 : (m 106 l1.toNatClampNeg) = (0 : Int32)) => ?_) (fun (h28 : ¬ (m 106 l1.toNatClampNeg) = (0 : Int32)) => ?_)
        · skip
          have g29 := i_eq h28
          have hg30 : (0 ≤ l1 ∧ l1.toNatClampNeg < 3100) := i_ix (by omega) (by omega)
          refine ⟨hg30, ?_⟩
          have hV31 : zV (ma_u m 110 l1.toNatClampNeg (0 : Int32)) := ua_110 hV (by omega) (by omega)
          first | have e32 : (l1 + (1 : Int32)).toInt = l1.toInt + (1) := i_addk rfl (by omega) (by omega) | have b33 := i_bd (l1 + (1 : Int32))
          exact IH (3100 - (l1 + (1 : Int32)).toInt).toNat (by omega) _ ((l1 + (1 : Int32))) rfl (zF_u hF rfl) hV31 (by omega) r_W r_GW r_GU r_OW r_DX (show (m 94 10).toInt = 5 from by omega) (show (m 94 57).toInt = (m0 94 57).toInt from by omega)
        · skip
          have g34 := i_ne h28
          have hg35 : (0 ≤ l1 ∧ l1.toNatClampNeg < 3100) := i_ix (by omega) (by omega)
          refine ⟨hg35, ?_⟩
          have li37 : (1 : Int32).toInt = 1 := rfl
          have hV36 : zV (ma_u m 110 l1.toNatClampNeg (1 : Int32)) := ua_110 hV (by omega) (by omega)
          first | have e38 : (l1 + (1 : Int32)).toInt = l1.toInt + (1) := i_addk rfl (by omega) (by omega) | have b39 := i_bd (l1 + (1 : Int32))
          exact IH (3100 - (l1 + (1 : Int32)).toInt).toNat (by omega) _ ((l1 + (1 : Int32))) rfl (zF_u hF rfl) hV36 (by omega) r_W r_GW r_GU r_OW r_DX (show (m 94 10).toInt = 5 from by omega) (show (m 94 57).toInt = (m0 94 57).toInt from by omega)
theorem sp_223 {X : Nat × (Nat → Int32)} {P : Option ma_V → (Nat → Nat → Int32) → Prop} {T : Nat} {m : Nat → Nat → Int32}  (hV : zV m) (r_W : zW (m 94 7) (m 98) (m 101) (m 102) (m 108)) (r_GW : zGW T (m 94 55) (m 109)) (r_GU : zGU T (m 94 46) (m 99)) (r_OW : zOw (m 99) (m 103) (m 111)) (r_DX : zDX (m 94 10) (m 99) (m 112) (m 113) (m 114) (m 94 55) (m 98) (m 101) (m 102) (m 108)) (r_G1 : zG1 (m 94 56) (m 94 57) (m 106)) (hpre6 : (m 94 10).toInt = 5) (hpre7 : (m 94 58).toInt = 1) (KZ : ∀ v m₉, zV (zov wr_223 m m₉) → (zGW T (m₉ 94 55) (m₉ 109)) → (zGU T (m 94 46) (m₉ 99)) → (zOw (m₉ 99) (m 103) (m₉ 111)) → (zDX (m 94 10) (m₉ 99) (m 112) (m₉ 113) (m₉ 114) (m₉ 94 55) (m 98) (m 101) (m 102) (m 108)) → (zGG (m₉ 94 58) (m₉ 94 56) (m 94 57) (m₉ 106)) → ((m₉ 94 58).toInt = 0 ∨ ((m₉ 94 58).toInt = 1 ∧ (m 94 57).toInt < (m₉ 94 56).toInt ∧ (m 94 57).toInt = (m 94 57).toInt)) → P (some (.inl v)) (zov wr_223 m m₉)) : zm X 4 88 223 0 [(0, .inr (.inr (some 94)))] m P := by
  have K : ∀ v m₉, zF wr_223 m m₉ → zV m₉ → (zGW T (m₉ 94 55) (m₉ 109)) → (zGU T (m₉ 94 46) (m₉ 99)) → (zOw (m₉ 99) (m₉ 103) (m₉ 111)) → (zDX (m₉ 94 10) (m₉ 99) (m₉ 112) (m₉ 113) (m₉ 114) (m₉ 94 55) (m₉ 98) (m₉ 101) (m₉ 102) (m₉ 108)) → (zGG (m₉ 94 58) (m₉ 94 56) (m₉ 94 57) (m₉ 106)) → ((m₉ 94 58).toInt = 0 ∨ ((m₉ 94 58).toInt = 1 ∧ (m₉ 94 57).toInt < (m₉ 94 56).toInt ∧ (m₉ 94 57).toInt = (m 94 57).toInt)) → P (some (.inl v)) m₉ := by
    intro v m₉ hf z q0 q1 q2 q3 q4 q5
    have e := zov_eq hf
    rw [e] at z ⊢
    try rw [e] at q0
    try rw [e] at q1
    try rw [e] at q2
    try rw [e] at q3
    try rw [e] at q4
    try rw [e] at q5
    exact KZ v m₉ z q0 q1 q2 q3 q4 q5
  refine g_223_0  ?_
  have f1 : 0 ≤ (m 94 10).toInt ∧ (m 94 10).toInt ≤ 6 := rs_94_10 (m := m) hV
  have f2 : 0 ≤ (m 94 58).toInt ∧ (m 94 58).toInt ≤ 1 := rs_94_58 (m := m) hV
  have f3 : 0 ≤ (m 94 56).toInt ∧ (m 94 56).toInt ≤ 3100 := rs_94_56 (m := m) hV
  have f4 : 0 ≤ (m 94 57).toInt ∧ (m 94 57).toInt ≤ 3100 := rs_94_57 (m := m) hV
  refine zd (fun (h5 : (m 94 56) ≤ (m 94 57)) => ?_) (fun (h5 : ¬ (m 94 56) ≤ (m 94 57)) => ?_)
  · skip
    have g6 := i_le h5
    have f7 : 0 ≤ (m 94 9).toInt ∧ (m 94 9).toInt ≤ 1 := rs_94_9 (m := m) hV
    have li8 : (0 : Int32).toInt = 0 := rfl
    refine zd (fun (h9 : (m 94 9) = (0 : Int32)) => ?_) (fun (h9 : ¬ (m 94 9) = (0 : Int32)) => ?_)
    · skip
      have g10 := i_eq h9
      refine sp_220  hV r_G1 (fun m1 hV_m1 p0_m1 p1_m1 => zmv_n ?_)
      have p0_m1 : zG1 (m1 94 56) (m 94 57) (m1 106) := p0_m1
      have p1_m1 : (m 94 56).toInt ≤ (m1 94 56).toInt := p1_m1
      have f11 : 0 ≤ (m1 94 56).toInt ∧ (m1 94 56).toInt ≤ 3100 := rs_94_56 (m := (zov wr_220 m m1)) hV_m1
      refine zd (fun (h12 : (m1 94 56) ≤ (m 94 57)) => ?_) (fun (h12 : ¬ (m1 94 56) ≤ (m 94 57)) => ?_)
      · skip
        have g13 := i_le h12
        have hV14 : zV (ma_u (zov wr_220 m m1) 94 47 ((m 94 47) + (1 : Int32))) := uf_94_47 hV_m1
        exact lp_223_49 hV K _ _ ((0 : Int32)) rfl (zF_u (zF_zov zF_rfl ws_220_223) rfl) hV14 (by omega) r_W r_GW r_GU r_OW r_DX (show (m 94 10).toInt = 5 from by omega) (show (m 94 57).toInt = (m 94 57).toInt from by omega)
      · skip
        have g15 := i_nle h12
        exact K ((0 : Int32)) _ (zF_zov zF_rfl ws_220_223) hV_m1 r_GW r_GU r_OW r_DX (show zGG (m 94 58) (m1 94 56) (m 94 57) (m1 106) from by first | (exact fun _ => p0_m1) | (exact fun z => absurd z (by decide)) | (exact fun z => absurd z (by omega)) | (exfalso; omega; done) | (exfalso; contradiction; done)) (show (m 94 58).toInt = 0 ∨ ((m 94 58).toInt = 1 ∧ (m 94 57).toInt < (m1 94 56).toInt ∧ (m 94 57).toInt = (m 94 57).toInt) from by omega)
    · skip
      have g16 := i_ne h9
      refine zd (fun (h17 : (m 94 56) ≤ (m 94 57)) => ?_) (fun (h17 : ¬ (m 94 56) ≤ (m 94 57)) => ?_)
      · skip
        have g18 := i_le h17
        have hV19 : zV (ma_u m 94 47 ((m 94 47) + (1 : Int32))) := uf_94_47 hV
        exact lp_223_49 hV K _ _ ((0 : Int32)) rfl (zF_u zF_rfl rfl) hV19 (by omega) r_W r_GW r_GU r_OW r_DX (show (m 94 10).toInt = 5 from by omega) (show (m 94 57).toInt = (m 94 57).toInt from by omega)
      · skip
        have g20 := i_nle h17
        exact K ((0 : Int32)) _ zF_rfl hV r_GW r_GU r_OW r_DX (show zGG (m 94 58) (m 94 56) (m 94 57) (m 106) from by first | (exact fun _ => r_G1) | (exact fun z => absurd z (by decide)) | (exact fun z => absurd z (by omega)) | (exfalso; omega; done) | (exfalso; contradiction; done)) (show (m 94 58).toInt = 0 ∨ ((m 94 58).toInt = 1 ∧ (m 94 57).toInt < (m 94 56).toInt ∧ (m 94 57).toInt = (m 94 57).toInt) from by omega)
  · skip
    have g21 := i_nle h5
    have li22 : (0 : Int32).toInt = 0 := rfl
    exact K ((0 : Int32)) _ zF_rfl hV r_GW r_GU r_OW r_DX (show zGG (m 94 58) (m 94 56) (m 94 57) (m 106) from by first | (exact fun _ => r_G1) | (exact fun z => absurd z (by decide)) | (exact fun z => absurd z (by omega)) | (exfalso; omega; done) | (exfalso; contradiction; done)) (show (m 94 58).toInt = 0 ∨ ((m 94 58).toInt = 1 ∧ (m 94 57).toInt < (m 94 56).toInt ∧ (m 94 57).toInt = (m 94 57).toInt) from by omega)

/-! from 94.425 -/
/-! the reference (written by wip/tools/gen94m.py) -/
set_option maxRecDepth 100000 in
theorem hm_230 : ma_md 230 = some (12, yX12_finish, cX12_finish, 3, (some (FieldType.int))) := rfl
theorem f_12_270_12 : ma_fld 12 270 12 = some 58 := by decide +kernel
theorem v_12_402_12 : ma_vl 12 402 12 = some (1, 222, 1) := by decide +kernel
theorem v_12_405_12 : ma_vl 12 405 12 = some (1, 223, 0) := by decide +kernel
theorem dX12_finish_0 : decode cX12_finish 0 = .ok (.iconst 0, 1) := by decide +kernel
theorem dX12_finish_1 : decode cX12_finish 1 = .ok (.istore_n 1, 1) := by decide +kernel
theorem dX12_finish_2 : decode cX12_finish 2 = .ok (.aload_n 0, 1) := by decide +kernel
theorem dX12_finish_27 : decode cX12_finish 27 = .ok (.iload_n 1, 1) := by decide +kernel
theorem dX12_finish_28 : decode cX12_finish 28 = .ok (.ireturn, 1) := by decide +kernel
theorem dX12_finish_9 : decode cX12_finish 9 = .ok (.aload_n 0, 1) := by decide +kernel
theorem dX12_finish_10 : decode cX12_finish 10 = .ok (.sipush 3100, 3) := by decide +kernel
theorem dX12_finish_13 : decode cX12_finish 13 = .ok (.invokevirtual 402, 3) := by decide +kernel
theorem dX12_finish_16 : decode cX12_finish 16 = .ok (.istore_n 2, 1) := by decide +kernel
theorem dX12_finish_17 : decode cX12_finish 17 = .ok (.iload_n 1, 1) := by decide +kernel
theorem dX12_finish_18 : decode cX12_finish 18 = .ok (.aload_n 0, 1) := by decide +kernel
theorem dX12_finish_19 : decode cX12_finish 19 = .ok (.invokevirtual 405, 3) := by decide +kernel
theorem dX12_finish_22 : decode cX12_finish 22 = .ok (.iadd, 1) := by decide +kernel
theorem dX12_finish_23 : decode cX12_finish 23 = .ok (.istore_n 1, 1) := by decide +kernel
theorem dX12_finish_24 : decode cX12_finish 24 = .ok (.goto (-22), 3) := by decide +kernel
theorem dX12_finish_6 : decode cX12_finish 6 = .ok (.ifCond .eq 21, 3) := by decide +kernel
theorem dX12_finish_3 : decode cX12_finish 3 = .ok (.getfield 270, 3) := by decide +kernel
def wr_230 (c k : Nat) : Bool := Nat.beq c 99 || Nat.beq c 105 || Nat.beq c 106 || Nat.beq c 109 || Nat.beq c 110 || Nat.beq c 111 || Nat.beq c 113 || Nat.beq c 114 || Nat.beq c 115 || Nat.beq c 118 || (Nat.beq c 94 && (Nat.beq k 44 || Nat.beq k 45 || Nat.beq k 47 || Nat.beq k 49 || Nat.beq k 55 || Nat.beq k 56 || Nat.beq k 57 || Nat.beq k 58 || Nat.beq k 73))
theorem ws_222_230 : ∀ c k, wr_222 c k = true → wr_230 c k = true := by
  intro c k h
  simp only [wr_222, Bool.or_eq_true, Bool.and_eq_true, Nat.beq_eq] at h
  rcases h with (rfl | rfl) | ⟨rfl, (rfl | rfl)⟩ <;> rfl
theorem ws_223_230 : ∀ c k, wr_223 c k = true → wr_230 c k = true := by
  intro c k h
  simp only [wr_223, Bool.or_eq_true, Bool.and_eq_true, Nat.beq_eq] at h
  rcases h with (((((((((rfl | rfl) | rfl) | rfl) | rfl) | rfl) | rfl) | rfl) | rfl) | rfl) | ⟨rfl, (((((((rfl | rfl) | rfl) | rfl) | rfl) | rfl) | rfl) | rfl)⟩ <;> rfl
theorem g_230_0 {X : Nat × (Nat → Int32)} {m : Nat → Nat → Int32} {P : Option ma_V → (Nat → Nat → Int32) → Prop}  (h : zm X 5 109 230 2 [(0, .inr (.inr (some 94))), (1, .inl (0 : Int32))] m P) : zm X 5 109 230 0 [(0, .inr (.inr (some 94)))] m P := by
  intro d w S Q hd hw hS hm HQ
  subst hm
  refine zw_push hm_230 dX12_finish_0 (v := .inl (0 : Int32)) rfl ?_
  refine zw_sto hm_230 dX12_finish_1 [(1, .inl (0 : Int32)), (0, .inr (.inr (some 94)))] rfl rfl rfl ?_
  exact zw_sub (ma_nd_of (ks := [0, 1]) rfl (by decide)) (ma_nd_of (ks := [1, 0]) rfl (by decide)) (ma_le_cons rfl (ma_le_cons rfl (ma_le_nil _))) (h d w _ Q (by omega) (by omega) hS rfl HQ)
theorem g_230_2 {X : Nat × (Nat → Int32)} {m : Nat → Nat → Int32} {P : Option ma_V → (Nat → Nat → Int32) → Prop} (l1 : Int32) (h : if (m 94 58) = 0 then (P (some (.inl l1)) m) else (zm X 2 44 222 0 [(0, .inr (.inr (some 94))), (1, .inl (3100 : Int32))] m (zmi (fun v2 m1 => zm X 4 88 223 0 [(0, .inr (.inr (some 94)))] m1 (zmi (fun v4 m3 => zm X 5 109 230 2 [(0, .inr (.inr (some 94))), (1, .inl (l1 + v4))] m3 P)))))) : zm X 5 109 230 2 [(0, .inr (.inr (some 94))), (1, .inl l1)] m P := by
  intro d w S Q hd hw hS hm HQ
  subst hm
  refine zw_push hm_230 dX12_finish_2 (v := .inr (.inr (some 94))) rfl ?_
  refine zw_gf hm_230 dX12_finish_3 (v := .inl ((mI S) 94 58)) (zT_is hS s_94) (zT_t hS s_94) rfl f_12_270_12 rfl ?_
  refine zw_if0 hm_230 dX12_finish_6 (t := 27) rfl zc0_eq ?_ ?_
  · intro hc
    rw [if_pos hc] at h
    refine zw_push hm_230 dX12_finish_27 (v := .inl l1) rfl ?_
    exact zw_iret hm_230 dX12_finish_28 (HQ _ _ h)
  · intro hc
    rw [if_neg hc] at h
    refine zw_push hm_230 dX12_finish_9 (v := .inr (.inr (some 94))) rfl ?_
    refine zw_push hm_230 dX12_finish_10 (v := .inl (3100 : Int32)) rfl ?_
    refine zw_cv hm_230 dX12_finish_13 v_12_402_12 hm_222 [.inl (3100 : Int32)] [] rfl (zT_rt hS s_94 rfl) ⟨by omega, by omega⟩ rfl (h _ _ S _ (by omega) (by omega) hS rfl (fun o9 m1 hv => ?_))
    obtain ⟨v2, rfl, h⟩ := zmi_of hv
    show ma_wp X d w 230 16 [(0, .inr (.inr (some 94))), (1, .inl l1)] [.inl v2] (zst S m1) _
    refine zw_sto hm_230 dX12_finish_16 [(2, .inl v2), (0, .inr (.inr (some 94))), (1, .inl l1)] rfl rfl rfl ?_
    refine zw_push hm_230 dX12_finish_17 (v := .inl l1) rfl ?_
    refine zw_push hm_230 dX12_finish_18 (v := .inr (.inr (some 94))) rfl ?_
    refine zw_cv hm_230 dX12_finish_19 v_12_405_12 hm_223 [] [.inl l1] rfl (zT_rt (zT_zst hS m1) s_94 rfl) ⟨by omega, by omega⟩ rfl (h _ _ (zst S m1) _ (by omega) (by omega) (zT_zst hS m1) rfl (fun o9 m3 hv => ?_))
    obtain ⟨v4, rfl, h⟩ := zmi_of hv
    show ma_wp X d w 230 22 [(2, .inl v2), (0, .inr (.inr (some 94))), (1, .inl l1)] [.inl v4, .inl l1] (zst S m3) _
    refine zw_stk hm_230 dX12_finish_22 (st₉ := [.inl (l1 + v4)]) rfl rfl ?_
    refine zw_sto hm_230 dX12_finish_23 [(1, .inl (l1 + v4)), (2, .inl v2), (0, .inr (.inr (some 94)))] rfl rfl rfl ?_
    refine zw_goto hm_230 dX12_finish_24 (t := 2) rfl ?_
    exact zw_sub (ma_nd_of (ks := [0, 1]) rfl (by decide)) (ma_nd_of (ks := [1, 2, 0]) rfl (by decide)) (ma_le_cons rfl (ma_le_cons rfl (ma_le_nil _))) (h d w _ Q (by omega) (by omega) (zT_zst hS m3) rfl HQ)
theorem lp_230_2 {X : Nat × (Nat → Int32)} {P : Option ma_V → (Nat → Nat → Int32) → Prop} {T : Nat} {m0 : Nat → Nat → Int32} (h0 : zV m0) (K : ∀ v m₉, zF wr_230 m0 m₉ → zV m₉ → (zGW T (m₉ 94 55) (m₉ 109)) → (zGU T (m₉ 94 46) (m₉ 99)) → (zOw (m₉ 99) (m₉ 103) (m₉ 111)) → (zDX (m₉ 94 10) (m₉ 99) (m₉ 112) (m₉ 113) (m₉ 114) (m₉ 94 55) (m₉ 98) (m₉ 101) (m₉ 102) (m₉ 108)) → (zGG (m₉ 94 58) (m₉ 94 56) (m₉ 94 57) (m₉ 106)) → ((m₉ 94 58).toInt = 0) → P (some (.inl v)) m₉) : ∀ (n : Nat) (m : Nat → Nat → Int32) (l1 : Int32), ((zfm (m 94 58) (m 94 57) (m 94 56) : Int)).toNat = n → zF wr_230 m0 m → zV m → (zW (m 94 7) (m 98) (m 101) (m 102) (m 108)) → (zGW T (m 94 55) (m 109)) → (zGU T (m 94 46) (m 99)) → (zOw (m 99) (m 103) (m 111)) → (zDX (m 94 10) (m 99) (m 112) (m 113) (m 114) (m 94 55) (m 98) (m 101) (m 102) (m 108)) → (zGG (m 94 58) (m 94 56) (m 94 57) (m 106)) → ((m 94 10).toInt = 5) → zm X 5 109 230 2 [(0, .inr (.inr (some 94))), (1, .inl l1)] m P := by
  intro n
  induction n using Nat.strongRecOn with
  | _ n IH =>
    intro m l1 hmu hF hV r_W r_GW r_GU r_OW r_DX r_GG hi6
    refine g_230_2 l1 ?_
    have f1 : 0 ≤ (m 94 10).toInt ∧ (m 94 10).toInt ≤ 6 := rs_94_10 (m := m) hV
    have f2 : 0 ≤ (m 94 58).toInt ∧ (m 94 58).toInt ≤ 1 := rs_94_58 (m := m) hV
    have li3 : (0 : Int32).toInt = 0 := rfl
    refine zd (fun (h4 : (m 94 58) = (0 : Int32)) => ?_) (fun (h4 : ¬ (m 94 58) = (0 : Int32)) => ?_)
    · skip
      have g5 := i_eq h4
      skip
      have b6 := i_bd l1
      exact K (l1) _ hF hV r_GW r_GU r_OW r_DX r_GG (show (m 94 58).toInt = 0 from by omega)
    · skip
      have g7 := i_ne h4
      have li8 : (3100 : Int32).toInt = 3100 := rfl
      refine sp_222 ((3100 : Int32)) hV r_W (show zG1 (m 94 56) (m 94 57) (m 106) from by first | (exact r_GG (by omega)) | (exact G1_0 (by omega) (by omega)) | (exfalso; omega; done) | (exfalso; contradiction; done)) (fun v2 m1 hV_m1 p0_m1 p1_m1 p2_m1 => zmi_n ?_)
      have p0_m1 : zG1 (m1 94 56) (m1 94 57) (m1 106) := p0_m1
      have p1_m1 : (m 94 56).toInt ≤ (m1 94 56).toInt := p1_m1
      have p2_m1 : (m 94 57).toInt ≤ (m1 94 57).toInt ∧ ((m1 94 56).toInt ≤ (m1 94 57).toInt ∨ (m 94 57).toInt + (3100 : Int32).toInt ≤ (m1 94 57).toInt) := p2_m1
      have f9 : 0 ≤ (m 94 56).toInt ∧ (m 94 56).toInt ≤ 3100 := rs_94_56 (m := m) hV
      have f10 : 0 ≤ (m1 94 56).toInt ∧ (m1 94 56).toInt ≤ 3100 := rs_94_56 (m := (zov wr_222 m m1)) hV_m1
      have f11 : 0 ≤ (m 94 57).toInt ∧ (m 94 57).toInt ≤ 3100 := rs_94_57 (m := m) hV
      have f12 : 0 ≤ (m1 94 57).toInt ∧ (m1 94 57).toInt ≤ 3100 := rs_94_57 (m := (zov wr_222 m m1)) hV_m1
      refine sp_223  hV_m1 r_W r_GW r_GU r_OW r_DX p0_m1 (show (m 94 10).toInt = 5 from by omega) (show (m 94 58).toInt = 1 from by omega) (fun v4 m3 hV_m3 p0_m3 p1_m3 p2_m3 p3_m3 p4_m3 p5_m3 => zmi_n ?_)
      have p0_m3 : zGW T (m3 94 55) (m3 109) := p0_m3
      have p1_m3 : zGU T (m 94 46) (m3 99) := p1_m3
      have p2_m3 : zOw (m3 99) (m 103) (m3 111) := p2_m3
      have p3_m3 : zDX (m 94 10) (m3 99) (m 112) (m3 113) (m3 114) (m3 94 55) (m 98) (m 101) (m 102) (m 108) := p3_m3
      have p4_m3 : zGG (m3 94 58) (m3 94 56) (m1 94 57) (m3 106) := p4_m3
      have p5_m3 : (m3 94 58).toInt = 0 ∨ ((m3 94 58).toInt = 1 ∧ (m1 94 57).toInt < (m3 94 56).toInt ∧ (m1 94 57).toInt = (m1 94 57).toInt) := p5_m3
      have f13 : 0 ≤ (m3 94 58).toInt ∧ (m3 94 58).toInt ≤ 1 := rs_94_58 (m := (zov wr_223 (zov wr_222 m m1) m3)) hV_m3
      have f14 : 0 ≤ (m3 94 56).toInt ∧ (m3 94 56).toInt ≤ 3100 := rs_94_56 (m := (zov wr_223 (zov wr_222 m m1) m3)) hV_m3
      try have g1 := p0_m1.1
      try have g0 := (r_GG (by omega)).1
      have b15 := i_bd l1
      have b16 := i_bd v4
      first | have b18 := i_bd (l1 + v4) | have e17 : (l1 + v4).toInt = l1.toInt + v4.toInt := i_add (by omega) (by omega)
      exact IH ((zfm (m3 94 58) (m1 94 57) (m3 94 56) : Int)).toNat (by have zq := zfm_lt (im := m 94 58) (ga := m 94 57) (gm := m 94 56) (im₉ := (m3 94 58)) (ga₉ := (m1 94 57)) (gm₉ := (m3 94 56)) (by omega) (by omega) (by omega) (by omega); omega) _ ((l1 + v4)) rfl (zF_zov (zF_zov hF ws_222_230) ws_223_230) hV_m3 r_W p0_m3 p1_m3 p2_m3 p3_m3 p4_m3 (show (m 94 10).toInt = 5 from by omega)
theorem sp_230 {X : Nat × (Nat → Int32)} {P : Option ma_V → (Nat → Nat → Int32) → Prop} {T : Nat} {m : Nat → Nat → Int32}  (hV : zV m) (r_W : zW (m 94 7) (m 98) (m 101) (m 102) (m 108)) (r_GW : zGW T (m 94 55) (m 109)) (r_GU : zGU T (m 94 46) (m 99)) (r_OW : zOw (m 99) (m 103) (m 111)) (r_DX : zDX (m 94 10) (m 99) (m 112) (m 113) (m 114) (m 94 55) (m 98) (m 101) (m 102) (m 108)) (r_GG : zGG (m 94 58) (m 94 56) (m 94 57) (m 106)) (hpre6 : (m 94 10).toInt = 5) (KZ : ∀ v m₉, zV (zov wr_230 m m₉) → (zGW T (m₉ 94 55) (m₉ 109)) → (zGU T (m 94 46) (m₉ 99)) → (zOw (m₉ 99) (m 103) (m₉ 111)) → (zDX (m 94 10) (m₉ 99) (m 112) (m₉ 113) (m₉ 114) (m₉ 94 55) (m 98) (m 101) (m 102) (m 108)) → (zGG (m₉ 94 58) (m₉ 94 56) (m₉ 94 57) (m₉ 106)) → ((m₉ 94 58).toInt = 0) → P (some (.inl v)) (zov wr_230 m m₉)) : zm X 5 109 230 0 [(0, .inr (.inr (some 94)))] m P := by
  have K : ∀ v m₉, zF wr_230 m m₉ → zV m₉ → (zGW T (m₉ 94 55) (m₉ 109)) → (zGU T (m₉ 94 46) (m₉ 99)) → (zOw (m₉ 99) (m₉ 103) (m₉ 111)) → (zDX (m₉ 94 10) (m₉ 99) (m₉ 112) (m₉ 113) (m₉ 114) (m₉ 94 55) (m₉ 98) (m₉ 101) (m₉ 102) (m₉ 108)) → (zGG (m₉ 94 58) (m₉ 94 56) (m₉ 94 57) (m₉ 106)) → ((m₉ 94 58).toInt = 0) → P (some (.inl v)) m₉ := by
    intro v m₉ hf z q0 q1 q2 q3 q4 q5
    have e := zov_eq hf
    rw [e] at z ⊢
    try rw [e] at q0
    try rw [e] at q1
    try rw [e] at q2
    try rw [e] at q3
    try rw [e] at q4
    try rw [e] at q5
    exact KZ v m₉ z q0 q1 q2 q3 q4 q5
  refine g_230_0  ?_
  have f1 : 0 ≤ (m 94 10).toInt ∧ (m 94 10).toInt ≤ 6 := rs_94_10 (m := m) hV
  skip
  have li2 : (0 : Int32).toInt = 0 := rfl
  have f3 : 0 ≤ (m 94 58).toInt ∧ (m 94 58).toInt ≤ 1 := rs_94_58 (m := m) hV
  have f4 : 0 ≤ (m 94 57).toInt ∧ (m 94 57).toInt ≤ 3100 := rs_94_57 (m := m) hV
  have f5 : 0 ≤ (m 94 56).toInt ∧ (m 94 56).toInt ≤ 3100 := rs_94_56 (m := m) hV
  exact lp_230_2 hV K _ _ ((0 : Int32)) rfl zF_rfl hV r_W r_GW r_GU r_OW r_DX r_GG (show (m 94 10).toInt = 5 from by omega)
set_option maxRecDepth 100000 in
theorem hm_229 : ma_md 229 = some (12, yX12_whole, cX12_whole, 1, (some (FieldType.int))) := rfl
theorem v_12_408_12 : ma_vl 12 408 12 = some (1, 219, 0) := by decide +kernel
theorem v_12_411_12 : ma_vl 12 411 12 = some (1, 230, 0) := by decide +kernel
theorem dX12_whole_0 : decode cX12_whole 0 = .ok (.aload_n 0, 1) := by decide +kernel
theorem dX12_whole_1 : decode cX12_whole 1 = .ok (.invokevirtual 408, 3) := by decide +kernel
theorem dX12_whole_4 : decode cX12_whole 4 = .ok (.aload_n 0, 1) := by decide +kernel
theorem dX12_whole_5 : decode cX12_whole 5 = .ok (.invokevirtual 411, 3) := by decide +kernel
theorem dX12_whole_8 : decode cX12_whole 8 = .ok (.ireturn, 1) := by decide +kernel
def wr_229 (c k : Nat) : Bool := Nat.beq c 99 || Nat.beq c 105 || Nat.beq c 106 || Nat.beq c 109 || Nat.beq c 110 || Nat.beq c 111 || Nat.beq c 113 || Nat.beq c 114 || Nat.beq c 115 || Nat.beq c 118 || (Nat.beq c 94 && (Nat.beq k 44 || Nat.beq k 45 || Nat.beq k 47 || Nat.beq k 49 || Nat.beq k 55 || Nat.beq k 56 || Nat.beq k 57 || Nat.beq k 58 || Nat.beq k 73))
theorem ws_219_229 : ∀ c k, wr_219 c k = true → wr_229 c k = true := by
  intro c k h
  simp only [wr_219, Bool.or_eq_true, Bool.and_eq_true, Nat.beq_eq] at h
  rcases h with (rfl | rfl) | ⟨rfl, ((rfl | rfl) | rfl)⟩ <;> rfl
theorem ws_230_229 : ∀ c k, wr_230 c k = true → wr_229 c k = true := by
  intro c k h
  simp only [wr_230, Bool.or_eq_true, Bool.and_eq_true, Nat.beq_eq] at h
  rcases h with (((((((((rfl | rfl) | rfl) | rfl) | rfl) | rfl) | rfl) | rfl) | rfl) | rfl) | ⟨rfl, ((((((((rfl | rfl) | rfl) | rfl) | rfl) | rfl) | rfl) | rfl) | rfl)⟩ <;> rfl
theorem g_229_0 {X : Nat × (Nat → Int32)} {m : Nat → Nat → Int32} {P : Option ma_V → (Nat → Nat → Int32) → Prop}  (h : zm X 2 44 219 0 [(0, .inr (.inr (some 94)))] m (zmv (fun m1 => zm X 5 109 230 0 [(0, .inr (.inr (some 94)))] m1 (zmi (fun v4 m3 => P (some (.inl v4)) m3))))) : zm X 6 131 229 0 [(0, .inr (.inr (some 94)))] m P := by
  intro d w S Q hd hw hS hm HQ
  subst hm
  refine zw_push hm_229 dX12_whole_0 (v := .inr (.inr (some 94))) rfl ?_
  refine zw_cv hm_229 dX12_whole_1 v_12_408_12 hm_219 [] [] rfl (zT_rt hS s_94 rfl) ⟨by omega, by omega⟩ rfl (h _ _ S _ (by omega) (by omega) hS rfl (fun o9 m1 hv => ?_))
  obtain ⟨rfl, h⟩ := zmv_of hv
  show ma_wp X d w 229 4 [(0, .inr (.inr (some 94)))] [] (zst S m1) _
  refine zw_push hm_229 dX12_whole_4 (v := .inr (.inr (some 94))) rfl ?_
  refine zw_cv hm_229 dX12_whole_5 v_12_411_12 hm_230 [] [] rfl (zT_rt (zT_zst hS m1) s_94 rfl) ⟨by omega, by omega⟩ rfl (h _ _ (zst S m1) _ (by omega) (by omega) (zT_zst hS m1) rfl (fun o9 m3 hv => ?_))
  obtain ⟨v4, rfl, h⟩ := zmi_of hv
  show ma_wp X d w 229 8 [(0, .inr (.inr (some 94)))] [.inl v4] (zst S m3) _
  exact zw_iret hm_229 dX12_whole_8 (HQ _ _ h)
theorem sp_229 {X : Nat × (Nat → Int32)} {P : Option ma_V → (Nat → Nat → Int32) → Prop} {T : Nat} {m : Nat → Nat → Int32}  (hV : zV m) (r_W : zW (m 94 7) (m 98) (m 101) (m 102) (m 108)) (r_GW : zGW T (m 94 55) (m 109)) (r_GU : zGU T (m 94 46) (m 99)) (r_OW : zOw (m 99) (m 103) (m 111)) (r_DX : zDX (m 94 10) (m 99) (m 112) (m 113) (m 114) (m 94 55) (m 98) (m 101) (m 102) (m 108)) (hpre5 : (m 94 10).toInt = 5) (KZ : ∀ v m₉, zV (zov wr_229 m m₉) → (zGW T (m₉ 94 55) (m₉ 109)) → (zGU T (m 94 46) (m₉ 99)) → (zOw (m₉ 99) (m 103) (m₉ 111)) → (zDX (m 94 10) (m₉ 99) (m 112) (m₉ 113) (m₉ 114) (m₉ 94 55) (m 98) (m 101) (m 102) (m 108)) → (zGG (m₉ 94 58) (m₉ 94 56) (m₉ 94 57) (m₉ 106)) → ((m₉ 94 58).toInt = 0) → P (some (.inl v)) (zov wr_229 m m₉)) : zm X 6 131 229 0 [(0, .inr (.inr (some 94)))] m P := by
  have K : ∀ v m₉, zF wr_229 m m₉ → zV m₉ → (zGW T (m₉ 94 55) (m₉ 109)) → (zGU T (m₉ 94 46) (m₉ 99)) → (zOw (m₉ 99) (m₉ 103) (m₉ 111)) → (zDX (m₉ 94 10) (m₉ 99) (m₉ 112) (m₉ 113) (m₉ 114) (m₉ 94 55) (m₉ 98) (m₉ 101) (m₉ 102) (m₉ 108)) → (zGG (m₉ 94 58) (m₉ 94 56) (m₉ 94 57) (m₉ 106)) → ((m₉ 94 58).toInt = 0) → P (some (.inl v)) m₉ := by
    intro v m₉ hf z q0 q1 q2 q3 q4 q5
    have e := zov_eq hf
    rw [e] at z ⊢
    try rw [e] at q0
    try rw [e] at q1
    try rw [e] at q2
    try rw [e] at q3
    try rw [e] at q4
    try rw [e] at q5
    exact KZ v m₉ z q0 q1 q2 q3 q4 q5
  refine g_229_0  ?_
  have f1 : 0 ≤ (m 94 10).toInt ∧ (m 94 10).toInt ≤ 6 := rs_94_10 (m := m) hV
  refine sp_219  hV  (fun m1 hV_m1 p0_m1 p1_m1 => zmv_n ?_)
  have p0_m1 : zG1 (m1 94 56) (m1 94 57) (m1 106) := p0_m1
  have p1_m1 : (m1 94 58).toInt = 1 := p1_m1
  have f2 : 0 ≤ (m1 94 58).toInt ∧ (m1 94 58).toInt ≤ 1 := rs_94_58 (m := (zov wr_219 m m1)) hV_m1
  refine sp_230  hV_m1 r_W r_GW r_GU r_OW r_DX (show zGG (m1 94 58) (m1 94 56) (m1 94 57) (m1 106) from by first | (exact fun _ => p0_m1) | (exact fun z => absurd z (by decide)) | (exact fun z => absurd z (by omega)) | (exfalso; omega; done) | (exfalso; contradiction; done)) (show (m 94 10).toInt = 5 from by omega) (fun v4 m3 hV_m3 p0_m3 p1_m3 p2_m3 p3_m3 p4_m3 p5_m3 => zmi_n ?_)
  have p0_m3 : zGW T (m3 94 55) (m3 109) := p0_m3
  have p1_m3 : zGU T (m 94 46) (m3 99) := p1_m3
  have p2_m3 : zOw (m3 99) (m 103) (m3 111) := p2_m3
  have p3_m3 : zDX (m 94 10) (m3 99) (m 112) (m3 113) (m3 114) (m3 94 55) (m 98) (m 101) (m 102) (m 108) := p3_m3
  have p4_m3 : zGG (m3 94 58) (m3 94 56) (m3 94 57) (m3 106) := p4_m3
  have p5_m3 : (m3 94 58).toInt = 0 := p5_m3
  have f3 : 0 ≤ (m3 94 58).toInt ∧ (m3 94 58).toInt ≤ 1 := rs_94_58 (m := (zov wr_230 (zov wr_219 m m1) m3)) hV_m3
  have b4 := i_bd v4
  exact K (v4) _ (zF_zov (zF_zov zF_rfl ws_219_229) ws_230_229) hV_m3 p0_m3 p1_m3 p2_m3 p3_m3 p4_m3 (show (m3 94 58).toInt = 0 from by omega)

