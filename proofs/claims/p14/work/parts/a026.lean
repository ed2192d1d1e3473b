/-! from 94.418 -/
/-! the reference (written by wip/tools/gen94m.py) -/
set_option maxRecDepth 100000 in
theorem hm_200 : ma_md 200 = some (12, yX12_removeRest, cX12_removeRest, 4, (some (FieldType.int))) := rfl
set_option maxRecDepth 100000 in
theorem hm_202 : ma_md 202 = some (12, yX12_uncountKept, cX12_uncountKept, 2, none) := rfl
set_option maxRecDepth 100000 in
theorem hm_203 : ma_md 203 = some (12, yX12_remove, cX12_remove, 2, none) := rfl
theorem f_12_240_12 : ma_fld 12 240 12 = some 44 := by decide +kernel
theorem f_12_243_12 : ma_fld 12 243 12 = some 45 := by decide +kernel
theorem f_12_255_12 : ma_fld 12 255 12 = some 49 := by decide +kernel
theorem p_12_240_12 : ma_pk 12 240 12 44 = true := by decide +kernel
theorem p_12_243_12 : ma_pk 12 243 12 45 = true := by decide +kernel
theorem p_12_255_12 : ma_pk 12 255 12 49 = true := by decide +kernel
theorem v_12_330_12 : ma_vl 12 330 12 = some (1, 202, 1) := by decide +kernel
theorem v_12_333_12 : ma_vl 12 333 12 = some (1, 203, 1) := by decide +kernel
theorem dX12_removeRest_0 : decode cX12_removeRest 0 = .ok (.iconst 0, 1) := by decide +kernel
theorem dX12_removeRest_1 : decode cX12_removeRest 1 = .ok (.istore_n 1, 1) := by decide +kernel
theorem dX12_removeRest_2 : decode cX12_removeRest 2 = .ok (.iconst 0, 1) := by decide +kernel
theorem dX12_removeRest_3 : decode cX12_removeRest 3 = .ok (.istore_n 2, 1) := by decide +kernel
theorem dX12_removeRest_4 : decode cX12_removeRest 4 = .ok (.iload_n 2, 1) := by decide +kernel
theorem dX12_removeRest_5 : decode cX12_removeRest 5 = .ok (.sipush 3100, 3) := by decide +kernel
theorem dX12_removeRest_87 : decode cX12_removeRest 87 = .ok (.iload_n 1, 1) := by decide +kernel
theorem dX12_removeRest_88 : decode cX12_removeRest 88 = .ok (.ireturn, 1) := by decide +kernel
theorem dX12_removeRest_11 : decode cX12_removeRest 11 = .ok (.aload_n 0, 1) := by decide +kernel
theorem dX12_removeRest_15 : decode cX12_removeRest 15 = .ok (.iload_n 2, 1) := by decide +kernel
theorem dX12_removeRest_81 : decode cX12_removeRest 81 = .ok (.iinc 2 1, 3) := by decide +kernel
theorem dX12_removeRest_84 : decode cX12_removeRest 84 = .ok (.goto (-80), 3) := by decide +kernel
theorem dX12_removeRest_20 : decode cX12_removeRest 20 = .ok (.aload_n 0, 1) := by decide +kernel
theorem dX12_removeRest_24 : decode cX12_removeRest 24 = .ok (.iload_n 2, 1) := by decide +kernel
theorem dX12_removeRest_32 : decode cX12_removeRest 32 = .ok (.iload_n 1, 1) := by decide +kernel
theorem dX12_removeRest_33 : decode cX12_removeRest 33 = .ok (.aload_n 0, 1) := by decide +kernel
theorem dX12_removeRest_34 : decode cX12_removeRest 34 = .ok (.iload_n 2, 1) := by decide +kernel
theorem dX12_removeRest_35 : decode cX12_removeRest 35 = .ok (.invokevirtual 327, 3) := by decide +kernel
theorem dX12_removeRest_38 : decode cX12_removeRest 38 = .ok (.iadd, 1) := by decide +kernel
theorem dX12_removeRest_39 : decode cX12_removeRest 39 = .ok (.istore_n 1, 1) := by decide +kernel
theorem dX12_removeRest_40 : decode cX12_removeRest 40 = .ok (.aload_n 0, 1) := by decide +kernel
theorem dX12_removeRest_44 : decode cX12_removeRest 44 = .ok (.iconst 4, 1) := by decide +kernel
theorem dX12_removeRest_76 : decode cX12_removeRest 76 = .ok (.aload_n 0, 1) := by decide +kernel
theorem dX12_removeRest_77 : decode cX12_removeRest 77 = .ok (.iload_n 2, 1) := by decide +kernel
theorem dX12_removeRest_78 : decode cX12_removeRest 78 = .ok (.invokevirtual 333, 3) := by decide +kernel
theorem dX12_remove_0 : decode cX12_remove 0 = .ok (.aload_n 0, 1) := by decide +kernel
theorem dX12_remove_4 : decode cX12_remove 4 = .ok (.iload_n 1, 1) := by decide +kernel
theorem dX12_remove_5 : decode cX12_remove 5 = .ok (.iconst 0, 1) := by decide +kernel
theorem dX12_remove_7 : decode cX12_remove 7 = .ok (.aload_n 0, 1) := by decide +kernel
theorem dX12_remove_11 : decode cX12_remove 11 = .ok (.aload_n 0, 1) := by decide +kernel
theorem dX12_remove_15 : decode cX12_remove 15 = .ok (.iload_n 1, 1) := by decide +kernel
theorem dX12_remove_17 : decode cX12_remove 17 = .ok (.iconst (-1), 1) := by decide +kernel
theorem dX12_remove_19 : decode cX12_remove 19 = .ok (.aload_n 0, 1) := by decide +kernel
theorem dX12_remove_20 : decode cX12_remove 20 = .ok (.dup, 1) := by decide +kernel
theorem dX12_remove_24 : decode cX12_remove 24 = .ok (.iconst 1, 1) := by decide +kernel
theorem dX12_remove_25 : decode cX12_remove 25 = .ok (.isub, 1) := by decide +kernel
theorem dX12_remove_29 : decode cX12_remove 29 = .ok (.aload_n 0, 1) := by decide +kernel
theorem dX12_remove_30 : decode cX12_remove 30 = .ok (.dup, 1) := by decide +kernel
theorem dX12_remove_34 : decode cX12_remove 34 = .ok (.aload_n 0, 1) := by decide +kernel
theorem dX12_remove_35 : decode cX12_remove 35 = .ok (.iload_n 1, 1) := by decide +kernel
theorem dX12_remove_36 : decode cX12_remove 36 = .ok (.invokevirtual 327, 3) := by decide +kernel
theorem dX12_remove_39 : decode cX12_remove 39 = .ok (.isub, 1) := by decide +kernel
theorem dX12_remove_43 : decode cX12_remove 43 = .ok (.aload_n 0, 1) := by decide +kernel
theorem dX12_remove_44 : decode cX12_remove 44 = .ok (.dup, 1) := by decide +kernel
theorem dX12_remove_48 : decode cX12_remove 48 = .ok (.aload_n 0, 1) := by decide +kernel
theorem dX12_remove_49 : decode cX12_remove 49 = .ok (.iload_n 1, 1) := by decide +kernel
theorem dX12_remove_50 : decode cX12_remove 50 = .ok (.invokevirtual 327, 3) := by decide +kernel
theorem dX12_remove_53 : decode cX12_remove 53 = .ok (.iadd, 1) := by decide +kernel
theorem dX12_remove_57 : decode cX12_remove 57 = .ok (.return_, 1) := by decide +kernel
theorem dX12_remove_54 : decode cX12_remove 54 = .ok (.putfield 255, 3) := by decide +kernel
theorem dX12_remove_45 : decode cX12_remove 45 = .ok (.getfield 255, 3) := by decide +kernel
theorem dX12_remove_40 : decode cX12_remove 40 = .ok (.putfield 243, 3) := by decide +kernel
theorem dX12_remove_31 : decode cX12_remove 31 = .ok (.getfield 243, 3) := by decide +kernel
theorem dX12_remove_26 : decode cX12_remove 26 = .ok (.putfield 240, 3) := by decide +kernel
theorem dX12_remove_21 : decode cX12_remove 21 = .ok (.getfield 240, 3) := by decide +kernel
theorem dX12_remove_18 : decode cX12_remove 18 = .ok (.iastore, 1) := by decide +kernel
theorem dX12_remove_16 : decode cX12_remove 16 = .ok (.iaload, 1) := by decide +kernel
theorem dX12_remove_12 : decode cX12_remove 12 = .ok (.getfield 40, 3) := by decide +kernel
theorem dX12_remove_8 : decode cX12_remove 8 = .ok (.getfield 65, 3) := by decide +kernel
theorem dX12_remove_6 : decode cX12_remove 6 = .ok (.bastore, 1) := by decide +kernel
theorem dX12_remove_1 : decode cX12_remove 1 = .ok (.getfield 27, 3) := by decide +kernel
theorem dX12_removeRest_48 : decode cX12_removeRest 48 = .ok (.iconst 0, 1) := by decide +kernel
theorem dX12_removeRest_49 : decode cX12_removeRest 49 = .ok (.istore_n 3, 1) := by decide +kernel
theorem dX12_removeRest_45 : decode cX12_removeRest 45 = .ok (.if_icmp .ne 31, 3) := by decide +kernel
theorem dX12_removeRest_41 : decode cX12_removeRest 41 = .ok (.getfield 199, 3) := by decide +kernel
theorem dX12_removeRest_29 : decode cX12_removeRest 29 = .ok (.goto 52, 3) := by decide +kernel
theorem dX12_removeRest_26 : decode cX12_removeRest 26 = .ok (.ifCond .eq 6, 3) := by decide +kernel
theorem dX12_removeRest_25 : decode cX12_removeRest 25 = .ok (.baload, 1) := by decide +kernel
theorem dX12_removeRest_21 : decode cX12_removeRest 21 = .ok (.getfield 62, 3) := by decide +kernel
theorem dX12_removeRest_17 : decode cX12_removeRest 17 = .ok (.ifCond .eq 64, 3) := by decide +kernel
theorem dX12_removeRest_16 : decode cX12_removeRest 16 = .ok (.baload, 1) := by decide +kernel
theorem dX12_removeRest_12 : decode cX12_removeRest 12 = .ok (.getfield 27, 3) := by decide +kernel
theorem dX12_removeRest_8 : decode cX12_removeRest 8 = .ok (.if_icmp .ge 79, 3) := by decide +kernel
theorem dX12_removeRest_50 : decode cX12_removeRest 50 = .ok (.iload_n 3, 1) := by decide +kernel
theorem dX12_removeRest_51 : decode cX12_removeRest 51 = .ok (.aload_n 0, 1) := by decide +kernel
theorem dX12_removeRest_55 : decode cX12_removeRest 55 = .ok (.iload_n 2, 1) := by decide +kernel
theorem dX12_removeRest_60 : decode cX12_removeRest 60 = .ok (.aload_n 0, 1) := by decide +kernel
theorem dX12_removeRest_61 : decode cX12_removeRest 61 = .ok (.aload_n 0, 1) := by decide +kernel
theorem dX12_removeRest_62 : decode cX12_removeRest 62 = .ok (.iload_n 2, 1) := by decide +kernel
theorem dX12_removeRest_63 : decode cX12_removeRest 63 = .ok (.iload_n 3, 1) := by decide +kernel
theorem dX12_removeRest_64 : decode cX12_removeRest 64 = .ok (.invokevirtual 294, 3) := by decide +kernel
theorem dX12_removeRest_67 : decode cX12_removeRest 67 = .ok (.invokevirtual 330, 3) := by decide +kernel
theorem dX12_uncountKept_0 : decode cX12_uncountKept 0 = .ok (.iload_n 1, 1) := by decide +kernel
theorem dX12_removeRest_70 : decode cX12_removeRest 70 = .ok (.iinc 3 1, 3) := by decide +kernel
theorem dX12_removeRest_73 : decode cX12_removeRest 73 = .ok (.goto (-23), 3) := by decide +kernel
theorem dX12_uncountKept_23 : decode cX12_uncountKept 23 = .ok (.return_, 1) := by decide +kernel
theorem dX12_uncountKept_4 : decode cX12_uncountKept 4 = .ok (.aload_n 0, 1) := by decide +kernel
theorem dX12_uncountKept_8 : decode cX12_uncountKept 8 = .ok (.iload_n 1, 1) := by decide +kernel
theorem dX12_uncountKept_13 : decode cX12_uncountKept 13 = .ok (.aload_n 0, 1) := by decide +kernel
theorem dX12_uncountKept_17 : decode cX12_uncountKept 17 = .ok (.iload_n 1, 1) := by decide +kernel
theorem dX12_uncountKept_18 : decode cX12_uncountKept 18 = .ok (.dup2, 1) := by decide +kernel
theorem dX12_uncountKept_20 : decode cX12_uncountKept 20 = .ok (.iconst 1, 1) := by decide +kernel
theorem dX12_uncountKept_21 : decode cX12_uncountKept 21 = .ok (.isub, 1) := by decide +kernel
theorem dX12_uncountKept_22 : decode cX12_uncountKept 22 = .ok (.iastore, 1) := by decide +kernel
theorem dX12_uncountKept_19 : decode cX12_uncountKept 19 = .ok (.iaload, 1) := by decide +kernel
theorem dX12_uncountKept_14 : decode cX12_uncountKept 14 = .ok (.getfield 46, 3) := by decide +kernel
theorem dX12_uncountKept_10 : decode cX12_uncountKept 10 = .ok (.ifCond .eq 13, 3) := by decide +kernel
theorem dX12_uncountKept_9 : decode cX12_uncountKept 9 = .ok (.baload, 1) := by decide +kernel
theorem dX12_uncountKept_5 : decode cX12_uncountKept 5 = .ok (.getfield 62, 3) := by decide +kernel
theorem dX12_uncountKept_1 : decode cX12_uncountKept 1 = .ok (.ifCond .lt 22, 3) := by decide +kernel
theorem dX12_removeRest_57 : decode cX12_removeRest 57 = .ok (.if_icmp .ge 19, 3) := by decide +kernel
theorem dX12_removeRest_56 : decode cX12_removeRest 56 = .ok (.iaload, 1) := by decide +kernel
theorem dX12_removeRest_52 : decode cX12_removeRest 52 = .ok (.getfield 37, 3) := by decide +kernel
def wr_200 (c k : Nat) : Bool := Nat.beq c 99 || Nat.beq c 105 || Nat.beq c 111 || (Nat.beq c 94 && (Nat.beq k 44 || Nat.beq k 45 || Nat.beq k 49))
theorem ws_192_200 : ∀ c k, wr_192 c k = true → wr_200 c k = true := fun _ _ h => by cases h
theorem g_200_0 {X : Nat × (Nat → Int32)} {m : Nat → Nat → Int32} {P : Option ma_V → (Nat → Nat → Int32) → Prop}  (h : zm X 2 44 200 4 [(0, .inr (.inr (some 94))), (1, .inl (0 : Int32)), (2, .inl (0 : Int32))] m P) : zm X 2 44 200 0 [(0, .inr (.inr (some 94)))] m P := by
  intro d w S Q hd hw hS hm HQ
  subst hm
  refine zw_push hm_200 dX12_removeRest_0 (v := .inl (0 : Int32)) rfl ?_
  refine zw_sto hm_200 dX12_removeRest_1 [(1, .inl (0 : Int32)), (0, .inr (.inr (some 94)))] rfl rfl rfl ?_
  refine zw_push hm_200 dX12_removeRest_2 (v := .inl (0 : Int32)) rfl ?_
  refine zw_sto hm_200 dX12_removeRest_3 [(2, .inl (0 : Int32)), (1, .inl (0 : Int32)), (0, .inr (.inr (some 94)))] rfl rfl rfl ?_
  exact zw_sub (ma_nd_of (ks := [0, 1, 2]) rfl (by decide)) (ma_nd_of (ks := [2, 1, 0]) rfl (by decide)) (ma_le_cons rfl (ma_le_cons rfl (ma_le_cons rfl (ma_le_nil _)))) (h d w _ Q (by omega) (by omega) hS rfl HQ)
theorem g_200_4 {X : Nat × (Nat → Int32)} {m : Nat → Nat → Int32} {P : Option ma_V → (Nat → Nat → Int32) → Prop} (l1 : Int32) (l2 : Int32) (h : if (3100 : Int32) ≤ l2 then (P (some (.inl l1)) m) else ((0 ≤ l2 ∧ l2.toNatClampNeg < 3100) ∧ (if (m 99 l2.toNatClampNeg) = 0 then (zm X 2 44 200 4 [(0, .inr (.inr (some 94))), (1, .inl l1), (2, .inl (l2 + (1 : Int32)))] m P) else ((0 ≤ l2 ∧ l2.toNatClampNeg < 3100) ∧ (if (m 110 l2.toNatClampNeg) = 0 then ((0 ≤ l2 ∧ l2.toNatClampNeg < 3100) ∧ (if (m 94 10) = (4 : Int32) then (zm X 2 44 200 50 [(0, .inr (.inr (some 94))), (1, .inl (l1 + ((m 102 l2.toNatClampNeg) + (1 : Int32)))), (2, .inl l2), (3, .inl (0 : Int32))] m P) else ((0 ≤ l2 ∧ l2.toNatClampNeg < 3100) ∧ ((0 ≤ l2 ∧ l2.toNatClampNeg < 3100) ∧ ((0 ≤ (m 103 l2.toNatClampNeg) ∧ (m 103 l2.toNatClampNeg).toNatClampNeg < 4600) ∧ ((0 ≤ l2 ∧ l2.toNatClampNeg < 3100) ∧ ((0 ≤ l2 ∧ l2.toNatClampNeg < 3100) ∧ (zm X 2 44 200 4 [(0, .inr (.inr (some 94))), (1, .inl (l1 + ((m 102 l2.toNatClampNeg) + (1 : Int32)))), (2, .inl (l2 + (1 : Int32)))] (ma_u (ma_u (ma_u (ma_u (ma_u m 99 l2.toNatClampNeg (0 : Int32)) 111 (m 103 l2.toNatClampNeg).toNatClampNeg (-1 : Int32)) 94 44 ((m 94 44) - (1 : Int32))) 94 45 ((m 94 45) - ((m 102 l2.toNatClampNeg) + (1 : Int32)))) 94 49 ((m 94 49) + ((m 102 l2.toNatClampNeg) + (1 : Int32)))) P)))))))) else (zm X 2 44 200 4 [(0, .inr (.inr (some 94))), (1, .inl l1), (2, .inl (l2 + (1 : Int32)))] m P)))))) : zm X 2 44 200 4 [(0, .inr (.inr (some 94))), (1, .inl l1), (2, .inl l2)] m P := by
  intro d w S Q hd hw hS hm HQ
  subst hm
  refine zw_push hm_200 dX12_removeRest_4 (v := .inl l2) rfl ?_
  refine zw_push hm_200 dX12_removeRest_5 (v := .inl (3100 : Int32)) rfl ?_
  refine zw_if2 hm_200 dX12_removeRest_8 (t := 87) rfl zc2_ge ?_ ?_
  · intro hc
    rw [if_pos hc] at h
    refine zw_push hm_200 dX12_removeRest_87 (v := .inl l1) rfl ?_
    exact zw_iret hm_200 dX12_removeRest_88 (HQ _ _ h)
  · intro hc
    rw [if_neg hc] at h
    refine zw_push hm_200 dX12_removeRest_11 (v := .inr (.inr (some 94))) rfl ?_
    refine zw_gf hm_200 dX12_removeRest_12 (v := .inr (.inr (some 99))) (zT_is hS s_94) (zT_t hS s_94) rfl f_12_27_12 (zT_f hS r_94_31) ?_
    refine zw_push hm_200 dX12_removeRest_15 (v := .inl l2) rfl ?_
    obtain ⟨hg, h⟩ := h
    refine zw_ba hm_200 dX12_removeRest_16 (zT_is hS s_99) (zT_h hS s_99) rfl rfl hg ?_
    show ma_wp X d w 200 17 [(0, .inr (.inr (some 94))), (1, .inl l1), (2, .inl l2)] [.inl ((mI S) 99 l2.toNatClampNeg)] S _
    refine zw_if0 hm_200 dX12_removeRest_17 (t := 81) rfl zc0_eq ?_ ?_
    · intro hc
      rw [if_pos hc] at h
      refine zw_sto hm_200 dX12_removeRest_81 [(2, .inl (l2 + (1 : Int32))), (0, .inr (.inr (some 94))), (1, .inl l1)] rfl rfl rfl ?_
      refine zw_goto hm_200 dX12_removeRest_84 (t := 4) rfl ?_
      exact zw_sub (ma_nd_of (ks := [0, 1, 2]) rfl (by decide)) (ma_nd_of (ks := [2, 0, 1]) rfl (by decide)) (ma_le_cons rfl (ma_le_cons rfl (ma_le_cons rfl (ma_le_nil _)))) (h d w _ Q (by omega) (by omega) hS rfl HQ)
    · intro hc
      rw [if_neg hc] at h
      refine zw_push hm_200 dX12_removeRest_20 (v := .inr (.inr (some 94))) rfl ?_
      refine zw_gf hm_200 dX12_removeRest_21 (v := .inr (.inr (some 110))) (zT_is hS s_94) (zT_t hS s_94) rfl f_12_62_12 (zT_f hS r_94_42) ?_
      refine zw_push hm_200 dX12_removeRest_24 (v := .inl l2) rfl ?_
      obtain ⟨hg, h⟩ := h
      refine zw_ba hm_200 dX12_removeRest_25 (zT_is hS s_110) (zT_h hS s_110) rfl rfl hg ?_
      show ma_wp X d w 200 26 [(0, .inr (.inr (some 94))), (1, .inl l1), (2, .inl l2)] [.inl ((mI S) 110 l2.toNatClampNeg)] S _
      refine zw_if0 hm_200 dX12_removeRest_26 (t := 32) rfl zc0_eq ?_ ?_
      · intro hc
        rw [if_pos hc] at h
        refine zw_push hm_200 dX12_removeRest_32 (v := .inl l1) rfl ?_
        refine zw_push hm_200 dX12_removeRest_33 (v := .inr (.inr (some 94))) rfl ?_
        refine zw_push hm_200 dX12_removeRest_34 (v := .inl l2) rfl ?_
        refine zw_cv hm_200 dX12_removeRest_35 v_12_327_12 hm_201 [.inl l2] [.inl l1] rfl (zT_rt hS s_94 rfl) ⟨by omega, by omega⟩ rfl ?_
        show ma_wp X (d - 1) (w - 21) 201 0 [(0, .inr (.inr (some 94))), (1, .inl l2)] [] S _
        refine zw_push hm_201 dX12_sizeOf_0 (v := .inr (.inr (some 94))) rfl ?_
        refine zw_gf hm_201 dX12_sizeOf_1 (v := .inr (.inr (some 102))) (zT_is hS s_94) (zT_t hS s_94) rfl f_12_37_12 (zT_f hS r_94_34) ?_
        refine zw_push hm_201 dX12_sizeOf_4 (v := .inl l2) rfl ?_
        obtain ⟨hg, h⟩ := h
        refine zw_ia hm_201 dX12_sizeOf_5 (zT_is hS s_102) (zT_h hS s_102) rfl hg ?_
        show ma_wp X (d - 1) (w - 21) 201 6 [(0, .inr (.inr (some 94))), (1, .inl l2)] [.inl ((mI S) 102 l2.toNatClampNeg)] S _
        refine zw_push hm_201 dX12_sizeOf_6 (v := .inl (1 : Int32)) rfl ?_
        refine zw_stk hm_201 dX12_sizeOf_7 (st₉ := [.inl (((mI S) 102 l2.toNatClampNeg) + (1 : Int32))]) rfl rfl ?_
        refine zw_iret hm_201 dX12_sizeOf_8 ?_
        show ma_wp X d w 200 38 [(0, .inr (.inr (some 94))), (1, .inl l1), (2, .inl l2)] [.inl (((mI S) 102 l2.toNatClampNeg) + (1 : Int32)), .inl l1] S _
        refine zw_stk hm_200 dX12_removeRest_38 (st₉ := [.inl (l1 + (((mI S) 102 l2.toNatClampNeg) + (1 : Int32)))]) rfl rfl ?_
        refine zw_sto hm_200 dX12_removeRest_39 [(1, .inl (l1 + (((mI S) 102 l2.toNatClampNeg) + (1 : Int32)))), (0, .inr (.inr (some 94))), (2, .inl l2)] rfl rfl rfl ?_
        refine zw_push hm_200 dX12_removeRest_40 (v := .inr (.inr (some 94))) rfl ?_
        refine zw_gf hm_200 dX12_removeRest_41 (v := .inl ((mI S) 94 10)) (zT_is hS s_94) (zT_t hS s_94) rfl f_12_199_12 rfl ?_
        refine zw_push hm_200 dX12_removeRest_44 (v := .inl (4 : Int32)) rfl ?_
        refine zw_if2 hm_200 dX12_removeRest_45 (t := 76) rfl zc2_ne ?_ ?_
        · intro hc
          rw [if_neg hc] at h
          refine zw_push hm_200 dX12_removeRest_76 (v := .inr (.inr (some 94))) rfl ?_
          refine zw_push hm_200 dX12_removeRest_77 (v := .inl l2) rfl ?_
          refine zw_cv hm_200 dX12_removeRest_78 v_12_333_12 hm_203 [.inl l2] [] rfl (zT_rt hS s_94 rfl) ⟨by omega, by omega⟩ rfl ?_
          show ma_wp X (d - 1) (w - 21) 203 0 [(0, .inr (.inr (some 94))), (1, .inl l2)] [] S _
          refine zw_push hm_203 dX12_remove_0 (v := .inr (.inr (some 94))) rfl ?_
          refine zw_gf hm_203 dX12_remove_1 (v := .inr (.inr (some 99))) (zT_is hS s_94) (zT_t hS s_94) rfl f_12_27_12 (zT_f hS r_94_31) ?_
          refine zw_push hm_203 dX12_remove_4 (v := .inl l2) rfl ?_
          refine zw_push hm_203 dX12_remove_5 (v := .inl (0 : Int32)) rfl ?_
          obtain ⟨hg, h⟩ := h
          refine zw_bas22l hm_203 dX12_remove_6 (hx := by decide) (yv := (0 : Int32)) (zT_is hS s_99) (zT_h hS s_99) rfl hg ?_
          refine zw_push hm_203 dX12_remove_7 (v := .inr (.inr (some 94))) rfl ?_
          refine zw_gf hm_203 dX12_remove_8 (v := .inr (.inr (some 111))) (zT_is (zT_pi hS) s_94) (zT_t (zT_pi hS) s_94) rfl f_12_65_12 (zT_f (zT_pi hS) r_94_43) ?_
          refine zw_push hm_203 dX12_remove_11 (v := .inr (.inr (some 94))) rfl ?_
          refine zw_gf hm_203 dX12_remove_12 (v := .inr (.inr (some 103))) (zT_is (zT_pi hS) s_94) (zT_t (zT_pi hS) s_94) rfl f_12_40_12 (zT_f (zT_pi hS) r_94_35) ?_
          refine zw_push hm_203 dX12_remove_15 (v := .inl l2) rfl ?_
          obtain ⟨hg, h⟩ := h
          refine zw_ia hm_203 dX12_remove_16 (zT_is (zT_pi hS) s_103) (zT_h (zT_pi hS) s_103) rfl hg ?_
          show ma_wp X (d - 1) (w - 21) 203 17 [(0, .inr (.inr (some 94))), (1, .inl l2)] [.inl ((mI S) 103 l2.toNatClampNeg), .inr (.inr (some 111))] (ma_put S 99 l2.toNatClampNeg (.inl (0 : Int32))) _
          refine zw_push hm_203 dX12_remove_17 (v := .inl (-1 : Int32)) rfl ?_
          obtain ⟨hg, h⟩ := h
          refine zw_ias hm_203 dX12_remove_18 (zT_is (zT_pi hS) s_111) (zT_h (zT_pi hS) s_111) rfl hg ?_
          refine zw_push hm_203 dX12_remove_19 (v := .inr (.inr (some 94))) rfl ?_
          refine zw_stk hm_203 dX12_remove_20 (st₉ := [.inr (.inr (some 94)), .inr (.inr (some 94))]) rfl rfl ?_
          refine zw_gf hm_203 dX12_remove_21 (v := .inl ((mI S) 94 44)) (zT_is (zT_pi (zT_pi hS)) s_94) (zT_t (zT_pi (zT_pi hS)) s_94) rfl f_12_240_12 rfl ?_
          refine zw_push hm_203 dX12_remove_24 (v := .inl (1 : Int32)) rfl ?_
          refine zw_stk hm_203 dX12_remove_25 (st₉ := [.inl (((mI S) 94 44) - (1 : Int32)), .inr (.inr (some 94))]) rfl rfl ?_
          refine zw_pf hm_203 dX12_remove_26 (zT_is (zT_pi (zT_pi hS)) s_94) (zT_t (zT_pi (zT_pi hS)) s_94) p_12_240_12 zk_int ?_
          refine zw_push hm_203 dX12_remove_29 (v := .inr (.inr (some 94))) rfl ?_
          refine zw_stk hm_203 dX12_remove_30 (st₉ := [.inr (.inr (some 94)), .inr (.inr (some 94))]) rfl rfl ?_
          refine zw_gf hm_203 dX12_remove_31 (v := .inl ((mI S) 94 45)) (zT_is (zT_pi (zT_pi (zT_pi hS))) s_94) (zT_t (zT_pi (zT_pi (zT_pi hS))) s_94) rfl f_12_243_12 rfl ?_
          refine zw_push hm_203 dX12_remove_34 (v := .inr (.inr (some 94))) rfl ?_
          refine zw_push hm_203 dX12_remove_35 (v := .inl l2) rfl ?_
          refine zw_cv hm_203 dX12_remove_36 v_12_327_12 hm_201 [.inl l2] [.inl ((mI S) 94 45), .inr (.inr (some 94))] rfl (zT_rt (zT_pi (zT_pi (zT_pi hS))) s_94 rfl) ⟨by omega, by omega⟩ rfl ?_
          show ma_wp X ((d - 1) - 1) ((w - 21) - 21) 201 0 [(0, .inr (.inr (some 94))), (1, .inl l2)] [] (ma_put (ma_put (ma_put S 99 l2.toNatClampNeg (.inl (0 : Int32))) 111 ((mI S) 103 l2.toNatClampNeg).toNatClampNeg (.inl (-1 : Int32))) 94 44 (.inl (((mI S) 94 44) - (1 : Int32)))) _
          refine zw_push hm_201 dX12_sizeOf_0 (v := .inr (.inr (some 94))) rfl ?_
          refine zw_gf hm_201 dX12_sizeOf_1 (v := .inr (.inr (some 102))) (zT_is (zT_pi (zT_pi (zT_pi hS))) s_94) (zT_t (zT_pi (zT_pi (zT_pi hS))) s_94) rfl f_12_37_12 (zT_f (zT_pi (zT_pi (zT_pi hS))) r_94_34) ?_
          refine zw_push hm_201 dX12_sizeOf_4 (v := .inl l2) rfl ?_
          obtain ⟨hg, h⟩ := h
          refine zw_ia hm_201 dX12_sizeOf_5 (zT_is (zT_pi (zT_pi (zT_pi hS))) s_102) (zT_h (zT_pi (zT_pi (zT_pi hS))) s_102) rfl hg ?_
          show ma_wp X ((d - 1) - 1) ((w - 21) - 21) 201 6 [(0, .inr (.inr (some 94))), (1, .inl l2)] [.inl ((mI S) 102 l2.toNatClampNeg)] (ma_put (ma_put (ma_put S 99 l2.toNatClampNeg (.inl (0 : Int32))) 111 ((mI S) 103 l2.toNatClampNeg).toNatClampNeg (.inl (-1 : Int32))) 94 44 (.inl (((mI S) 94 44) - (1 : Int32)))) _
          refine zw_push hm_201 dX12_sizeOf_6 (v := .inl (1 : Int32)) rfl ?_
          refine zw_stk hm_201 dX12_sizeOf_7 (st₉ := [.inl (((mI S) 102 l2.toNatClampNeg) + (1 : Int32))]) rfl rfl ?_
          refine zw_iret hm_201 dX12_sizeOf_8 ?_
          show ma_wp X (d - 1) (w - 21) 203 39 [(0, .inr (.inr (some 94))), (1, .inl l2)] [.inl (((mI S) 102 l2.toNatClampNeg) + (1 : Int32)), .inl ((mI S) 94 45), .inr (.inr (some 94))] (ma_put (ma_put (ma_put S 99 l2.toNatClampNeg (.inl (0 : Int32))) 111 ((mI S) 103 l2.toNatClampNeg).toNatClampNeg (.inl (-1 : Int32))) 94 44 (.inl (((mI S) 94 44) - (1 : Int32)))) _
          refine zw_stk hm_203 dX12_remove_39 (st₉ := [.inl (((mI S) 94 45) - (((mI S) 102 l2.toNatClampNeg) + (1 : Int32))), .inr (.inr (some 94))]) rfl rfl ?_
          refine zw_pf hm_203 dX12_remove_40 (zT_is (zT_pi (zT_pi (zT_pi hS))) s_94) (zT_t (zT_pi (zT_pi (zT_pi hS))) s_94) p_12_243_12 zk_int ?_
          refine zw_push hm_203 dX12_remove_43 (v := .inr (.inr (some 94))) rfl ?_
          refine zw_stk hm_203 dX12_remove_44 (st₉ := [.inr (.inr (some 94)), .inr (.inr (some 94))]) rfl rfl ?_
          refine zw_gf hm_203 dX12_remove_45 (v := .inl ((mI S) 94 49)) (zT_is (zT_pi (zT_pi (zT_pi (zT_pi hS)))) s_94) (zT_t (zT_pi (zT_pi (zT_pi (zT_pi hS)))) s_94) rfl f_12_255_12 rfl ?_
          refine zw_push hm_203 dX12_remove_48 (v := .inr (.inr (some 94))) rfl ?_
          refine zw_push hm_203 dX12_remove_49 (v := .inl l2) rfl ?_
          refine zw_cv hm_203 dX12_remove_50 v_12_327_12 hm_201 [.inl l2] [.inl ((mI S) 94 49), .inr (.inr (some 94))] rfl (zT_rt (zT_pi (zT_pi (zT_pi (zT_pi hS)))) s_94 rfl) ⟨by omega, by omega⟩ rfl ?_
          show ma_wp X ((d - 1) - 1) ((w - 21) - 21) 201 0 [(0, .inr (.inr (some 94))), (1, .inl l2)] [] (ma_put (ma_put (ma_put (ma_put S 99 l2.toNatClampNeg (.inl (0 : Int32))) 111 ((mI S) 103 l2.toNatClampNeg).toNatClampNeg (.inl (-1 : Int32))) 94 44 (.inl (((mI S) 94 44) - (1 : Int32)))) 94 45 (.inl (((mI S) 94 45) - (((mI S) 102 l2.toNatClampNeg) + (1 : Int32))))) _
          refine zw_push hm_201 dX12_sizeOf_0 (v := .inr (.inr (some 94))) rfl ?_
          refine zw_gf hm_201 dX12_sizeOf_1 (v := .inr (.inr (some 102))) (zT_is (zT_pi (zT_pi (zT_pi (zT_pi hS)))) s_94) (zT_t (zT_pi (zT_pi (zT_pi (zT_pi hS)))) s_94) rfl f_12_37_12 (zT_f (zT_pi (zT_pi (zT_pi (zT_pi hS)))) r_94_34) ?_
          refine zw_push hm_201 dX12_sizeOf_4 (v := .inl l2) rfl ?_
          obtain ⟨hg, h⟩ := h
          refine zw_ia hm_201 dX12_sizeOf_5 (zT_is (zT_pi (zT_pi (zT_pi (zT_pi hS)))) s_102) (zT_h (zT_pi (zT_pi (zT_pi (zT_pi hS)))) s_102) rfl hg ?_
          show ma_wp X ((d - 1) - 1) ((w - 21) - 21) 201 6 [(0, .inr (.inr (some 94))), (1, .inl l2)] [.inl ((mI S) 102 l2.toNatClampNeg)] (ma_put (ma_put (ma_put (ma_put S 99 l2.toNatClampNeg (.inl (0 : Int32))) 111 ((mI S) 103 l2.toNatClampNeg).toNatClampNeg (.inl (-1 : Int32))) 94 44 (.inl (((mI S) 94 44) - (1 : Int32)))) 94 45 (.inl (((mI S) 94 45) - (((mI S) 102 l2.toNatClampNeg) + (1 : Int32))))) _
          refine zw_push hm_201 dX12_sizeOf_6 (v := .inl (1 : Int32)) rfl ?_
          refine zw_stk hm_201 dX12_sizeOf_7 (st₉ := [.inl (((mI S) 102 l2.toNatClampNeg) + (1 : Int32))]) rfl rfl ?_
          refine zw_iret hm_201 dX12_sizeOf_8 ?_
          show ma_wp X (d - 1) (w - 21) 203 53 [(0, .inr (.inr (some 94))), (1, .inl l2)] [.inl (((mI S) 102 l2.toNatClampNeg) + (1 : Int32)), .inl ((mI S) 94 49), .inr (.inr (some 94))] (ma_put (ma_put (ma_put (ma_put S 99 l2.toNatClampNeg (.inl (0 : Int32))) 111 ((mI S) 103 l2.toNatClampNeg).toNatClampNeg (.inl (-1 : Int32))) 94 44 (.inl (((mI S) 94 44) - (1 : Int32)))) 94 45 (.inl (((mI S) 94 45) - (((mI S) 102 l2.toNatClampNeg) + (1 : Int32))))) _
          refine zw_stk hm_203 dX12_remove_53 (st₉ := [.inl (((mI S) 94 49) + (((mI S) 102 l2.toNatClampNeg) + (1 : Int32))), .inr (.inr (some 94))]) rfl rfl ?_
          refine zw_pf hm_203 dX12_remove_54 (zT_is (zT_pi (zT_pi (zT_pi (zT_pi hS)))) s_94) (zT_t (zT_pi (zT_pi (zT_pi (zT_pi hS)))) s_94) p_12_255_12 zk_int ?_
          refine zw_vret hm_203 dX12_remove_57 ?_
          show ma_wp X d w 200 81 [(1, .inl (l1 + (((mI S) 102 l2.toNatClampNeg) + (1 : Int32)))), (0, .inr (.inr (some 94))), (2, .inl l2)] [] (ma_put (ma_put (ma_put (ma_put (ma_put S 99 l2.toNatClampNeg (.inl (0 : Int32))) 111 ((mI S) 103 l2.toNatClampNeg).toNatClampNeg (.inl (-1 : Int32))) 94 44 (.inl (((mI S) 94 44) - (1 : Int32)))) 94 45 (.inl (((mI S) 94 45) - (((mI S) 102 l2.toNatClampNeg) + (1 : Int32))))) 94 49 (.inl (((mI S) 94 49) + (((mI S) 102 l2.toNatClampNeg) + (1 : Int32))))) _
          refine zw_sto hm_200 dX12_removeRest_81 [(2, .inl (l2 + (1 : Int32))), (1, .inl (l1 + (((mI S) 102 l2.toNatClampNeg) + (1 : Int32)))), (0, .inr (.inr (some 94)))] rfl rfl rfl ?_
          refine zw_goto hm_200 dX12_removeRest_84 (t := 4) rfl ?_
          exact zw_sub (ma_nd_of (ks := [0, 1, 2]) rfl (by decide)) (ma_nd_of (ks := [2, 1, 0]) rfl (by decide)) (ma_le_cons rfl (ma_le_cons rfl (ma_le_cons rfl (ma_le_nil _)))) (h d w _ Q (by omega) (by omega) (zT_pi (zT_pi (zT_pi (zT_pi (zT_pi hS))))) rfl HQ)
        · intro hc
          rw [if_pos (Classical.not_not.mp hc)] at h
          refine zw_push hm_200 dX12_removeRest_48 (v := .inl (0 : Int32)) rfl ?_
          refine zw_sto hm_200 dX12_removeRest_49 [(3, .inl (0 : Int32)), (1, .inl (l1 + (((mI S) 102 l2.toNatClampNeg) + (1 : Int32)))), (0, .inr (.inr (some 94))), (2, .inl l2)] rfl rfl rfl ?_
          exact zw_sub (ma_nd_of (ks := [0, 1, 2, 3]) rfl (by decide)) (ma_nd_of (ks := [3, 1, 0, 2]) rfl (by decide)) (ma_le_cons rfl (ma_le_cons rfl (ma_le_cons rfl (ma_le_cons rfl (ma_le_nil _))))) (h d w _ Q (by omega) (by omega) hS rfl HQ)
      · intro hc
        rw [if_neg hc] at h
        refine zw_goto hm_200 dX12_removeRest_29 (t := 81) rfl ?_
        refine zw_sto hm_200 dX12_removeRest_81 [(2, .inl (l2 + (1 : Int32))), (0, .inr (.inr (some 94))), (1, .inl l1)] rfl rfl rfl ?_
        refine zw_goto hm_200 dX12_removeRest_84 (t := 4) rfl ?_
        exact zw_sub (ma_nd_of (ks := [0, 1, 2]) rfl (by decide)) (ma_nd_of (ks := [2, 0, 1]) rfl (by decide)) (ma_le_cons rfl (ma_le_cons rfl (ma_le_cons rfl (ma_le_nil _)))) (h d w _ Q (by omega) (by omega) hS rfl HQ)
theorem g_200_50 {X : Nat × (Nat → Int32)} {m : Nat → Nat → Int32} {P : Option ma_V → (Nat → Nat → Int32) → Prop} (l1 : Int32) (l2 : Int32) (l3 : Int32) (h : (0 ≤ l2 ∧ l2.toNatClampNeg < 3100) ∧ (if (m 102 l2.toNatClampNeg) ≤ l3 then ((0 ≤ l2 ∧ l2.toNatClampNeg < 3100) ∧ ((0 ≤ l2 ∧ l2.toNatClampNeg < 3100) ∧ ((0 ≤ (m 103 l2.toNatClampNeg) ∧ (m 103 l2.toNatClampNeg).toNatClampNeg < 4600) ∧ ((0 ≤ l2 ∧ l2.toNatClampNeg < 3100) ∧ ((0 ≤ l2 ∧ l2.toNatClampNeg < 3100) ∧ (zm X 2 44 200 4 [(0, .inr (.inr (some 94))), (1, .inl l1), (2, .inl (l2 + (1 : Int32)))] (ma_u (ma_u (ma_u (ma_u (ma_u m 99 l2.toNatClampNeg (0 : Int32)) 111 (m 103 l2.toNatClampNeg).toNatClampNeg (-1 : Int32)) 94 44 ((m 94 44) - (1 : Int32))) 94 45 ((m 94 45) - ((m 102 l2.toNatClampNeg) + (1 : Int32)))) 94 49 ((m 94 49) + ((m 102 l2.toNatClampNeg) + (1 : Int32)))) P)))))) else (zm X 1 22 192 0 [(0, .inr (.inr (some 94))), (1, .inl l2), (2, .inl l3)] m (zmi (fun v2 m1 => if v2 < 0 then (zm X 2 44 200 50 [(0, .inr (.inr (some 94))), (1, .inl l1), (2, .inl l2), (3, .inl (l3 + (1 : Int32)))] m1 P) else ((0 ≤ v2 ∧ v2.toNatClampNeg < 3100) ∧ (if (m1 110 v2.toNatClampNeg) = 0 then (zm X 2 44 200 50 [(0, .inr (.inr (some 94))), (1, .inl l1), (2, .inl l2), (3, .inl (l3 + (1 : Int32)))] m1 P) else ((0 ≤ v2 ∧ v2.toNatClampNeg < 3100) ∧ ((0 ≤ v2 ∧ v2.toNatClampNeg < 3100) ∧ (zm X 2 44 200 50 [(0, .inr (.inr (some 94))), (1, .inl l1), (2, .inl l2), (3, .inl (l3 + (1 : Int32)))] (ma_u m1 105 v2.toNatClampNeg ((m1 105 v2.toNatClampNeg) - (1 : Int32))) P)))))))))) : zm X 2 44 200 50 [(0, .inr (.inr (some 94))), (1, .inl l1), (2, .inl l2), (3, .inl l3)] m P := by
  intro d w S Q hd hw hS hm HQ
  subst hm
  refine zw_push hm_200 dX12_removeRest_50 (v := .inl l3) rfl ?_
  refine zw_push hm_200 dX12_removeRest_51 (v := .inr (.inr (some 94))) rfl ?_
  refine zw_gf hm_200 dX12_removeRest_52 (v := .inr (.inr (some 102))) (zT_is hS s_94) (zT_t hS s_94) rfl f_12_37_12 (zT_f hS r_94_34) ?_
  refine zw_push hm_200 dX12_removeRest_55 (v := .inl l2) rfl ?_
  obtain ⟨hg, h⟩ := h
  refine zw_ia hm_200 dX12_removeRest_56 (zT_is hS s_102) (zT_h hS s_102) rfl hg ?_
  show ma_wp X d w 200 57 [(0, .inr (.inr (some 94))), (1, .inl l1), (2, .inl l2), (3, .inl l3)] [.inl ((mI S) 102 l2.toNatClampNeg), .inl l3] S _
  refine zw_if2 hm_200 dX12_removeRest_57 (t := 76) rfl zc2_ge ?_ ?_
  · intro hc
    rw [if_pos hc] at h
    refine zw_push hm_200 dX12_removeRest_76 (v := .inr (.inr (some 94))) rfl ?_
    refine zw_push hm_200 dX12_removeRest_77 (v := .inl l2) rfl ?_
    refine zw_cv hm_200 dX12_removeRest_78 v_12_333_12 hm_203 [.inl l2] [] rfl (zT_rt hS s_94 rfl) ⟨by omega, by omega⟩ rfl ?_
    show ma_wp X (d - 1) (w - 21) 203 0 [(0, .inr (.inr (some 94))), (1, .inl l2)] [] S _
    refine zw_push hm_203 dX12_remove_0 (v := .inr (.inr (some 94))) rfl ?_
    refine zw_gf hm_203 dX12_remove_1 (v := .inr (.inr (some 99))) (zT_is hS s_94) (zT_t hS s_94) rfl f_12_27_12 (zT_f hS r_94_31) ?_
    refine zw_push hm_203 dX12_remove_4 (v := .inl l2) rfl ?_
    refine zw_push hm_203 dX12_remove_5 (v := .inl (0 : Int32)) rfl ?_
    obtain ⟨hg, h⟩ := h
    refine zw_bas22l hm_203 dX12_remove_6 (hx := by decide) (yv := (0 : Int32)) (zT_is hS s_99) (zT_h hS s_99) rfl hg ?_
    refine zw_push hm_203 dX12_remove_7 (v := .inr (.inr (some 94))) rfl ?_
    refine zw_gf hm_203 dX12_remove_8 (v := .inr (.inr (some 111))) (zT_is (zT_pi hS) s_94) (zT_t (zT_pi hS) s_94) rfl f_12_65_12 (zT_f (zT_pi hS) r_94_43) ?_
    refine zw_push hm_203 dX12_remove_11 (v := .inr (.inr (some 94))) rfl ?_
    refine zw_gf hm_203 dX12_remove_12 (v := .inr (.inr (some 103))) (zT_is (zT_pi hS) s_94) (zT_t (zT_pi hS) s_94) rfl f_12_40_12 (zT_f (zT_pi hS) r_94_35) ?_
    refine zw_push hm_203 dX12_remove_15 (v := .inl l2) rfl ?_
    obtain ⟨hg, h⟩ := h
    refine zw_ia hm_203 dX12_remove_16 (zT_is (zT_pi hS) s_103) (zT_h (zT_pi hS) s_103) rfl hg ?_
    show ma_wp X (d - 1) (w - 21) 203 17 [(0, .inr (.inr (some 94))), (1, .inl l2)] [.inl ((mI S) 103 l2.toNatClampNeg), .inr (.inr (some 111))] (ma_put S 99 l2.toNatClampNeg (.inl (0 : Int32))) _
    refine zw_push hm_203 dX12_remove_17 (v := .inl (-1 : Int32)) rfl ?_
    obtain ⟨hg, h⟩ := h
    refine zw_ias hm_203 dX12_remove_18 (zT_is (zT_pi hS) s_111) (zT_h (zT_pi hS) s_111) rfl hg ?_
    refine zw_push hm_203 dX12_remove_19 (v := .inr (.inr (some 94))) rfl ?_
    refine zw_stk hm_203 dX12_remove_20 (st₉ := [.inr (.inr (some 94)), .inr (.inr (some 94))]) rfl rfl ?_
    refine zw_gf hm_203 dX12_remove_21 (v := .inl ((mI S) 94 44)) (zT_is (zT_pi (zT_pi hS)) s_94) (zT_t (zT_pi (zT_pi hS)) s_94) rfl f_12_240_12 rfl ?_
    refine zw_push hm_203 dX12_remove_24 (v := .inl (1 : Int32)) rfl ?_
    refine zw_stk hm_203 dX12_remove_25 (st₉ := [.inl (((mI S) 94 44) - (1 : Int32)), .inr (.inr (some 94))]) rfl rfl ?_
    refine zw_pf hm_203 dX12_remove_26 (zT_is (zT_pi (zT_pi hS)) s_94) (zT_t (zT_pi (zT_pi hS)) s_94) p_12_240_12 zk_int ?_
    refine zw_push hm_203 dX12_remove_29 (v := .inr (.inr (some 94))) rfl ?_
    refine zw_stk hm_203 dX12_remove_30 (st₉ := [.inr (.inr (some 94)), .inr (.inr (some 94))]) rfl rfl ?_
    refine zw_gf hm_203 dX12_remove_31 (v := .inl ((mI S) 94 45)) (zT_is (zT_pi (zT_pi (zT_pi hS))) s_94) (zT_t (zT_pi (zT_pi (zT_pi hS))) s_94) rfl f_12_243_12 rfl ?_
    refine zw_push hm_203 dX12_remove_34 (v := .inr (.inr (some 94))) rfl ?_
    refine zw_push hm_203 dX12_remove_35 (v := .inl l2) rfl ?_
    refine zw_cv hm_203 dX12_remove_36 v_12_327_12 hm_201 [.inl l2] [.inl ((mI S) 94 45), .inr (.inr (some 94))] rfl (zT_rt (zT_pi (zT_pi (zT_pi hS))) s_94 rfl) ⟨by omega, by omega⟩ rfl ?_
    show ma_wp X ((d - 1) - 1) ((w - 21) - 21) 201 0 [(0, .inr (.inr (some 94))), (1, .inl l2)] [] (ma_put (ma_put (ma_put S 99 l2.toNatClampNeg (.inl (0 : Int32))) 111 ((mI S) 103 l2.toNatClampNeg).toNatClampNeg (.inl (-1 : Int32))) 94 44 (.inl (((mI S) 94 44) - (1 : Int32)))) _
    refine zw_push hm_201 dX12_sizeOf_0 (v := .inr (.inr (some 94))) rfl ?_
    refine zw_gf hm_201 dX12_sizeOf_1 (v := .inr (.inr (some 102))) (zT_is (zT_pi (zT_pi (zT_pi hS))) s_94) (zT_t (zT_pi (zT_pi (zT_pi hS))) s_94) rfl f_12_37_12 (zT_f (zT_pi (zT_pi (zT_pi hS))) r_94_34) ?_
    refine zw_push hm_201 dX12_sizeOf_4 (v := .inl l2) rfl ?_
    obtain ⟨hg, h⟩ := h
    refine zw_ia hm_201 dX12_sizeOf_5 (zT_is (zT_pi (zT_pi (zT_pi hS))) s_102) (zT_h (zT_pi (zT_pi (zT_pi hS))) s_102) rfl hg ?_
    show ma_wp X ((d - 1) - 1) ((w - 21) - 21) 201 6 [(0, .inr (.inr (some 94))), (1, .inl l2)] [.inl ((mI S) 102 l2.toNatClampNeg)] (ma_put (ma_put (ma_put S 99 l2.toNatClampNeg (.inl (0 : Int32))) 111 ((mI S) 103 l2.toNatClampNeg).toNatClampNeg (.inl (-1 : Int32))) 94 44 (.inl (((mI S) 94 44) - (1 : Int32)))) _
    refine zw_push hm_201 dX12_sizeOf_6 (v := .inl (1 : Int32)) rfl ?_
    refine zw_stk hm_201 dX12_sizeOf_7 (st₉ := [.inl (((mI S) 102 l2.toNatClampNeg) + (1 : Int32))]) rfl rfl ?_
    refine zw_iret hm_201 dX12_sizeOf_8 ?_
    show ma_wp X (d - 1) (w - 21) 203 39 [(0, .inr (.inr (some 94))), (1, .inl l2)] [.inl (((mI S) 102 l2.toNatClampNeg) + (1 : Int32)), .inl ((mI S) 94 45), .inr (.inr (some 94))] (ma_put (ma_put (ma_put S 99 l2.toNatClampNeg (.inl (0 : Int32))) 111 ((mI S) 103 l2.toNatClampNeg).toNatClampNeg (.inl (-1 : Int32))) 94 44 (.inl (((mI S) 94 44) - (1 : Int32)))) _
    refine zw_stk hm_203 dX12_remove_39 (st₉ := [.inl (((mI S) 94 45) - (((mI S) 102 l2.toNatClampNeg) + (1 : Int32))), .inr (.inr (some 94))]) rfl rfl ?_
    refine zw_pf hm_203 dX12_remove_40 (zT_is (zT_pi (zT_pi (zT_pi hS))) s_94) (zT_t (zT_pi (zT_pi (zT_pi hS))) s_94) p_12_243_12 zk_int ?_
    refine zw_push hm_203 dX12_remove_43 (v := .inr (.inr (some 94))) rfl ?_
    refine zw_stk hm_203 dX12_remove_44 (st₉ := [.inr (.inr (some 94)), .inr (.inr (some 94))]) rfl rfl ?_
    refine zw_gf hm_203 dX12_remove_45 (v := .inl ((mI S) 94 49)) (zT_is (zT_pi (zT_pi (zT_pi (zT_pi hS)))) s_94) (zT_t (zT_pi (zT_pi (zT_pi (zT_pi hS)))) s_94) rfl f_12_255_12 rfl ?_
    refine zw_push hm_203 dX12_remove_48 (v := .inr (.inr (some 94))) rfl ?_
    refine zw_push hm_203 dX12_remove_49 (v := .inl l2) rfl ?_
    refine zw_cv hm_203 dX12_remove_50 v_12_327_12 hm_201 [.inl l2] [.inl ((mI S) 94 49), .inr (.inr (some 94))] rfl (zT_rt (zT_pi (zT_pi (zT_pi (zT_pi hS)))) s_94 rfl) ⟨by omega, by omega⟩ rfl ?_
    show ma_wp X ((d - 1) - 1) ((w - 21) - 21) 201 0 [(0, .inr (.inr (some 94))), (1, .inl l2)] [] (ma_put (ma_put (ma_put (ma_put S 99 l2.toNatClampNeg (.inl (0 : Int32))) 111 ((mI S) 103 l2.toNatClampNeg).toNatClampNeg (.inl (-1 : Int32))) 94 44 (.inl (((mI S) 94 44) - (1 : Int32)))) 94 45 (.inl (((mI S) 94 45) - (((mI S) 102 l2.toNatClampNeg) + (1 : Int32))))) _
    refine zw_push hm_201 dX12_sizeOf_0 (v := .inr (.inr (some 94))) rfl ?_
    refine zw_gf hm_201 dX12_sizeOf_1 (v := .inr (.inr (some 102))) (zT_is (zT_pi (zT_pi (zT_pi (zT_pi hS)))) s_94) (zT_t (zT_pi (zT_pi (zT_pi (zT_pi hS)))) s_94) rfl f_12_37_12 (zT_f (zT_pi (zT_pi (zT_pi (zT_pi hS)))) r_94_34) ?_
    refine zw_push hm_201 dX12_sizeOf_4 (v := .inl l2) rfl ?_
    obtain ⟨hg, h⟩ := h
    refine zw_ia hm_201 dX12_sizeOf_5 (zT_is (zT_pi (zT_pi (zT_pi (zT_pi hS)))) s_102) (zT_h (zT_pi (zT_pi (zT_pi (zT_pi hS)))) s_102) rfl hg ?_
    show ma_wp X ((d - 1) - 1) ((w - 21) - 21) 201 6 [(0, .inr (.inr (some 94))), (1, .inl l2)] [.inl ((mI S) 102 l2.toNatClampNeg)] (ma_put (ma_put (ma_put (ma_put S 99 l2.toNatClampNeg (.inl (0 : Int32))) 111 ((mI S) 103 l2.toNatClampNeg).toNatClampNeg (.inl (-1 : Int32))) 94 44 (.inl (((mI S) 94 44) - (1 : Int32)))) 94 45 (.inl (((mI S) 94 45) - (((mI S) 102 l2.toNatClampNeg) + (1 : Int32))))) _
    refine zw_push hm_201 dX12_sizeOf_6 (v := .inl (1 : Int32)) rfl ?_
    refine zw_stk hm_201 dX12_sizeOf_7 (st₉ := [.inl (((mI S) 102 l2.toNatClampNeg) + (1 : Int32))]) rfl rfl ?_
    refine zw_iret hm_201 dX12_sizeOf_8 ?_
    show ma_wp X (d - 1) (w - 21) 203 53 [(0, .inr (.inr (some 94))), (1, .inl l2)] [.inl (((mI S) 102 l2.toNatClampNeg) + (1 : Int32)), .inl ((mI S) 94 49), .inr (.inr (some 94))] (ma_put (ma_put (ma_put (ma_put S 99 l2.toNatClampNeg (.inl (0 : Int32))) 111 ((mI S) 103 l2.toNatClampNeg).toNatClampNeg (.inl (-1 : Int32))) 94 44 (.inl (((mI S) 94 44) - (1 : Int32)))) 94 45 (.inl (((mI S) 94 45) - (((mI S) 102 l2.toNatClampNeg) + (1 : Int32))))) _
    refine zw_stk hm_203 dX12_remove_53 (st₉ := [.inl (((mI S) 94 49) + (((mI S) 102 l2.toNatClampNeg) + (1 : Int32))), .inr (.inr (some 94))]) rfl rfl ?_
    refine zw_pf hm_203 dX12_remove_54 (zT_is (zT_pi (zT_pi (zT_pi (zT_pi hS)))) s_94) (zT_t (zT_pi (zT_pi (zT_pi (zT_pi hS)))) s_94) p_12_255_12 zk_int ?_
    refine zw_vret hm_203 dX12_remove_57 ?_
    show ma_wp X d w 200 81 [(0, .inr (.inr (some 94))), (1, .inl l1), (2, .inl l2), (3, .inl l3)] [] (ma_put (ma_put (ma_put (ma_put (ma_put S 99 l2.toNatClampNeg (.inl (0 : Int32))) 111 ((mI S) 103 l2.toNatClampNeg).toNatClampNeg (.inl (-1 : Int32))) 94 44 (.inl (((mI S) 94 44) - (1 : Int32)))) 94 45 (.inl (((mI S) 94 45) - (((mI S) 102 l2.toNatClampNeg) + (1 : Int32))))) 94 49 (.inl (((mI S) 94 49) + (((mI S) 102 l2.toNatClampNeg) + (1 : Int32))))) _
    refine zw_sto hm_200 dX12_removeRest_81 [(2, .inl (l2 + (1 : Int32))), (0, .inr (.inr (some 94))), (1, .inl l1), (3, .inl l3)] rfl rfl rfl ?_
    refine zw_goto hm_200 dX12_removeRest_84 (t := 4) rfl ?_
    exact zw_sub (ma_nd_of (ks := [0, 1, 2]) rfl (by decide)) (ma_nd_of (ks := [2, 0, 1, 3]) rfl (by decide)) (ma_le_cons rfl (ma_le_cons rfl (ma_le_cons rfl (ma_le_nil _)))) (h d w _ Q (by omega) (by omega) (zT_pi (zT_pi (zT_pi (zT_pi (zT_pi hS))))) rfl HQ)
  · intro hc
    rw [if_neg hc] at h
    refine zw_push hm_200 dX12_removeRest_60 (v := .inr (.inr (some 94))) rfl ?_
    refine zw_push hm_200 dX12_removeRest_61 (v := .inr (.inr (some 94))) rfl ?_
    refine zw_push hm_200 dX12_removeRest_62 (v := .inl l2) rfl ?_
    refine zw_push hm_200 dX12_removeRest_63 (v := .inl l3) rfl ?_
    refine zw_cv hm_200 dX12_removeRest_64 v_12_294_12 hm_192 [.inl l3, .inl l2] [.inr (.inr (some 94))] rfl (zT_rt hS s_94 rfl) ⟨by omega, by omega⟩ rfl (h _ _ S _ (by omega) (by omega) hS rfl (fun o9 m1 hv => ?_))
    obtain ⟨v2, rfl, h⟩ := zmi_of hv
    show ma_wp X d w 200 67 [(0, .inr (.inr (some 94))), (1, .inl l1), (2, .inl l2), (3, .inl l3)] [.inl v2, .inr (.inr (some 94))] (zst S m1) _
    refine zw_cv hm_200 dX12_removeRest_67 v_12_330_12 hm_202 [.inl v2] [] rfl (zT_rt (zT_zst hS m1) s_94 rfl) ⟨by omega, by omega⟩ rfl ?_
    show ma_wp X (d - 1) (w - 21) 202 0 [(0, .inr (.inr (some 94))), (1, .inl v2)] [] (zst S m1) _
    refine zw_push hm_202 dX12_uncountKept_0 (v := .inl v2) rfl ?_
    refine zw_if0 hm_202 dX12_uncountKept_1 (t := 23) rfl zc0_lt ?_ ?_
    · intro hc
      rw [if_pos hc] at h
      refine zw_vret hm_202 dX12_uncountKept_23 ?_
      show ma_wp X d w 200 70 [(0, .inr (.inr (some 94))), (1, .inl l1), (2, .inl l2), (3, .inl l3)] [] (zst S m1) _
      refine zw_sto hm_200 dX12_removeRest_70 [(3, .inl (l3 + (1 : Int32))), (0, .inr (.inr (some 94))), (1, .inl l1), (2, .inl l2)] rfl rfl rfl ?_
      refine zw_goto hm_200 dX12_removeRest_73 (t := 50) rfl ?_
      exact zw_sub (ma_nd_of (ks := [0, 1, 2, 3]) rfl (by decide)) (ma_nd_of (ks := [3, 0, 1, 2]) rfl (by decide)) (ma_le_cons rfl (ma_le_cons rfl (ma_le_cons rfl (ma_le_cons rfl (ma_le_nil _))))) (h d w _ Q (by omega) (by omega) (zT_zst hS m1) rfl HQ)
    · intro hc
      rw [if_neg hc] at h
      refine zw_push hm_202 dX12_uncountKept_4 (v := .inr (.inr (some 94))) rfl ?_
      refine zw_gf hm_202 dX12_uncountKept_5 (v := .inr (.inr (some 110))) (zT_is (zT_zst hS m1) s_94) (zT_t (zT_zst hS m1) s_94) rfl f_12_62_12 (zT_f (zT_zst hS m1) r_94_42) ?_
      refine zw_push hm_202 dX12_uncountKept_8 (v := .inl v2) rfl ?_
      obtain ⟨hg, h⟩ := h
      refine zw_ba hm_202 dX12_uncountKept_9 (zT_is (zT_zst hS m1) s_110) (zT_h (zT_zst hS m1) s_110) rfl rfl hg ?_
      show ma_wp X (d - 1) (w - 21) 202 10 [(0, .inr (.inr (some 94))), (1, .inl v2)] [.inl (m1 110 v2.toNatClampNeg)] (zst S m1) _
      refine zw_if0 hm_202 dX12_uncountKept_10 (t := 23) rfl zc0_eq ?_ ?_
      · intro hc
        rw [if_pos hc] at h
        refine zw_vret hm_202 dX12_uncountKept_23 ?_
        show ma_wp X d w 200 70 [(0, .inr (.inr (some 94))), (1, .inl l1), (2, .inl l2), (3, .inl l3)] [] (zst S m1) _
        refine zw_sto hm_200 dX12_removeRest_70 [(3, .inl (l3 + (1 : Int32))), (0, .inr (.inr (some 94))), (1, .inl l1), (2, .inl l2)] rfl rfl rfl ?_
        refine zw_goto hm_200 dX12_removeRest_73 (t := 50) rfl ?_
        exact zw_sub (ma_nd_of (ks := [0, 1, 2, 3]) rfl (by decide)) (ma_nd_of (ks := [3, 0, 1, 2]) rfl (by decide)) (ma_le_cons rfl (ma_le_cons rfl (ma_le_cons rfl (ma_le_cons rfl (ma_le_nil _))))) (h d w _ Q (by omega) (by omega) (zT_zst hS m1) rfl HQ)
      · intro hc
        rw [if_neg hc] at h
        refine zw_push hm_202 dX12_uncountKept_13 (v := .inr (.inr (some 94))) rfl ?_
        refine zw_gf hm_202 dX12_uncountKept_14 (v := .inr (.inr (some 105))) (zT_is (zT_zst hS m1) s_94) (zT_t (zT_zst hS m1) s_94) rfl f_12_46_12 (zT_f (zT_zst hS m1) r_94_37) ?_
        refine zw_push hm_202 dX12_uncountKept_17 (v := .inl v2) rfl ?_
        refine zw_stk hm_202 dX12_uncountKept_18 (st₉ := [.inl v2, .inr (.inr (some 105)), .inl v2, .inr (.inr (some 105))]) rfl rfl ?_
        obtain ⟨hg, h⟩ := h
        refine zw_ia hm_202 dX12_uncountKept_19 (zT_is (zT_zst hS m1) s_105) (zT_h (zT_zst hS m1) s_105) rfl hg ?_
        show ma_wp X (d - 1) (w - 21) 202 20 [(0, .inr (.inr (some 94))), (1, .inl v2)] [.inl (m1 105 v2.toNatClampNeg), .inl v2, .inr (.inr (some 105))] (zst S m1) _
        refine zw_push hm_202 dX12_uncountKept_20 (v := .inl (1 : Int32)) rfl ?_
        refine zw_stk hm_202 dX12_uncountKept_21 (st₉ := [.inl ((m1 105 v2.toNatClampNeg) - (1 : Int32)), .inl v2, .inr (.inr (some 105))]) rfl rfl ?_
        obtain ⟨hg, h⟩ := h
        refine zw_ias hm_202 dX12_uncountKept_22 (zT_is (zT_zst hS m1) s_105) (zT_h (zT_zst hS m1) s_105) rfl hg ?_
        refine zw_vret hm_202 dX12_uncountKept_23 ?_
        show ma_wp X d w 200 70 [(0, .inr (.inr (some 94))), (1, .inl l1), (2, .inl l2), (3, .inl l3)] [] (ma_put (zst S m1) 105 v2.toNatClampNeg (.inl ((m1 105 v2.toNatClampNeg) - (1 : Int32)))) _
        refine zw_sto hm_200 dX12_removeRest_70 [(3, .inl (l3 + (1 : Int32))), (0, .inr (.inr (some 94))), (1, .inl l1), (2, .inl l2)] rfl rfl rfl ?_
        refine zw_goto hm_200 dX12_removeRest_73 (t := 50) rfl ?_
        exact zw_sub (ma_nd_of (ks := [0, 1, 2, 3]) rfl (by decide)) (ma_nd_of (ks := [3, 0, 1, 2]) rfl (by decide)) (ma_le_cons rfl (ma_le_cons rfl (ma_le_cons rfl (ma_le_cons rfl (ma_le_nil _))))) (h d w _ Q (by omega) (by omega) (zT_pi (zT_zst hS m1)) rfl HQ)
theorem lp_200_50 {X : Nat × (Nat → Int32)} {P : Option ma_V → (Nat → Nat → Int32) → Prop} {T : Nat} {m0 : Nat → Nat → Int32} (h0 : zV m0) (K : ∀ v m₉, zF wr_200 m0 m₉ → zV m₉ → (zrm (m0 99) (m₉ 99) (m₉ 110) 3100) → (zowr (m0 111) (m₉ 111) (m0 99) (m₉ 110) (m₉ 103)) → (zGU T (m₉ 94 46) (m₉ 99)) → (zOw (m₉ 99) (m₉ 103) (m₉ 111)) → P (some (.inl v)) m₉) {n4 : Nat} (OUT4 : ∀ (m₉ : Nat → Nat → Int32) (l1 : Int32) (l2 : Int32), (3100 - l2.toInt).toNat < n4 → zF wr_200 m0 m₉ → zV m₉ → (0 ≤ l2.toInt) → (zW (m₉ 94 7) (m₉ 98) (m₉ 101) (m₉ 102) (m₉ 108)) → (zGU T (m₉ 94 46) (m₉ 99)) → (zOw (m₉ 99) (m₉ 103) (m₉ 111)) → (zrm (m0 99) (m₉ 99) (m₉ 110) l2.toNatClampNeg) → (zowr (m0 111) (m₉ 111) (m0 99) (m₉ 110) (m₉ 103)) → zm X 2 44 200 4 [(0, .inr (.inr (some 94))), (1, .inl l1), (2, .inl l2)] m₉ P) : ∀ (n : Nat) (m : Nat → Nat → Int32) (l1 : Int32) (l2 : Int32) (l3 : Int32), (61 - l3.toInt).toNat = n → zF wr_200 m0 m → zV m → (0 ≤ l2.toInt) → (l2.toInt ≤ 3099) → (0 ≤ l3.toInt) → ((3100 - l2.toInt).toNat = n4) → (zW (m 94 7) (m 98) (m 101) (m 102) (m 108)) → (zGU T (m 94 46) (m 99)) → (zOw (m 99) (m 103) (m 111)) → (zrm (m0 99) (m 99) (m 110) l2.toNatClampNeg) → (zowr (m0 111) (m 111) (m0 99) (m 110) (m 103)) → ((m 99) l2.toNatClampNeg ≠ 0 ∧ (m 110) l2.toNatClampNeg = 0) → zm X 2 44 200 50 [(0, .inr (.inr (some 94))), (1, .inl l1), (2, .inl l2), (3, .inl l3)] m P := by
  intro n
  induction n using Nat.strongRecOn with
  | _ n IH =>
    intro m l1 l2 l3 hmu hF hV hi0 hi1 hi2 hi3 r_W r_GU r_OW r_RM r_OWR r_UK
    refine g_200_50 l1 l2 l3 ?_
    have b1 := i_bd l2
    have hg2 : (0 ≤ l2 ∧ l2.toNatClampNeg < 3100) := i_ix (by omega) (by omega)
    refine ⟨hg2, ?_⟩
    first | have f3 : 0 ≤ (m 102 l2.toNatClampNeg).toInt ∧ (m 102 l2.toNatClampNeg).toInt ≤ 60 := ra_102 (m := m) hV (k := l2.toNatClampNeg) (i_ix (n := 3100) (by omega) (by omega)).2 | have b4 := i_bd (m 102 l2.toNatClampNeg)
    have b5 := i_bd l3
    refine zd (fun (h6 : (m 102 l2.toNatClampNeg) ≤ l3) => ?_) (fun (h6 : ¬ (m 102 l2.toNatClampNeg) ≤ l3) => ?_)
    · skip
      have g7 := i_le h6
      have hg8 : (0 ≤ l2 ∧ l2.toNatClampNeg < 3100) := i_ix (by omega) (by omega)
      refine ⟨hg8, ?_⟩
      have hg9 : (0 ≤ l2 ∧ l2.toNatClampNeg < 3100) := i_ix (by omega) (by omega)
      refine ⟨hg9, ?_⟩
      first | have f10 : 0 ≤ (m 103 l2.toNatClampNeg).toInt ∧ (m 103 l2.toNatClampNeg).toInt ≤ 4599 := ra_103 (m := m) hV (k := l2.toNatClampNeg) (i_ix (n := 3100) (by omega) (by omega)).2 | have b11 := i_bd (m 103 l2.toNatClampNeg)
      have hg12 : (0 ≤ (m 103 l2.toNatClampNeg) ∧ (m 103 l2.toNatClampNeg).toNatClampNeg < 4600) := i_ix (by omega) (by omega)
      refine ⟨hg12, ?_⟩
      have hg13 : (0 ≤ l2 ∧ l2.toNatClampNeg < 3100) := i_ix (by omega) (by omega)
      refine ⟨hg13, ?_⟩
      have hg14 : (0 ≤ l2 ∧ l2.toNatClampNeg < 3100) := i_ix (by omega) (by omega)
      refine ⟨hg14, ?_⟩
      have li16 : (0 : Int32).toInt = 0 := rfl
      have hV15 : zV (ma_u m 99 l2.toNatClampNeg (0 : Int32)) := ua_99 hV (by omega) (by omega)
      have li18 : (-1 : Int32).toInt = -1 := rfl
      have hV17 : zV (ma_u (ma_u m 99 l2.toNatClampNeg (0 : Int32)) 111 (m 103 l2.toNatClampNeg).toNatClampNeg (-1 : Int32)) := ua_111 hV15 (by omega) (by omega)
      have hV19 : zV (ma_u (ma_u (ma_u m 99 l2.toNatClampNeg (0 : Int32)) 111 (m 103 l2.toNatClampNeg).toNatClampNeg (-1 : Int32)) 94 44 ((m 94 44) - (1 : Int32))) := uf_94_44 hV17
      have hV20 : zV (ma_u (ma_u (ma_u (ma_u m 99 l2.toNatClampNeg (0 : Int32)) 111 (m 103 l2.toNatClampNeg).toNatClampNeg (-1 : Int32)) 94 44 ((m 94 44) - (1 : Int32))) 94 45 ((m 94 45) - ((m 102 l2.toNatClampNeg) + (1 : Int32)))) := uf_94_45 hV19
      have hV21 : zV (ma_u (ma_u (ma_u (ma_u (ma_u m 99 l2.toNatClampNeg (0 : Int32)) 111 (m 103 l2.toNatClampNeg).toNatClampNeg (-1 : Int32)) 94 44 ((m 94 44) - (1 : Int32))) 94 45 ((m 94 45) - ((m 102 l2.toNatClampNeg) + (1 : Int32)))) 94 49 ((m 94 49) + ((m 102 l2.toNatClampNeg) + (1 : Int32)))) := uf_94_49 hV20
      have b22 := i_bd l1
      first | have e23 : (l2 + (1 : Int32)).toInt = l2.toInt + (1) := i_addk rfl (by omega) (by omega) | have b24 := i_bd (l2 + (1 : Int32))
      exact OUT4 _ (l1) ((l2 + (1 : Int32))) (show (3100 - (l2 + (1 : Int32)).toInt).toNat < n4 from by omega) (zF_u (zF_u (zF_u (zF_u (zF_u hF rfl) rfl) rfl) rfl) rfl) hV21 (by omega) r_W (show zGU T (m 94 46) ((ma_u m 99 l2.toNatClampNeg (0 : Int32)) 99) from by first | (exact GU_0 r_GU) | (exfalso; omega; done) | (exfalso; contradiction; done)) (show zOw ((ma_u m 99 l2.toNatClampNeg (0 : Int32)) 99) (m 103) ((ma_u m 111 (m 103 l2.toNatClampNeg).toNatClampNeg (-1 : Int32)) 111) from by first | (exact Ow_rm r_OW (by decide) (tn_cast (by omega)).symm) | (exfalso; omega; done) | (exfalso; contradiction; done)) (show zrm (m0 99) ((ma_u m 99 l2.toNatClampNeg (0 : Int32)) 99) (m 110) (l2 + (1 : Int32)).toNatClampNeg from by first | (exact rm_put r_RM (by assumption) (tn_succ (by omega) (by omega))) | (exact rm_put r_RM r_UK.2 (tn_succ (by omega) (by omega))) | (exfalso; omega; done) | (exfalso; contradiction; done)) (show zowr (m0 111) ((ma_u m 111 (m 103 l2.toNatClampNeg).toNatClampNeg (-1 : Int32)) 111) (m0 99) (m 110) (m 103) from by first | (exact owr_put r_OWR (s := l2.toNatClampNeg) (by omega) (rm_us r_RM (by omega) (by assumption)) (by assumption) (by decide) (tn_cast (by omega)).symm) | (exact owr_put r_OWR (s := l2.toNatClampNeg) (by omega) (rm_us r_RM (by omega) r_UK.1) r_UK.2 (by decide) (tn_cast (by omega)).symm) | (exfalso; omega; done) | (exfalso; contradiction; done))
    · skip
      have g25 := i_nle h6
      refine sp_192 (l2) (l3) hV (by omega) (by omega) (by omega) (show l3.toInt < (m 102 l2.toNatClampNeg).toInt from by omega) (fun v2 m1 hV_m1 p0_m1 => zmi_n ?_)
      have p0_m1 : v2 = zrf (m 98) (m 101) (m 108) l2.toNatClampNeg l3.toNatClampNeg := p0_m1
      try have := W_ref r_W (by omega) (by omega) (by omega) (by omega) p0_m1
      have b26 := i_bd v2
      have li27 : (0 : Int32).toInt = 0 := rfl
      refine zd (fun (h28 : v2 < (0 : Int32)) => ?_) (fun (h28 : ¬ v2 < (0 : Int32)) => ?_)
      · skip
        have g29 := i_lt h28
        have b30 := i_bd l1
        first | have e31 : (l3 + (1 : Int32)).toInt = l3.toInt + (1) := i_addk rfl (by omega) (by omega) | have b32 := i_bd (l3 + (1 : Int32))
        exact IH (61 - (l3 + (1 : Int32)).toInt).toNat (by omega) _ (l1) (l2) ((l3 + (1 : Int32))) rfl (zF_zov hF ws_192_200) hV_m1 (by omega) (by omega) (by omega) (by omega) r_W r_GU r_OW r_RM r_OWR r_UK
      · skip
        have g33 := i_nlt h28
        have hg34 : (0 ≤ v2 ∧ v2.toNatClampNeg < 3100) := i_ix (by omega) (by omega)
        refine ⟨hg34, ?_⟩
        first | have f35 : 0 ≤ (m 110 v2.toNatClampNeg).toInt ∧ (m 110 v2.toNatClampNeg).toInt ≤ 1 := ra_110 (m := m) hV (k := v2.toNatClampNeg) (i_ix (n := 3100) (by omega) (by omega)).2 | have b36 := i_bd (m 110 v2.toNatClampNeg)
        refine zd (fun (h37 : (m 110 v2.toNatClampNeg) = (0 : Int32)) => ?_) (fun (h37 : ¬ (m 110 v2.toNatClampNeg) = (0 : Int32)) => ?_)
        · skip
          have g38 := i_eq h37
          have b39 := i_bd l1
          first | have e40 : (l3 + (1 : Int32)).toInt = l3.toInt + (1) := i_addk rfl (by omega) (by omega) | have b41 := i_bd (l3 + (1 : Int32))
          exact IH (61 - (l3 + (1 : Int32)).toInt).toNat (by omega) _ (l1) (l2) ((l3 + (1 : Int32))) rfl (zF_zov hF ws_192_200) hV_m1 (by omega) (by omega) (by omega) (by omega) r_W r_GU r_OW r_RM r_OWR r_UK
        · skip
          have g42 := i_ne h37
          have hg43 : (0 ≤ v2 ∧ v2.toNatClampNeg < 3100) := i_ix (by omega) (by omega)
          refine ⟨hg43, ?_⟩
          have hg44 : (0 ≤ v2 ∧ v2.toNatClampNeg < 3100) := i_ix (by omega) (by omega)
          refine ⟨hg44, ?_⟩
          have hV45 : zV (ma_u (zov wr_192 m m1) 105 v2.toNatClampNeg ((m 105 v2.toNatClampNeg) - (1 : Int32))) := ua_105 hV_m1
          have b46 := i_bd l1
          first | have e47 : (l3 + (1 : Int32)).toInt = l3.toInt + (1) := i_addk rfl (by omega) (by omega) | have b48 := i_bd (l3 + (1 : Int32))
          exact IH (61 - (l3 + (1 : Int32)).toInt).toNat (by omega) _ (l1) (l2) ((l3 + (1 : Int32))) rfl (zF_u (zF_zov hF ws_192_200) rfl) hV45 (by omega) (by omega) (by omega) (by omega) r_W r_GU r_OW r_RM r_OWR r_UK
theorem lp_200_4 {X : Nat × (Nat → Int32)} {P : Option ma_V → (Nat → Nat → Int32) → Prop} {T : Nat} {m0 : Nat → Nat → Int32} (h0 : zV m0) (K : ∀ v m₉, zF wr_200 m0 m₉ → zV m₉ → (zrm (m0 99) (m₉ 99) (m₉ 110) 3100) → (zowr (m0 111) (m₉ 111) (m0 99) (m₉ 110) (m₉ 103)) → (zGU T (m₉ 94 46) (m₉ 99)) → (zOw (m₉ 99) (m₉ 103) (m₉ 111)) → P (some (.inl v)) m₉) : ∀ (n : Nat) (m : Nat → Nat → Int32) (l1 : Int32) (l2 : Int32), (3100 - l2.toInt).toNat = n → zF wr_200 m0 m → zV m → (0 ≤ l2.toInt) → (zW (m 94 7) (m 98) (m 101) (m 102) (m 108)) → (zGU T (m 94 46) (m 99)) → (zOw (m 99) (m 103) (m 111)) → (zrm (m0 99) (m 99) (m 110) l2.toNatClampNeg) → (zowr (m0 111) (m 111) (m0 99) (m 110) (m 103)) → zm X 2 44 200 4 [(0, .inr (.inr (some 94))), (1, .inl l1), (2, .inl l2)] m P := by
  intro n
  induction n using Nat.strongRecOn with
  | _ n IH =>
    intro m l1 l2 hmu hF hV hi0 r_W r_GU r_OW r_RM r_OWR
    refine g_200_4 l1 l2 ?_
    have li1 : (3100 : Int32).toInt = 3100 := rfl
    have b2 := i_bd l2
    refine zd (fun (h3 : (3100 : Int32) ≤ l2) => ?_) (fun (h3 : ¬ (3100 : Int32) ≤ l2) => ?_)
    · skip
      have g4 := i_le h3
      have b5 := i_bd l1
      exact K (l1) _ hF hV (show zrm (m0 99) (m 99) (m 110) 3100 from by first | (exact rm_end r_RM (by rw [tn_eq]; omega)) | (exfalso; omega; done) | (exfalso; contradiction; done)) r_OWR r_GU r_OW
    · skip
      have g6 := i_nle h3
      have hg7 : (0 ≤ l2 ∧ l2.toNatClampNeg < 3100) := i_ix (by omega) (by omega)
      refine ⟨hg7, ?_⟩
      first | have f8 : 0 ≤ (m 99 l2.toNatClampNeg).toInt ∧ (m 99 l2.toNatClampNeg).toInt ≤ 1 := ra_99 (m := m) hV (k := l2.toNatClampNeg) (i_ix (n := 3100) (by omega) (by omega)).2 | have b9 := i_bd (m 99 l2.toNatClampNeg)
      have li10 : (0 : Int32).toInt = 0 := rfl
      refine zd (fun (h11 : (m 99 l2.toNatClampNeg) = (0 : Int32)) => ?_) (fun (h11 : ¬ (m 99 l2.toNatClampNeg) = (0 : Int32)) => ?_)
      · skip
        have g12 := i_eq h11
        have b13 := i_bd l1
        first | have e14 : (l2 + (1 : Int32)).toInt = l2.toInt + (1) := i_addk rfl (by omega) (by omega) | have b15 := i_bd (l2 + (1 : Int32))
        exact IH (3100 - (l2 + (1 : Int32)).toInt).toNat (by omega) _ (l1) ((l2 + (1 : Int32))) rfl hF hV (by omega) r_W r_GU r_OW (show zrm (m0 99) (m 99) (m 110) (l2 + (1 : Int32)).toNatClampNeg from by first | (exact rm_skip r_RM (Or.inl (by assumption)) (tn_succ (by omega) (by omega))) | (exact rm_skip r_RM (Or.inr (by assumption)) (tn_succ (by omega) (by omega))) | (exfalso; omega; done) | (exfalso; contradiction; done)) r_OWR
      · skip
        have g16 := i_ne h11
        have hg17 : (0 ≤ l2 ∧ l2.toNatClampNeg < 3100) := i_ix (by omega) (by omega)
        refine ⟨hg17, ?_⟩
        first | have f18 : 0 ≤ (m 110 l2.toNatClampNeg).toInt ∧ (m 110 l2.toNatClampNeg).toInt ≤ 1 := ra_110 (m := m) hV (k := l2.toNatClampNeg) (i_ix (n := 3100) (by omega) (by omega)).2 | have b19 := i_bd (m 110 l2.toNatClampNeg)
        refine zd (fun (h20 : (m 110 l2.toNatClampNeg) = (0 : Int32)) => ?_) (fun (h20 : ¬ (m 110 l2.toNatClampNeg) = (0 : Int32)) => ?_)
        · skip
          have g21 := i_eq h20
          have hg22 : (0 ≤ l2 ∧ l2.toNatClampNeg < 3100) := i_ix (by omega) (by omega)
          refine ⟨hg22, ?_⟩
          have f23 : 0 ≤ (m 94 10).toInt ∧ (m 94 10).toInt ≤ 6 := rs_94_10 (m := m) hV
          have li24 : (4 : Int32).toInt = 4 := rfl
          refine zd (fun (h25 : (m 94 10) = (4 : Int32)) => ?_) (fun (h25 : ¬ (m 94 10) = (4 : Int32)) => ?_)
          · skip
            have g26 := i_eq h25
            have b27 := i_bd l1
            first | have f28 : 0 ≤ (m 102 l2.toNatClampNeg).toInt ∧ (m 102 l2.toNatClampNeg).toInt ≤ 60 := ra_102 (m := m) hV (k := l2.toNatClampNeg) (i_ix (n := 3100) (by omega) (by omega)).2 | have b29 := i_bd (m 102 l2.toNatClampNeg)
            first | have e30 : ((m 102 l2.toNatClampNeg) + (1 : Int32)).toInt = (m 102 l2.toNatClampNeg).toInt + (1) := i_addk rfl (by omega) (by omega) | have b31 := i_bd ((m 102 l2.toNatClampNeg) + (1 : Int32))
            first | have e32 : (l1 + ((m 102 l2.toNatClampNeg) + (1 : Int32))).toInt = l1.toInt + ((m 102 l2.toNatClampNeg) + (1 : Int32)).toInt := i_add (by omega) (by omega) | have b33 := i_bd (l1 + ((m 102 l2.toNatClampNeg) + (1 : Int32)))
            exact lp_200_50 h0 K (fun _ _ _ z1 z2 z3 y0 y1 y2 y3 y4 y5 => IH _ z1 _ _ _ rfl z2 z3 y0 y1 y2 y3 y4 y5) _ _ ((l1 + ((m 102 l2.toNatClampNeg) + (1 : Int32)))) (l2) ((0 : Int32)) rfl hF hV (by omega) (by omega) (by omega) (by omega) r_W r_GU r_OW r_RM r_OWR (show (m 99) l2.toNatClampNeg ≠ 0 ∧ (m 110) l2.toNatClampNeg = 0 from by first | (exact ⟨by assumption, by assumption⟩) | (exfalso; omega; done) | (exfalso; contradiction; done))
          · skip
            have g34 := i_ne h25
            have hg35 : (0 ≤ l2 ∧ l2.toNatClampNeg < 3100) := i_ix (by omega) (by omega)
            refine ⟨hg35, ?_⟩
            have hg36 : (0 ≤ l2 ∧ l2.toNatClampNeg < 3100) := i_ix (by omega) (by omega)
            refine ⟨hg36, ?_⟩
            first | have f37 : 0 ≤ (m 103 l2.toNatClampNeg).toInt ∧ (m 103 l2.toNatClampNeg).toInt ≤ 4599 := ra_103 (m := m) hV (k := l2.toNatClampNeg) (i_ix (n := 3100) (by omega) (by omega)).2 | have b38 := i_bd (m 103 l2.toNatClampNeg)
            have hg39 : (0 ≤ (m 103 l2.toNatClampNeg) ∧ (m 103 l2.toNatClampNeg).toNatClampNeg < 4600) := i_ix (by omega) (by omega)
            refine ⟨hg39, ?_⟩
            have hg40 : (0 ≤ l2 ∧ l2.toNatClampNeg < 3100) := i_ix (by omega) (by omega)
            refine ⟨hg40, ?_⟩
            have hg41 : (0 ≤ l2 ∧ l2.toNatClampNeg < 3100) := i_ix (by omega) (by omega)
            refine ⟨hg41, ?_⟩
            have hV42 : zV (ma_u m 99 l2.toNatClampNeg (0 : Int32)) := ua_99 hV (by omega) (by omega)
            have li44 : (-1 : Int32).toInt = -1 := rfl
            have hV43 : zV (ma_u (ma_u m 99 l2.toNatClampNeg (0 : Int32)) 111 (m 103 l2.toNatClampNeg).toNatClampNeg (-1 : Int32)) := ua_111 hV42 (by omega) (by omega)
            have hV45 : zV (ma_u (ma_u (ma_u m 99 l2.toNatClampNeg (0 : Int32)) 111 (m 103 l2.toNatClampNeg).toNatClampNeg (-1 : Int32)) 94 44 ((m 94 44) - (1 : Int32))) := uf_94_44 hV43
            have hV46 : zV (ma_u (ma_u (ma_u (ma_u m 99 l2.toNatClampNeg (0 : Int32)) 111 (m 103 l2.toNatClampNeg).toNatClampNeg (-1 : Int32)) 94 44 ((m 94 44) - (1 : Int32))) 94 45 ((m 94 45) - ((m 102 l2.toNatClampNeg) + (1 : Int32)))) := uf_94_45 hV45
            have hV47 : zV (ma_u (ma_u (ma_u (ma_u (ma_u m 99 l2.toNatClampNeg (0 : Int32)) 111 (m 103 l2.toNatClampNeg).toNatClampNeg (-1 : Int32)) 94 44 ((m 94 44) - (1 : Int32))) 94 45 ((m 94 45) - ((m 102 l2.toNatClampNeg) + (1 : Int32)))) 94 49 ((m 94 49) + ((m 102 l2.toNatClampNeg) + (1 : Int32)))) := uf_94_49 hV46
            have b48 := i_bd l1
            first | have f49 : 0 ≤ (m 102 l2.toNatClampNeg).toInt ∧ (m 102 l2.toNatClampNeg).toInt ≤ 60 := ra_102 (m := m) hV (k := l2.toNatClampNeg) (i_ix (n := 3100) (by omega) (by omega)).2 | have b50 := i_bd (m 102 l2.toNatClampNeg)
            first | have e51 : ((m 102 l2.toNatClampNeg) + (1 : Int32)).toInt = (m 102 l2.toNatClampNeg).toInt + (1) := i_addk rfl (by omega) (by omega) | have b52 := i_bd ((m 102 l2.toNatClampNeg) + (1 : Int32))
            first | have e53 : (l1 + ((m 102 l2.toNatClampNeg) + (1 : Int32))).toInt = l1.toInt + ((m 102 l2.toNatClampNeg) + (1 : Int32)).toInt := i_add (by omega) (by omega) | have b54 := i_bd (l1 + ((m 102 l2.toNatClampNeg) + (1 : Int32)))
            first | have e55 : (l2 + (1 : Int32)).toInt = l2.toInt + (1) := i_addk rfl (by omega) (by omega) | have b56 := i_bd (l2 + (1 : Int32))
            exact IH (3100 - (l2 + (1 : Int32)).toInt).toNat (by omega) _ ((l1 + ((m 102 l2.toNatClampNeg) + (1 : Int32)))) ((l2 + (1 : Int32))) rfl (zF_u (zF_u (zF_u (zF_u (zF_u hF rfl) rfl) rfl) rfl) rfl) hV47 (by omega) r_W (show zGU T (m 94 46) ((ma_u m 99 l2.toNatClampNeg (0 : Int32)) 99) from by first | (exact GU_0 r_GU) | (exfalso; omega; done) | (exfalso; contradiction; done)) (show zOw ((ma_u m 99 l2.toNatClampNeg (0 : Int32)) 99) (m 103) ((ma_u m 111 (m 103 l2.toNatClampNeg).toNatClampNeg (-1 : Int32)) 111) from by first | (exact Ow_rm r_OW (by decide) (tn_cast (by omega)).symm) | (exfalso; omega; done) | (exfalso; contradiction; done)) (show zrm (m0 99) ((ma_u m 99 l2.toNatClampNeg (0 : Int32)) 99) (m 110) (l2 + (1 : Int32)).toNatClampNeg from by first | (exact rm_put r_RM (by assumption) (tn_succ (by omega) (by omega))) | (exfalso; omega; done) | (exfalso; contradiction; done)) (show zowr (m0 111) ((ma_u m 111 (m 103 l2.toNatClampNeg).toNatClampNeg (-1 : Int32)) 111) (m0 99) (m 110) (m 103) from by first | (exact owr_put r_OWR (s := l2.toNatClampNeg) (by omega) (rm_us r_RM (by omega) (by assumption)) (by assumption) (by decide) (tn_cast (by omega)).symm) | (exfalso; omega; done) | (exfalso; contradiction; done))
        · skip
          have g57 := i_ne h20
          have b58 := i_bd l1
          first | have e59 : (l2 + (1 : Int32)).toInt = l2.toInt + (1) := i_addk rfl (by omega) (by omega) | have b60 := i_bd (l2 + (1 : Int32))
          exact IH (3100 - (l2 + (1 : Int32)).toInt).toNat (by omega) _ (l1) ((l2 + (1 : Int32))) rfl hF hV (by omega) r_W r_GU r_OW (show zrm (m0 99) (m 99) (m 110) (l2 + (1 : Int32)).toNatClampNeg from by first | (exact rm_skip r_RM (Or.inl (by assumption)) (tn_succ (by omega) (by omega))) | (exact rm_skip r_RM (Or.inr (by assumption)) (tn_succ (by omega) (by omega))) | (exfalso; omega; done) | (exfalso; contradiction; done)) r_OWR
theorem sp_200 {X : Nat × (Nat → Int32)} {P : Option ma_V → (Nat → Nat → Int32) → Prop} {T : Nat} {m : Nat → Nat → Int32}  (hV : zV m) (r_W : zW (m 94 7) (m 98) (m 101) (m 102) (m 108)) (r_GU : zGU T (m 94 46) (m 99)) (r_OW : zOw (m 99) (m 103) (m 111)) (KZ : ∀ v m₉, zV (zov wr_200 m m₉) → (zrm (m 99) (m₉ 99) (m 110) 3100) → (zowr (m 111) (m₉ 111) (m 99) (m 110) (m 103)) → (zGU T (m 94 46) (m₉ 99)) → (zOw (m₉ 99) (m 103) (m₉ 111)) → P (some (.inl v)) (zov wr_200 m m₉)) : zm X 2 44 200 0 [(0, .inr (.inr (some 94)))] m P := by
  have K : ∀ v m₉, zF wr_200 m m₉ → zV m₉ → (zrm (m 99) (m₉ 99) (m₉ 110) 3100) → (zowr (m 111) (m₉ 111) (m 99) (m₉ 110) (m₉ 103)) → (zGU T (m₉ 94 46) (m₉ 99)) → (zOw (m₉ 99) (m₉ 103) (m₉ 111)) → P (some (.inl v)) m₉ := by
    intro v m₉ hf z q0 q1 q2 q3
    have e := zov_eq hf
    rw [e] at z ⊢
    try rw [e] at q0
    try rw [e] at q1
    try rw [e] at q2
    try rw [e] at q3
    exact KZ v m₉ z q0 q1 q2 q3
  refine g_200_0  ?_
  have li1 : (0 : Int32).toInt = 0 := rfl
  exact lp_200_4 hV K _ _ ((0 : Int32)) ((0 : Int32)) rfl zF_rfl hV (by omega) r_W r_GU r_OW (show zrm (m 99) (m 99) (m 110) (0 : Int32).toNatClampNeg from by first | (exact rm_0) | (exfalso; omega; done) | (exfalso; contradiction; done)) (show zowr (m 111) (m 111) (m 99) (m 110) (m 103) from by first | (exact owr_rfl) | (exfalso; omega; done) | (exfalso; contradiction; done))

