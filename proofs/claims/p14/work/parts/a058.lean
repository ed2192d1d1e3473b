/-! from 94.476 -/
/-! the reference (written by wip/tools/gen94m.py) -/
set_option maxRecDepth 100000 in
theorem hm_215 : ma_md 215 = some (12, yX12_isOldFull, cX12_isOldFull, 3, (some (FieldType.boolean))) := rfl
theorem f_12_213_12 : ma_fld 12 213 12 = some 15 := by decide +kernel
theorem dX12_isOldFull_0 : decode cX12_isOldFull 0 = .ok (.iconst 0, 1) := by decide +kernel
theorem dX12_isOldFull_1 : decode cX12_isOldFull 1 = .ok (.istore_n 1, 1) := by decide +kernel
theorem dX12_isOldFull_2 : decode cX12_isOldFull 2 = .ok (.iconst 0, 1) := by decide +kernel
theorem dX12_isOldFull_3 : decode cX12_isOldFull 3 = .ok (.istore_n 2, 1) := by decide +kernel
theorem dX12_isOldFull_4 : decode cX12_isOldFull 4 = .ok (.iload_n 2, 1) := by decide +kernel
theorem dX12_isOldFull_5 : decode cX12_isOldFull 5 = .ok (.sipush 3100, 3) := by decide +kernel
theorem dX12_isOldFull_57 : decode cX12_isOldFull 57 = .ok (.aload_n 0, 1) := by decide +kernel
theorem dX12_isOldFull_61 : decode cX12_isOldFull 61 = .ok (.aload_n 0, 1) := by decide +kernel
theorem dX12_isOldFull_65 : decode cX12_isOldFull 65 = .ok (.isub, 1) := by decide +kernel
theorem dX12_isOldFull_66 : decode cX12_isOldFull 66 = .ok (.iload_n 1, 1) := by decide +kernel
theorem dX12_isOldFull_74 : decode cX12_isOldFull 74 = .ok (.iconst 0, 1) := by decide +kernel
theorem dX12_isOldFull_75 : decode cX12_isOldFull 75 = .ok (.ireturn, 1) := by decide +kernel
theorem dX12_isOldFull_70 : decode cX12_isOldFull 70 = .ok (.iconst 1, 1) := by decide +kernel
theorem dX12_isOldFull_71 : decode cX12_isOldFull 71 = .ok (.goto 4, 3) := by decide +kernel
theorem dX12_isOldFull_67 : decode cX12_isOldFull 67 = .ok (.if_icmp .ge 7, 3) := by decide +kernel
theorem dX12_isOldFull_62 : decode cX12_isOldFull 62 = .ok (.getfield 279, 3) := by decide +kernel
theorem dX12_isOldFull_58 : decode cX12_isOldFull 58 = .ok (.getfield 210, 3) := by decide +kernel
theorem dX12_isOldFull_11 : decode cX12_isOldFull 11 = .ok (.aload_n 0, 1) := by decide +kernel
theorem dX12_isOldFull_15 : decode cX12_isOldFull 15 = .ok (.iload_n 2, 1) := by decide +kernel
theorem dX12_isOldFull_51 : decode cX12_isOldFull 51 = .ok (.iinc 2 1, 3) := by decide +kernel
theorem dX12_isOldFull_54 : decode cX12_isOldFull 54 = .ok (.goto (-50), 3) := by decide +kernel
theorem dX12_isOldFull_20 : decode cX12_isOldFull 20 = .ok (.aload_n 0, 1) := by decide +kernel
theorem dX12_isOldFull_21 : decode cX12_isOldFull 21 = .ok (.iload_n 2, 1) := by decide +kernel
theorem dX12_isOldFull_22 : decode cX12_isOldFull 22 = .ok (.invokevirtual 314, 3) := by decide +kernel
theorem dX12_isOldFull_25 : decode cX12_isOldFull 25 = .ok (.ifCond .ne 26, 3) := by decide +kernel
theorem dX12_isOldFull_28 : decode cX12_isOldFull 28 = .ok (.aload_n 0, 1) := by decide +kernel
theorem dX12_isOldFull_32 : decode cX12_isOldFull 32 = .ok (.iload_n 2, 1) := by decide +kernel
theorem dX12_isOldFull_34 : decode cX12_isOldFull 34 = .ok (.iconst 1, 1) := by decide +kernel
theorem dX12_isOldFull_35 : decode cX12_isOldFull 35 = .ok (.iadd, 1) := by decide +kernel
theorem dX12_isOldFull_36 : decode cX12_isOldFull 36 = .ok (.aload_n 0, 1) := by decide +kernel
theorem dX12_isOldFull_43 : decode cX12_isOldFull 43 = .ok (.iload_n 1, 1) := by decide +kernel
theorem dX12_isOldFull_44 : decode cX12_isOldFull 44 = .ok (.aload_n 0, 1) := by decide +kernel
theorem dX12_isOldFull_45 : decode cX12_isOldFull 45 = .ok (.iload_n 2, 1) := by decide +kernel
theorem dX12_isOldFull_46 : decode cX12_isOldFull 46 = .ok (.invokevirtual 327, 3) := by decide +kernel
theorem dX12_isOldFull_49 : decode cX12_isOldFull 49 = .ok (.iadd, 1) := by decide +kernel
theorem dX12_isOldFull_50 : decode cX12_isOldFull 50 = .ok (.istore_n 1, 1) := by decide +kernel
theorem dX12_isOldFull_40 : decode cX12_isOldFull 40 = .ok (.if_icmp .ne 11, 3) := by decide +kernel
theorem dX12_isOldFull_37 : decode cX12_isOldFull 37 = .ok (.getfield 213, 3) := by decide +kernel
theorem dX12_isOldFull_33 : decode cX12_isOldFull 33 = .ok (.iaload, 1) := by decide +kernel
theorem dX12_isOldFull_29 : decode cX12_isOldFull 29 = .ok (.getfield 43, 3) := by decide +kernel
theorem dX12_isOldFull_17 : decode cX12_isOldFull 17 = .ok (.ifCond .eq 34, 3) := by decide +kernel
theorem dX12_isOldFull_16 : decode cX12_isOldFull 16 = .ok (.baload, 1) := by decide +kernel
theorem dX12_isOldFull_12 : decode cX12_isOldFull 12 = .ok (.getfield 27, 3) := by decide +kernel
theorem dX12_isOldFull_8 : decode cX12_isOldFull 8 = .ok (.if_icmp .ge 49, 3) := by decide +kernel
def wr_215 (_ _ : Nat) : Bool := false
theorem g_215_0 {X : Nat × (Nat → Int32)} {m : Nat → Nat → Int32} {P : Option ma_V → (Nat → Nat → Int32) → Prop}  (h : zm X 1 21 215 4 [(0, .inr (.inr (some 94))), (1, .inl (0 : Int32)), (2, .inl (0 : Int32))] m P) : zm X 1 21 215 0 [(0, .inr (.inr (some 94)))] m P := by
  intro d w S Q hd hw hS hm HQ
  subst hm
  refine zw_push hm_215 dX12_isOldFull_0 (v := .inl (0 : Int32)) rfl ?_
  refine zw_sto hm_215 dX12_isOldFull_1 [(1, .inl (0 : Int32)), (0, .inr (.inr (some 94)))] rfl rfl rfl ?_
  refine zw_push hm_215 dX12_isOldFull_2 (v := .inl (0 : Int32)) rfl ?_
  refine zw_sto hm_215 dX12_isOldFull_3 [(2, .inl (0 : Int32)), (1, .inl (0 : Int32)), (0, .inr (.inr (some 94)))] rfl rfl rfl ?_
  exact zw_sub (ma_nd_of (ks := [0, 1, 2]) rfl (by decide)) (ma_nd_of (ks := [2, 1, 0]) rfl (by decide)) (ma_le_cons rfl (ma_le_cons rfl (ma_le_cons rfl (ma_le_nil _)))) (h d w _ Q (by omega) (by omega) hS rfl HQ)
theorem g_215_4 {X : Nat × (Nat → Int32)} {m : Nat → Nat → Int32} {P : Option ma_V → (Nat → Nat → Int32) → Prop} (l1 : Int32) (l2 : Int32) (h : if (3100 : Int32) ≤ l2 then (if l1 ≤ ((m 94 14) - (m 94 60)) then (P (some (.inl (0 : Int32))) m) else (P (some (.inl (1 : Int32))) m)) else ((0 ≤ l2 ∧ l2.toNatClampNeg < 3100) ∧ (if (m 99 l2.toNatClampNeg) = 0 then (zm X 1 21 215 4 [(0, .inr (.inr (some 94))), (1, .inl l1), (2, .inl (l2 + (1 : Int32)))] m P) else ((0 ≤ l2 ∧ l2.toNatClampNeg < 3100) ∧ (if (m 94 14) ≤ (m 103 l2.toNatClampNeg) then ((0 ≤ l2 ∧ l2.toNatClampNeg < 3100) ∧ (if ((m 104 l2.toNatClampNeg) + (1 : Int32)) = (m 94 15) then ((0 ≤ l2 ∧ l2.toNatClampNeg < 3100) ∧ (zm X 1 21 215 4 [(0, .inr (.inr (some 94))), (1, .inl (l1 + ((m 102 l2.toNatClampNeg) + (1 : Int32)))), (2, .inl (l2 + (1 : Int32)))] m P)) else (zm X 1 21 215 4 [(0, .inr (.inr (some 94))), (1, .inl l1), (2, .inl (l2 + (1 : Int32)))] m P))) else (zm X 1 21 215 4 [(0, .inr (.inr (some 94))), (1, .inl l1), (2, .inl (l2 + (1 : Int32)))] m P)))))) : zm X 1 21 215 4 [(0, .inr (.inr (some 94))), (1, .inl l1), (2, .inl l2)] m P := by
  intro d w S Q hd hw hS hm HQ
  subst hm
  refine zw_push hm_215 dX12_isOldFull_4 (v := .inl l2) rfl ?_
  refine zw_push hm_215 dX12_isOldFull_5 (v := .inl (3100 : Int32)) rfl ?_
  refine zw_if2 hm_215 dX12_isOldFull_8 (t := 57) rfl zc2_ge ?_ ?_
  · intro hc
    rw [if_pos hc] at h
    refine zw_push hm_215 dX12_isOldFull_57 (v := .inr (.inr (some 94))) rfl ?_
    refine zw_gf hm_215 dX12_isOldFull_58 (v := .inl ((mI S) 94 14)) (zT_is hS s_94) (zT_t hS s_94) rfl f_12_210_12 rfl ?_
    refine zw_push hm_215 dX12_isOldFull_61 (v := .inr (.inr (some 94))) rfl ?_
    refine zw_gf hm_215 dX12_isOldFull_62 (v := .inl ((mI S) 94 60)) (zT_is hS s_94) (zT_t hS s_94) rfl f_12_279_12 rfl ?_
    refine zw_stk hm_215 dX12_isOldFull_65 (st₉ := [.inl (((mI S) 94 14) - ((mI S) 94 60))]) rfl rfl ?_
    refine zw_push hm_215 dX12_isOldFull_66 (v := .inl l1) rfl ?_
    refine zw_if2 hm_215 dX12_isOldFull_67 (t := 74) rfl zc2_ge ?_ ?_
    · intro hc
      rw [if_pos hc] at h
      refine zw_push hm_215 dX12_isOldFull_74 (v := .inl (0 : Int32)) rfl ?_
      exact zw_bret hm_215 dX12_isOldFull_75 (by decide) (HQ _ _ h)
    · intro hc
      rw [if_neg hc] at h
      refine zw_push hm_215 dX12_isOldFull_70 (v := .inl (1 : Int32)) rfl ?_
      refine zw_goto hm_215 dX12_isOldFull_71 (t := 75) rfl ?_
      exact zw_bret hm_215 dX12_isOldFull_75 (by decide) (HQ _ _ h)
  · intro hc
    rw [if_neg hc] at h
    refine zw_push hm_215 dX12_isOldFull_11 (v := .inr (.inr (some 94))) rfl ?_
    refine zw_gf hm_215 dX12_isOldFull_12 (v := .inr (.inr (some 99))) (zT_is hS s_94) (zT_t hS s_94) rfl f_12_27_12 (zT_f hS r_94_31) ?_
    refine zw_push hm_215 dX12_isOldFull_15 (v := .inl l2) rfl ?_
    obtain ⟨hg, h⟩ := h
    refine zw_ba hm_215 dX12_isOldFull_16 (zT_is hS s_99) (zT_h hS s_99) rfl rfl hg ?_
    show ma_wp X d w 215 17 [(0, .inr (.inr (some 94))), (1, .inl l1), (2, .inl l2)] [.inl ((mI S) 99 l2.toNatClampNeg)] S _
    refine zw_if0 hm_215 dX12_isOldFull_17 (t := 51) rfl zc0_eq ?_ ?_
    · intro hc
      rw [if_pos hc] at h
      refine zw_sto hm_215 dX12_isOldFull_51 [(2, .inl (l2 + (1 : Int32))), (0, .inr (.inr (some 94))), (1, .inl l1)] rfl rfl rfl ?_
      refine zw_goto hm_215 dX12_isOldFull_54 (t := 4) rfl ?_
      exact zw_sub (ma_nd_of (ks := [0, 1, 2]) rfl (by decide)) (ma_nd_of (ks := [2, 0, 1]) rfl (by decide)) (ma_le_cons rfl (ma_le_cons rfl (ma_le_cons rfl (ma_le_nil _)))) (h d w _ Q (by omega) (by omega) hS rfl HQ)
    · intro hc
      rw [if_neg hc] at h
      refine zw_push hm_215 dX12_isOldFull_20 (v := .inr (.inr (some 94))) rfl ?_
      refine zw_push hm_215 dX12_isOldFull_21 (v := .inl l2) rfl ?_
      refine zw_cv hm_215 dX12_isOldFull_22 v_12_314_12 hm_196 [.inl l2] [] rfl (zT_rt hS s_94 rfl) ⟨by omega, by omega⟩ rfl ?_
      show ma_wp X (d - 1) (w - 21) 196 0 [(0, .inr (.inr (some 94))), (1, .inl l2)] [] S _
      refine zw_push hm_196 dX12_isOld_0 (v := .inr (.inr (some 94))) rfl ?_
      refine zw_gf hm_196 dX12_isOld_1 (v := .inr (.inr (some 103))) (zT_is hS s_94) (zT_t hS s_94) rfl f_12_40_12 (zT_f hS r_94_35) ?_
      refine zw_push hm_196 dX12_isOld_4 (v := .inl l2) rfl ?_
      obtain ⟨hg, h⟩ := h
      refine zw_ia hm_196 dX12_isOld_5 (zT_is hS s_103) (zT_h hS s_103) rfl hg ?_
      show ma_wp X (d - 1) (w - 21) 196 6 [(0, .inr (.inr (some 94))), (1, .inl l2)] [.inl ((mI S) 103 l2.toNatClampNeg)] S _
      refine zw_push hm_196 dX12_isOld_6 (v := .inr (.inr (some 94))) rfl ?_
      refine zw_gf hm_196 dX12_isOld_7 (v := .inl ((mI S) 94 14)) (zT_is hS s_94) (zT_t hS s_94) rfl f_12_210_12 rfl ?_
      refine zw_if2 hm_196 dX12_isOld_10 (t := 17) rfl zc2_ge ?_ ?_
      · intro hc
        rw [if_pos hc] at h
        refine zw_push hm_196 dX12_isOld_17 (v := .inl (0 : Int32)) rfl ?_
        refine zw_bret hm_196 dX12_isOld_18 (by decide) ?_
        show ma_wp X d w 215 25 [(0, .inr (.inr (some 94))), (1, .inl l1), (2, .inl l2)] [.inl (0 : Int32)] S _
        refine zw_if0 hm_215 dX12_isOldFull_25 (t := 51) rfl zc0_ne (fun hc => absurd hc (by decide)) (fun _ => ?_)
        refine zw_push hm_215 dX12_isOldFull_28 (v := .inr (.inr (some 94))) rfl ?_
        refine zw_gf hm_215 dX12_isOldFull_29 (v := .inr (.inr (some 104))) (zT_is hS s_94) (zT_t hS s_94) rfl f_12_43_12 (zT_f hS r_94_36) ?_
        refine zw_push hm_215 dX12_isOldFull_32 (v := .inl l2) rfl ?_
        obtain ⟨hg, h⟩ := h
        refine zw_ia hm_215 dX12_isOldFull_33 (zT_is hS s_104) (zT_h hS s_104) rfl hg ?_
        show ma_wp X d w 215 34 [(0, .inr (.inr (some 94))), (1, .inl l1), (2, .inl l2)] [.inl ((mI S) 104 l2.toNatClampNeg)] S _
        refine zw_push hm_215 dX12_isOldFull_34 (v := .inl (1 : Int32)) rfl ?_
        refine zw_stk hm_215 dX12_isOldFull_35 (st₉ := [.inl (((mI S) 104 l2.toNatClampNeg) + (1 : Int32))]) rfl rfl ?_
        refine zw_push hm_215 dX12_isOldFull_36 (v := .inr (.inr (some 94))) rfl ?_
        refine zw_gf hm_215 dX12_isOldFull_37 (v := .inl ((mI S) 94 15)) (zT_is hS s_94) (zT_t hS s_94) rfl f_12_213_12 rfl ?_
        refine zw_if2 hm_215 dX12_isOldFull_40 (t := 51) rfl zc2_ne ?_ ?_
        · intro hc
          rw [if_neg hc] at h
          refine zw_sto hm_215 dX12_isOldFull_51 [(2, .inl (l2 + (1 : Int32))), (0, .inr (.inr (some 94))), (1, .inl l1)] rfl rfl rfl ?_
          refine zw_goto hm_215 dX12_isOldFull_54 (t := 4) rfl ?_
          exact zw_sub (ma_nd_of (ks := [0, 1, 2]) rfl (by decide)) (ma_nd_of (ks := [2, 0, 1]) rfl (by decide)) (ma_le_cons rfl (ma_le_cons rfl (ma_le_cons rfl (ma_le_nil _)))) (h d w _ Q (by omega) (by omega) hS rfl HQ)
        · intro hc
          rw [if_pos (Classical.not_not.mp hc)] at h
          refine zw_push hm_215 dX12_isOldFull_43 (v := .inl l1) rfl ?_
          refine zw_push hm_215 dX12_isOldFull_44 (v := .inr (.inr (some 94))) rfl ?_
          refine zw_push hm_215 dX12_isOldFull_45 (v := .inl l2) rfl ?_
          refine zw_cv hm_215 dX12_isOldFull_46 v_12_327_12 hm_201 [.inl l2] [.inl l1] rfl (zT_rt hS s_94 rfl) ⟨by omega, by omega⟩ rfl ?_
          show ma_wp X (d - 1) (w - 21) 201 0 [(0, .inr (.inr (some 94))), (1, .inl l2)] [] S _
          refine zw_push hm_201 dX12_sizeOf_0 (v := .inr (.inr (some 94))) rfl ?_
          refine zw_gf hm_201 dX12_sizeOf_1 (v := .inr (.inr (some 102))) (zT_is hS s_94) (zT_t hS s_94) rfl f_12_37_12 (zT_f hS r_94_34) ?_
          refine zw_push hm_201 dX12_sizeOf_4 (v := .inl l2) rfl ?_
          obtain ⟨hg, h⟩ := h
          refine zw_ia hm_201 dX12_sizeOf_5 (zT_is hS s_102) (zT_h hS s_102) rfl hg ?_
          show ma_wp X (d - 1) (w - 21) 201 6 [(0, .inr (.inr (some 94))), (1, .inl l2)] [.inl ((mI S) 102 l2.toNatClampNeg)] S _
          refine zw_push hm_201 dX12_sizeOf_6 (v := .inl (1 : Int32)) rfl ?_
          refine zw_stk hm_201 dX12_sizeOf_7 (st₉ := [.inl (((mI S) 102 l2.toNatClampNeg) + (1 : Int32))]) rfl rfl ?_
          refine zw_iret hm_201 dX12_sizeOf_8 ?_
          show ma_wp X d w 215 49 [(0, .inr (.inr (some 94))), (1, .inl l1), (2, .inl l2)] [.inl (((mI S) 102 l2.toNatClampNeg) + (1 : Int32)), .inl l1] S _
          refine zw_stk hm_215 dX12_isOldFull_49 (st₉ := [.inl (l1 + (((mI S) 102 l2.toNatClampNeg) + (1 : Int32)))]) rfl rfl ?_
          refine zw_sto hm_215 dX12_isOldFull_50 [(1, .inl (l1 + (((mI S) 102 l2.toNatClampNeg) + (1 : Int32)))), (0, .inr (.inr (some 94))), (2, .inl l2)] rfl rfl rfl ?_
          refine zw_sto hm_215 dX12_isOldFull_51 [(2, .inl (l2 + (1 : Int32))), (1, .inl (l1 + (((mI S) 102 l2.toNatClampNeg) + (1 : Int32)))), (0, .inr (.inr (some 94)))] rfl rfl rfl ?_
          refine zw_goto hm_215 dX12_isOldFull_54 (t := 4) rfl ?_
          exact zw_sub (ma_nd_of (ks := [0, 1, 2]) rfl (by decide)) (ma_nd_of (ks := [2, 1, 0]) rfl (by decide)) (ma_le_cons rfl (ma_le_cons rfl (ma_le_cons rfl (ma_le_nil _)))) (h d w _ Q (by omega) (by omega) hS rfl HQ)
      · intro hc
        rw [if_neg hc] at h
        refine zw_push hm_196 dX12_isOld_13 (v := .inl (1 : Int32)) rfl ?_
        refine zw_goto hm_196 dX12_isOld_14 (t := 18) rfl ?_
        refine zw_bret hm_196 dX12_isOld_18 (by decide) ?_
        show ma_wp X d w 215 25 [(0, .inr (.inr (some 94))), (1, .inl l1), (2, .inl l2)] [.inl (1 : Int32)] S _
        refine zw_if0 hm_215 dX12_isOldFull_25 (t := 51) rfl zc0_ne (fun _ => ?_) (fun hc => absurd (by decide) hc)
        refine zw_sto hm_215 dX12_isOldFull_51 [(2, .inl (l2 + (1 : Int32))), (0, .inr (.inr (some 94))), (1, .inl l1)] rfl rfl rfl ?_
        refine zw_goto hm_215 dX12_isOldFull_54 (t := 4) rfl ?_
        exact zw_sub (ma_nd_of (ks := [0, 1, 2]) rfl (by decide)) (ma_nd_of (ks := [2, 0, 1]) rfl (by decide)) (ma_le_cons rfl (ma_le_cons rfl (ma_le_cons rfl (ma_le_nil _)))) (h d w _ Q (by omega) (by omega) hS rfl HQ)
theorem lp_215_4 {X : Nat × (Nat → Int32)} {P : Option ma_V → (Nat → Nat → Int32) → Prop} {m0 : Nat → Nat → Int32} (h0 : zV m0) (K : ∀ v m₉, zF wr_215 m0 m₉ → zV m₉ → (v = 0 ∨ v = 1) → (v.toInt = 1 ∨ (m₉ 94 60).toInt + sm (zbG (m₉ 99) (m₉ 103) (m₉ 94 14) (m₉ 104) (m₉ 94 15)) (m₉ 102) 3100 ≤ (m₉ 94 14).toInt) → P (some (.inl v)) m₉) : ∀ (n : Nat) (m : Nat → Nat → Int32) (l1 : Int32) (l2 : Int32), (3100 - l2.toInt).toNat = n → zF wr_215 m0 m → zV m → (0 ≤ l2.toInt) → (l2.toInt ≤ 3100) → (0 ≤ l1.toInt) → (l1.toInt ≤ 61 * l2.toInt) → (l1.toInt = sm (zbG (m 99) (m 103) (m 94 14) (m 104) (m 94 15)) (m 102) l2.toNatClampNeg) → zm X 1 21 215 4 [(0, .inr (.inr (some 94))), (1, .inl l1), (2, .inl l2)] m P := by
  intro n
  induction n using Nat.strongRecOn with
  | _ n IH =>
    intro m l1 l2 hmu hF hV hi0 hi1 hi2 hi3 r_SG
    refine g_215_4 l1 l2 ?_
    have li1 : (3100 : Int32).toInt = 3100 := rfl
    have b2 := i_bd l2
    refine zd (fun (h3 : (3100 : Int32) ≤ l2) => ?_) (fun (h3 : ¬ (3100 : Int32) ≤ l2) => ?_)
    · skip
      have g4 := i_le h3
      have b5 := i_bd l1
      have f6 : 0 ≤ (m 94 14).toInt ∧ (m 94 14).toInt ≤ 1500 := rs_94_14 (m := m) hV
      have f7 : 0 ≤ (m 94 60).toInt ∧ (m 94 60).toInt ≤ 1600 := rs_94_60 (m := m) hV
      first | have e8 : ((m 94 14) - (m 94 60)).toInt = (m 94 14).toInt - (m 94 60).toInt := i_sub (by omega) (by omega) | have b9 := i_bd ((m 94 14) - (m 94 60))
      refine zd (fun (h10 : l1 ≤ ((m 94 14) - (m 94 60))) => ?_) (fun (h10 : ¬ l1 ≤ ((m 94 14) - (m 94 60))) => ?_)
      · skip
        have g11 := i_le h10
        have li12 : (0 : Int32).toInt = 0 := rfl
        exact K ((0 : Int32)) _ hF hV (by decide) (show (0 : Int32).toInt = 1 ∨ (m 94 60).toInt + sm (zbG (m 99) (m 103) (m 94 14) (m 104) (m 94 15)) (m 102) 3100 ≤ (m 94 14).toInt from by first | (exact Or.inl (by decide)) | (exact Or.inr (by have z := sm_full r_SG (by omega); omega)) | (exfalso; omega; done) | (exfalso; contradiction; done))
      · skip
        have g13 := i_nle h10
        have li14 : (1 : Int32).toInt = 1 := rfl
        exact K ((1 : Int32)) _ hF hV (by decide) (show (1 : Int32).toInt = 1 ∨ (m 94 60).toInt + sm (zbG (m 99) (m 103) (m 94 14) (m 104) (m 94 15)) (m 102) 3100 ≤ (m 94 14).toInt from by first | (exact Or.inl (by decide)) | (exact Or.inr (by have z := sm_full r_SG (by omega); omega)) | (exfalso; omega; done) | (exfalso; contradiction; done))
    · skip
      have g15 := i_nle h3
      have hg16 : (0 ≤ l2 ∧ l2.toNatClampNeg < 3100) := i_ix (by omega) (by omega)
      refine ⟨hg16, ?_⟩
      first | have f17 : 0 ≤ (m 99 l2.toNatClampNeg).toInt ∧ (m 99 l2.toNatClampNeg).toInt ≤ 1 := ra_99 (m := m) hV (k := l2.toNatClampNeg) (i_ix (n := 3100) (by omega) (by omega)).2 | have b18 := i_bd (m 99 l2.toNatClampNeg)
      have li19 : (0 : Int32).toInt = 0 := rfl
      refine zd (fun (h20 : (m 99 l2.toNatClampNeg) = (0 : Int32)) => ?_) (fun (h20 : ¬ (m 99 l2.toNatClampNeg) = (0 : Int32)) => ?_)
      · skip
        have g21 := i_eq h20
        have b22 := i_bd l1
        first | have e23 : (l2 + (1 : Int32)).toInt = l2.toInt + (1) := i_addk rfl (by omega) (by omega) | have b24 := i_bd (l2 + (1 : Int32))
        exact IH (3100 - (l2 + (1 : Int32)).toInt).toNat (by omega) _ (l1) ((l2 + (1 : Int32))) rfl hF hV (by omega) (by omega) (by omega) (by omega) (show l1.toInt = sm (zbG (m 99) (m 103) (m 94 14) (m 104) (m 94 15)) (m 102) (l2 + (1 : Int32)).toNatClampNeg from by first | (exact sm_add r_SG (decide_eq_true ⟨by assumption, by omega, by assumption⟩) (tn_succ (by omega) (by omega)) (by omega)) | (exact sm_skip r_SG (decide_eq_false (fun z => by obtain ⟨z1, z2, z3⟩ := z; first | exact z1 (by assumption) | (exfalso; omega) | exact absurd z3 (by assumption))) (tn_succ (by omega) (by omega))) | (exact rfl) | (exfalso; omega; done) | (exfalso; contradiction; done))
      · skip
        have g25 := i_ne h20
        have hg26 : (0 ≤ l2 ∧ l2.toNatClampNeg < 3100) := i_ix (by omega) (by omega)
        refine ⟨hg26, ?_⟩
        have f27 : 0 ≤ (m 94 14).toInt ∧ (m 94 14).toInt ≤ 1500 := rs_94_14 (m := m) hV
        first | have f28 : 0 ≤ (m 103 l2.toNatClampNeg).toInt ∧ (m 103 l2.toNatClampNeg).toInt ≤ 4599 := ra_103 (m := m) hV (k := l2.toNatClampNeg) (i_ix (n := 3100) (by omega) (by omega)).2 | have b29 := i_bd (m 103 l2.toNatClampNeg)
        refine zd (fun (h30 : (m 94 14) ≤ (m 103 l2.toNatClampNeg)) => ?_) (fun (h30 : ¬ (m 94 14) ≤ (m 103 l2.toNatClampNeg)) => ?_)
        · skip
          have g31 := i_le h30
          have hg32 : (0 ≤ l2 ∧ l2.toNatClampNeg < 3100) := i_ix (by omega) (by omega)
          refine ⟨hg32, ?_⟩
          have b33 := i_bd (m 104 l2.toNatClampNeg)
          first | have e34 : ((m 104 l2.toNatClampNeg) + (1 : Int32)).toInt = (m 104 l2.toNatClampNeg).toInt + (1) := i_addk rfl (by omega) (by omega) | have b35 := i_bd ((m 104 l2.toNatClampNeg) + (1 : Int32))
          have b36 := i_bd (m 94 15)
          refine zd (fun (h37 : ((m 104 l2.toNatClampNeg) + (1 : Int32)) = (m 94 15)) => ?_) (fun (h37 : ¬ ((m 104 l2.toNatClampNeg) + (1 : Int32)) = (m 94 15)) => ?_)
          · skip
            have g38 := i_eq h37
            have hg39 : (0 ≤ l2 ∧ l2.toNatClampNeg < 3100) := i_ix (by omega) (by omega)
            refine ⟨hg39, ?_⟩
            have b40 := i_bd l1
            first | have f41 : 0 ≤ (m 102 l2.toNatClampNeg).toInt ∧ (m 102 l2.toNatClampNeg).toInt ≤ 60 := ra_102 (m := m) hV (k := l2.toNatClampNeg) (i_ix (n := 3100) (by omega) (by omega)).2 | have b42 := i_bd (m 102 l2.toNatClampNeg)
            first | have e43 : ((m 102 l2.toNatClampNeg) + (1 : Int32)).toInt = (m 102 l2.toNatClampNeg).toInt + (1) := i_addk rfl (by omega) (by omega) | have b44 := i_bd ((m 102 l2.toNatClampNeg) + (1 : Int32))
            first | have e45 : (l1 + ((m 102 l2.toNatClampNeg) + (1 : Int32))).toInt = l1.toInt + ((m 102 l2.toNatClampNeg) + (1 : Int32)).toInt := i_add (by omega) (by omega) | have b46 := i_bd (l1 + ((m 102 l2.toNatClampNeg) + (1 : Int32)))
            first | have e47 : (l2 + (1 : Int32)).toInt = l2.toInt + (1) := i_addk rfl (by omega) (by omega) | have b48 := i_bd (l2 + (1 : Int32))
            exact IH (3100 - (l2 + (1 : Int32)).toInt).toNat (by omega) _ ((l1 + ((m 102 l2.toNatClampNeg) + (1 : Int32)))) ((l2 + (1 : Int32))) rfl hF hV (by omega) (by omega) (by omega) (by omega) (show (l1 + ((m 102 l2.toNatClampNeg) + (1 : Int32))).toInt = sm (zbG (m 99) (m 103) (m 94 14) (m 104) (m 94 15)) (m 102) (l2 + (1 : Int32)).toNatClampNeg from by first | (exact sm_add r_SG (decide_eq_true ⟨by assumption, by omega, by assumption⟩) (tn_succ (by omega) (by omega)) (by omega)) | (exact sm_skip r_SG (decide_eq_false (fun z => by obtain ⟨z1, z2, z3⟩ := z; first | exact z1 (by assumption) | (exfalso; omega) | exact absurd z3 (by assumption))) (tn_succ (by omega) (by omega))) | (exact rfl) | (exfalso; omega; done) | (exfalso; contradiction; done))
          · skip
            have g49 := i_ne h37
            have b50 := i_bd l1
            first | have e51 : (l2 + (1 : Int32)).toInt = l2.toInt + (1) := i_addk rfl (by omega) (by omega) | have b52 := i_bd (l2 + (1 : Int32))
            exact IH (3100 - (l2 + (1 : Int32)).toInt).toNat (by omega) _ (l1) ((l2 + (1 : Int32))) rfl hF hV (by omega) (by omega) (by omega) (by omega) (show l1.toInt = sm (zbG (m 99) (m 103) (m 94 14) (m 104) (m 94 15)) (m 102) (l2 + (1 : Int32)).toNatClampNeg from by first | (exact sm_add r_SG (decide_eq_true ⟨by assumption, by omega, by assumption⟩) (tn_succ (by omega) (by omega)) (by omega)) | (exact sm_skip r_SG (decide_eq_false (fun z => by obtain ⟨z1, z2, z3⟩ := z; first | exact z1 (by assumption) | (exfalso; omega) | exact absurd z3 (by assumption))) (tn_succ (by omega) (by omega))) | (exact rfl) | (exfalso; omega; done) | (exfalso; contradiction; done))
        · skip
          have g53 := i_nle h30
          have b54 := i_bd l1
          first | have e55 : (l2 + (1 : Int32)).toInt = l2.toInt + (1) := i_addk rfl (by omega) (by omega) | have b56 := i_bd (l2 + (1 : Int32))
          exact IH (3100 - (l2 + (1 : Int32)).toInt).toNat (by omega) _ (l1) ((l2 + (1 : Int32))) rfl hF hV (by omega) (by omega) (by omega) (by omega) (show l1.toInt = sm (zbG (m 99) (m 103) (m 94 14) (m 104) (m 94 15)) (m 102) (l2 + (1 : Int32)).toNatClampNeg from by first | (exact sm_add r_SG (decide_eq_true ⟨by assumption, by omega, by assumption⟩) (tn_succ (by omega) (by omega)) (by omega)) | (exact sm_skip r_SG (decide_eq_false (fun z => by obtain ⟨z1, z2, z3⟩ := z; first | exact z1 (by assumption) | (exfalso; omega) | exact absurd z3 (by assumption))) (tn_succ (by omega) (by omega))) | (exact rfl) | (exfalso; omega; done) | (exfalso; contradiction; done))
theorem sp_215 {X : Nat × (Nat → Int32)} {P : Option ma_V → (Nat → Nat → Int32) → Prop} {m : Nat → Nat → Int32}  (hV : zV m)  (KZ : ∀ v m₉, zV (zov wr_215 m m₉) → (v = 0 ∨ v = 1) → (v.toInt = 1 ∨ (m 94 60).toInt + sm (zbG (m 99) (m 103) (m 94 14) (m 104) (m 94 15)) (m 102) 3100 ≤ (m 94 14).toInt) → P (some (.inl v)) (zov wr_215 m m₉)) : zm X 1 21 215 0 [(0, .inr (.inr (some 94)))] m P := by
  have K : ∀ v m₉, zF wr_215 m m₉ → zV m₉ → (v = 0 ∨ v = 1) → (v.toInt = 1 ∨ (m₉ 94 60).toInt + sm (zbG (m₉ 99) (m₉ 103) (m₉ 94 14) (m₉ 104) (m₉ 94 15)) (m₉ 102) 3100 ≤ (m₉ 94 14).toInt) → P (some (.inl v)) m₉ := by
    intro v m₉ hf z q0 q1
    have e := zov_eq hf
    rw [e] at z ⊢
    try rw [e] at q0
    try rw [e] at q1
    exact KZ v m₉ z q0 q1
  refine g_215_0  ?_
  have li1 : (0 : Int32).toInt = 0 := rfl
  exact lp_215_4 hV K _ _ ((0 : Int32)) ((0 : Int32)) rfl zF_rfl hV (by omega) (by omega) (by omega) (by omega) (show (0 : Int32).toInt = sm (zbG (m 99) (m 103) (m 94 14) (m 104) (m 94 15)) (m 102) (0 : Int32).toNatClampNeg from by first | (exact rfl) | (exfalso; omega; done) | (exfalso; contradiction; done))

/-! from 94.477 -/
/-! one comes to OLD, or moves above it -/
section PK2
variable {ol e f : Int} {us ws at₉ at2 ow ow2 : Nat → Int32} {s to : Int32}
theorem PK_add (h : zPK ol e us ws at₉ ow) (hm : zmov s to at₉ ow at2 ow2) (hto : to.toInt = e) (h0 : 0 ≤ e) (hs0 : 0 ≤ s.toInt) (ha : ol ≤ (at₉ s.toNatClampNeg).toInt) (hb : ∀ t, t < 3100 → 0 ≤ (at₉ t).toInt) (hw : ∀ t, t < 3100 → 0 ≤ (ws t).toInt) (hws : 0 ≤ (ws s.toNatClampNeg).toInt) (he : e + (ws s.toNatClampNeg).toInt + 1 ≤ ol) (e2 : f = e + (ws s.toNatClampNeg).toInt + 1) : zPK ol f us ws at2 ow2 := by
  rcases hm with ⟨_, _, m3⟩ | ⟨m1, m2, m3⟩
  · omega
  · have at_s : at2 s.toNatClampNeg = to := by rw [m1, if_pos rfl]
    have at_o : ∀ t, t ≠ s.toNatClampNeg → at2 t = at₉ t := fun t z => by rw [m1, if_neg z]
    intro t t1 t2 t3
    by_cases z : t = s.toNatClampNeg
    · subst z
      rw [at_s, m2]
      refine ⟨rfl, hs0, by omega, fun t₉ u1 u2 u3 u4 => ?_⟩
      by_cases y : t₉ = s.toNatClampNeg
      · rw [y, at_s] at u3; omega
      · rw [at_o t₉ y] at u3 u4 ⊢
        have a := (h t₉ u1 u2 u4).2.2.1
        have b := hw t₉ u1
        omega
    · rw [at_o t z] at t3 ⊢
      obtain ⟨c1, c2, c3, c4⟩ := h t t1 t2 t3
      have hwt := hw t t1
      have hbt := hb t t1
      have ne1 : (at₉ t).toNatClampNeg ≠ to.toNatClampNeg := by rw [tn_eq, tn_eq]; omega
      have eq1 : ow2 (at₉ t).toNatClampNeg = ow (at₉ t).toNatClampNeg := by
        rcases m3 _ ne1 with q | ⟨q, _, _⟩
        · exact q
        · rw [tn_cast hbt] at q; omega
      rw [eq1]
      refine ⟨c1, c2, by omega, fun t₉ u1 u2 u3 u4 => ?_⟩
      by_cases y : t₉ = s.toNatClampNeg
      · rw [y, at_s] at u3 u4 ⊢; omega
      · rw [at_o t₉ y] at u3 u4 ⊢
        exact c4 t₉ u1 u2 u3 u4
theorem PK_hi (h : zPK ol e us ws at₉ ow) (hm : zmov s to at₉ ow at2 ow2) (hto : ol ≤ to.toInt) (ha : ol ≤ (at₉ s.toNatClampNeg).toInt) (hb : ∀ t, t < 3100 → 0 ≤ (at₉ t).toInt) : zPK ol e us ws at2 ow2 := by
  rcases hm with ⟨m1, m2, _⟩ | ⟨m1, m2, m3⟩
  · rw [m1, m2]; exact h
  · have at_s : at2 s.toNatClampNeg = to := by rw [m1, if_pos rfl]
    have at_o : ∀ t, t ≠ s.toNatClampNeg → at2 t = at₉ t := fun t z => by rw [m1, if_neg z]
    intro t t1 t2 t3
    by_cases z : t = s.toNatClampNeg
    · rw [z, at_s] at t3; omega
    · rw [at_o t z] at t3 ⊢
      obtain ⟨c1, c2, c3, c4⟩ := h t t1 t2 t3
      have hbt := hb t t1
      have ne1 : (at₉ t).toNatClampNeg ≠ to.toNatClampNeg := by rw [tn_eq, tn_eq]; omega
      have eq1 : ow2 (at₉ t).toNatClampNeg = ow (at₉ t).toNatClampNeg := by
        rcases m3 _ ne1 with q | ⟨q, _, _⟩
        · exact q
        · rw [tn_cast hbt] at q; omega
      rw [eq1]
      refine ⟨c1, c2, c3, fun t₉ u1 u2 u3 u4 => ?_⟩
      by_cases y : t₉ = s.toNatClampNeg
      · rw [y, at_s] at u4; omega
      · rw [at_o t₉ y] at u3 u4 ⊢
        exact c4 t₉ u1 u2 u3 u4
end PK2

/-! from 94.478 -/
/-! by ages: those not kept yet, that grow old or not; those kept that are YOUNG -/
def zbN0 (us kp ag : Nat → Int32) (a : Int32) : Nat → Bool := fun s => decide (us s ≠ 0 ∧ kp s = 0 ∧ ¬ ag s + (1 : Int32) = a)
def zbN1 (us kp ag : Nat → Int32) (a : Int32) : Nat → Bool := fun s => decide (us s ≠ 0 ∧ kp s = 0 ∧ ag s + (1 : Int32) = a)
def zbKY (us kp at₉ : Nat → Int32) (ol : Int) : Nat → Bool := fun s => decide (us s ≠ 0 ∧ kp s ≠ 0 ∧ ol ≤ (at₉ s).toInt)
section SM3
variable {m ma : Nat → Nat → Int32} {c ca k : Nat} {us ws at₉ at2 ow ow2 : Nat → Int32} {x y a s to : Int32} {ol : Int}
/-- one is kept, and its age goes on: it is no more among those to come -/
theorem smN0_keep (hk : k < 3100) (hu : us k ≠ 0) (h0 : m c k = 0) (hx : x ≠ 0) (hg : ¬ ma ca k + (1 : Int32) = a) : sm (zbN0 us (ma_u m c k x c) (ma_u ma ca k y ca) a) ws 3100 + ((ws k).toInt + 1) = sm (zbN0 us (m c) (ma ca) a) ws 3100 := by
  refine sm_out hk ?_ ?_ (fun t _ hn => ?_)
  · unfold zbN0; exact decide_eq_true ⟨hu, h0, hg⟩
  · unfold zbN0; exact decide_eq_false (fun z => hx (by rw [mu_self] at z; exact z.2.1))
  · unfold zbN0; rw [mu_ne hn, mu_ne hn]
theorem smN0_same (hx : x ≠ 0) (hg : ma ca k + (1 : Int32) = a) : sm (zbN0 us (ma_u m c k x c) (ma_u ma ca k y ca) a) ws 3100 = sm (zbN0 us (m c) (ma ca) a) ws 3100 := by
  refine sm_congr (fun t _ => ?_)
  unfold zbN0
  by_cases z : t = k
  · rw [z, mu_self]
    rw [decide_eq_false (fun w => hx w.2.1), decide_eq_false (fun w => w.2.2 hg)]
  · rw [mu_ne z, mu_ne z]
theorem smN1_keep (hk : k < 3100) (hu : us k ≠ 0) (h0 : m c k = 0) (hx : x ≠ 0) (hg : ma ca k + (1 : Int32) = a) : sm (zbN1 us (ma_u m c k x c) (ma_u ma ca k y ca) a) ws 3100 + ((ws k).toInt + 1) = sm (zbN1 us (m c) (ma ca) a) ws 3100 := by
  refine sm_out hk ?_ ?_ (fun t _ hn => ?_)
  · unfold zbN1; exact decide_eq_true ⟨hu, h0, hg⟩
  · unfold zbN1; exact decide_eq_false (fun z => hx (by rw [mu_self] at z; exact z.2.1))
  · unfold zbN1; rw [mu_ne hn, mu_ne hn]
theorem smN1_same (hx : x ≠ 0) (hg : ¬ ma ca k + (1 : Int32) = a) : sm (zbN1 us (ma_u m c k x c) (ma_u ma ca k y ca) a) ws 3100 = sm (zbN1 us (m c) (ma ca) a) ws 3100 := by
  refine sm_congr (fun t _ => ?_)
  unfold zbN1
  by_cases z : t = k
  · rw [z, mu_self]
    rw [decide_eq_false (fun w => hx w.2.1), decide_eq_false (fun w => hg w.2.2)]
  · rw [mu_ne z, mu_ne z]
/-- it comes to YOUNG's other half -/
theorem smKY_young (hk : s.toNatClampNeg < 3100) (hu : us s.toNatClampNeg ≠ 0) (h0 : m c s.toNatClampNeg = 0) (hx : x ≠ 0) (hm : zmov s to at₉ ow at2 ow2) (hto : ol ≤ to.toInt) : sm (zbKY us (m c) at₉ ol) ws 3100 + ((ws s.toNatClampNeg).toInt + 1) = sm (zbKY us (ma_u m c s.toNatClampNeg x c) at2 ol) ws 3100 := by
  refine sm_out hk ?_ ?_ (fun t _ hn => ?_)
  · unfold zbKY; exact decide_eq_true ⟨hu, by rw [mu_self]; exact hx, by rw [mv_s hm]; exact hto⟩
  · unfold zbKY; exact decide_eq_false (fun z => z.2.1 h0)
  · unfold zbKY
    rw [mu_ne hn]
    rcases hm with ⟨e, _, _⟩ | ⟨e, _, _⟩
    · rw [e]
    · rw [e, if_neg hn]
/-- it comes to OLD -/
theorem smKY_old (h0 : m c s.toNatClampNeg = 0) (hm : zmov s to at₉ ow at2 ow2) (hto : to.toInt < ol) : sm (zbKY us (ma_u m c s.toNatClampNeg x c) at2 ol) ws 3100 = sm (zbKY us (m c) at₉ ol) ws 3100 := by
  refine sm_congr (fun t _ => ?_)
  unfold zbKY
  by_cases z : t = s.toNatClampNeg
  · rw [z]
    rw [decide_eq_false (fun w => by have := w.2.2; rw [mv_s hm] at this; omega), decide_eq_false (fun w => w.2.1 h0)]
  · rw [mu_ne z]
    rcases hm with ⟨e, _, _⟩ | ⟨e, _, _⟩
    · rw [e]
    · rw [e, if_neg z]
end SM3

/-! from 94.479 -/
/-! a queue of those that came: each kept one is still in it, or done, or at work, or of those that x tells -/
def zCQ (kp kr kd ws wd ca : Nat → Int32) (qa qm : Int32) (x : Nat → Prop) (cur i : Nat) : Prop :=
  (∀ j : Nat, (j : Int) < qm.toInt → kp (ca j).toNatClampNeg ≠ 0) ∧ (cur < 3100 → kp cur ≠ 0) ∧
  ∀ s, s < 3100 → kp s ≠ 0 → (∃ j : Nat, qa.toInt ≤ (j : Int) ∧ (j : Int) < qm.toInt ∧ (ca j).toNatClampNeg = s) ∨ (∀ i₉ : Nat, (i₉ : Int) < (ws s).toInt → zcl kp kr kd wd s i₉) ∨ (s = cur ∧ ∀ i₉, i₉ < i → zcl kp kr kd wd s i₉) ∨ x s
section CQ1
variable {m ms : Nat → Nat → Int32} {c d k cur i i2 : Nat} {kp kr kd ws wd ca : Nat → Int32} {qa qa₉ qm qm₉ x v : Int32} {xx : Nat → Prop}
theorem CQ_push (h : zCQ (m c) kr kd ws wd (ms d) qa qm xx cur i) (hx : x ≠ 0) (h0 : 0 ≤ qm.toInt) (hq : qa.toInt ≤ qm.toInt) (hv : v.toNatClampNeg = k) (hy : qm₉.toInt = qm.toInt + 1) : zCQ (ma_u m c k x c) kr kd ws wd (ma_u ms d qm.toNatClampNeg v d) qa qm₉ xx cur i := by
  obtain ⟨h1, h2, h3⟩ := h
  have hzn : qm.toNatClampNeg = qm.toInt.toNat := rfl
  refine ⟨fun j hj => ?_, fun hc => mu_mono hx (h2 hc), fun s hs hk => ?_⟩
  · by_cases e : j = qm.toNatClampNeg
    · rw [e, mu_self, hv, mu_self]; exact hx
    · rw [mu_ne e]; exact mu_mono hx (h1 j (by omega))
  · by_cases e : s = k
    · exact Or.inl ⟨qm.toNatClampNeg, by omega, by omega, by rw [mu_self, hv, e]⟩
    · rcases h3 s hs (mu_back e hk) with ⟨j, hj, hj2, hs2⟩ | q | ⟨q1, q2⟩ | q
      · exact Or.inl ⟨j, hj, by omega, by rw [mu_ne (by omega)]; exact hs2⟩
      · exact Or.inr (Or.inl (fun i₉ hi => zcl_mono hx (q i₉ hi)))
      · exact Or.inr (Or.inr (Or.inl ⟨q1, fun i₉ hi => zcl_mono hx (q2 i₉ hi)⟩))
      · exact Or.inr (Or.inr (Or.inr q))
theorem CQ_adv (h : zCQ kp kr kd ws wd ca qa qm xx cur i) (hr : zcl kp kr kd wd cur i) (e : i2 = i + 1) : zCQ kp kr kd ws wd ca qa qm xx cur i2 := by
  subst e
  refine ⟨h.1, h.2.1, fun s hs hk => ?_⟩
  rcases h.2.2 s hs hk with q | q | ⟨q1, q2⟩ | q
  · exact Or.inl q
  · exact Or.inr (Or.inl q)
  · refine Or.inr (Or.inr (Or.inl ⟨q1, fun i₉ hi => ?_⟩))
    by_cases e : i₉ = i
    · rw [e, q1]; exact hr
    · exact q2 i₉ (by omega)
  · exact Or.inr (Or.inr (Or.inr q))
theorem CQ_done (h : zCQ kp kr kd ws wd ca qa qm xx cur i) (hi : (ws cur).toInt ≤ (i : Int)) : zCQ kp kr kd ws wd ca qa qm xx 3100 0 := by
  refine ⟨h.1, fun e => absurd e (by decide), fun s hs hk => ?_⟩
  rcases h.2.2 s hs hk with q | q | ⟨q1, q2⟩ | q
  · exact Or.inl q
  · exact Or.inr (Or.inl q)
  · refine Or.inr (Or.inl (fun i₉ hi₉ => q2 i₉ ?_))
    rw [q1] at hi₉
    omega
  · exact Or.inr (Or.inr (Or.inr q))
theorem CQ_take (h : zCQ kp kr kd ws wd ca qa qm xx 3100 i) (h0 : 0 ≤ qa.toInt) (hq : qa.toInt < qm.toInt) (hy : qa₉.toInt = qa.toInt + 1) (hc : cur = (ca qa.toNatClampNeg).toNatClampNeg) : zCQ kp kr kd ws wd ca qa₉ qm xx cur 0 := by
  have hqn : qa.toNatClampNeg = qa.toInt.toNat := rfl
  refine ⟨h.1, fun _ => by rw [hc]; exact h.1 _ (by omega), fun s hs hk => ?_⟩
  rcases h.2.2 s hs hk with ⟨j, hj, hj2, hs2⟩ | q | ⟨q1, q2⟩ | q
  · by_cases e : j = qa.toNatClampNeg
    · refine Or.inr (Or.inr (Or.inl ⟨?_, fun i₉ hi => absurd hi (Nat.not_lt_zero _)⟩))
      rw [hc, ← e, hs2]
    · exact Or.inl ⟨j, by omega, hj2, hs2⟩
  · exact Or.inr (Or.inl q)
  · omega
  · exact Or.inr (Or.inr (Or.inr q))
end CQ1

/-! from 94.480 -/
/-! the reference (written by wip/tools/gen94m.py) -/
set_option maxRecDepth 100000 in
theorem hm_164 : ma_md 164 = some (12, yX12_thrown, cX12_thrown, 1, (some (FieldType.int))) := rfl
theorem f_12_1_12 : ma_fld 12 1 12 = some 0 := by decide +kernel
theorem dX12_thrown_0 : decode cX12_thrown 0 = .ok (.aload_n 0, 1) := by decide +kernel
theorem dX12_thrown_4 : decode cX12_thrown 4 = .ok (.ireturn, 1) := by decide +kernel
theorem dX12_thrown_1 : decode cX12_thrown 1 = .ok (.getfield 1, 3) := by decide +kernel
def wr_164 (_ _ : Nat) : Bool := false
theorem g_164_0 {X : Nat × (Nat → Int32)} {m : Nat → Nat → Int32} {P : Option ma_V → (Nat → Nat → Int32) → Prop}  (h : P (some (.inl (m 94 0))) m) : zm X 0 0 164 0 [(0, .inr (.inr (some 94)))] m P := by
  intro d w S Q hd hw hS hm HQ
  subst hm
  refine zw_push hm_164 dX12_thrown_0 (v := .inr (.inr (some 94))) rfl ?_
  refine zw_gf hm_164 dX12_thrown_1 (v := .inl ((mI S) 94 0)) (zT_is hS s_94) (zT_t hS s_94) rfl f_12_1_12 rfl ?_
  exact zw_iret hm_164 dX12_thrown_4 (HQ _ _ h)
theorem sp_164 {X : Nat × (Nat → Int32)} {P : Option ma_V → (Nat → Nat → Int32) → Prop} {m : Nat → Nat → Int32}  (hV : zV m)  (KZ : ∀ v m₉, zV (zov wr_164 m m₉) → (v.toInt = (m 94 0).toInt) → P (some (.inl v)) (zov wr_164 m m₉)) : zm X 0 0 164 0 [(0, .inr (.inr (some 94)))] m P := by
  have K : ∀ v m₉, zF wr_164 m m₉ → zV m₉ → (v.toInt = (m₉ 94 0).toInt) → P (some (.inl v)) m₉ := by
    intro v m₉ hf z q0
    have e := zov_eq hf
    rw [e] at z ⊢
    try rw [e] at q0
    exact KZ v m₉ z q0
  refine g_164_0  ?_
  have b1 := i_bd (m 94 0)
  exact K ((m 94 0)) _ zF_rfl hV (show (m 94 0).toInt = (m 94 0).toInt from by omega)

/-! from 94.481 -/
theorem zB2_le {hf ro : Int32} (h : 0 ≤ ro.toInt) : 0 ≤ zB2 hf ro ∧ zB2 hf ro ≤ ro.toInt := by
  unfold zB2
  split <;> omega
theorem zB3_le {hf ol yo : Int32} (h : 0 ≤ yo.toInt) : ol.toInt ≤ zB3 hf ol yo ∧ zB3 hf ol yo ≤ ol.toInt + yo.toInt := by
  unfold zB3
  split <;> omega
theorem H3_rest {m : Nat → Nat → Int32} {c : Nat} {us at₉ ow at2 ow2 : Nat → Int32} {s to x : Int32} {ol : Int} (h : ∀ t, t < 3100 → us t ≠ 0 → m c t = 0 → ol ≤ (at₉ t).toInt) (hm : zmov s to at₉ ow at2 ow2) (hx : x ≠ 0) : ∀ t, t < 3100 → us t ≠ 0 → ma_u m c s.toNatClampNeg x c t = 0 → ol ≤ (at2 t).toInt := by
  intro t t1 t2 t3
  by_cases z : t = s.toNatClampNeg
  · rw [z, mu_self] at t3; exact absurd t3 hx
  · rw [mu_ne z] at t3
    rcases hm with ⟨e, _, _⟩ | ⟨e, _, _⟩
    · rw [e]; exact h t t1 t2 t3
    · rw [e, if_neg z]; exact h t t1 t2 t3

/-! from 94.482 -/
/-! those that come: halves and ages -/
/-- by halves, while they come -/
def zH2 (po ro hf to : Int32) (us kp ws : Nat → Int32) : Prop := po.toInt = 2 → to.toInt + sm (zbN us kp) ws 3100 ≤ zB2 hf ro + ro.toInt ∧ zB2 hf ro + sm (zbK us kp) ws 3100 ≤ to.toInt
/-- by ages, while they come -/
def zH3 (po yo ol a hf to ot : Int32) (us kp ag ws at₉ ow : Nat → Int32) : Prop := po.toInt = 3 → to.toInt + sm (zbN0 us kp ag a) ws 3100 ≤ zB3 hf ol yo + yo.toInt ∧ ot.toInt + sm (zbN1 us kp ag a) ws 3100 ≤ ol.toInt ∧ zB3 hf ol yo + sm (zbKY us kp at₉ ol.toInt) ws 3100 ≤ to.toInt ∧ zPK ol.toInt ot.toInt us ws at₉ ow ∧ ∀ t, t < 3100 → us t ≠ 0 → kp t = 0 → ol.toInt ≤ (at₉ t).toInt
theorem i_mul01 {x y : Int32} (h1 : 0 ≤ x.toInt) (h2 : x.toInt ≤ 2) (h3 : 0 ≤ y.toInt) (h4 : y.toInt ≤ 3000) : (x.toInt = 0 ∧ (x * y).toInt = 0) ∨ (x.toInt = 1 ∧ (x * y).toInt = y.toInt) ∨ (x.toInt = 2 ∧ (x * y).toInt = 2 * y.toInt) := by
  have e := (i_muln (x := x) (y := y) h1 (by omega) h3 h4).2.2
  have h : x.toInt = 0 ∨ x.toInt = 1 ∨ x.toInt = 2 := by omega
  rcases h with h | h | h <;> rw [h] at e ⊢
  · exact Or.inl ⟨rfl, by omega⟩
  · exact Or.inr (Or.inl ⟨rfl, by omega⟩)
  · exact Or.inr (Or.inr ⟨rfl, by omega⟩)
theorem mul_B2 {x y : Int32} (h1 : 0 ≤ x.toInt) (h2 : x.toInt ≤ 1) (h3 : 0 ≤ y.toInt) (h4 : y.toInt ≤ 3000) : (x * y).toInt = zB2 x y := by
  unfold zB2
  rcases i_mul01 h1 (by omega) h3 h4 with h | h | h
  · rw [if_pos h.1]; exact h.2
  · rw [if_neg (by omega)]; exact h.2
  · omega
theorem mul_B3 {x y o : Int32} (h1 : 0 ≤ x.toInt) (h2 : x.toInt ≤ 1) (h3 : 0 ≤ y.toInt) (h4 : y.toInt ≤ 3000) : o.toInt + (x * y).toInt = zB3 x o y := by
  unfold zB3
  rcases i_mul01 h1 (by omega) h3 h4 with h | h | h
  · rw [if_pos h.1]; omega
  · rw [if_neg (by omega)]; omega
  · omega
/-- where they are: as it was, or from e on before and after -/
def zax (at₉ at2 : Nat → Int32) (e : Int) : Prop := ∀ t, t < 3100 → at2 t = at₉ t ∨ (e ≤ (at₉ t).toInt ∧ e ≤ (at2 t).toInt)
/-- OLD ones from p on, below e -/
def zXX (us at₉ : Nat → Int32) (p e : Int) (t : Nat) : Prop := us t ≠ 0 ∧ p ≤ (at₉ t).toInt ∧ (at₉ t).toInt < e
/-- an OLD one's word refers to nothing, or to one kept, or lies in a dirty card -/
def zDK (e ca : Int) (kp us at₉ ws kr kd wd di : Nat → Int32) : Prop := ∀ s, s < 3100 → us s ≠ 0 → (at₉ s).toInt < e → ∀ i : Nat, (i : Int) < (ws s).toInt → zcl kp kr kd wd s i ∨ di (((at₉ s).toInt + 1 + i) / ca).toNat ≠ 0
section CD1
variable {m : Nat → Nat → Int32} {c k cur i : Nat} {kp kp₉ kr kd ws wd us us₉ rt wk wi at₉ at2 ow ow2 ca di ag : Nat → Int32} {qa qm x y po wm s to ro hf hf₉ yo ol tp ot cc a : Int32} {xx xx₉ : Nat → Prop} {p p2 e e2 : Int}
theorem zax_rfl : zax at₉ at₉ e := fun _ _ => Or.inl rfl
theorem zax_mv (h : zmov s to at₉ ow at2 ow2) (h1 : e ≤ (at₉ s.toNatClampNeg).toInt) (h2 : e ≤ to.toInt) : zax at₉ at2 e := by
  intro t _
  rcases h with ⟨q, _, _⟩ | ⟨q, _, _⟩
  · rw [q]; exact Or.inl rfl
  · rw [q]
    split
    · next z => rw [z]; exact Or.inr ⟨h1, h2⟩
    · exact Or.inl rfl
theorem CQ_weak (h : zCQ kp kr kd ws wd ca qa qm xx cur i) (hx : ∀ t, t < 3100 → kp t ≠ 0 → xx t → xx₉ t ∨ (∀ i₉ : Nat, (i₉ : Int) < (ws t).toInt → zcl kp kr kd wd t i₉)) : zCQ kp kr kd ws wd ca qa qm xx₉ cur i := by
  refine ⟨h.1, h.2.1, fun s hs hk => ?_⟩
  rcases h.2.2 s hs hk with q | q | q | q
  · exact Or.inl q
  · exact Or.inr (Or.inl q)
  · exact Or.inr (Or.inr (Or.inl q))
  · rcases hx s hs hk q with z | z
    · exact Or.inr (Or.inr (Or.inr z))
    · exact Or.inr (Or.inl z)
theorem CQ_ax (h : zCQ kp kr kd ws wd ca qa qm (zXX us at₉ p e) cur i) (hx : zax at₉ at2 e2) (he : e ≤ e2) : zCQ kp kr kd ws wd ca qa qm (zXX us at2 p e) cur i := by
  refine CQ_weak h (fun t ht _ q => Or.inl ?_)
  rcases hx t ht with z | z
  · unfold zXX at q ⊢; rw [z]; exact q
  · exfalso; have := q.2.2; omega
theorem DK_ax (h : zDK e p kp us at₉ ws kr kd wd di) (hk : zle kp kp₉) (hx : zax at₉ at2 e2) (he : e ≤ e2) (hb : ∀ s, s < 3100 → ∀ i : Nat, (i : Int) < (ws s).toInt → (zrf kr kd wd s i).toInt ≤ 3099) : zDK e p kp₉ us at2 ws kr kd wd di := by
  intro s hs hu ha i hi
  rcases hx s hs with z | z
  · rw [z] at ha ⊢
    rcases h s hs hu ha i hi with q | q
    · refine Or.inl ?_
      rcases q with q | q
      · exact Or.inl q
      · exact Or.inr (hk _ (by have := hb s hs i hi; rw [tn_eq]; omega) q)
    · exact Or.inr q
  · omega
/-- by halves: none has come yet -/
theorem H2_0 {x2 : Int32} (h : zHA po ro yo ol cc hf tp ot us ws at₉ ow di kr kd wd) (hp : po.toInt = 2) (hk : ∀ s : Nat, s < 3100 → m c s = 0) (hto : to.toInt = zB2 x2 ro) (hw : ∀ s, s < 3100 → 0 ≤ (ws s).toInt) : to.toInt + sm (zbN us (m c)) ws 3100 ≤ zB2 x2 ro + ro.toInt ∧ zB2 x2 ro + sm (zbK us (m c)) ws 3100 ≤ to.toInt := by
  have a := h.1 hp
  rw [smN_none hk]
  have z : sm (zbK us (m c)) ws 3100 = 0 := sm_zero (fun s hs => by unfold zbK; exact decide_eq_false (fun q => q.2 (hk s hs)))
  omega
theorem CQ_none (h : ∀ s, s < 3100 → kp s = 0) (hz : qm.toInt = 0) : zCQ kp kr kd ws wd ca qa qm xx 3100 0 :=
  ⟨fun j hj => by omega, fun e => absurd e (by decide), fun s hs hk => absurd (h s hs) hk⟩
theorem DX_come (hC : zCQ kp kr kd ws wd ca qa qm (fun _ => False) 3100 0) (hz : qm.toInt ≤ qa.toInt) (hr : zcov kp rt 16) (hw : zcov kp wi wm.toInt) (hk : zcov kp wk 16) (hu : zKU po us kp) (hm : zrm us us₉ kp 3100) (br : ∀ j : Nat, (j : Int) < 16 → (rt j).toInt ≤ 3099) (bw : ∀ j : Nat, (j : Int) < wm.toInt → (wi j).toInt ≤ 3099) (bk : ∀ j : Nat, (j : Int) < 16 → (wk j).toInt ≤ 3099) (bf : ∀ s, s < 3100 → ∀ i : Nat, (i : Int) < (ws s).toInt → (zrf kr kd wd s i).toInt ≤ 3099) : zDX po us₉ rt wk wi wm kr kd ws wd := by
  intro hp
  have key : ∀ j : Int32, j.toInt ≤ 3099 → (j.toInt < 0 ∨ kp j.toNatClampNeg ≠ 0) → (j.toInt < 0 ∨ us₉ j.toNatClampNeg ≠ 0) := by
    intro j hj hq
    rcases hq with q | q
    · exact Or.inl q
    · have hl : j.toNatClampNeg < 3100 := by rw [tn_eq]; omega
      exact Or.inr (((hm _ hl).1 hl).mpr ⟨hu hp _ hl q, q⟩)
  refine ⟨fun j hj => key _ (br j hj) (hr j hj), fun j hj => key _ (bk j hj) (hk j hj), fun j hj => key _ (bw j hj) (hw j hj), fun s hs hus i hi => ?_⟩
  have hks := (((hm s hs).1 hs).mp hus).2
  rcases hC.2.2 s hs hks with ⟨j, hj, hj2, _⟩ | q | ⟨q, _⟩ | q
  · omega
  · exact key _ (bf s hs i hi) (q i hi)
  · omega
  · exact q.elim
theorem HA_halves (h : po.toInt = 2) (h2 : tp.toInt + sm (zbN us kp) ws 3100 ≤ zB2 hf ro + ro.toInt ∧ zB2 hf ro + sm (zbK us kp) ws 3100 ≤ tp.toInt) (hm : zrm us us₉ kp 3100) (hw : ∀ s, s < 3100 → 0 ≤ (ws s).toInt) : zHA po ro yo ol cc hf tp ot us₉ ws at₉ ow di kr kd wd := by
  refine ⟨fun _ => ?_, fun e => by omega⟩
  have n0 := sm_nn (b := zbN us kp) (ws := ws) (n := 3100) hw
  have n1 := sm_nn (b := zbK us kp) (ws := ws) (n := 3100) hw
  have e1 : sm (zbU us₉) ws 3100 = sm (zbK us kp) ws 3100 := sm_congr (fun t ht => by
    unfold zbU zbK
    exact decide_eq_decide.mpr ((hm t ht).1 ht))
  omega
theorem KO_step {b : Int} {j l : Int32} (h : ∀ s : Nat, (s : Int) < l.toInt → (m c s ≠ 0 ↔ us s ≠ 0 ∧ (at₉ s).toInt < b)) (h0 : 0 ≤ l.toInt) (hj : j.toInt = l.toInt + 1) (hx : x ≠ 0 ↔ us l.toNatClampNeg ≠ 0 ∧ (at₉ l.toNatClampNeg).toInt < b) : ∀ s : Nat, (s : Int) < j.toInt → (ma_u m c l.toNatClampNeg x c s ≠ 0 ↔ us s ≠ 0 ∧ (at₉ s).toInt < b) := by
  intro s hs
  rw [mu_at]
  split
  · next z => rw [z]; exact hx
  · next q => exact h s (by rw [tn_eq] at q; omega)
/-- by ages: none has come yet -/
theorem H3_0 {x2 : Int32} (h : zHA po ro yo ol cc hf tp ot us ws at₉ ow di kr kd wd) (hp : po.toInt = 3) (hk : ∀ s : Nat, s < 3100 → (kp s ≠ 0 ↔ us s ≠ 0 ∧ (at₉ s).toInt < ol.toInt)) (hf : ot.toInt + sm (zbG us at₉ ol ag a) ws 3100 ≤ ol.toInt) (hto : to.toInt = zB3 x2 ol yo) (hw : ∀ s, s < 3100 → 0 ≤ (ws s).toInt) : to.toInt + sm (zbN0 us kp ag a) ws 3100 ≤ zB3 x2 ol yo + yo.toInt ∧ ot.toInt + sm (zbN1 us kp ag a) ws 3100 ≤ ol.toInt ∧ zB3 x2 ol yo + sm (zbKY us kp at₉ ol.toInt) ws 3100 ≤ to.toInt ∧ zPK ol.toInt ot.toInt us ws at₉ ow ∧ ∀ t, t < 3100 → us t ≠ 0 → kp t = 0 → ol.toInt ≤ (at₉ t).toInt := by
  obtain ⟨a1, a2, a3, a4, a5⟩ := h.2 hp
  have hn : ∀ t, t < 3100 → us t ≠ 0 → kp t = 0 → ol.toInt ≤ (at₉ t).toInt := fun t ht hu h0 => by
    refine Classical.byContradiction (fun z => ?_)
    exact ((hk t ht).mpr ⟨hu, by omega⟩) h0
  have s1 : sm (zbN0 us kp ag a) ws 3100 ≤ sm (zbY ol.toInt us at₉) ws 3100 := sm_mono (fun t ht hb => by
    unfold zbN0 at hb; unfold zbY
    rw [decide_eq_true_eq] at hb ⊢
    exact ⟨hb.1, hn t ht hb.1 hb.2.1⟩) hw
  have s2 : sm (zbN1 us kp ag a) ws 3100 ≤ sm (zbG us at₉ ol ag a) ws 3100 := sm_mono (fun t ht hb => by
    unfold zbN1 at hb; unfold zbG
    rw [decide_eq_true_eq] at hb ⊢
    exact ⟨hb.1, hn t ht hb.1 hb.2.1, hb.2.2⟩) hw
  have s3 : sm (zbKY us kp at₉ ol.toInt) ws 3100 = 0 := sm_zero (fun t ht => by
    unfold zbKY
    refine decide_eq_false (fun q => ?_)
    have := ((hk t ht).mp q.2.1).2
    have := q.2.2
    omega)
  exact ⟨by omega, by omega, by omega, a4, hn⟩
theorem KU_ko {b : Int} (hk : ∀ s : Nat, s < 3100 → (kp s ≠ 0 ↔ us s ≠ 0 ∧ (at₉ s).toInt < b)) : zKU po us kp := fun _ s hs h => ((hk s hs).mp h).1
theorem CQ_ko (h : zHA po ro yo ol cc hf tp ot us ws at₉ ow di kr kd wd) (hp : po.toInt = 3) (hk : ∀ s : Nat, s < 3100 → (kp s ≠ 0 ↔ us s ≠ 0 ∧ (at₉ s).toInt < ol.toInt)) (hz : qm.toInt = 0) (hb : ∀ s, s < 3100 → 0 ≤ (at₉ s).toInt) (hw : ∀ s, s < 3100 → 0 ≤ (ws s).toInt) : zCQ kp kr kd ws wd ca qa qm (zXX us at₉ 0 ot.toInt) 3100 0 := by
  refine ⟨fun j hj => by omega, fun e => absurd e (by decide), fun s hs hks => Or.inr (Or.inr (Or.inr ?_))⟩
  have q := (hk s hs).mp hks
  have := ((h.2 hp).2.2.2.1 s hs q.1 q.2).2.2.1
  have := hw s hs
  exact ⟨q.1, hb s hs, by omega⟩
theorem DK_ko (h : zHA po ro yo ol cc hf tp ot us ws at₉ ow di kr kd wd) (hp : po.toInt = 3) (hD : zDX po us rt wk wi wm kr kd ws wd) (hk : ∀ s : Nat, s < 3100 → (kp s ≠ 0 ↔ us s ≠ 0 ∧ (at₉ s).toInt < ol.toInt)) (hb : ∀ s, s < 3100 → ∀ i : Nat, (i : Int) < (ws s).toInt → (zrf kr kd wd s i).toInt ≤ 3099) : zDK ot.toInt cc.toInt kp us at₉ ws kr kd wd di := by
  obtain ⟨a1, a2, a3, a4, a5⟩ := h.2 hp
  intro s hs hu ha i hi
  rcases a5 s hs hu (by omega) i hi with q | q | q
  · exact Or.inl (Or.inl q)
  · rcases (hD (Or.inr hp)).2.2.2 s hs hu i hi with z | z
    · exact Or.inl (Or.inl z)
    · exact Or.inl (Or.inr ((hk _ (by have := hb s hs i hi; rw [tn_eq]; omega)).mpr ⟨z, q⟩))
  · exact Or.inr q
/-- no one begins at p -/
theorem CQ_skip (h : zCQ kp kr kd ws wd ca qa qm (zXX us at₉ p e) 3100 i) (hk : zPK ol.toInt e2 us ws at₉ ow) (he : e ≤ ol.toInt) (hp : (ow p.toNat).toInt < 0) (h0 : 0 ≤ p) (e3 : p2 = p + 1) : zCQ kp kr kd ws wd ca qa qm (zXX us at₉ p2 e) 3100 i := by
  subst e3
  refine CQ_weak h (fun t ht _ q => Or.inl ⟨q.1, ?_, q.2.2⟩)
  have a := (hk t ht q.1 (by have := q.2.2; omega)).2.1
  have b := q.2.1
  refine Classical.byContradiction (fun z => ?_)
  have e5 : (at₉ t).toNatClampNeg = p.toNat := by rw [tn_eq]; omega
  rw [e5] at a
  omega
/-- the one at p is done -/
theorem CQ_over {s : Nat} (h : zCQ kp kr kd ws wd ca qa qm (zXX us at₉ p e) 3100 i) (hk : zPK ol.toInt e2 us ws at₉ ow) (he : e ≤ ol.toInt) (hs : s < 3100) (hu : us s ≠ 0) (ha : (at₉ s).toInt = p) (hpe : p < e) (hd : ∀ i₉ : Nat, (i₉ : Int) < (ws s).toInt → zcl kp kr kd wd s i₉) (h0 : 0 ≤ p) (e3 : p2 = p + (ws s).toInt + 1) : zCQ kp kr kd ws wd ca qa qm (zXX us at₉ p2 e) 3100 i := by
  refine CQ_weak h (fun t ht _ q => ?_)
  have b := q.2.1
  have d := q.2.2
  by_cases z : (at₉ t).toInt = p
  · refine Or.inr ?_
    have a1 := (hk t ht q.1 (by omega)).1
    have a2 := (hk s hs hu (by omega)).1
    have e4 : at₉ t = at₉ s := Int32.toInt_inj.mp (by omega)
    rw [e4, a2] at a1
    rw [← a1]
    exact hd
  · have a3 := (hk s hs hu (by omega)).2.2.2 t ht q.1 (by omega) (by omega)
    exact Or.inl ⟨q.1, by omega, d⟩
theorem CQ_no (h : zCQ kp kr kd ws wd ca qa qm (zXX us at₉ p e) 3100 i) (hp : e ≤ p) : zCQ kp kr kd ws wd ca qa qm (fun _ => False) 3100 i := CQ_weak h (fun t _ _ q => by have := q.2.1; have := q.2.2; omega)
/-- up to i the words of s are done -/
def zUP (kp kr kd wd : Nat → Int32) (s i : Nat) : Prop := ∀ i₉, i₉ < i → zcl kp kr kd wd s i₉
theorem UP_adv {s i2 : Nat} (h : zUP kp kr kd wd s i) (hk : zle kp kp₉) (hr : zcl kp₉ kr kd wd s i) (e3 : i2 = i + 1) (hb : ∀ i₉ : Nat, i₉ < i → (zrf kr kd wd s i₉).toInt ≤ 3099) : zUP kp₉ kr kd wd s i2 := by
  subst e3
  intro i₉ hi
  by_cases z : i₉ = i
  · rw [z]; exact hr
  · rcases h i₉ (by omega) with q | q
    · exact Or.inl q
    · exact Or.inr (hk _ (by have := hb i₉ (by omega); rw [tn_eq]; omega) q)
theorem ax_at {s : Nat} (h : zax at₉ at2 e2) (hs : s < 3100) (ha : (at₉ s).toInt = p) (hp : p < e2) : (at2 s).toInt = p := by
  rcases h s hs with z | z
  · rw [z]; exact ha
  · omega
theorem HA_minor (h : po.toInt = 3) (h4 : 4 ≤ cc.toInt) (h3 : tp.toInt + sm (zbN0 us kp ag a) ws 3100 ≤ zB3 hf ol yo + yo.toInt ∧ ot.toInt + sm (zbN1 us kp ag a) ws 3100 ≤ ol.toInt ∧ zB3 hf ol yo + sm (zbKY us kp at₉ ol.toInt) ws 3100 ≤ tp.toInt ∧ zPK ol.toInt ot.toInt us ws at₉ ow ∧ ∀ t, t < 3100 → us t ≠ 0 → kp t = 0 → ol.toInt ≤ (at₉ t).toInt) (hm : zrm us us₉ kp 3100) (ho : zowr ow ow2 us kp at₉) (hD : zDC ol.toInt cc.toInt us₉ at₉ ws kr kd wd di) (hb : ∀ s, s < 3100 → 0 ≤ (at₉ s).toInt ∧ (at₉ s).toInt < 4600) (hw : ∀ s, s < 3100 → 0 ≤ (ws s).toInt) : zHA po ro yo ol cc hf tp ot us₉ ws at₉ ow2 di kr kd wd := by
  refine ⟨fun e => by omega, fun _ => ?_⟩
  obtain ⟨a1, a2, a3, a4, a5⟩ := h3
  have n0 := sm_nn (b := zbN0 us kp ag a) (ws := ws) (n := 3100) hw
  have n1 := sm_nn (b := zbN1 us kp ag a) (ws := ws) (n := 3100) hw
  have n2 := sm_nn (b := zbKY us kp at₉ ol.toInt) (ws := ws) (n := 3100) hw
  have e1 : sm (zbY ol.toInt us₉ at₉) ws 3100 = sm (zbKY us kp at₉ ol.toInt) ws 3100 := sm_congr (fun t ht => by
    unfold zbY zbKY
    refine decide_eq_decide.mpr ?_
    rw [(hm t ht).1 ht]
    exact ⟨fun q => ⟨q.1.1, q.1.2, q.2⟩, fun q => ⟨⟨q.1, q.2.1⟩, q.2.2⟩⟩)
  exact ⟨h4, ⟨by omega, by omega, by omega⟩, by omega, PK_sub a4 (sw_of hm ho) hb, hD⟩
end CD1

