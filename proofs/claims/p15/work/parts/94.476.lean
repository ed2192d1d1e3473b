/-! the reference (written by wip/tools/gen94m.py) -/
set_option maxRecDepth 100000 in
theorem hm_215 : ma_md 215 = some (12, yX12_isOldFull, cX12_isOldFull, 3, (some (FieldType.boolean))) := rfl
theorem f_12_213_12 : ma_fld 12 213 12 = some 15 := by decide +kernel
theorem dX12_isOldFull_0 : decode cX12_isOldFull 0 = .ok (.iconst 0, 1) := by decide +kernel
theorem dX12_isOldFull_1 : decode cX12_isOldFull 1 = .ok (.istore_n 1, 1) := by decide +kernel
theorem dX12_isOldFull_2 : decode cX12_isOldFull 2 = .ok (.iconst 0, 1) := by decide +kernel
theorem dX12_isOldFull_3 : decode cX12_isOldFull 3 = .ok (.istore_n 2, 1) := by decide +kernel
theorem dX12_isOldFull_4 : decode cX12_isOldFull 4 = .ok (.iload_n 2, 1) := by decide +kernel
theorem dX12_isOldFull_5 : decode cX12_isOldFull 5 = .ok (.sipush 3100, 3) := by decide +kernel
theorem dX12_isOldFull_57 : decode cX12_isOldFull 57 = .ok (.aload_n 0, 1) := by decide +kernel
theorem dX12_isOldFull_61 : decode cX12_isOldFull 61 = .ok (.aload_n 0, 1) := by decide +kernel
theorem dX12_isOldFull_65 : decode cX12_isOldFull 65 = .ok (.isub, 1) := by decide +kernel
theorem dX12_isOldFull_66 : decode cX12_isOldFull 66 = .ok (.iload_n 1, 1) := by decide +kernel
theorem dX12_isOldFull_74 : decode cX12_isOldFull 74 = .ok (.iconst 0, 1) := by decide +kernel
theorem dX12_isOldFull_75 : decode cX12_isOldFull 75 = .ok (.ireturn, 1) := by decide +kernel
theorem dX12_isOldFull_70 : decode cX12_isOldFull 70 = .ok (.iconst 1, 1) := by decide +kernel
theorem dX12_isOldFull_71 : decode cX12_isOldFull 71 = .ok (.goto 4, 3) := by decide +kernel
theorem dX12_isOldFull_67 : decode cX12_isOldFull 67 = .ok (.if_icmp .ge 7, 3) := by decide +kernel
theorem dX12_isOldFull_62 : decode cX12_isOldFull 62 = .ok (.getfield 279, 3) := by decide +kernel
theorem dX12_isOldFull_58 : decode cX12_isOldFull 58 = .ok (.getfield 210, 3) := by decide +kernel
theorem dX12_isOldFull_11 : decode cX12_isOldFull 11 = .ok (.aload_n 0, 1) := by decide +kernel
theorem dX12_isOldFull_15 : decode cX12_isOldFull 15 = .ok (.iload_n 2, 1) := by decide +kernel
theorem dX12_isOldFull_51 : decode cX12_isOldFull 51 = .ok (.iinc 2 1, 3) := by decide +kernel
theorem dX12_isOldFull_54 : decode cX12_isOldFull 54 = .ok (.goto (-50), 3) := by decide +kernel
theorem dX12_isOldFull_20 : decode cX12_isOldFull 20 = .ok (.aload_n 0, 1) := by decide +kernel
theorem dX12_isOldFull_21 : decode cX12_isOldFull 21 = .ok (.iload_n 2, 1) := by decide +kernel
theorem dX12_isOldFull_22 : decode cX12_isOldFull 22 = .ok (.invokevirtual 314, 3) := by decide +kernel
theorem dX12_isOldFull_25 : decode cX12_isOldFull 25 = .ok (.ifCond .ne 26, 3) := by decide +kernel
theorem dX12_isOldFull_28 : decode cX12_isOldFull 28 = .ok (.aload_n 0, 1) := by decide +kernel
theorem dX12_isOldFull_32 : decode cX12_isOldFull 32 = .ok (.iload_n 2, 1) := by decide +kernel
theorem dX12_isOldFull_34 : decode cX12_isOldFull 34 = .ok (.iconst 1, 1) := by decide +kernel
theorem dX12_isOldFull_35 : decode cX12_isOldFull 35 = .ok (.iadd, 1) := by decide +kernel
theorem dX12_isOldFull_36 : decode cX12_isOldFull 36 = .ok (.aload_n 0, 1) := by decide +kernel
theorem dX12_isOldFull_43 : decode cX12_isOldFull 43 = .ok (.iload_n 1, 1) := by decide +kernel
theorem dX12_isOldFull_44 : decode cX12_isOldFull 44 = .ok (.aload_n 0, 1) := by decide +kernel
theorem dX12_isOldFull_45 : decode cX12_isOldFull 45 = .ok (.iload_n 2, 1) := by decide +kernel
theorem dX12_isOldFull_46 : decode cX12_isOldFull 46 = .ok (.invokevirtual 327, 3) := by decide +kernel
theorem dX12_isOldFull_49 : decode cX12_isOldFull 49 = .ok (.iadd, 1) := by decide +kernel
theorem dX12_isOldFull_50 : decode cX12_isOldFull 50 = .ok (.istore_n 1, 1) := by decide +kernel
theorem dX12_isOldFull_40 : decode cX12_isOldFull 40 = .ok (.if_icmp .ne 11, 3) := by decide +kernel
theorem dX12_isOldFull_37 : decode cX12_isOldFull 37 = .ok (.getfield 213, 3) := by decide +kernel
theorem dX12_isOldFull_33 : decode cX12_isOldFull 33 = .ok (.iaload, 1) := by decide +kernel
theorem dX12_isOldFull_29 : decode cX12_isOldFull 29 = .ok (.getfield 43, 3) := by decide +kernel
theorem dX12_isOldFull_17 : decode cX12_isOldFull 17 = .ok (.ifCond .eq 34, 3) := by decide +kernel
theorem dX12_isOldFull_16 : decode cX12_isOldFull 16 = .ok (.baload, 1) := by decide +kernel
theorem dX12_isOldFull_12 : decode cX12_isOldFull 12 = .ok (.getfield 27, 3) := by decide +kernel
theorem dX12_isOldFull_8 : decode cX12_isOldFull 8 = .ok (.if_icmp .ge 49, 3) := by decide +kernel
def wr_215 (_ _ : Nat) : Bool := false
theorem g_215_0 {X : Nat × (Nat → Int32)} {m : Nat → Nat → Int32} {P : Option ma_V → (Nat → Nat → Int32) → Prop}  (h : zm X 1 21 215 4 [(0, .inr (.inr (some 94))), (1, .inl (0 : Int32)), (2, .inl (0 : Int32))] m P) : zm X 1 21 215 0 [(0, .inr (.inr (some 94)))] m P := by
  intro d w S Q hd hw hS hm HQ
  subst hm
  refine zw_push hm_215 dX12_isOldFull_0 (v := .inl (0 : Int32)) rfl ?_
  refine zw_sto hm_215 dX12_isOldFull_1 [(1, .inl (0 : Int32)), (0, .inr (.inr (some 94)))] rfl rfl rfl ?_
  refine zw_push hm_215 dX12_isOldFull_2 (v := .inl (0 : Int32)) rfl ?_
  refine zw_sto hm_215 dX12_isOldFull_3 [(2, .inl (0 : Int32)), (1, .inl (0 : Int32)), (0, .inr (.inr (some 94)))] rfl rfl rfl ?_
  exact zw_sub (ma_nd_of (ks := [0, 1, 2]) rfl (by decide)) (ma_nd_of (ks := [2, 1, 0]) rfl (by decide)) (ma_le_cons rfl (ma_le_cons rfl (ma_le_cons rfl (ma_le_nil _)))) (h d w _ Q (by omega) (by omega) hS rfl HQ)
theorem g_215_4 {X : Nat × (Nat → Int32)} {m : Nat → Nat → Int32} {P : Option ma_V → (Nat → Nat → Int32) → Prop} (l1 : Int32) (l2 : Int32) (h : if (3100 : Int32) ≤ l2 then (if l1 ≤ ((m 94 14) - (m 94 60)) then (P (some (.inl (0 : Int32))) m) else (P (some (.inl (1 : Int32))) m)) else ((0 ≤ l2 ∧ l2.toNatClampNeg < 3100) ∧ (if (m 99 l2.toNatClampNeg) = 0 then (zm X 1 21 215 4 [(0, .inr (.inr (some 94))), (1, .inl l1), (2, .inl (l2 + (1 : Int32)))] m P) else ((0 ≤ l2 ∧ l2.toNatClampNeg < 3100) ∧ (if (m 94 14) ≤ (m 103 l2.toNatClampNeg) then ((0 ≤ l2 ∧ l2.toNatClampNeg < 3100) ∧ (if ((m 104 l2.toNatClampNeg) + (1 : Int32)) = (m 94 15) then ((0 ≤ l2 ∧ l2.toNatClampNeg < 3100) ∧ (zm X 1 21 215 4 [(0, .inr (.inr (some 94))), (1, .inl (l1 + ((m 102 l2.toNatClampNeg) + (1 : Int32)))), (2, .inl (l2 + (1 : Int32)))] m P)) else (zm X 1 21 215 4 [(0, .inr (.inr (some 94))), (1, .inl l1), (2, .inl (l2 + (1 : Int32)))] m P))) else (zm X 1 21 215 4 [(0, .inr (.inr (some 94))), (1, .inl l1), (2, .inl (l2 + (1 : Int32)))] m P)))))) : zm X 1 21 215 4 [(0, .inr (.inr (some 94))), (1, .inl l1), (2, .inl l2)] m P := by
  intro d w S Q hd hw hS hm HQ
  subst hm
  refine zw_push hm_215 dX12_isOldFull_4 (v := .inl l2) rfl ?_
  refine zw_push hm_215 dX12_isOldFull_5 (v := .inl (3100 : Int32)) rfl ?_
  refine zw_if2 hm_215 dX12_isOldFull_8 (t := 57) rfl zc2_ge ?_ ?_
  · intro hc
    rw [if_pos hc] at h
    refine zw_push hm_215 dX12_isOldFull_57 (v := .inr (.inr (some 94))) rfl ?_
    refine zw_gf hm_215 dX12_isOldFull_58 (v := .inl ((mI S) 94 14)) (zT_is hS s_94) (zT_t hS s_94) rfl f_12_210_12 rfl ?_
    refine zw_push hm_215 dX12_isOldFull_61 (v := .inr (.inr (some 94))) rfl ?_
    refine zw_gf hm_215 dX12_isOldFull_62 (v := .inl ((mI S) 94 60)) (zT_is hS s_94) (zT_t hS s_94) rfl f_12_279_12 rfl ?_
    refine zw_stk hm_215 dX12_isOldFull_65 (st' := [.inl (((mI S) 94 14) - ((mI S) 94 60))]) rfl rfl ?_
    refine zw_push hm_215 dX12_isOldFull_66 (v := .inl l1) rfl ?_
    refine zw_if2 hm_215 dX12_isOldFull_67 (t := 74) rfl zc2_ge ?_ ?_
    · intro hc
      rw [if_pos hc] at h
      refine zw_push hm_215 dX12_isOldFull_74 (v := .inl (0 : Int32)) rfl ?_
      exact zw_bret hm_215 dX12_isOldFull_75 (by decide) (HQ _ _ h)
    · intro hc
      rw [if_neg hc] at h
      refine zw_push hm_215 dX12_isOldFull_70 (v := .inl (1 : Int32)) rfl ?_
      refine zw_goto hm_215 dX12_isOldFull_71 (t := 75) rfl ?_
      exact zw_bret hm_215 dX12_isOldFull_75 (by decide) (HQ _ _ h)
  · intro hc
    rw [if_neg hc] at h
    refine zw_push hm_215 dX12_isOldFull_11 (v := .inr (.inr (some 94))) rfl ?_
    refine zw_gf hm_215 dX12_isOldFull_12 (v := .inr (.inr (some 99))) (zT_is hS s_94) (zT_t hS s_94) rfl f_12_27_12 (zT_f hS r_94_31) ?_
    refine zw_push hm_215 dX12_isOldFull_15 (v := .inl l2) rfl ?_
    obtain ⟨hg, h⟩ := h
    refine zw_ba hm_215 dX12_isOldFull_16 (zT_is hS s_99) (zT_h hS s_99) rfl rfl hg ?_
    show ma_wp X d w 215 17 [(0, .inr (.inr (some 94))), (1, .inl l1), (2, .inl l2)] [.inl ((mI S) 99 l2.toNatClampNeg)] S _
    refine zw_if0 hm_215 dX12_isOldFull_17 (t := 51) rfl zc0_eq ?_ ?_
    · intro hc
      rw [if_pos hc] at h
      refine zw_sto hm_215 dX12_isOldFull_51 [(2, .inl (l2 + (1 : Int32))), (0, .inr (.inr (some 94))), (1, .inl l1)] rfl rfl rfl ?_
      refine zw_goto hm_215 dX12_isOldFull_54 (t := 4) rfl ?_
      exact zw_sub (ma_nd_of (ks := [0, 1, 2]) rfl (by decide)) (ma_nd_of (ks := [2, 0, 1]) rfl (by decide)) (ma_le_cons rfl (ma_le_cons rfl (ma_le_cons rfl (ma_le_nil _)))) (h d w _ Q (by omega) (by omega) hS rfl HQ)
    · intro hc
      rw [if_neg hc] at h
      refine zw_push hm_215 dX12_isOldFull_20 (v := .inr (.inr (some 94))) rfl ?_
      refine zw_push hm_215 dX12_isOldFull_21 (v := .inl l2) rfl ?_
      refine zw_cv hm_215 dX12_isOldFull_22 v_12_314_12 hm_196 [.inl l2] [] rfl (zT_rt hS s_94 rfl) ⟨by omega, by omega⟩ rfl ?_
      show ma_wp X (d - 1) (w - 21) 196 0 [(0, .inr (.inr (some 94))), (1, .inl l2)] [] S _
      refine zw_push hm_196 dX12_isOld_0 (v := .inr (.inr (some 94))) rfl ?_
      refine zw_gf hm_196 dX12_isOld_1 (v := .inr (.inr (some 103))) (zT_is hS s_94) (zT_t hS s_94) rfl f_12_40_12 (zT_f hS r_94_35) ?_
      refine zw_push hm_196 dX12_isOld_4 (v := .inl l2) rfl ?_
      obtain ⟨hg, h⟩ := h
      refine zw_ia hm_196 dX12_isOld_5 (zT_is hS s_103) (zT_h hS s_103) rfl hg ?_
      show ma_wp X (d - 1) (w - 21) 196 6 [(0, .inr (.inr (some 94))), (1, .inl l2)] [.inl ((mI S) 103 l2.toNatClampNeg)] S _
      refine zw_push hm_196 dX12_isOld_6 (v := .inr (.inr (some 94))) rfl ?_
      refine zw_gf hm_196 dX12_isOld_7 (v := .inl ((mI S) 94 14)) (zT_is hS s_94) (zT_t hS s_94) rfl f_12_210_12 rfl ?_
      refine zw_if2 hm_196 dX12_isOld_10 (t := 17) rfl zc2_ge ?_ ?_
      · intro hc
        rw [if_pos hc] at h
        refine zw_push hm_196 dX12_isOld_17 (v := .inl (0 : Int32)) rfl ?_
        refine zw_bret hm_196 dX12_isOld_18 (by decide) ?_
        show ma_wp X d w 215 25 [(0, .inr (.inr (some 94))), (1, .inl l1), (2, .inl l2)] [.inl (0 : Int32)] S _
        refine zw_if0 hm_215 dX12_isOldFull_25 (t := 51) rfl zc0_ne (fun hc => absurd hc (by decide)) (fun _ => ?_)
        refine zw_push hm_215 dX12_isOldFull_28 (v := .inr (.inr (some 94))) rfl ?_
        refine zw_gf hm_215 dX12_isOldFull_29 (v := .inr (.inr (some 104))) (zT_is hS s_94) (zT_t hS s_94) rfl f_12_43_12 (zT_f hS r_94_36) ?_
        refine zw_push hm_215 dX12_isOldFull_32 (v := .inl l2) rfl ?_
        obtain ⟨hg, h⟩ := h
        refine zw_ia hm_215 dX12_isOldFull_33 (zT_is hS s_104) (zT_h hS s_104) rfl hg ?_
        show ma_wp X d w 215 34 [(0, .inr (.inr (some 94))), (1, .inl l1), (2, .inl l2)] [.inl ((mI S) 104 l2.toNatClampNeg)] S _
        refine zw_push hm_215 dX12_isOldFull_34 (v := .inl (1 : Int32)) rfl ?_
        refine zw_stk hm_215 dX12_isOldFull_35 (st' := [.inl (((mI S) 104 l2.toNatClampNeg) + (1 : Int32))]) rfl rfl ?_
        refine zw_push hm_215 dX12_isOldFull_36 (v := .inr (.inr (some 94))) rfl ?_
        refine zw_gf hm_215 dX12_isOldFull_37 (v := .inl ((mI S) 94 15)) (zT_is hS s_94) (zT_t hS s_94) rfl f_12_213_12 rfl ?_
        refine zw_if2 hm_215 dX12_isOldFull_40 (t := 51) rfl zc2_ne ?_ ?_
        · intro hc
          rw [if_neg hc] at h
          refine zw_sto hm_215 dX12_isOldFull_51 [(2, .inl (l2 + (1 : Int32))), (0, .inr (.inr (some 94))), (1, .inl l1)] rfl rfl rfl ?_
          refine zw_goto hm_215 dX12_isOldFull_54 (t := 4) rfl ?_
          exact zw_sub (ma_nd_of (ks := [0, 1, 2]) rfl (by decide)) (ma_nd_of (ks := [2, 0, 1]) rfl (by decide)) (ma_le_cons rfl (ma_le_cons rfl (ma_le_cons rfl (ma_le_nil _)))) (h d w _ Q (by omega) (by omega) hS rfl HQ)
        · intro hc
          rw [if_pos (Classical.not_not.mp hc)] at h
          refine zw_push hm_215 dX12_isOldFull_43 (v := .inl l1) rfl ?_
          refine zw_push hm_215 dX12_isOldFull_44 (v := .inr (.inr (some 94))) rfl ?_
          refine zw_push hm_215 dX12_isOldFull_45 (v := .inl l2) rfl ?_
          refine zw_cv hm_215 dX12_isOldFull_46 v_12_327_12 hm_201 [.inl l2] [.inl l1] rfl (zT_rt hS s_94 rfl) ⟨by omega, by omega⟩ rfl ?_
          show ma_wp X (d - 1) (w - 21) 201 0 [(0, .inr (.inr (some 94))), (1, .inl l2)] [] S _
          refine zw_push hm_201 dX12_sizeOf_0 (v := .inr (.inr (some 94))) rfl ?_
          refine zw_gf hm_201 dX12_sizeOf_1 (v := .inr (.inr (some 102))) (zT_is hS s_94) (zT_t hS s_94) rfl f_12_37_12 (zT_f hS r_94_34) ?_
          refine zw_push hm_201 dX12_sizeOf_4 (v := .inl l2) rfl ?_
          obtain ⟨hg, h⟩ := h
          refine zw_ia hm_201 dX12_sizeOf_5 (zT_is hS s_102) (zT_h hS s_102) rfl hg ?_
          show ma_wp X (d - 1) (w - 21) 201 6 [(0, .inr (.inr (some 94))), (1, .inl l2)] [.inl ((mI S) 102 l2.toNatClampNeg)] S _
          refine zw_push hm_201 dX12_sizeOf_6 (v := .inl (1 : Int32)) rfl ?_
          refine zw_stk hm_201 dX12_sizeOf_7 (st' := [.inl (((mI S) 102 l2.toNatClampNeg) + (1 : Int32))]) rfl rfl ?_
          refine zw_iret hm_201 dX12_sizeOf_8 ?_
          show ma_wp X d w 215 49 [(0, .inr (.inr (some 94))), (1, .inl l1), (2, .inl l2)] [.inl (((mI S) 102 l2.toNatClampNeg) + (1 : Int32)), .inl l1] S _
          refine zw_stk hm_215 dX12_isOldFull_49 (st' := [.inl (l1 + (((mI S) 102 l2.toNatClampNeg) + (1 : Int32)))]) rfl rfl ?_
          refine zw_sto hm_215 dX12_isOldFull_50 [(1, .inl (l1 + (((mI S) 102 l2.toNatClampNeg) + (1 : Int32)))), (0, .inr (.inr (some 94))), (2, .inl l2)] rfl rfl rfl ?_
          refine zw_sto hm_215 dX12_isOldFull_51 [(2, .inl (l2 + (1 : Int32))), (1, .inl (l1 + (((mI S) 102 l2.toNatClampNeg) + (1 : Int32)))), (0, .inr (.inr (some 94)))] rfl rfl rfl ?_
          refine zw_goto hm_215 dX12_isOldFull_54 (t := 4) rfl ?_
          exact zw_sub (ma_nd_of (ks := [0, 1, 2]) rfl (by decide)) (ma_nd_of (ks := [2, 1, 0]) rfl (by decide)) (ma_le_cons rfl (ma_le_cons rfl (ma_le_cons rfl (ma_le_nil _)))) (h d w _ Q (by omega) (by omega) hS rfl HQ)
      · intro hc
        rw [if_neg hc] at h
        refine zw_push hm_196 dX12_isOld_13 (v := .inl (1 : Int32)) rfl ?_
        refine zw_goto hm_196 dX12_isOld_14 (t := 18) rfl ?_
        refine zw_bret hm_196 dX12_isOld_18 (by decide) ?_
        show ma_wp X d w 215 25 [(0, .inr (.inr (some 94))), (1, .inl l1), (2, .inl l2)] [.inl (1 : Int32)] S _
        refine zw_if0 hm_215 dX12_isOldFull_25 (t := 51) rfl zc0_ne (fun _ => ?_) (fun hc => absurd (by decide) hc)
        refine zw_sto hm_215 dX12_isOldFull_51 [(2, .inl (l2 + (1 : Int32))), (0, .inr (.inr (some 94))), (1, .inl l1)] rfl rfl rfl ?_
        refine zw_goto hm_215 dX12_isOldFull_54 (t := 4) rfl ?_
        exact zw_sub (ma_nd_of (ks := [0, 1, 2]) rfl (by decide)) (ma_nd_of (ks := [2, 0, 1]) rfl (by decide)) (ma_le_cons rfl (ma_le_cons rfl (ma_le_cons rfl (ma_le_nil _)))) (h d w _ Q (by omega) (by omega) hS rfl HQ)
theorem lp_215_4 {X : Nat × (Nat → Int32)} {P : Option ma_V → (Nat → Nat → Int32) → Prop} {m0 : Nat → Nat → Int32} (h0 : zV m0) (K : ∀ v m', zF wr_215 m0 m' → zV m' → (v = 0 ∨ v = 1) → (v.toInt = 1 ∨ (m' 94 60).toInt + sm (zbG (m' 99) (m' 103) (m' 94 14) (m' 104) (m' 94 15)) (m' 102) 3100 ≤ (m' 94 14).toInt) → P (some (.inl v)) m') : ∀ (n : Nat) (m : Nat → Nat → Int32) (l1 : Int32) (l2 : Int32), (3100 - l2.toInt).toNat = n → zF wr_215 m0 m → zV m → (0 ≤ l2.toInt) → (l2.toInt ≤ 3100) → (0 ≤ l1.toInt) → (l1.toInt ≤ 61 * l2.toInt) → (l1.toInt = sm (zbG (m 99) (m 103) (m 94 14) (m 104) (m 94 15)) (m 102) l2.toNatClampNeg) → zm X 1 21 215 4 [(0, .inr (.inr (some 94))), (1, .inl l1), (2, .inl l2)] m P := by
  intro n
  induction n using Nat.strongRecOn with
  | _ n IH =>
    intro m l1 l2 hmu hF hV hi0 hi1 hi2 hi3 r_SG
    refine g_215_4 l1 l2 ?_
    have li1 : (3100 : Int32).toInt = 3100 := rfl
    have b2 := i_bd l2
    refine zd (fun (h3 : (3100 : Int32) ≤ l2) => ?_) (fun (h3 : ¬ (3100 : Int32) ≤ l2) => ?_)
    · skip
      have g4 := i_le h3
      have b5 := i_bd l1
      have f6 : 0 ≤ (m 94 14).toInt ∧ (m 94 14).toInt ≤ 1500 := rs_94_14 (m := m) hV
      have f7 : 0 ≤ (m 94 60).toInt ∧ (m 94 60).toInt ≤ 1600 := rs_94_60 (m := m) hV
      first | have e8 : ((m 94 14) - (m 94 60)).toInt = (m 94 14).toInt - (m 94 60).toInt := i_sub (by omega) (by omega) | have b9 := i_bd ((m 94 14) - (m 94 60))
      refine zd (fun (h10 : l1 ≤ ((m 94 14) - (m 94 60))) => ?_) (fun (h10 : ¬ l1 ≤ ((m 94 14) - (m 94 60))) => ?_)
      · skip
        have g11 := i_le h10
        have li12 : (0 : Int32).toInt = 0 := rfl
        exact K ((0 : Int32)) _ hF hV (by decide) (show (0 : Int32).toInt = 1 ∨ (m 94 60).toInt + sm (zbG (m 99) (m 103) (m 94 14) (m 104) (m 94 15)) (m 102) 3100 ≤ (m 94 14).toInt from by first | (exact Or.inl (by decide)) | (exact Or.inr (by have z := sm_full r_SG (by omega); omega)) | (exfalso; omega; done) | (exfalso; contradiction; done))
      · skip
        have g13 := i_nle h10
        have li14 : (1 : Int32).toInt = 1 := rfl
        exact K ((1 : Int32)) _ hF hV (by decide) (show (1 : Int32).toInt = 1 ∨ (m 94 60).toInt + sm (zbG (m 99) (m 103) (m 94 14) (m 104) (m 94 15)) (m 102) 3100 ≤ (m 94 14).toInt from by first | (exact Or.inl (by decide)) | (exact Or.inr (by have z := sm_full r_SG (by omega); omega)) | (exfalso; omega; done) | (exfalso; contradiction; done))
    · skip
      have g15 := i_nle h3
      have hg16 : (0 ≤ l2 ∧ l2.toNatClampNeg < 3100) := i_ix (by omega) (by omega)
      refine ⟨hg16, ?_⟩
      first | have f17 : 0 ≤ (m 99 l2.toNatClampNeg).toInt ∧ (m 99 l2.toNatClampNeg).toInt ≤ 1 := ra_99 (m := m) hV (k := l2.toNatClampNeg) (i_ix (n := 3100) (by omega) (by omega)).2 | have b18 := i_bd (m 99 l2.toNatClampNeg)
      have li19 : (0 : Int32).toInt = 0 := rfl
      refine zd (fun (h20 : (m 99 l2.toNatClampNeg) = (0 : Int32)) => ?_) (fun (h20 : ¬ (m 99 l2.toNatClampNeg) = (0 : Int32)) => ?_)
      · skip
        have g21 := i_eq h20
        have b22 := i_bd l1
        first | have e23 : (l2 + (1 : Int32)).toInt = l2.toInt + (1) := i_addk rfl (by omega) (by omega) | have b24 := i_bd (l2 + (1 : Int32))
        exact IH (3100 - (l2 + (1 : Int32)).toInt).toNat (by omega) _ (l1) ((l2 + (1 : Int32))) rfl hF hV (by omega) (by omega) (by omega) (by omega) (show l1.toInt = sm (zbG (m 99) (m 103) (m 94 14) (m 104) (m 94 15)) (m 102) (l2 + (1 : Int32)).toNatClampNeg from by first | (exact sm_add r_SG (decide_eq_true ⟨by assumption, by omega, by assumption⟩) (tn_succ (by omega) (by omega)) (by omega)) | (exact sm_skip r_SG (decide_eq_false (fun z => by obtain ⟨z1, z2, z3⟩ := z; first | exact z1 (by assumption) | (exfalso; omega) | exact absurd z3 (by assumption))) (tn_succ (by omega) (by omega))) | (exact rfl) | (exfalso; omega; done) | (exfalso; contradiction; done))
      · skip
        have g25 := i_ne h20
        have hg26 : (0 ≤ l2 ∧ l2.toNatClampNeg < 3100) := i_ix (by omega) (by omega)
        refine ⟨hg26, ?_⟩
        have f27 : 0 ≤ (m 94 14).toInt ∧ (m 94 14).toInt ≤ 1500 := rs_94_14 (m := m) hV
        first | have f28 : 0 ≤ (m 103 l2.toNatClampNeg).toInt ∧ (m 103 l2.toNatClampNeg).toInt ≤ 4599 := ra_103 (m := m) hV (k := l2.toNatClampNeg) (i_ix (n := 3100) (by omega) (by omega)).2 | have b29 := i_bd (m 103 l2.toNatClampNeg)
        refine zd (fun (h30 : (m 94 14) ≤ (m 103 l2.toNatClampNeg)) => ?_) (fun (h30 : ¬ (m 94 14) ≤ (m 103 l2.toNatClampNeg)) => ?_)
        · skip
          have g31 := i_le h30
          have hg32 : (0 ≤ l2 ∧ l2.toNatClampNeg < 3100) := i_ix (by omega) (by omega)
          refine ⟨hg32, ?_⟩
          have b33 := i_bd (m 104 l2.toNatClampNeg)
          first | have e34 : ((m 104 l2.toNatClampNeg) + (1 : Int32)).toInt = (m 104 l2.toNatClampNeg).toInt + (1) := i_addk rfl (by omega) (by omega) | have b35 := i_bd ((m 104 l2.toNatClampNeg) + (1 : Int32))
          have b36 := i_bd (m 94 15)
          refine zd (fun (h37 : ((m 104 l2.toNatClampNeg) + (1 : Int32)) = (m 94 15)) => ?_) (fun (h37 : ¬ ((m 104 l2.toNatClampNeg) + (1 : Int32)) = (m 94 15)) => ?_)
          · skip
            have g38 := i_eq h37
            have hg39 : (0 ≤ l2 ∧ l2.toNatClampNeg < 3100) := i_ix (by omega) (by omega)
            refine ⟨hg39, ?_⟩
            have b40 := i_bd l1
            first | have f41 : 0 ≤ (m 102 l2.toNatClampNeg).toInt ∧ (m 102 l2.toNatClampNeg).toInt ≤ 60 := ra_102 (m := m) hV (k := l2.toNatClampNeg) (i_ix (n := 3100) (by omega) (by omega)).2 | have b42 := i_bd (m 102 l2.toNatClampNeg)
            first | have e43 : ((m 102 l2.toNatClampNeg) + (1 : Int32)).toInt = (m 102 l2.toNatClampNeg).toInt + (1) := i_addk rfl (by omega) (by omega) | have b44 := i_bd ((m 102 l2.toNatClampNeg) + (1 : Int32))
            first | have e45 : (l1 + ((m 102 l2.toNatClampNeg) + (1 : Int32))).toInt = l1.toInt + ((m 102 l2.toNatClampNeg) + (1 : Int32)).toInt := i_add (by omega) (by omega) | have b46 := i_bd (l1 + ((m 102 l2.toNatClampNeg) + (1 : Int32)))
            first | have e47 : (l2 + (1 : Int32)).toInt = l2.toInt + (1) := i_addk rfl (by omega) (by omega) | have b48 := i_bd (l2 + (1 : Int32))
            exact IH (3100 - (l2 + (1 : Int32)).toInt).toNat (by omega) _ ((l1 + ((m 102 l2.toNatClampNeg) + (1 : Int32)))) ((l2 + (1 : Int32))) rfl hF hV (by omega) (by omega) (by omega) (by omega) (show (l1 + ((m 102 l2.toNatClampNeg) + (1 : Int32))).toInt = sm (zbG (m 99) (m 103) (m 94 14) (m 104) (m 94 15)) (m 102) (l2 + (1 : Int32)).toNatClampNeg from by first | (exact sm_add r_SG (decide_eq_true ⟨by assumption, by omega, by assumption⟩) (tn_succ (by omega) (by omega)) (by omega)) | (exact sm_skip r_SG (decide_eq_false (fun z => by obtain ⟨z1, z2, z3⟩ := z; first | exact z1 (by assumption) | (exfalso; omega) | exact absurd z3 (by assumption))) (tn_succ (by omega) (by omega))) | (exact rfl) | (exfalso; omega; done) | (exfalso; contradiction; done))
          · skip
            have g49 := i_ne h37
            have b50 := i_bd l1
            first | have e51 : (l2 + (1 : Int32)).toInt = l2.toInt + (1) := i_addk rfl (by omega) (by omega) | have b52 := i_bd (l2 + (1 : Int32))
            exact IH (3100 - (l2 + (1 : Int32)).toInt).toNat (by omega) _ (l1) ((l2 + (1 : Int32))) rfl hF hV (by omega) (by omega) (by omega) (by omega) (show l1.toInt = sm (zbG (m 99) (m 103) (m 94 14) (m 104) (m 94 15)) (m 102) (l2 + (1 : Int32)).toNatClampNeg from by first | (exact sm_add r_SG (decide_eq_true ⟨by assumption, by omega, by assumption⟩) (tn_succ (by omega) (by omega)) (by omega)) | (exact sm_skip r_SG (decide_eq_false (fun z => by obtain ⟨z1, z2, z3⟩ := z; first | exact z1 (by assumption) | (exfalso; omega) | exact absurd z3 (by assumption))) (tn_succ (by omega) (by omega))) | (exact rfl) | (exfalso; omega; done) | (exfalso; contradiction; done))
        · skip
          have g53 := i_nle h30
          have b54 := i_bd l1
          first | have e55 : (l2 + (1 : Int32)).toInt = l2.toInt + (1) := i_addk rfl (by omega) (by omega) | have b56 := i_bd (l2 + (1 : Int32))
          exact IH (3100 - (l2 + (1 : Int32)).toInt).toNat (by omega) _ (l1) ((l2 + (1 : Int32))) rfl hF hV (by omega) (by omega) (by omega) (by omega) (show l1.toInt = sm (zbG (m 99) (m 103) (m 94 14) (m 104) (m 94 15)) (m 102) (l2 + (1 : Int32)).toNatClampNeg from by first | (exact sm_add r_SG (decide_eq_true ⟨by assumption, by omega, by assumption⟩) (tn_succ (by omega) (by omega)) (by omega)) | (exact sm_skip r_SG (decide_eq_false (fun z => by obtain ⟨z1, z2, z3⟩ := z; first | exact z1 (by assumption) | (exfalso; omega) | exact absurd z3 (by assumption))) (tn_succ (by omega) (by omega))) | (exact rfl) | (exfalso; omega; done) | (exfalso; contradiction; done))
theorem sp_215 {X : Nat × (Nat → Int32)} {P : Option ma_V → (Nat → Nat → Int32) → Prop} {m : Nat → Nat → Int32}  (hV : zV m)  (KZ : ∀ v m', zV (zov wr_215 m m') → (v = 0 ∨ v = 1) → (v.toInt = 1 ∨ (m 94 60).toInt + sm (zbG (m 99) (m 103) (m 94 14) (m 104) (m 94 15)) (m 102) 3100 ≤ (m 94 14).toInt) → P (some (.inl v)) (zov wr_215 m m')) : zm X 1 21 215 0 [(0, .inr (.inr (some 94)))] m P := by
  have K : ∀ v m', zF wr_215 m m' → zV m' → (v = 0 ∨ v = 1) → (v.toInt = 1 ∨ (m' 94 60).toInt + sm (zbG (m' 99) (m' 103) (m' 94 14) (m' 104) (m' 94 15)) (m' 102) 3100 ≤ (m' 94 14).toInt) → P (some (.inl v)) m' := by
    intro v m' hf z q0 q1
    have e := zov_eq hf
    rw [e] at z ⊢
    try rw [e] at q0
    try rw [e] at q1
    exact KZ v m' z q0 q1
  refine g_215_0  ?_
  have li1 : (0 : Int32).toInt = 0 := rfl
  exact lp_215_4 hV K _ _ ((0 : Int32)) ((0 : Int32)) rfl zF_rfl hV (by omega) (by omega) (by omega) (by omega) (show (0 : Int32).toInt = sm (zbG (m 99) (m 103) (m 94 14) (m 104) (m 94 15)) (m 102) (0 : Int32).toNatClampNeg from by first | (exact rfl) | (exfalso; omega; done) | (exfalso; contradiction; done))
