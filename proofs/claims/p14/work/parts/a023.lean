/-! from 94.413 -/
/-! the reference (written by wip/tools/gen94m.py) -/
set_option maxRecDepth 100000 in
theorem hm_195 : ma_md 195 = some (12, yX12_wisher, cX12_wisher, 5, (some (FieldType.int))) := rfl
set_option maxRecDepth 100000 in
theorem hm_196 : ma_md 196 = some (12, yX12_isOld, cX12_isOld, 2, (some (FieldType.boolean))) := rfl
theorem s_103 : zs 103 = some (20, 3100) := rfl
theorem s_109 : zs 109 = some (22, 3100) := rfl
theorem r_94_35 : zfi 94 35 = some 103 := rfl
theorem r_94_41 : zfi 94 41 = some 109 := rfl
theorem f_12_40_12 : ma_fld 12 40 12 = some 35 := by decide +kernel
theorem f_12_59_12 : ma_fld 12 59 12 = some 41 := by decide +kernel
theorem f_12_210_12 : ma_fld 12 210 12 = some 14 := by decide +kernel
theorem v_12_314_12 : ma_vl 12 314 12 = some (1, 196, 1) := by decide +kernel
theorem dX12_wisher_0 : decode cX12_wisher 0 = .ok (.iconst (-1), 1) := by decide +kernel
theorem dX12_wisher_1 : decode cX12_wisher 1 = .ok (.istore_n 3, 1) := by decide +kernel
theorem dX12_wisher_2 : decode cX12_wisher 2 = .ok (.iconst 0, 1) := by decide +kernel
theorem dX12_wisher_3 : decode cX12_wisher 3 = .ok (.istore 4, 2) := by decide +kernel
theorem dX12_wisher_5 : decode cX12_wisher 5 = .ok (.iload 4, 2) := by decide +kernel
theorem dX12_wisher_7 : decode cX12_wisher 7 = .ok (.sipush 3100, 3) := by decide +kernel
theorem dX12_wisher_99 : decode cX12_wisher 99 = .ok (.iload_n 3, 1) := by decide +kernel
theorem dX12_wisher_100 : decode cX12_wisher 100 = .ok (.ireturn, 1) := by decide +kernel
theorem dX12_wisher_13 : decode cX12_wisher 13 = .ok (.aload_n 0, 1) := by decide +kernel
theorem dX12_wisher_17 : decode cX12_wisher 17 = .ok (.iload 4, 2) := by decide +kernel
theorem dX12_wisher_93 : decode cX12_wisher 93 = .ok (.iinc 4 1, 3) := by decide +kernel
theorem dX12_wisher_96 : decode cX12_wisher 96 = .ok (.goto (-91), 3) := by decide +kernel
theorem dX12_wisher_23 : decode cX12_wisher 23 = .ok (.aload_n 0, 1) := by decide +kernel
theorem dX12_wisher_27 : decode cX12_wisher 27 = .ok (.iload 4, 2) := by decide +kernel
theorem dX12_wisher_33 : decode cX12_wisher 33 = .ok (.aload_n 0, 1) := by decide +kernel
theorem dX12_wisher_37 : decode cX12_wisher 37 = .ok (.iload 4, 2) := by decide +kernel
theorem dX12_wisher_43 : decode cX12_wisher 43 = .ok (.aload_n 0, 1) := by decide +kernel
theorem dX12_wisher_47 : decode cX12_wisher 47 = .ok (.iload 4, 2) := by decide +kernel
theorem dX12_wisher_50 : decode cX12_wisher 50 = .ok (.iload_n 1, 1) := by decide +kernel
theorem dX12_wisher_54 : decode cX12_wisher 54 = .ok (.iload_n 2, 1) := by decide +kernel
theorem dX12_wisher_70 : decode cX12_wisher 70 = .ok (.iload_n 3, 1) := by decide +kernel
theorem dX12_wisher_90 : decode cX12_wisher 90 = .ok (.iload 4, 2) := by decide +kernel
theorem dX12_wisher_92 : decode cX12_wisher 92 = .ok (.istore_n 3, 1) := by decide +kernel
theorem dX12_wisher_74 : decode cX12_wisher 74 = .ok (.aload_n 0, 1) := by decide +kernel
theorem dX12_wisher_78 : decode cX12_wisher 78 = .ok (.iload 4, 2) := by decide +kernel
theorem dX12_wisher_81 : decode cX12_wisher 81 = .ok (.aload_n 0, 1) := by decide +kernel
theorem dX12_wisher_85 : decode cX12_wisher 85 = .ok (.iload_n 3, 1) := by decide +kernel
theorem dX12_wisher_87 : decode cX12_wisher 87 = .ok (.if_icmp .ge 6, 3) := by decide +kernel
theorem dX12_wisher_86 : decode cX12_wisher 86 = .ok (.iaload, 1) := by decide +kernel
theorem dX12_wisher_82 : decode cX12_wisher 82 = .ok (.getfield 31, 3) := by decide +kernel
theorem dX12_wisher_80 : decode cX12_wisher 80 = .ok (.iaload, 1) := by decide +kernel
theorem dX12_wisher_75 : decode cX12_wisher 75 = .ok (.getfield 31, 3) := by decide +kernel
theorem dX12_wisher_71 : decode cX12_wisher 71 = .ok (.ifCond .lt 19, 3) := by decide +kernel
theorem dX12_wisher_58 : decode cX12_wisher 58 = .ok (.aload_n 0, 1) := by decide +kernel
theorem dX12_wisher_59 : decode cX12_wisher 59 = .ok (.iload 4, 2) := by decide +kernel
theorem dX12_wisher_61 : decode cX12_wisher 61 = .ok (.invokevirtual 314, 3) := by decide +kernel
theorem dX12_isOld_0 : decode cX12_isOld 0 = .ok (.aload_n 0, 1) := by decide +kernel
theorem dX12_isOld_4 : decode cX12_isOld 4 = .ok (.iload_n 1, 1) := by decide +kernel
theorem dX12_isOld_6 : decode cX12_isOld 6 = .ok (.aload_n 0, 1) := by decide +kernel
theorem dX12_isOld_17 : decode cX12_isOld 17 = .ok (.iconst 0, 1) := by decide +kernel
theorem dX12_wisher_64 : decode cX12_wisher 64 = .ok (.ifCond .eq 6, 3) := by decide +kernel
theorem dX12_isOld_18 : decode cX12_isOld 18 = .ok (.ireturn, 1) := by decide +kernel
theorem dX12_isOld_13 : decode cX12_isOld 13 = .ok (.iconst 1, 1) := by decide +kernel
theorem dX12_isOld_14 : decode cX12_isOld 14 = .ok (.goto 4, 3) := by decide +kernel
theorem dX12_wisher_67 : decode cX12_wisher 67 = .ok (.goto 26, 3) := by decide +kernel
theorem dX12_isOld_10 : decode cX12_isOld 10 = .ok (.if_icmp .ge 7, 3) := by decide +kernel
theorem dX12_isOld_7 : decode cX12_isOld 7 = .ok (.getfield 210, 3) := by decide +kernel
theorem dX12_isOld_5 : decode cX12_isOld 5 = .ok (.iaload, 1) := by decide +kernel
theorem dX12_isOld_1 : decode cX12_isOld 1 = .ok (.getfield 40, 3) := by decide +kernel
theorem dX12_wisher_55 : decode cX12_wisher 55 = .ok (.ifCond .eq 15, 3) := by decide +kernel
theorem dX12_wisher_51 : decode cX12_wisher 51 = .ok (.if_icmp .le 42, 3) := by decide +kernel
theorem dX12_wisher_49 : decode cX12_wisher 49 = .ok (.iaload, 1) := by decide +kernel
theorem dX12_wisher_44 : decode cX12_wisher 44 = .ok (.getfield 31, 3) := by decide +kernel
theorem dX12_wisher_40 : decode cX12_wisher 40 = .ok (.ifCond .eq 53, 3) := by decide +kernel
theorem dX12_wisher_39 : decode cX12_wisher 39 = .ok (.baload, 1) := by decide +kernel
theorem dX12_wisher_34 : decode cX12_wisher 34 = .ok (.getfield 59, 3) := by decide +kernel
theorem dX12_wisher_30 : decode cX12_wisher 30 = .ok (.ifCond .ne 63, 3) := by decide +kernel
theorem dX12_wisher_29 : decode cX12_wisher 29 = .ok (.baload, 1) := by decide +kernel
theorem dX12_wisher_24 : decode cX12_wisher 24 = .ok (.getfield 62, 3) := by decide +kernel
theorem dX12_wisher_20 : decode cX12_wisher 20 = .ok (.ifCond .eq 73, 3) := by decide +kernel
theorem dX12_wisher_19 : decode cX12_wisher 19 = .ok (.baload, 1) := by decide +kernel
theorem dX12_wisher_14 : decode cX12_wisher 14 = .ok (.getfield 27, 3) := by decide +kernel
theorem dX12_wisher_10 : decode cX12_wisher 10 = .ok (.if_icmp .ge 89, 3) := by decide +kernel
def wr_195 (_ _ : Nat) : Bool := false
theorem g_195_0 {X : Nat × (Nat → Int32)} {m : Nat → Nat → Int32} {P : Option ma_V → (Nat → Nat → Int32) → Prop} (ab : Int32) (yo : Int32) (h : zm X 1 21 195 5 [(0, .inr (.inr (some 94))), (1, .inl ab), (2, .inl yo), (3, .inl (-1 : Int32)), (4, .inl (0 : Int32))] m P) : zm X 1 21 195 0 [(0, .inr (.inr (some 94))), (1, .inl ab), (2, .inl yo)] m P := by
  intro d w S Q hd hw hS hm HQ
  subst hm
  refine zw_push hm_195 dX12_wisher_0 (v := .inl (-1 : Int32)) rfl ?_
  refine zw_sto hm_195 dX12_wisher_1 [(3, .inl (-1 : Int32)), (0, .inr (.inr (some 94))), (1, .inl ab), (2, .inl yo)] rfl rfl rfl ?_
  refine zw_push hm_195 dX12_wisher_2 (v := .inl (0 : Int32)) rfl ?_
  refine zw_sto hm_195 dX12_wisher_3 [(4, .inl (0 : Int32)), (3, .inl (-1 : Int32)), (0, .inr (.inr (some 94))), (1, .inl ab), (2, .inl yo)] rfl rfl rfl ?_
  exact zw_sub (ma_nd_of (ks := [0, 1, 2, 3, 4]) rfl (by decide)) (ma_nd_of (ks := [4, 3, 0, 1, 2]) rfl (by decide)) (ma_le_cons rfl (ma_le_cons rfl (ma_le_cons rfl (ma_le_cons rfl (ma_le_cons rfl (ma_le_nil _)))))) (h d w _ Q (by omega) (by omega) hS rfl HQ)
theorem g_195_5 {X : Nat × (Nat → Int32)} {m : Nat → Nat → Int32} {P : Option ma_V → (Nat → Nat → Int32) → Prop} (l1 : Int32) (l2 : Int32) (l3 : Int32) (l4 : Int32) (h : if (3100 : Int32) ≤ l4 then (P (some (.inl l3)) m) else ((0 ≤ l4 ∧ l4.toNatClampNeg < 3100) ∧ (if (m 99 l4.toNatClampNeg) = 0 then (zm X 1 21 195 5 [(0, .inr (.inr (some 94))), (1, .inl l1), (2, .inl l2), (3, .inl l3), (4, .inl (l4 + (1 : Int32)))] m P) else ((0 ≤ l4 ∧ l4.toNatClampNeg < 3100) ∧ (if (m 110 l4.toNatClampNeg) = 0 then ((0 ≤ l4 ∧ l4.toNatClampNeg < 3100) ∧ (if (m 109 l4.toNatClampNeg) = 0 then (zm X 1 21 195 5 [(0, .inr (.inr (some 94))), (1, .inl l1), (2, .inl l2), (3, .inl l3), (4, .inl (l4 + (1 : Int32)))] m P) else ((0 ≤ l4 ∧ l4.toNatClampNeg < 3100) ∧ (if (m 100 l4.toNatClampNeg) ≤ l1 then (zm X 1 21 195 5 [(0, .inr (.inr (some 94))), (1, .inl l1), (2, .inl l2), (3, .inl l3), (4, .inl (l4 + (1 : Int32)))] m P) else (if l2 = 0 then (if l3 < 0 then (zm X 1 21 195 5 [(0, .inr (.inr (some 94))), (1, .inl l1), (2, .inl l2), (3, .inl l4), (4, .inl (l4 + (1 : Int32)))] m P) else ((0 ≤ l4 ∧ l4.toNatClampNeg < 3100) ∧ ((0 ≤ l3 ∧ l3.toNatClampNeg < 3100) ∧ (if (m 100 l3.toNatClampNeg) ≤ (m 100 l4.toNatClampNeg) then (zm X 1 21 195 5 [(0, .inr (.inr (some 94))), (1, .inl l1), (2, .inl l2), (3, .inl l3), (4, .inl (l4 + (1 : Int32)))] m P) else (zm X 1 21 195 5 [(0, .inr (.inr (some 94))), (1, .inl l1), (2, .inl l2), (3, .inl l4), (4, .inl (l4 + (1 : Int32)))] m P))))) else ((0 ≤ l4 ∧ l4.toNatClampNeg < 3100) ∧ (if (m 94 14) ≤ (m 103 l4.toNatClampNeg) then (if l3 < 0 then (zm X 1 21 195 5 [(0, .inr (.inr (some 94))), (1, .inl l1), (2, .inl l2), (3, .inl l4), (4, .inl (l4 + (1 : Int32)))] m P) else ((0 ≤ l4 ∧ l4.toNatClampNeg < 3100) ∧ ((0 ≤ l3 ∧ l3.toNatClampNeg < 3100) ∧ (if (m 100 l3.toNatClampNeg) ≤ (m 100 l4.toNatClampNeg) then (zm X 1 21 195 5 [(0, .inr (.inr (some 94))), (1, .inl l1), (2, .inl l2), (3, .inl l3), (4, .inl (l4 + (1 : Int32)))] m P) else (zm X 1 21 195 5 [(0, .inr (.inr (some 94))), (1, .inl l1), (2, .inl l2), (3, .inl l4), (4, .inl (l4 + (1 : Int32)))] m P))))) else (zm X 1 21 195 5 [(0, .inr (.inr (some 94))), (1, .inl l1), (2, .inl l2), (3, .inl l3), (4, .inl (l4 + (1 : Int32)))] m P)))))))) else (zm X 1 21 195 5 [(0, .inr (.inr (some 94))), (1, .inl l1), (2, .inl l2), (3, .inl l3), (4, .inl (l4 + (1 : Int32)))] m P)))))) : zm X 1 21 195 5 [(0, .inr (.inr (some 94))), (1, .inl l1), (2, .inl l2), (3, .inl l3), (4, .inl l4)] m P := by
  intro d w S Q hd hw hS hm HQ
  subst hm
  refine zw_push hm_195 dX12_wisher_5 (v := .inl l4) rfl ?_
  refine zw_push hm_195 dX12_wisher_7 (v := .inl (3100 : Int32)) rfl ?_
  refine zw_if2 hm_195 dX12_wisher_10 (t := 99) rfl zc2_ge ?_ ?_
  · intro hc
    rw [if_pos hc] at h
    refine zw_push hm_195 dX12_wisher_99 (v := .inl l3) rfl ?_
    exact zw_iret hm_195 dX12_wisher_100 (HQ _ _ h)
  · intro hc
    rw [if_neg hc] at h
    refine zw_push hm_195 dX12_wisher_13 (v := .inr (.inr (some 94))) rfl ?_
    refine zw_gf hm_195 dX12_wisher_14 (v := .inr (.inr (some 99))) (zT_is hS s_94) (zT_t hS s_94) rfl f_12_27_12 (zT_f hS r_94_31) ?_
    refine zw_push hm_195 dX12_wisher_17 (v := .inl l4) rfl ?_
    obtain ⟨hg, h⟩ := h
    refine zw_ba hm_195 dX12_wisher_19 (zT_is hS s_99) (zT_h hS s_99) rfl rfl hg ?_
    show ma_wp X d w 195 20 [(0, .inr (.inr (some 94))), (1, .inl l1), (2, .inl l2), (3, .inl l3), (4, .inl l4)] [.inl ((mI S) 99 l4.toNatClampNeg)] S _
    refine zw_if0 hm_195 dX12_wisher_20 (t := 93) rfl zc0_eq ?_ ?_
    · intro hc
      rw [if_pos hc] at h
      refine zw_sto hm_195 dX12_wisher_93 [(4, .inl (l4 + (1 : Int32))), (0, .inr (.inr (some 94))), (1, .inl l1), (2, .inl l2), (3, .inl l3)] rfl rfl rfl ?_
      refine zw_goto hm_195 dX12_wisher_96 (t := 5) rfl ?_
      exact zw_sub (ma_nd_of (ks := [0, 1, 2, 3, 4]) rfl (by decide)) (ma_nd_of (ks := [4, 0, 1, 2, 3]) rfl (by decide)) (ma_le_cons rfl (ma_le_cons rfl (ma_le_cons rfl (ma_le_cons rfl (ma_le_cons rfl (ma_le_nil _)))))) (h d w _ Q (by omega) (by omega) hS rfl HQ)
    · intro hc
      rw [if_neg hc] at h
      refine zw_push hm_195 dX12_wisher_23 (v := .inr (.inr (some 94))) rfl ?_
      refine zw_gf hm_195 dX12_wisher_24 (v := .inr (.inr (some 110))) (zT_is hS s_94) (zT_t hS s_94) rfl f_12_62_12 (zT_f hS r_94_42) ?_
      refine zw_push hm_195 dX12_wisher_27 (v := .inl l4) rfl ?_
      obtain ⟨hg, h⟩ := h
      refine zw_ba hm_195 dX12_wisher_29 (zT_is hS s_110) (zT_h hS s_110) rfl rfl hg ?_
      show ma_wp X d w 195 30 [(0, .inr (.inr (some 94))), (1, .inl l1), (2, .inl l2), (3, .inl l3), (4, .inl l4)] [.inl ((mI S) 110 l4.toNatClampNeg)] S _
      refine zw_if0 hm_195 dX12_wisher_30 (t := 93) rfl zc0_ne ?_ ?_
      · intro hc
        rw [if_neg hc] at h
        refine zw_sto hm_195 dX12_wisher_93 [(4, .inl (l4 + (1 : Int32))), (0, .inr (.inr (some 94))), (1, .inl l1), (2, .inl l2), (3, .inl l3)] rfl rfl rfl ?_
        refine zw_goto hm_195 dX12_wisher_96 (t := 5) rfl ?_
        exact zw_sub (ma_nd_of (ks := [0, 1, 2, 3, 4]) rfl (by decide)) (ma_nd_of (ks := [4, 0, 1, 2, 3]) rfl (by decide)) (ma_le_cons rfl (ma_le_cons rfl (ma_le_cons rfl (ma_le_cons rfl (ma_le_cons rfl (ma_le_nil _)))))) (h d w _ Q (by omega) (by omega) hS rfl HQ)
      · intro hc
        rw [if_pos (Classical.not_not.mp hc)] at h
        refine zw_push hm_195 dX12_wisher_33 (v := .inr (.inr (some 94))) rfl ?_
        refine zw_gf hm_195 dX12_wisher_34 (v := .inr (.inr (some 109))) (zT_is hS s_94) (zT_t hS s_94) rfl f_12_59_12 (zT_f hS r_94_41) ?_
        refine zw_push hm_195 dX12_wisher_37 (v := .inl l4) rfl ?_
        obtain ⟨hg, h⟩ := h
        refine zw_ba hm_195 dX12_wisher_39 (zT_is hS s_109) (zT_h hS s_109) rfl rfl hg ?_
        show ma_wp X d w 195 40 [(0, .inr (.inr (some 94))), (1, .inl l1), (2, .inl l2), (3, .inl l3), (4, .inl l4)] [.inl ((mI S) 109 l4.toNatClampNeg)] S _
        refine zw_if0 hm_195 dX12_wisher_40 (t := 93) rfl zc0_eq ?_ ?_
        · intro hc
          rw [if_pos hc] at h
          refine zw_sto hm_195 dX12_wisher_93 [(4, .inl (l4 + (1 : Int32))), (0, .inr (.inr (some 94))), (1, .inl l1), (2, .inl l2), (3, .inl l3)] rfl rfl rfl ?_
          refine zw_goto hm_195 dX12_wisher_96 (t := 5) rfl ?_
          exact zw_sub (ma_nd_of (ks := [0, 1, 2, 3, 4]) rfl (by decide)) (ma_nd_of (ks := [4, 0, 1, 2, 3]) rfl (by decide)) (ma_le_cons rfl (ma_le_cons rfl (ma_le_cons rfl (ma_le_cons rfl (ma_le_cons rfl (ma_le_nil _)))))) (h d w _ Q (by omega) (by omega) hS rfl HQ)
        · intro hc
          rw [if_neg hc] at h
          refine zw_push hm_195 dX12_wisher_43 (v := .inr (.inr (some 94))) rfl ?_
          refine zw_gf hm_195 dX12_wisher_44 (v := .inr (.inr (some 100))) (zT_is hS s_94) (zT_t hS s_94) rfl f_12_31_12 (zT_f hS r_94_32) ?_
          refine zw_push hm_195 dX12_wisher_47 (v := .inl l4) rfl ?_
          obtain ⟨hg, h⟩ := h
          refine zw_ia hm_195 dX12_wisher_49 (zT_is hS s_100) (zT_h hS s_100) rfl hg ?_
          show ma_wp X d w 195 50 [(0, .inr (.inr (some 94))), (1, .inl l1), (2, .inl l2), (3, .inl l3), (4, .inl l4)] [.inl ((mI S) 100 l4.toNatClampNeg)] S _
          refine zw_push hm_195 dX12_wisher_50 (v := .inl l1) rfl ?_
          refine zw_if2 hm_195 dX12_wisher_51 (t := 93) rfl zc2_le ?_ ?_
          · intro hc
            rw [if_pos hc] at h
            refine zw_sto hm_195 dX12_wisher_93 [(4, .inl (l4 + (1 : Int32))), (0, .inr (.inr (some 94))), (1, .inl l1), (2, .inl l2), (3, .inl l3)] rfl rfl rfl ?_
            refine zw_goto hm_195 dX12_wisher_96 (t := 5) rfl ?_
            exact zw_sub (ma_nd_of (ks := [0, 1, 2, 3, 4]) rfl (by decide)) (ma_nd_of (ks := [4, 0, 1, 2, 3]) rfl (by decide)) (ma_le_cons rfl (ma_le_cons rfl (ma_le_cons rfl (ma_le_cons rfl (ma_le_cons rfl (ma_le_nil _)))))) (h d w _ Q (by omega) (by omega) hS rfl HQ)
          · intro hc
            rw [if_neg hc] at h
            refine zw_push hm_195 dX12_wisher_54 (v := .inl l2) rfl ?_
            refine zw_if0 hm_195 dX12_wisher_55 (t := 70) rfl zc0_eq ?_ ?_
            · intro hc
              rw [if_pos hc] at h
              refine zw_push hm_195 dX12_wisher_70 (v := .inl l3) rfl ?_
              refine zw_if0 hm_195 dX12_wisher_71 (t := 90) rfl zc0_lt ?_ ?_
              · intro hc
                rw [if_pos hc] at h
                refine zw_push hm_195 dX12_wisher_90 (v := .inl l4) rfl ?_
                refine zw_sto hm_195 dX12_wisher_92 [(3, .inl l4), (0, .inr (.inr (some 94))), (1, .inl l1), (2, .inl l2), (4, .inl l4)] rfl rfl rfl ?_
                refine zw_sto hm_195 dX12_wisher_93 [(4, .inl (l4 + (1 : Int32))), (3, .inl l4), (0, .inr (.inr (some 94))), (1, .inl l1), (2, .inl l2)] rfl rfl rfl ?_
                refine zw_goto hm_195 dX12_wisher_96 (t := 5) rfl ?_
                exact zw_sub (ma_nd_of (ks := [0, 1, 2, 3, 4]) rfl (by decide)) (ma_nd_of (ks := [4, 3, 0, 1, 2]) rfl (by decide)) (ma_le_cons rfl (ma_le_cons rfl (ma_le_cons rfl (ma_le_cons rfl (ma_le_cons rfl (ma_le_nil _)))))) (h d w _ Q (by omega) (by omega) hS rfl HQ)
              · intro hc
                rw [if_neg hc] at h
                refine zw_push hm_195 dX12_wisher_74 (v := .inr (.inr (some 94))) rfl ?_
                refine zw_gf hm_195 dX12_wisher_75 (v := .inr (.inr (some 100))) (zT_is hS s_94) (zT_t hS s_94) rfl f_12_31_12 (zT_f hS r_94_32) ?_
                refine zw_push hm_195 dX12_wisher_78 (v := .inl l4) rfl ?_
                obtain ⟨hg, h⟩ := h
                refine zw_ia hm_195 dX12_wisher_80 (zT_is hS s_100) (zT_h hS s_100) rfl hg ?_
                show ma_wp X d w 195 81 [(0, .inr (.inr (some 94))), (1, .inl l1), (2, .inl l2), (3, .inl l3), (4, .inl l4)] [.inl ((mI S) 100 l4.toNatClampNeg)] S _
                refine zw_push hm_195 dX12_wisher_81 (v := .inr (.inr (some 94))) rfl ?_
                refine zw_gf hm_195 dX12_wisher_82 (v := .inr (.inr (some 100))) (zT_is hS s_94) (zT_t hS s_94) rfl f_12_31_12 (zT_f hS r_94_32) ?_
                refine zw_push hm_195 dX12_wisher_85 (v := .inl l3) rfl ?_
                obtain ⟨hg, h⟩ := h
                refine zw_ia hm_195 dX12_wisher_86 (zT_is hS s_100) (zT_h hS s_100) rfl hg ?_
                show ma_wp X d w 195 87 [(0, .inr (.inr (some 94))), (1, .inl l1), (2, .inl l2), (3, .inl l3), (4, .inl l4)] [.inl ((mI S) 100 l3.toNatClampNeg), .inl ((mI S) 100 l4.toNatClampNeg)] S _
                refine zw_if2 hm_195 dX12_wisher_87 (t := 93) rfl zc2_ge ?_ ?_
                · intro hc
                  rw [if_pos hc] at h
                  refine zw_sto hm_195 dX12_wisher_93 [(4, .inl (l4 + (1 : Int32))), (0, .inr (.inr (some 94))), (1, .inl l1), (2, .inl l2), (3, .inl l3)] rfl rfl rfl ?_
                  refine zw_goto hm_195 dX12_wisher_96 (t := 5) rfl ?_
                  exact zw_sub (ma_nd_of (ks := [0, 1, 2, 3, 4]) rfl (by decide)) (ma_nd_of (ks := [4, 0, 1, 2, 3]) rfl (by decide)) (ma_le_cons rfl (ma_le_cons rfl (ma_le_cons rfl (ma_le_cons rfl (ma_le_cons rfl (ma_le_nil _)))))) (h d w _ Q (by omega) (by omega) hS rfl HQ)
                · intro hc
                  rw [if_neg hc] at h
                  refine zw_push hm_195 dX12_wisher_90 (v := .inl l4) rfl ?_
                  refine zw_sto hm_195 dX12_wisher_92 [(3, .inl l4), (0, .inr (.inr (some 94))), (1, .inl l1), (2, .inl l2), (4, .inl l4)] rfl rfl rfl ?_
                  refine zw_sto hm_195 dX12_wisher_93 [(4, .inl (l4 + (1 : Int32))), (3, .inl l4), (0, .inr (.inr (some 94))), (1, .inl l1), (2, .inl l2)] rfl rfl rfl ?_
                  refine zw_goto hm_195 dX12_wisher_96 (t := 5) rfl ?_
                  exact zw_sub (ma_nd_of (ks := [0, 1, 2, 3, 4]) rfl (by decide)) (ma_nd_of (ks := [4, 3, 0, 1, 2]) rfl (by decide)) (ma_le_cons rfl (ma_le_cons rfl (ma_le_cons rfl (ma_le_cons rfl (ma_le_cons rfl (ma_le_nil _)))))) (h d w _ Q (by omega) (by omega) hS rfl HQ)
            · intro hc
              rw [if_neg hc] at h
              refine zw_push hm_195 dX12_wisher_58 (v := .inr (.inr (some 94))) rfl ?_
              refine zw_push hm_195 dX12_wisher_59 (v := .inl l4) rfl ?_
              refine zw_cv hm_195 dX12_wisher_61 v_12_314_12 hm_196 [.inl l4] [] rfl (zT_rt hS s_94 rfl) ⟨by omega, by omega⟩ rfl ?_
              show ma_wp X (d - 1) (w - 21) 196 0 [(0, .inr (.inr (some 94))), (1, .inl l4)] [] S _
              refine zw_push hm_196 dX12_isOld_0 (v := .inr (.inr (some 94))) rfl ?_
              refine zw_gf hm_196 dX12_isOld_1 (v := .inr (.inr (some 103))) (zT_is hS s_94) (zT_t hS s_94) rfl f_12_40_12 (zT_f hS r_94_35) ?_
              refine zw_push hm_196 dX12_isOld_4 (v := .inl l4) rfl ?_
              obtain ⟨hg, h⟩ := h
              refine zw_ia hm_196 dX12_isOld_5 (zT_is hS s_103) (zT_h hS s_103) rfl hg ?_
              show ma_wp X (d - 1) (w - 21) 196 6 [(0, .inr (.inr (some 94))), (1, .inl l4)] [.inl ((mI S) 103 l4.toNatClampNeg)] S _
              refine zw_push hm_196 dX12_isOld_6 (v := .inr (.inr (some 94))) rfl ?_
              refine zw_gf hm_196 dX12_isOld_7 (v := .inl ((mI S) 94 14)) (zT_is hS s_94) (zT_t hS s_94) rfl f_12_210_12 rfl ?_
              refine zw_if2 hm_196 dX12_isOld_10 (t := 17) rfl zc2_ge ?_ ?_
              · intro hc
                rw [if_pos hc] at h
                refine zw_push hm_196 dX12_isOld_17 (v := .inl (0 : Int32)) rfl ?_
                refine zw_bret hm_196 dX12_isOld_18 (by decide) ?_
                show ma_wp X d w 195 64 [(0, .inr (.inr (some 94))), (1, .inl l1), (2, .inl l2), (3, .inl l3), (4, .inl l4)] [.inl (0 : Int32)] S _
                refine zw_if0 hm_195 dX12_wisher_64 (t := 70) rfl zc0_eq (fun _ => ?_) (fun hc => absurd (by decide) hc)
                refine zw_push hm_195 dX12_wisher_70 (v := .inl l3) rfl ?_
                refine zw_if0 hm_195 dX12_wisher_71 (t := 90) rfl zc0_lt ?_ ?_
                · intro hc
                  rw [if_pos hc] at h
                  refine zw_push hm_195 dX12_wisher_90 (v := .inl l4) rfl ?_
                  refine zw_sto hm_195 dX12_wisher_92 [(3, .inl l4), (0, .inr (.inr (some 94))), (1, .inl l1), (2, .inl l2), (4, .inl l4)] rfl rfl rfl ?_
                  refine zw_sto hm_195 dX12_wisher_93 [(4, .inl (l4 + (1 : Int32))), (3, .inl l4), (0, .inr (.inr (some 94))), (1, .inl l1), (2, .inl l2)] rfl rfl rfl ?_
                  refine zw_goto hm_195 dX12_wisher_96 (t := 5) rfl ?_
                  exact zw_sub (ma_nd_of (ks := [0, 1, 2, 3, 4]) rfl (by decide)) (ma_nd_of (ks := [4, 3, 0, 1, 2]) rfl (by decide)) (ma_le_cons rfl (ma_le_cons rfl (ma_le_cons rfl (ma_le_cons rfl (ma_le_cons rfl (ma_le_nil _)))))) (h d w _ Q (by omega) (by omega) hS rfl HQ)
                · intro hc
                  rw [if_neg hc] at h
                  refine zw_push hm_195 dX12_wisher_74 (v := .inr (.inr (some 94))) rfl ?_
                  refine zw_gf hm_195 dX12_wisher_75 (v := .inr (.inr (some 100))) (zT_is hS s_94) (zT_t hS s_94) rfl f_12_31_12 (zT_f hS r_94_32) ?_
                  refine zw_push hm_195 dX12_wisher_78 (v := .inl l4) rfl ?_
                  obtain ⟨hg, h⟩ := h
                  refine zw_ia hm_195 dX12_wisher_80 (zT_is hS s_100) (zT_h hS s_100) rfl hg ?_
                  show ma_wp X d w 195 81 [(0, .inr (.inr (some 94))), (1, .inl l1), (2, .inl l2), (3, .inl l3), (4, .inl l4)] [.inl ((mI S) 100 l4.toNatClampNeg)] S _
                  refine zw_push hm_195 dX12_wisher_81 (v := .inr (.inr (some 94))) rfl ?_
                  refine zw_gf hm_195 dX12_wisher_82 (v := .inr (.inr (some 100))) (zT_is hS s_94) (zT_t hS s_94) rfl f_12_31_12 (zT_f hS r_94_32) ?_
                  refine zw_push hm_195 dX12_wisher_85 (v := .inl l3) rfl ?_
                  obtain ⟨hg, h⟩ := h
                  refine zw_ia hm_195 dX12_wisher_86 (zT_is hS s_100) (zT_h hS s_100) rfl hg ?_
                  show ma_wp X d w 195 87 [(0, .inr (.inr (some 94))), (1, .inl l1), (2, .inl l2), (3, .inl l3), (4, .inl l4)] [.inl ((mI S) 100 l3.toNatClampNeg), .inl ((mI S) 100 l4.toNatClampNeg)] S _
                  refine zw_if2 hm_195 dX12_wisher_87 (t := 93) rfl zc2_ge ?_ ?_
                  · intro hc
                    rw [if_pos hc] at h
                    refine zw_sto hm_195 dX12_wisher_93 [(4, .inl (l4 + (1 : Int32))), (0, .inr (.inr (some 94))), (1, .inl l1), (2, .inl l2), (3, .inl l3)] rfl rfl rfl ?_
                    refine zw_goto hm_195 dX12_wisher_96 (t := 5) rfl ?_
                    exact zw_sub (ma_nd_of (ks := [0, 1, 2, 3, 4]) rfl (by decide)) (ma_nd_of (ks := [4, 0, 1, 2, 3]) rfl (by decide)) (ma_le_cons rfl (ma_le_cons rfl (ma_le_cons rfl (ma_le_cons rfl (ma_le_cons rfl (ma_le_nil _)))))) (h d w _ Q (by omega) (by omega) hS rfl HQ)
                  · intro hc
                    rw [if_neg hc] at h
                    refine zw_push hm_195 dX12_wisher_90 (v := .inl l4) rfl ?_
                    refine zw_sto hm_195 dX12_wisher_92 [(3, .inl l4), (0, .inr (.inr (some 94))), (1, .inl l1), (2, .inl l2), (4, .inl l4)] rfl rfl rfl ?_
                    refine zw_sto hm_195 dX12_wisher_93 [(4, .inl (l4 + (1 : Int32))), (3, .inl l4), (0, .inr (.inr (some 94))), (1, .inl l1), (2, .inl l2)] rfl rfl rfl ?_
                    refine zw_goto hm_195 dX12_wisher_96 (t := 5) rfl ?_
                    exact zw_sub (ma_nd_of (ks := [0, 1, 2, 3, 4]) rfl (by decide)) (ma_nd_of (ks := [4, 3, 0, 1, 2]) rfl (by decide)) (ma_le_cons rfl (ma_le_cons rfl (ma_le_cons rfl (ma_le_cons rfl (ma_le_cons rfl (ma_le_nil _)))))) (h d w _ Q (by omega) (by omega) hS rfl HQ)
              · intro hc
                rw [if_neg hc] at h
                refine zw_push hm_196 dX12_isOld_13 (v := .inl (1 : Int32)) rfl ?_
                refine zw_goto hm_196 dX12_isOld_14 (t := 18) rfl ?_
                refine zw_bret hm_196 dX12_isOld_18 (by decide) ?_
                show ma_wp X d w 195 64 [(0, .inr (.inr (some 94))), (1, .inl l1), (2, .inl l2), (3, .inl l3), (4, .inl l4)] [.inl (1 : Int32)] S _
                refine zw_if0 hm_195 dX12_wisher_64 (t := 70) rfl zc0_eq (fun hc => absurd hc (by decide)) (fun _ => ?_)
                refine zw_goto hm_195 dX12_wisher_67 (t := 93) rfl ?_
                refine zw_sto hm_195 dX12_wisher_93 [(4, .inl (l4 + (1 : Int32))), (0, .inr (.inr (some 94))), (1, .inl l1), (2, .inl l2), (3, .inl l3)] rfl rfl rfl ?_
                refine zw_goto hm_195 dX12_wisher_96 (t := 5) rfl ?_
                exact zw_sub (ma_nd_of (ks := [0, 1, 2, 3, 4]) rfl (by decide)) (ma_nd_of (ks := [4, 0, 1, 2, 3]) rfl (by decide)) (ma_le_cons rfl (ma_le_cons rfl (ma_le_cons rfl (ma_le_cons rfl (ma_le_cons rfl (ma_le_nil _)))))) (h d w _ Q (by omega) (by omega) hS rfl HQ)
theorem lp_195_5 {X : Nat × (Nat → Int32)} {P : Option ma_V → (Nat → Nat → Int32) → Prop} {ab : Int32} {yo : Int32} {m0 : Nat → Nat → Int32} (h0 : zV m0) (K : ∀ v m₉, zF wr_195 m0 m₉ → zV m₉ → (zWS (m₉ 100) (m₉ 99) (m₉ 110) (m₉ 109) ab v) → P (some (.inl v)) m₉) : ∀ (n : Nat) (m : Nat → Nat → Int32) (l1 : Int32) (l2 : Int32) (l3 : Int32) (l4 : Int32), (3100 - l4.toInt).toNat = n → zF wr_195 m0 m → zV m → (0 ≤ l4.toInt) → (l1.toInt = ab.toInt) → (-1 ≤ l3.toInt) → (l3.toInt ≤ 3099) → (zWS (m 100) (m 99) (m 110) (m 109) ab l3) → zm X 1 21 195 5 [(0, .inr (.inr (some 94))), (1, .inl l1), (2, .inl l2), (3, .inl l3), (4, .inl l4)] m P := by
  intro n
  induction n using Nat.strongRecOn with
  | _ n IH =>
    intro m l1 l2 l3 l4 hmu hF hV hi0 hi1 hi2 hi3 r_WS
    refine g_195_5 l1 l2 l3 l4 ?_
    have li1 : (3100 : Int32).toInt = 3100 := rfl
    have b2 := i_bd l4
    refine zd (fun (h3 : (3100 : Int32) ≤ l4) => ?_) (fun (h3 : ¬ (3100 : Int32) ≤ l4) => ?_)
    · skip
      have g4 := i_le h3
      have b5 := i_bd l3
      exact K (l3) _ hF hV r_WS
    · skip
      have g6 := i_nle h3
      have hg7 : (0 ≤ l4 ∧ l4.toNatClampNeg < 3100) := i_ix (by omega) (by omega)
      refine ⟨hg7, ?_⟩
      first | have f8 : 0 ≤ (m 99 l4.toNatClampNeg).toInt ∧ (m 99 l4.toNatClampNeg).toInt ≤ 1 := ra_99 (m := m) hV (k := l4.toNatClampNeg) (i_ix (n := 3100) (by omega) (by omega)).2 | have b9 := i_bd (m 99 l4.toNatClampNeg)
      have li10 : (0 : Int32).toInt = 0 := rfl
      refine zd (fun (h11 : (m 99 l4.toNatClampNeg) = (0 : Int32)) => ?_) (fun (h11 : ¬ (m 99 l4.toNatClampNeg) = (0 : Int32)) => ?_)
      · skip
        have g12 := i_eq h11
        have b13 := i_bd l1
        have b14 := i_bd l2
        have b15 := i_bd l3
        first | have e16 : (l4 + (1 : Int32)).toInt = l4.toInt + (1) := i_addk rfl (by omega) (by omega) | have b17 := i_bd (l4 + (1 : Int32))
        exact IH (3100 - (l4 + (1 : Int32)).toInt).toNat (by omega) _ (l1) (l2) (l3) ((l4 + (1 : Int32))) rfl hF hV (by omega) (by omega) (by omega) (by omega) r_WS
      · skip
        have g18 := i_ne h11
        have hg19 : (0 ≤ l4 ∧ l4.toNatClampNeg < 3100) := i_ix (by omega) (by omega)
        refine ⟨hg19, ?_⟩
        first | have f20 : 0 ≤ (m 110 l4.toNatClampNeg).toInt ∧ (m 110 l4.toNatClampNeg).toInt ≤ 1 := ra_110 (m := m) hV (k := l4.toNatClampNeg) (i_ix (n := 3100) (by omega) (by omega)).2 | have b21 := i_bd (m 110 l4.toNatClampNeg)
        refine zd (fun (h22 : (m 110 l4.toNatClampNeg) = (0 : Int32)) => ?_) (fun (h22 : ¬ (m 110 l4.toNatClampNeg) = (0 : Int32)) => ?_)
        · skip
          have g23 := i_eq h22
          have hg24 : (0 ≤ l4 ∧ l4.toNatClampNeg < 3100) := i_ix (by omega) (by omega)
          refine ⟨hg24, ?_⟩
          first | have f25 : 0 ≤ (m 109 l4.toNatClampNeg).toInt ∧ (m 109 l4.toNatClampNeg).toInt ≤ 1 := ra_109 (m := m) hV (k := l4.toNatClampNeg) (i_ix (n := 3100) (by omega) (by omega)).2 | have b26 := i_bd (m 109 l4.toNatClampNeg)
          refine zd (fun (h27 : (m 109 l4.toNatClampNeg) = (0 : Int32)) => ?_) (fun (h27 : ¬ (m 109 l4.toNatClampNeg) = (0 : Int32)) => ?_)
          · skip
            have g28 := i_eq h27
            have b29 := i_bd l1
            have b30 := i_bd l2
            have b31 := i_bd l3
            first | have e32 : (l4 + (1 : Int32)).toInt = l4.toInt + (1) := i_addk rfl (by omega) (by omega) | have b33 := i_bd (l4 + (1 : Int32))
            exact IH (3100 - (l4 + (1 : Int32)).toInt).toNat (by omega) _ (l1) (l2) (l3) ((l4 + (1 : Int32))) rfl hF hV (by omega) (by omega) (by omega) (by omega) r_WS
          · skip
            have g34 := i_ne h27
            have hg35 : (0 ≤ l4 ∧ l4.toNatClampNeg < 3100) := i_ix (by omega) (by omega)
            refine ⟨hg35, ?_⟩
            first | have f36 : 0 ≤ (m 100 l4.toNatClampNeg).toInt ∧ (m 100 l4.toNatClampNeg).toInt ≤ 100000 := ra_100 (m := m) hV (k := l4.toNatClampNeg) (i_ix (n := 3100) (by omega) (by omega)).2 | have b37 := i_bd (m 100 l4.toNatClampNeg)
            have b38 := i_bd l1
            refine zd (fun (h39 : (m 100 l4.toNatClampNeg) ≤ l1) => ?_) (fun (h39 : ¬ (m 100 l4.toNatClampNeg) ≤ l1) => ?_)
            · skip
              have g40 := i_le h39
              have b41 := i_bd l2
              have b42 := i_bd l3
              first | have e43 : (l4 + (1 : Int32)).toInt = l4.toInt + (1) := i_addk rfl (by omega) (by omega) | have b44 := i_bd (l4 + (1 : Int32))
              exact IH (3100 - (l4 + (1 : Int32)).toInt).toNat (by omega) _ (l1) (l2) (l3) ((l4 + (1 : Int32))) rfl hF hV (by omega) (by omega) (by omega) (by omega) r_WS
            · skip
              have g45 := i_nle h39
              have b46 := i_bd l2
              refine zd (fun (h47 : l2 = (0 : Int32)) => ?_) (fun (h47 : ¬ l2 = (0 : Int32)) => ?_)
              · skip
                have g48 := i_eq h47
                have b49 := i_bd l3
                refine zd (fun (h50 : l3 < (0 : Int32)) => ?_) (fun (h50 : ¬ l3 < (0 : Int32)) => ?_)
                · skip
                  have g51 := i_lt h50
                  first | have e52 : (l4 + (1 : Int32)).toInt = l4.toInt + (1) := i_addk rfl (by omega) (by omega) | have b53 := i_bd (l4 + (1 : Int32))
                  exact IH (3100 - (l4 + (1 : Int32)).toInt).toNat (by omega) _ (l1) (l2) (l4) ((l4 + (1 : Int32))) rfl hF hV (by omega) (by omega) (by omega) (by omega) (show zWS (m 100) (m 99) (m 110) (m 109) ab l4 from by first | (exact Or.inl (by decide)) | (exact Or.inr ⟨by omega, by omega, by assumption, by assumption, by assumption, by omega⟩) | (exfalso; omega; done) | (exfalso; contradiction; done))
                · skip
                  have g54 := i_nlt h50
                  have hg55 : (0 ≤ l4 ∧ l4.toNatClampNeg < 3100) := i_ix (by omega) (by omega)
                  refine ⟨hg55, ?_⟩
                  have hg56 : (0 ≤ l3 ∧ l3.toNatClampNeg < 3100) := i_ix (by omega) (by omega)
                  refine ⟨hg56, ?_⟩
                  first | have f57 : 0 ≤ (m 100 l3.toNatClampNeg).toInt ∧ (m 100 l3.toNatClampNeg).toInt ≤ 100000 := ra_100 (m := m) hV (k := l3.toNatClampNeg) (i_ix (n := 3100) (by omega) (by omega)).2 | have b58 := i_bd (m 100 l3.toNatClampNeg)
                  refine zd (fun (h59 : (m 100 l3.toNatClampNeg) ≤ (m 100 l4.toNatClampNeg)) => ?_) (fun (h59 : ¬ (m 100 l3.toNatClampNeg) ≤ (m 100 l4.toNatClampNeg)) => ?_)
                  · skip
                    have g60 := i_le h59
                    first | have e61 : (l4 + (1 : Int32)).toInt = l4.toInt + (1) := i_addk rfl (by omega) (by omega) | have b62 := i_bd (l4 + (1 : Int32))
                    exact IH (3100 - (l4 + (1 : Int32)).toInt).toNat (by omega) _ (l1) (l2) (l3) ((l4 + (1 : Int32))) rfl hF hV (by omega) (by omega) (by omega) (by omega) r_WS
                  · skip
                    have g63 := i_nle h59
                    first | have e64 : (l4 + (1 : Int32)).toInt = l4.toInt + (1) := i_addk rfl (by omega) (by omega) | have b65 := i_bd (l4 + (1 : Int32))
                    exact IH (3100 - (l4 + (1 : Int32)).toInt).toNat (by omega) _ (l1) (l2) (l4) ((l4 + (1 : Int32))) rfl hF hV (by omega) (by omega) (by omega) (by omega) (show zWS (m 100) (m 99) (m 110) (m 109) ab l4 from by first | (exact Or.inl (by decide)) | (exact Or.inr ⟨by omega, by omega, by assumption, by assumption, by assumption, by omega⟩) | (exfalso; omega; done) | (exfalso; contradiction; done))
              · skip
                have g66 := i_ne h47
                have hg67 : (0 ≤ l4 ∧ l4.toNatClampNeg < 3100) := i_ix (by omega) (by omega)
                refine ⟨hg67, ?_⟩
                have f68 : 0 ≤ (m 94 14).toInt ∧ (m 94 14).toInt ≤ 1500 := rs_94_14 (m := m) hV
                first | have f69 : 0 ≤ (m 103 l4.toNatClampNeg).toInt ∧ (m 103 l4.toNatClampNeg).toInt ≤ 4599 := ra_103 (m := m) hV (k := l4.toNatClampNeg) (i_ix (n := 3100) (by omega) (by omega)).2 | have b70 := i_bd (m 103 l4.toNatClampNeg)
                refine zd (fun (h71 : (m 94 14) ≤ (m 103 l4.toNatClampNeg)) => ?_) (fun (h71 : ¬ (m 94 14) ≤ (m 103 l4.toNatClampNeg)) => ?_)
                · skip
                  have g72 := i_le h71
                  have b73 := i_bd l3
                  refine zd (fun (h74 : l3 < (0 : Int32)) => ?_) (fun (h74 : ¬ l3 < (0 : Int32)) => ?_)
                  · skip
                    have g75 := i_lt h74
                    first | have e76 : (l4 + (1 : Int32)).toInt = l4.toInt + (1) := i_addk rfl (by omega) (by omega) | have b77 := i_bd (l4 + (1 : Int32))
                    exact IH (3100 - (l4 + (1 : Int32)).toInt).toNat (by omega) _ (l1) (l2) (l4) ((l4 + (1 : Int32))) rfl hF hV (by omega) (by omega) (by omega) (by omega) (show zWS (m 100) (m 99) (m 110) (m 109) ab l4 from by first | (exact Or.inl (by decide)) | (exact Or.inr ⟨by omega, by omega, by assumption, by assumption, by assumption, by omega⟩) | (exfalso; omega; done) | (exfalso; contradiction; done))
                  · skip
                    have g78 := i_nlt h74
                    have hg79 : (0 ≤ l4 ∧ l4.toNatClampNeg < 3100) := i_ix (by omega) (by omega)
                    refine ⟨hg79, ?_⟩
                    have hg80 : (0 ≤ l3 ∧ l3.toNatClampNeg < 3100) := i_ix (by omega) (by omega)
                    refine ⟨hg80, ?_⟩
                    first | have f81 : 0 ≤ (m 100 l3.toNatClampNeg).toInt ∧ (m 100 l3.toNatClampNeg).toInt ≤ 100000 := ra_100 (m := m) hV (k := l3.toNatClampNeg) (i_ix (n := 3100) (by omega) (by omega)).2 | have b82 := i_bd (m 100 l3.toNatClampNeg)
                    refine zd (fun (h83 : (m 100 l3.toNatClampNeg) ≤ (m 100 l4.toNatClampNeg)) => ?_) (fun (h83 : ¬ (m 100 l3.toNatClampNeg) ≤ (m 100 l4.toNatClampNeg)) => ?_)
                    · skip
                      have g84 := i_le h83
                      first | have e85 : (l4 + (1 : Int32)).toInt = l4.toInt + (1) := i_addk rfl (by omega) (by omega) | have b86 := i_bd (l4 + (1 : Int32))
                      exact IH (3100 - (l4 + (1 : Int32)).toInt).toNat (by omega) _ (l1) (l2) (l3) ((l4 + (1 : Int32))) rfl hF hV (by omega) (by omega) (by omega) (by omega) r_WS
                    · skip
                      have g87 := i_nle h83
                      first | have e88 : (l4 + (1 : Int32)).toInt = l4.toInt + (1) := i_addk rfl (by omega) (by omega) | have b89 := i_bd (l4 + (1 : Int32))
                      exact IH (3100 - (l4 + (1 : Int32)).toInt).toNat (by omega) _ (l1) (l2) (l4) ((l4 + (1 : Int32))) rfl hF hV (by omega) (by omega) (by omega) (by omega) (show zWS (m 100) (m 99) (m 110) (m 109) ab l4 from by first | (exact Or.inl (by decide)) | (exact Or.inr ⟨by omega, by omega, by assumption, by assumption, by assumption, by omega⟩) | (exfalso; omega; done) | (exfalso; contradiction; done))
                · skip
                  have g90 := i_nle h71
                  have b91 := i_bd l3
                  first | have e92 : (l4 + (1 : Int32)).toInt = l4.toInt + (1) := i_addk rfl (by omega) (by omega) | have b93 := i_bd (l4 + (1 : Int32))
                  exact IH (3100 - (l4 + (1 : Int32)).toInt).toNat (by omega) _ (l1) (l2) (l3) ((l4 + (1 : Int32))) rfl hF hV (by omega) (by omega) (by omega) (by omega) r_WS
        · skip
          have g94 := i_ne h22
          have b95 := i_bd l1
          have b96 := i_bd l2
          have b97 := i_bd l3
          first | have e98 : (l4 + (1 : Int32)).toInt = l4.toInt + (1) := i_addk rfl (by omega) (by omega) | have b99 := i_bd (l4 + (1 : Int32))
          exact IH (3100 - (l4 + (1 : Int32)).toInt).toNat (by omega) _ (l1) (l2) (l3) ((l4 + (1 : Int32))) rfl hF hV (by omega) (by omega) (by omega) (by omega) r_WS
theorem sp_195 {X : Nat × (Nat → Int32)} {P : Option ma_V → (Nat → Nat → Int32) → Prop} {m : Nat → Nat → Int32} (ab : Int32) (yo : Int32) (hV : zV m)  (KZ : ∀ v m₉, zV (zov wr_195 m m₉) → (zWS (m 100) (m 99) (m 110) (m 109) ab v) → P (some (.inl v)) (zov wr_195 m m₉)) : zm X 1 21 195 0 [(0, .inr (.inr (some 94))), (1, .inl ab), (2, .inl yo)] m P := by
  have K : ∀ v m₉, zF wr_195 m m₉ → zV m₉ → (zWS (m₉ 100) (m₉ 99) (m₉ 110) (m₉ 109) ab v) → P (some (.inl v)) m₉ := by
    intro v m₉ hf z q0
    have e := zov_eq hf
    rw [e] at z ⊢
    try rw [e] at q0
    exact KZ v m₉ z q0
  refine g_195_0 ab yo ?_
  have b1 := i_bd ab
  have b2 := i_bd yo
  have li3 : (-1 : Int32).toInt = -1 := rfl
  have li4 : (0 : Int32).toInt = 0 := rfl
  exact lp_195_5 (ab := ab) (yo := yo) hV K _ _ (ab) (yo) ((-1 : Int32)) ((0 : Int32)) rfl zF_rfl hV (by omega) (by omega) (by omega) (by omega) (show zWS (m 100) (m 99) (m 110) (m 109) ab (-1 : Int32) from by first | (exact Or.inl (by decide)) | (exact Or.inr ⟨by omega, by omega, by assumption, by assumption, by assumption, by omega⟩) | (exfalso; omega; done) | (exfalso; contradiction; done))

