/-! from 94.433 -/
/-! the reference (written by wip/tools/gen94m.py) -/
set_option maxRecDepth 100000 in
theorem hm_236 : ma_md 236 = some (12, yX12_sparse, cX12_sparse, 3, (some (FieldType.int))) := rfl
theorem s_122 : zs 122 = some (20, 128) := rfl
theorem s_123 : zs 123 = some (22, 128) := rfl
theorem s_124 : zs 124 = some (22, 128) := rfl
theorem r_94_81 : zfi 94 81 = some 122 := rfl
theorem r_94_82 : zfi 94 82 = some 123 := rfl
theorem r_94_83 : zfi 94 83 = some 124 := rfl
theorem f_12_98_12 : ma_fld 12 98 12 = some 81 := by decide +kernel
theorem f_12_101_12 : ma_fld 12 101 12 = some 82 := by decide +kernel
theorem f_12_104_12 : ma_fld 12 104 12 = some 83 := by decide +kernel
theorem f_12_222_12 : ma_fld 12 222 12 = some 18 := by decide +kernel
theorem f_12_225_12 : ma_fld 12 225 12 = some 19 := by decide +kernel
theorem f_12_285_12 : ma_fld 12 285 12 = some 63 := by decide +kernel
theorem dX12_sparse_0 : decode cX12_sparse 0 = .ok (.iconst (-1), 1) := by decide +kernel
theorem dX12_sparse_1 : decode cX12_sparse 1 = .ok (.istore_n 1, 1) := by decide +kernel
theorem dX12_sparse_2 : decode cX12_sparse 2 = .ok (.iconst 0, 1) := by decide +kernel
theorem dX12_sparse_3 : decode cX12_sparse 3 = .ok (.istore_n 2, 1) := by decide +kernel
theorem dX12_sparse_4 : decode cX12_sparse 4 = .ok (.iload_n 2, 1) := by decide +kernel
theorem dX12_sparse_5 : decode cX12_sparse 5 = .ok (.aload_n 0, 1) := by decide +kernel
theorem dX12_sparse_98 : decode cX12_sparse 98 = .ok (.iload_n 1, 1) := by decide +kernel
theorem dX12_sparse_99 : decode cX12_sparse 99 = .ok (.ireturn, 1) := by decide +kernel
theorem dX12_sparse_12 : decode cX12_sparse 12 = .ok (.aload_n 0, 1) := by decide +kernel
theorem dX12_sparse_16 : decode cX12_sparse 16 = .ok (.iload_n 2, 1) := by decide +kernel
theorem dX12_sparse_92 : decode cX12_sparse 92 = .ok (.iinc 2 1, 3) := by decide +kernel
theorem dX12_sparse_95 : decode cX12_sparse 95 = .ok (.goto (-91), 3) := by decide +kernel
theorem dX12_sparse_21 : decode cX12_sparse 21 = .ok (.aload_n 0, 1) := by decide +kernel
theorem dX12_sparse_25 : decode cX12_sparse 25 = .ok (.iload_n 2, 1) := by decide +kernel
theorem dX12_sparse_30 : decode cX12_sparse 30 = .ok (.iload_n 2, 1) := by decide +kernel
theorem dX12_sparse_31 : decode cX12_sparse 31 = .ok (.aload_n 0, 1) := by decide +kernel
theorem dX12_sparse_38 : decode cX12_sparse 38 = .ok (.aload_n 0, 1) := by decide +kernel
theorem dX12_sparse_42 : decode cX12_sparse 42 = .ok (.iload_n 2, 1) := by decide +kernel
theorem dX12_sparse_47 : decode cX12_sparse 47 = .ok (.aload_n 0, 1) := by decide +kernel
theorem dX12_sparse_51 : decode cX12_sparse 51 = .ok (.iload_n 2, 1) := by decide +kernel
theorem dX12_sparse_53 : decode cX12_sparse 53 = .ok (.bipush 100, 2) := by decide +kernel
theorem dX12_sparse_55 : decode cX12_sparse 55 = .ok (.imul, 1) := by decide +kernel
theorem dX12_sparse_56 : decode cX12_sparse 56 = .ok (.aload_n 0, 1) := by decide +kernel
theorem dX12_sparse_60 : decode cX12_sparse 60 = .ok (.aload_n 0, 1) := by decide +kernel
theorem dX12_sparse_64 : decode cX12_sparse 64 = .ok (.imul, 1) := by decide +kernel
theorem dX12_sparse_71 : decode cX12_sparse 71 = .ok (.iload_n 1, 1) := by decide +kernel
theorem dX12_sparse_90 : decode cX12_sparse 90 = .ok (.iload_n 2, 1) := by decide +kernel
theorem dX12_sparse_91 : decode cX12_sparse 91 = .ok (.istore_n 1, 1) := by decide +kernel
theorem dX12_sparse_75 : decode cX12_sparse 75 = .ok (.aload_n 0, 1) := by decide +kernel
theorem dX12_sparse_79 : decode cX12_sparse 79 = .ok (.iload_n 2, 1) := by decide +kernel
theorem dX12_sparse_81 : decode cX12_sparse 81 = .ok (.aload_n 0, 1) := by decide +kernel
theorem dX12_sparse_85 : decode cX12_sparse 85 = .ok (.iload_n 1, 1) := by decide +kernel
theorem dX12_sparse_87 : decode cX12_sparse 87 = .ok (.if_icmp .ge 5, 3) := by decide +kernel
theorem dX12_sparse_86 : decode cX12_sparse 86 = .ok (.iaload, 1) := by decide +kernel
theorem dX12_sparse_82 : decode cX12_sparse 82 = .ok (.getfield 98, 3) := by decide +kernel
theorem dX12_sparse_80 : decode cX12_sparse 80 = .ok (.iaload, 1) := by decide +kernel
theorem dX12_sparse_76 : decode cX12_sparse 76 = .ok (.getfield 98, 3) := by decide +kernel
theorem dX12_sparse_72 : decode cX12_sparse 72 = .ok (.ifCond .lt 18, 3) := by decide +kernel
theorem dX12_sparse_68 : decode cX12_sparse 68 = .ok (.goto 24, 3) := by decide +kernel
theorem dX12_sparse_65 : decode cX12_sparse 65 = .ok (.if_icmp .le 6, 3) := by decide +kernel
theorem dX12_sparse_61 : decode cX12_sparse 61 = .ok (.getfield 222, 3) := by decide +kernel
theorem dX12_sparse_57 : decode cX12_sparse 57 = .ok (.getfield 225, 3) := by decide +kernel
theorem dX12_sparse_52 : decode cX12_sparse 52 = .ok (.iaload, 1) := by decide +kernel
theorem dX12_sparse_48 : decode cX12_sparse 48 = .ok (.getfield 98, 3) := by decide +kernel
theorem dX12_sparse_44 : decode cX12_sparse 44 = .ok (.ifCond .eq 48, 3) := by decide +kernel
theorem dX12_sparse_43 : decode cX12_sparse 43 = .ok (.iaload, 1) := by decide +kernel
theorem dX12_sparse_39 : decode cX12_sparse 39 = .ok (.getfield 98, 3) := by decide +kernel
theorem dX12_sparse_35 : decode cX12_sparse 35 = .ok (.if_icmp .eq 57, 3) := by decide +kernel
theorem dX12_sparse_32 : decode cX12_sparse 32 = .ok (.getfield 285, 3) := by decide +kernel
theorem dX12_sparse_27 : decode cX12_sparse 27 = .ok (.ifCond .ne 65, 3) := by decide +kernel
theorem dX12_sparse_26 : decode cX12_sparse 26 = .ok (.baload, 1) := by decide +kernel
theorem dX12_sparse_22 : decode cX12_sparse 22 = .ok (.getfield 101, 3) := by decide +kernel
theorem dX12_sparse_18 : decode cX12_sparse 18 = .ok (.ifCond .ne 74, 3) := by decide +kernel
theorem dX12_sparse_17 : decode cX12_sparse 17 = .ok (.baload, 1) := by decide +kernel
theorem dX12_sparse_13 : decode cX12_sparse 13 = .ok (.getfield 104, 3) := by decide +kernel
theorem dX12_sparse_9 : decode cX12_sparse 9 = .ok (.if_icmp .ge 89, 3) := by decide +kernel
theorem dX12_sparse_6 : decode cX12_sparse 6 = .ok (.getfield 234, 3) := by decide +kernel
def wr_236 (_ _ : Nat) : Bool := false
theorem g_236_0 {X : Nat × (Nat → Int32)} {m : Nat → Nat → Int32} {P : Option ma_V → (Nat → Nat → Int32) → Prop}  (h : zm X 0 0 236 4 [(0, .inr (.inr (some 94))), (1, .inl (-1 : Int32)), (2, .inl (0 : Int32))] m P) : zm X 0 0 236 0 [(0, .inr (.inr (some 94)))] m P := by
  intro d w S Q hd hw hS hm HQ
  subst hm
  refine zw_push hm_236 dX12_sparse_0 (v := .inl (-1 : Int32)) rfl ?_
  refine zw_sto hm_236 dX12_sparse_1 [(1, .inl (-1 : Int32)), (0, .inr (.inr (some 94)))] rfl rfl rfl ?_
  refine zw_push hm_236 dX12_sparse_2 (v := .inl (0 : Int32)) rfl ?_
  refine zw_sto hm_236 dX12_sparse_3 [(2, .inl (0 : Int32)), (1, .inl (-1 : Int32)), (0, .inr (.inr (some 94)))] rfl rfl rfl ?_
  exact zw_sub (ma_nd_of (ks := [0, 1, 2]) rfl (by decide)) (ma_nd_of (ks := [2, 1, 0]) rfl (by decide)) (ma_le_cons rfl (ma_le_cons rfl (ma_le_cons rfl (ma_le_nil _)))) (h d w _ Q (by omega) (by omega) hS rfl HQ)
theorem g_236_4 {X : Nat × (Nat → Int32)} {m : Nat → Nat → Int32} {P : Option ma_V → (Nat → Nat → Int32) → Prop} (l1 : Int32) (l2 : Int32) (h : if (m 94 64) ≤ l2 then (P (some (.inl l1)) m) else ((0 ≤ l2 ∧ l2.toNatClampNeg < 128) ∧ (if (m 124 l2.toNatClampNeg) = 0 then ((0 ≤ l2 ∧ l2.toNatClampNeg < 128) ∧ (if (m 123 l2.toNatClampNeg) = 0 then (if l2 = (m 94 63) then (zm X 0 0 236 4 [(0, .inr (.inr (some 94))), (1, .inl l1), (2, .inl (l2 + (1 : Int32)))] m P) else ((0 ≤ l2 ∧ l2.toNatClampNeg < 128) ∧ (if (m 122 l2.toNatClampNeg) = 0 then (zm X 0 0 236 4 [(0, .inr (.inr (some 94))), (1, .inl l1), (2, .inl (l2 + (1 : Int32)))] m P) else ((0 ≤ l2 ∧ l2.toNatClampNeg < 128) ∧ (if ((m 122 l2.toNatClampNeg) * (100 : Int32)) ≤ ((m 94 19) * (m 94 18)) then (if l1 < 0 then (zm X 0 0 236 4 [(0, .inr (.inr (some 94))), (1, .inl l2), (2, .inl (l2 + (1 : Int32)))] m P) else ((0 ≤ l2 ∧ l2.toNatClampNeg < 128) ∧ ((0 ≤ l1 ∧ l1.toNatClampNeg < 128) ∧ (if (m 122 l1.toNatClampNeg) ≤ (m 122 l2.toNatClampNeg) then (zm X 0 0 236 4 [(0, .inr (.inr (some 94))), (1, .inl l1), (2, .inl (l2 + (1 : Int32)))] m P) else (zm X 0 0 236 4 [(0, .inr (.inr (some 94))), (1, .inl l2), (2, .inl (l2 + (1 : Int32)))] m P))))) else (zm X 0 0 236 4 [(0, .inr (.inr (some 94))), (1, .inl l1), (2, .inl (l2 + (1 : Int32)))] m P)))))) else (zm X 0 0 236 4 [(0, .inr (.inr (some 94))), (1, .inl l1), (2, .inl (l2 + (1 : Int32)))] m P))) else (zm X 0 0 236 4 [(0, .inr (.inr (some 94))), (1, .inl l1), (2, .inl (l2 + (1 : Int32)))] m P)))) : zm X 0 0 236 4 [(0, .inr (.inr (some 94))), (1, .inl l1), (2, .inl l2)] m P := by
  intro d w S Q hd hw hS hm HQ
  subst hm
  refine zw_push hm_236 dX12_sparse_4 (v := .inl l2) rfl ?_
  refine zw_push hm_236 dX12_sparse_5 (v := .inr (.inr (some 94))) rfl ?_
  refine zw_gf hm_236 dX12_sparse_6 (v := .inl ((mI S) 94 64)) (zT_is hS s_94) (zT_t hS s_94) rfl f_12_234_12 rfl ?_
  refine zw_if2 hm_236 dX12_sparse_9 (t := 98) rfl zc2_ge ?_ ?_
  · intro hc
    rw [if_pos hc] at h
    refine zw_push hm_236 dX12_sparse_98 (v := .inl l1) rfl ?_
    exact zw_iret hm_236 dX12_sparse_99 (HQ _ _ h)
  · intro hc
    rw [if_neg hc] at h
    refine zw_push hm_236 dX12_sparse_12 (v := .inr (.inr (some 94))) rfl ?_
    refine zw_gf hm_236 dX12_sparse_13 (v := .inr (.inr (some 124))) (zT_is hS s_94) (zT_t hS s_94) rfl f_12_104_12 (zT_f hS r_94_83) ?_
    refine zw_push hm_236 dX12_sparse_16 (v := .inl l2) rfl ?_
    obtain ⟨hg, h⟩ := h
    refine zw_ba hm_236 dX12_sparse_17 (zT_is hS s_124) (zT_h hS s_124) rfl rfl hg ?_
    show ma_wp X d w 236 18 [(0, .inr (.inr (some 94))), (1, .inl l1), (2, .inl l2)] [.inl ((mI S) 124 l2.toNatClampNeg)] S _
    refine zw_if0 hm_236 dX12_sparse_18 (t := 92) rfl zc0_ne ?_ ?_
    · intro hc
      rw [if_neg hc] at h
      refine zw_sto hm_236 dX12_sparse_92 [(2, .inl (l2 + (1 : Int32))), (0, .inr (.inr (some 94))), (1, .inl l1)] rfl rfl rfl ?_
      refine zw_goto hm_236 dX12_sparse_95 (t := 4) rfl ?_
      exact zw_sub (ma_nd_of (ks := [0, 1, 2]) rfl (by decide)) (ma_nd_of (ks := [2, 0, 1]) rfl (by decide)) (ma_le_cons rfl (ma_le_cons rfl (ma_le_cons rfl (ma_le_nil _)))) (h d w _ Q (by omega) (by omega) hS rfl HQ)
    · intro hc
      rw [if_pos (Classical.not_not.mp hc)] at h
      refine zw_push hm_236 dX12_sparse_21 (v := .inr (.inr (some 94))) rfl ?_
      refine zw_gf hm_236 dX12_sparse_22 (v := .inr (.inr (some 123))) (zT_is hS s_94) (zT_t hS s_94) rfl f_12_101_12 (zT_f hS r_94_82) ?_
      refine zw_push hm_236 dX12_sparse_25 (v := .inl l2) rfl ?_
      obtain ⟨hg, h⟩ := h
      refine zw_ba hm_236 dX12_sparse_26 (zT_is hS s_123) (zT_h hS s_123) rfl rfl hg ?_
      show ma_wp X d w 236 27 [(0, .inr (.inr (some 94))), (1, .inl l1), (2, .inl l2)] [.inl ((mI S) 123 l2.toNatClampNeg)] S _
      refine zw_if0 hm_236 dX12_sparse_27 (t := 92) rfl zc0_ne ?_ ?_
      · intro hc
        rw [if_neg hc] at h
        refine zw_sto hm_236 dX12_sparse_92 [(2, .inl (l2 + (1 : Int32))), (0, .inr (.inr (some 94))), (1, .inl l1)] rfl rfl rfl ?_
        refine zw_goto hm_236 dX12_sparse_95 (t := 4) rfl ?_
        exact zw_sub (ma_nd_of (ks := [0, 1, 2]) rfl (by decide)) (ma_nd_of (ks := [2, 0, 1]) rfl (by decide)) (ma_le_cons rfl (ma_le_cons rfl (ma_le_cons rfl (ma_le_nil _)))) (h d w _ Q (by omega) (by omega) hS rfl HQ)
      · intro hc
        rw [if_pos (Classical.not_not.mp hc)] at h
        refine zw_push hm_236 dX12_sparse_30 (v := .inl l2) rfl ?_
        refine zw_push hm_236 dX12_sparse_31 (v := .inr (.inr (some 94))) rfl ?_
        refine zw_gf hm_236 dX12_sparse_32 (v := .inl ((mI S) 94 63)) (zT_is hS s_94) (zT_t hS s_94) rfl f_12_285_12 rfl ?_
        refine zw_if2 hm_236 dX12_sparse_35 (t := 92) rfl zc2_eq ?_ ?_
        · intro hc
          rw [if_pos hc] at h
          refine zw_sto hm_236 dX12_sparse_92 [(2, .inl (l2 + (1 : Int32))), (0, .inr (.inr (some 94))), (1, .inl l1)] rfl rfl rfl ?_
          refine zw_goto hm_236 dX12_sparse_95 (t := 4) rfl ?_
          exact zw_sub (ma_nd_of (ks := [0, 1, 2]) rfl (by decide)) (ma_nd_of (ks := [2, 0, 1]) rfl (by decide)) (ma_le_cons rfl (ma_le_cons rfl (ma_le_cons rfl (ma_le_nil _)))) (h d w _ Q (by omega) (by omega) hS rfl HQ)
        · intro hc
          rw [if_neg hc] at h
          refine zw_push hm_236 dX12_sparse_38 (v := .inr (.inr (some 94))) rfl ?_
          refine zw_gf hm_236 dX12_sparse_39 (v := .inr (.inr (some 122))) (zT_is hS s_94) (zT_t hS s_94) rfl f_12_98_12 (zT_f hS r_94_81) ?_
          refine zw_push hm_236 dX12_sparse_42 (v := .inl l2) rfl ?_
          obtain ⟨hg, h⟩ := h
          refine zw_ia hm_236 dX12_sparse_43 (zT_is hS s_122) (zT_h hS s_122) rfl hg ?_
          show ma_wp X d w 236 44 [(0, .inr (.inr (some 94))), (1, .inl l1), (2, .inl l2)] [.inl ((mI S) 122 l2.toNatClampNeg)] S _
          refine zw_if0 hm_236 dX12_sparse_44 (t := 92) rfl zc0_eq ?_ ?_
          · intro hc
            rw [if_pos hc] at h
            refine zw_sto hm_236 dX12_sparse_92 [(2, .inl (l2 + (1 : Int32))), (0, .inr (.inr (some 94))), (1, .inl l1)] rfl rfl rfl ?_
            refine zw_goto hm_236 dX12_sparse_95 (t := 4) rfl ?_
            exact zw_sub (ma_nd_of (ks := [0, 1, 2]) rfl (by decide)) (ma_nd_of (ks := [2, 0, 1]) rfl (by decide)) (ma_le_cons rfl (ma_le_cons rfl (ma_le_cons rfl (ma_le_nil _)))) (h d w _ Q (by omega) (by omega) hS rfl HQ)
          · intro hc
            rw [if_neg hc] at h
            refine zw_push hm_236 dX12_sparse_47 (v := .inr (.inr (some 94))) rfl ?_
            refine zw_gf hm_236 dX12_sparse_48 (v := .inr (.inr (some 122))) (zT_is hS s_94) (zT_t hS s_94) rfl f_12_98_12 (zT_f hS r_94_81) ?_
            refine zw_push hm_236 dX12_sparse_51 (v := .inl l2) rfl ?_
            obtain ⟨hg, h⟩ := h
            refine zw_ia hm_236 dX12_sparse_52 (zT_is hS s_122) (zT_h hS s_122) rfl hg ?_
            show ma_wp X d w 236 53 [(0, .inr (.inr (some 94))), (1, .inl l1), (2, .inl l2)] [.inl ((mI S) 122 l2.toNatClampNeg)] S _
            refine zw_push hm_236 dX12_sparse_53 (v := .inl (100 : Int32)) rfl ?_
            refine zw_stk hm_236 dX12_sparse_55 (st₉ := [.inl (((mI S) 122 l2.toNatClampNeg) * (100 : Int32))]) rfl rfl ?_
            refine zw_push hm_236 dX12_sparse_56 (v := .inr (.inr (some 94))) rfl ?_
            refine zw_gf hm_236 dX12_sparse_57 (v := .inl ((mI S) 94 19)) (zT_is hS s_94) (zT_t hS s_94) rfl f_12_225_12 rfl ?_
            refine zw_push hm_236 dX12_sparse_60 (v := .inr (.inr (some 94))) rfl ?_
            refine zw_gf hm_236 dX12_sparse_61 (v := .inl ((mI S) 94 18)) (zT_is hS s_94) (zT_t hS s_94) rfl f_12_222_12 rfl ?_
            refine zw_stk hm_236 dX12_sparse_64 (st₉ := [.inl (((mI S) 94 19) * ((mI S) 94 18)), .inl (((mI S) 122 l2.toNatClampNeg) * (100 : Int32))]) rfl rfl ?_
            refine zw_if2 hm_236 dX12_sparse_65 (t := 71) rfl zc2_le ?_ ?_
            · intro hc
              rw [if_pos hc] at h
              refine zw_push hm_236 dX12_sparse_71 (v := .inl l1) rfl ?_
              refine zw_if0 hm_236 dX12_sparse_72 (t := 90) rfl zc0_lt ?_ ?_
              · intro hc
                rw [if_pos hc] at h
                refine zw_push hm_236 dX12_sparse_90 (v := .inl l2) rfl ?_
                refine zw_sto hm_236 dX12_sparse_91 [(1, .inl l2), (0, .inr (.inr (some 94))), (2, .inl l2)] rfl rfl rfl ?_
                refine zw_sto hm_236 dX12_sparse_92 [(2, .inl (l2 + (1 : Int32))), (1, .inl l2), (0, .inr (.inr (some 94)))] rfl rfl rfl ?_
                refine zw_goto hm_236 dX12_sparse_95 (t := 4) rfl ?_
                exact zw_sub (ma_nd_of (ks := [0, 1, 2]) rfl (by decide)) (ma_nd_of (ks := [2, 1, 0]) rfl (by decide)) (ma_le_cons rfl (ma_le_cons rfl (ma_le_cons rfl (ma_le_nil _)))) (h d w _ Q (by omega) (by omega) hS rfl HQ)
              · intro hc
                rw [if_neg hc] at h
                refine zw_push hm_236 dX12_sparse_75 (v := .inr (.inr (some 94))) rfl ?_
                refine zw_gf hm_236 dX12_sparse_76 (v := .inr (.inr (some 122))) (zT_is hS s_94) (zT_t hS s_94) rfl f_12_98_12 (zT_f hS r_94_81) ?_
                refine zw_push hm_236 dX12_sparse_79 (v := .inl l2) rfl ?_
                obtain ⟨hg, h⟩ := h
                refine zw_ia hm_236 dX12_sparse_80 (zT_is hS s_122) (zT_h hS s_122) rfl hg ?_
                show ma_wp X d w 236 81 [(0, .inr (.inr (some 94))), (1, .inl l1), (2, .inl l2)] [.inl ((mI S) 122 l2.toNatClampNeg)] S _
                refine zw_push hm_236 dX12_sparse_81 (v := .inr (.inr (some 94))) rfl ?_
                refine zw_gf hm_236 dX12_sparse_82 (v := .inr (.inr (some 122))) (zT_is hS s_94) (zT_t hS s_94) rfl f_12_98_12 (zT_f hS r_94_81) ?_
                refine zw_push hm_236 dX12_sparse_85 (v := .inl l1) rfl ?_
                obtain ⟨hg, h⟩ := h
                refine zw_ia hm_236 dX12_sparse_86 (zT_is hS s_122) (zT_h hS s_122) rfl hg ?_
                show ma_wp X d w 236 87 [(0, .inr (.inr (some 94))), (1, .inl l1), (2, .inl l2)] [.inl ((mI S) 122 l1.toNatClampNeg), .inl ((mI S) 122 l2.toNatClampNeg)] S _
                refine zw_if2 hm_236 dX12_sparse_87 (t := 92) rfl zc2_ge ?_ ?_
                · intro hc
                  rw [if_pos hc] at h
                  refine zw_sto hm_236 dX12_sparse_92 [(2, .inl (l2 + (1 : Int32))), (0, .inr (.inr (some 94))), (1, .inl l1)] rfl rfl rfl ?_
                  refine zw_goto hm_236 dX12_sparse_95 (t := 4) rfl ?_
                  exact zw_sub (ma_nd_of (ks := [0, 1, 2]) rfl (by decide)) (ma_nd_of (ks := [2, 0, 1]) rfl (by decide)) (ma_le_cons rfl (ma_le_cons rfl (ma_le_cons rfl (ma_le_nil _)))) (h d w _ Q (by omega) (by omega) hS rfl HQ)
                · intro hc
                  rw [if_neg hc] at h
                  refine zw_push hm_236 dX12_sparse_90 (v := .inl l2) rfl ?_
                  refine zw_sto hm_236 dX12_sparse_91 [(1, .inl l2), (0, .inr (.inr (some 94))), (2, .inl l2)] rfl rfl rfl ?_
                  refine zw_sto hm_236 dX12_sparse_92 [(2, .inl (l2 + (1 : Int32))), (1, .inl l2), (0, .inr (.inr (some 94)))] rfl rfl rfl ?_
                  refine zw_goto hm_236 dX12_sparse_95 (t := 4) rfl ?_
                  exact zw_sub (ma_nd_of (ks := [0, 1, 2]) rfl (by decide)) (ma_nd_of (ks := [2, 1, 0]) rfl (by decide)) (ma_le_cons rfl (ma_le_cons rfl (ma_le_cons rfl (ma_le_nil _)))) (h d w _ Q (by omega) (by omega) hS rfl HQ)
            · intro hc
              rw [if_neg hc] at h
              refine zw_goto hm_236 dX12_sparse_68 (t := 92) rfl ?_
              refine zw_sto hm_236 dX12_sparse_92 [(2, .inl (l2 + (1 : Int32))), (0, .inr (.inr (some 94))), (1, .inl l1)] rfl rfl rfl ?_
              refine zw_goto hm_236 dX12_sparse_95 (t := 4) rfl ?_
              exact zw_sub (ma_nd_of (ks := [0, 1, 2]) rfl (by decide)) (ma_nd_of (ks := [2, 0, 1]) rfl (by decide)) (ma_le_cons rfl (ma_le_cons rfl (ma_le_cons rfl (ma_le_nil _)))) (h d w _ Q (by omega) (by omega) hS rfl HQ)
theorem lp_236_4 {X : Nat × (Nat → Int32)} {P : Option ma_V → (Nat → Nat → Int32) → Prop} {m0 : Nat → Nat → Int32} (h0 : zV m0) (K : ∀ v m₉, zF wr_236 m0 m₉ → zV m₉ → (v.toInt = -1 ∨ (0 ≤ v.toInt ∧ v.toInt < (m₉ 94 64).toInt ∧ (m₉ 124) v.toNatClampNeg = 0)) → P (some (.inl v)) m₉) : ∀ (n : Nat) (m : Nat → Nat → Int32) (l1 : Int32) (l2 : Int32), (128 - l2.toInt).toNat = n → zF wr_236 m0 m → zV m → (0 ≤ l2.toInt) → (-1 ≤ l1.toInt) → (l1.toInt ≤ 127) → (l1.toInt = -1 ∨ (0 ≤ l1.toInt ∧ l1.toInt < (m 94 64).toInt ∧ (m 124) l1.toNatClampNeg = 0)) → zm X 0 0 236 4 [(0, .inr (.inr (some 94))), (1, .inl l1), (2, .inl l2)] m P := by
  intro n
  induction n using Nat.strongRecOn with
  | _ n IH =>
    intro m l1 l2 hmu hF hV hi0 hi1 hi2 r_SP
    refine g_236_4 l1 l2 ?_
    have f1 : 0 ≤ (m 94 64).toInt ∧ (m 94 64).toInt ≤ 93 := rs_94_64 (m := m) hV
    have b2 := i_bd l2
    refine zd (fun (h3 : (m 94 64) ≤ l2) => ?_) (fun (h3 : ¬ (m 94 64) ≤ l2) => ?_)
    · skip
      have g4 := i_le h3
      have b5 := i_bd l1
      exact K (l1) _ hF hV r_SP
    · skip
      have g6 := i_nle h3
      have hg7 : (0 ≤ l2 ∧ l2.toNatClampNeg < 128) := i_ix (by omega) (by omega)
      refine ⟨hg7, ?_⟩
      first | have f8 : 0 ≤ (m 124 l2.toNatClampNeg).toInt ∧ (m 124 l2.toNatClampNeg).toInt ≤ 1 := ra_124 (m := m) hV (k := l2.toNatClampNeg) (i_ix (n := 128) (by omega) (by omega)).2 | have b9 := i_bd (m 124 l2.toNatClampNeg)
      have li10 : (0 : Int32).toInt = 0 := rfl
      refine zd (fun (h11 : (m 124 l2.toNatClampNeg) = (0 : Int32)) => ?_) (fun (h11 : ¬ (m 124 l2.toNatClampNeg) = (0 : Int32)) => ?_)
      · skip
        have g12 := i_eq h11
        have hg13 : (0 ≤ l2 ∧ l2.toNatClampNeg < 128) := i_ix (by omega) (by omega)
        refine ⟨hg13, ?_⟩
        first | have f14 : 0 ≤ (m 123 l2.toNatClampNeg).toInt ∧ (m 123 l2.toNatClampNeg).toInt ≤ 1 := ra_123 (m := m) hV (k := l2.toNatClampNeg) (i_ix (n := 128) (by omega) (by omega)).2 | have b15 := i_bd (m 123 l2.toNatClampNeg)
        refine zd (fun (h16 : (m 123 l2.toNatClampNeg) = (0 : Int32)) => ?_) (fun (h16 : ¬ (m 123 l2.toNatClampNeg) = (0 : Int32)) => ?_)
        · skip
          have g17 := i_eq h16
          have f18 : 0 ≤ (m 94 63).toInt ∧ (m 94 63).toInt ≤ 127 := rs_94_63 (m := m) hV
          refine zd (fun (h19 : l2 = (m 94 63)) => ?_) (fun (h19 : ¬ l2 = (m 94 63)) => ?_)
          · skip
            have g20 := i_eq h19
            have b21 := i_bd l1
            first | have e22 : (l2 + (1 : Int32)).toInt = l2.toInt + (1) := i_addk rfl (by omega) (by omega) | have b23 := i_bd (l2 + (1 : Int32))
            exact IH (128 - (l2 + (1 : Int32)).toInt).toNat (by omega) _ (l1) ((l2 + (1 : Int32))) rfl hF hV (by omega) (by omega) (by omega) r_SP
          · skip
            have g24 := i_ne h19
            have hg25 : (0 ≤ l2 ∧ l2.toNatClampNeg < 128) := i_ix (by omega) (by omega)
            refine ⟨hg25, ?_⟩
            have b26 := i_bd (m 122 l2.toNatClampNeg)
            refine zd (fun (h27 : (m 122 l2.toNatClampNeg) = (0 : Int32)) => ?_) (fun (h27 : ¬ (m 122 l2.toNatClampNeg) = (0 : Int32)) => ?_)
            · skip
              have g28 := i_eq h27
              have b29 := i_bd l1
              first | have e30 : (l2 + (1 : Int32)).toInt = l2.toInt + (1) := i_addk rfl (by omega) (by omega) | have b31 := i_bd (l2 + (1 : Int32))
              exact IH (128 - (l2 + (1 : Int32)).toInt).toNat (by omega) _ (l1) ((l2 + (1 : Int32))) rfl hF hV (by omega) (by omega) (by omega) r_SP
            · skip
              have g32 := i_ne h27
              have hg33 : (0 ≤ l2 ∧ l2.toNatClampNeg < 128) := i_ix (by omega) (by omega)
              refine ⟨hg33, ?_⟩
              have li34 : (100 : Int32).toInt = 100 := rfl
              first | have e35 : ((m 122 l2.toNatClampNeg) * (100 : Int32)).toInt = (m 122 l2.toNatClampNeg).toInt * 100 := i_mulk rfl (by omega) (by omega) | have b36 := i_bd ((m 122 l2.toNatClampNeg) * (100 : Int32))
              have b37 := i_bd (m 94 19)
              have f38 : 0 ≤ (m 94 18).toInt ∧ (m 94 18).toInt ≤ 256 := rs_94_18 (m := m) hV
              first | have f39 := i_muln (x := (m 94 19)) (y := (m 94 18)) (by omega) (by omega) (by omega) (by omega) | have b40 := i_bd ((m 94 19) * (m 94 18))
              refine zd (fun (h41 : ((m 122 l2.toNatClampNeg) * (100 : Int32)) ≤ ((m 94 19) * (m 94 18))) => ?_) (fun (h41 : ¬ ((m 122 l2.toNatClampNeg) * (100 : Int32)) ≤ ((m 94 19) * (m 94 18))) => ?_)
              · skip
                have g42 := i_le h41
                have b43 := i_bd l1
                refine zd (fun (h44 : l1 < (0 : Int32)) => ?_) (fun (h44 : ¬ l1 < (0 : Int32)) => ?_)
                · skip
                  have g45 := i_lt h44
                  first | have e46 : (l2 + (1 : Int32)).toInt = l2.toInt + (1) := i_addk rfl (by omega) (by omega) | have b47 := i_bd (l2 + (1 : Int32))
                  exact IH (128 - (l2 + (1 : Int32)).toInt).toNat (by omega) _ (l2) ((l2 + (1 : Int32))) rfl hF hV (by omega) (by omega) (by omega) (show l2.toInt = -1 ∨ (0 ≤ l2.toInt ∧ l2.toInt < (m 94 64).toInt ∧ (m 124) l2.toNatClampNeg = 0) from by first | (exact Or.inl (by decide)) | (exact Or.inr ⟨by omega, by omega, by assumption⟩) | (exfalso; omega; done) | (exfalso; contradiction; done))
                · skip
                  have g48 := i_nlt h44
                  have hg49 : (0 ≤ l2 ∧ l2.toNatClampNeg < 128) := i_ix (by omega) (by omega)
                  refine ⟨hg49, ?_⟩
                  have hg50 : (0 ≤ l1 ∧ l1.toNatClampNeg < 128) := i_ix (by omega) (by omega)
                  refine ⟨hg50, ?_⟩
                  have b51 := i_bd (m 122 l1.toNatClampNeg)
                  refine zd (fun (h52 : (m 122 l1.toNatClampNeg) ≤ (m 122 l2.toNatClampNeg)) => ?_) (fun (h52 : ¬ (m 122 l1.toNatClampNeg) ≤ (m 122 l2.toNatClampNeg)) => ?_)
                  · skip
                    have g53 := i_le h52
                    first | have e54 : (l2 + (1 : Int32)).toInt = l2.toInt + (1) := i_addk rfl (by omega) (by omega) | have b55 := i_bd (l2 + (1 : Int32))
                    exact IH (128 - (l2 + (1 : Int32)).toInt).toNat (by omega) _ (l1) ((l2 + (1 : Int32))) rfl hF hV (by omega) (by omega) (by omega) r_SP
                  · skip
                    have g56 := i_nle h52
                    first | have e57 : (l2 + (1 : Int32)).toInt = l2.toInt + (1) := i_addk rfl (by omega) (by omega) | have b58 := i_bd (l2 + (1 : Int32))
                    exact IH (128 - (l2 + (1 : Int32)).toInt).toNat (by omega) _ (l2) ((l2 + (1 : Int32))) rfl hF hV (by omega) (by omega) (by omega) (show l2.toInt = -1 ∨ (0 ≤ l2.toInt ∧ l2.toInt < (m 94 64).toInt ∧ (m 124) l2.toNatClampNeg = 0) from by first | (exact Or.inl (by decide)) | (exact Or.inr ⟨by omega, by omega, by assumption⟩) | (exfalso; omega; done) | (exfalso; contradiction; done))
              · skip
                have g59 := i_nle h41
                have b60 := i_bd l1
                first | have e61 : (l2 + (1 : Int32)).toInt = l2.toInt + (1) := i_addk rfl (by omega) (by omega) | have b62 := i_bd (l2 + (1 : Int32))
                exact IH (128 - (l2 + (1 : Int32)).toInt).toNat (by omega) _ (l1) ((l2 + (1 : Int32))) rfl hF hV (by omega) (by omega) (by omega) r_SP
        · skip
          have g63 := i_ne h16
          have b64 := i_bd l1
          first | have e65 : (l2 + (1 : Int32)).toInt = l2.toInt + (1) := i_addk rfl (by omega) (by omega) | have b66 := i_bd (l2 + (1 : Int32))
          exact IH (128 - (l2 + (1 : Int32)).toInt).toNat (by omega) _ (l1) ((l2 + (1 : Int32))) rfl hF hV (by omega) (by omega) (by omega) r_SP
      · skip
        have g67 := i_ne h11
        have b68 := i_bd l1
        first | have e69 : (l2 + (1 : Int32)).toInt = l2.toInt + (1) := i_addk rfl (by omega) (by omega) | have b70 := i_bd (l2 + (1 : Int32))
        exact IH (128 - (l2 + (1 : Int32)).toInt).toNat (by omega) _ (l1) ((l2 + (1 : Int32))) rfl hF hV (by omega) (by omega) (by omega) r_SP
theorem sp_236 {X : Nat × (Nat → Int32)} {P : Option ma_V → (Nat → Nat → Int32) → Prop} {m : Nat → Nat → Int32}  (hV : zV m)  (KZ : ∀ v m₉, zV (zov wr_236 m m₉) → (v.toInt = -1 ∨ (0 ≤ v.toInt ∧ v.toInt < (m 94 64).toInt ∧ (m 124) v.toNatClampNeg = 0)) → P (some (.inl v)) (zov wr_236 m m₉)) : zm X 0 0 236 0 [(0, .inr (.inr (some 94)))] m P := by
  have K : ∀ v m₉, zF wr_236 m m₉ → zV m₉ → (v.toInt = -1 ∨ (0 ≤ v.toInt ∧ v.toInt < (m₉ 94 64).toInt ∧ (m₉ 124) v.toNatClampNeg = 0)) → P (some (.inl v)) m₉ := by
    intro v m₉ hf z q0
    have e := zov_eq hf
    rw [e] at z ⊢
    try rw [e] at q0
    exact KZ v m₉ z q0
  refine g_236_0  ?_
  have li1 : (-1 : Int32).toInt = -1 := rfl
  have li2 : (0 : Int32).toInt = 0 := rfl
  exact lp_236_4 hV K _ _ ((-1 : Int32)) ((0 : Int32)) rfl zF_rfl hV (by omega) (by omega) (by omega) (show (-1 : Int32).toInt = -1 ∨ (0 ≤ (-1 : Int32).toInt ∧ (-1 : Int32).toInt < (m 94 64).toInt ∧ (m 124) (-1 : Int32).toNatClampNeg = 0) from by first | (exact Or.inl (by decide)) | (exact Or.inr ⟨by omega, by omega, by assumption⟩) | (exfalso; omega; done) | (exfalso; contradiction; done))

/-! from 94.434 -/
theorem mu_congr {X X₉ : Nat → Nat → Int32} {c k : Nat} {x : Int32} (h : X c = X₉ c) : ma_u X c k x c = ma_u X₉ c k x c := by
  funext j
  rw [mu_at, mu_at, h]
section RG2
variable {si rg pr x r v : Int32} {us at₉ ws rt : Nat → Int32}
theorem RG_LE (h : zRG1 si rg pr us at₉ ws rt) (h2 : zLE rt rg v) (hs : si.toInt ≤ 256) (hr : rg.toInt ≤ 93) : 0 ≤ v.toInt → (v.toInt < rg.toInt ∧ (rt v.toNatClampNeg).toInt = 0 ∧ 0 ≤ (v * si).toInt ∧ (v * si).toInt + si.toInt ≤ 1500 ∧ (v * si).toInt + si.toInt ≤ rg.toInt * si.toInt) := by
  intro z
  have a := LE_ge h2 z
  have b := RG_mul h z a.1 hs hr
  refine ⟨a.1, ?_, b⟩
  rw [a.2]
  rfl
theorem RG_ml (h : zRG1 si rg pr us at₉ ws rt) (hs : si.toInt ≤ 256) (hr : rg.toInt ≤ 93) : 0 ≤ r.toInt ∧ r.toInt < rg.toInt → (0 ≤ (r * si).toInt ∧ (r * si).toInt + si.toInt ≤ 1500 ∧ (r * si).toInt + si.toInt ≤ rg.toInt * si.toInt ∧ (rt r.toNatClampNeg).toInt ≤ si.toInt) := by
  intro z
  have b := RG_mul h z.1 z.2 hs hr
  exact ⟨b.1, b.2.1, b.2.2, RG_top h z.1 z.2⟩
end RG2
/-- what a move does -/
def zmov (s to : Int32) (at₉ ow at2 ow2 : Nat → Int32) : Prop := (at2 = at₉ ∧ ow2 = ow ∧ (at₉ s.toNatClampNeg).toInt = to.toInt) ∨ ((∀ j, at2 j = if j = s.toNatClampNeg then to else at₉ j) ∧ ow2 to.toNatClampNeg = s ∧ ∀ p, p ≠ to.toNatClampNeg → ow2 p = ow p ∨ ((p : Int) = (at₉ s.toNatClampNeg).toInt ∧ ow p = s ∧ (ow2 p).toInt = -1))
section MV1
variable {m ma mo : Nat → Nat → Int32} {c ca co k : Nat} {si rg pr x s to : Int32} {us at₉ ws rt at2 ow ow2 : Nat → Int32}
theorem mv_0 (h : (at₉ s.toNatClampNeg).toInt = to.toInt) : zmov s to at₉ ow at₉ ow := Or.inl ⟨rfl, rfl, h⟩
theorem mv_1 (hx : x.toInt = -1) (hl : (ma ca s.toNatClampNeg).toInt = (k : Int)) (ho : mo co k = s) : zmov s to (ma ca) (mo co) (ma_u ma ca s.toNatClampNeg to ca) (ma_u (ma_u mo co k x) co to.toNatClampNeg s co) := by
  refine Or.inr ⟨fun j => mu_at j, mu_self, fun p hp => ?_⟩
  rw [mu_ne hp, mu_at]
  split
  · next e => exact Or.inr ⟨by rw [e, hl], by rw [e]; exact ho, hx⟩
  · exact Or.inl rfl
theorem mv_2 : zmov s to (ma ca) (mo co) (ma_u ma ca s.toNatClampNeg to ca) (ma_u mo co to.toNatClampNeg s co) := Or.inr ⟨fun j => mu_at j, mu_self, fun p hp => Or.inl (mu_ne hp)⟩
theorem mv_at (h : zmov s to at₉ ow at2 ow2) (j : Nat) : (at2 j).toInt = (at₉ j).toInt ∨ (at2 j).toInt = to.toInt := by
  rcases h with ⟨e, _, _⟩ | ⟨e, _, _⟩
  · rw [e]; exact Or.inl rfl
  · rw [e]; split
    · exact Or.inr rfl
    · exact Or.inl rfl
theorem mv_s (h : zmov s to at₉ ow at2 ow2) : (at2 s.toNatClampNeg).toInt = to.toInt := by
  rcases h with ⟨e, _, e2⟩ | ⟨e, _, _⟩
  · rw [e]; exact e2
  · rw [e, if_pos rfl]
theorem RG_mv2 (h : zRG1 si rg pr us at₉ ws rt) (hm : zmov s to at₉ ow at2 ow2) (hx : to.toInt < rg.toInt * si.toInt) : zRG1 si rg pr us at2 ws rt := by
  refine ⟨h.1, h.2.1, h.2.2.1, h.2.2.2.1, h.2.2.2.2.1, fun s hs hu => ?_⟩
  have := h.2.2.2.2.2 s hs hu
  refine ⟨?_, this.2⟩
  rcases mv_at hm s with e | e
  · rw [e]; exact this.1
  · rw [e]; exact hx
end MV1

/-! from 94.435 -/
/-! the reference (written by wip/tools/gen94m.py) -/
set_option maxRecDepth 100000 in
theorem hm_205 : ma_md 205 = some (12, yX12_move, cX12_move, 3, none) := rfl
theorem f_12_252_12 : ma_fld 12 252 12 = some 48 := by decide +kernel
theorem p_12_252_12 : ma_pk 12 252 12 48 = true := by decide +kernel
theorem dX12_move_0 : decode cX12_move 0 = .ok (.aload_n 0, 1) := by decide +kernel
theorem dX12_move_4 : decode cX12_move 4 = .ok (.iload_n 1, 1) := by decide +kernel
theorem dX12_move_6 : decode cX12_move 6 = .ok (.iload_n 2, 1) := by decide +kernel
theorem dX12_move_11 : decode cX12_move 11 = .ok (.aload_n 0, 1) := by decide +kernel
theorem dX12_move_15 : decode cX12_move 15 = .ok (.aload_n 0, 1) := by decide +kernel
theorem dX12_move_19 : decode cX12_move 19 = .ok (.iload_n 1, 1) := by decide +kernel
theorem dX12_move_22 : decode cX12_move 22 = .ok (.iload_n 1, 1) := by decide +kernel
theorem dX12_move_38 : decode cX12_move 38 = .ok (.aload_n 0, 1) := by decide +kernel
theorem dX12_move_42 : decode cX12_move 42 = .ok (.iload_n 1, 1) := by decide +kernel
theorem dX12_move_43 : decode cX12_move 43 = .ok (.iload_n 2, 1) := by decide +kernel
theorem dX12_move_45 : decode cX12_move 45 = .ok (.aload_n 0, 1) := by decide +kernel
theorem dX12_move_49 : decode cX12_move 49 = .ok (.iload_n 2, 1) := by decide +kernel
theorem dX12_move_50 : decode cX12_move 50 = .ok (.iload_n 1, 1) := by decide +kernel
theorem dX12_move_52 : decode cX12_move 52 = .ok (.aload_n 0, 1) := by decide +kernel
theorem dX12_move_53 : decode cX12_move 53 = .ok (.dup, 1) := by decide +kernel
theorem dX12_move_57 : decode cX12_move 57 = .ok (.aload_n 0, 1) := by decide +kernel
theorem dX12_move_58 : decode cX12_move 58 = .ok (.iload_n 1, 1) := by decide +kernel
theorem dX12_move_59 : decode cX12_move 59 = .ok (.invokevirtual 327, 3) := by decide +kernel
theorem dX12_move_62 : decode cX12_move 62 = .ok (.iadd, 1) := by decide +kernel
theorem dX12_move_66 : decode cX12_move 66 = .ok (.return_, 1) := by decide +kernel
theorem dX12_move_63 : decode cX12_move 63 = .ok (.putfield 252, 3) := by decide +kernel
theorem dX12_move_54 : decode cX12_move 54 = .ok (.getfield 252, 3) := by decide +kernel
theorem dX12_move_51 : decode cX12_move 51 = .ok (.iastore, 1) := by decide +kernel
theorem dX12_move_46 : decode cX12_move 46 = .ok (.getfield 65, 3) := by decide +kernel
theorem dX12_move_44 : decode cX12_move 44 = .ok (.iastore, 1) := by decide +kernel
theorem dX12_move_39 : decode cX12_move 39 = .ok (.getfield 40, 3) := by decide +kernel
theorem dX12_move_26 : decode cX12_move 26 = .ok (.aload_n 0, 1) := by decide +kernel
theorem dX12_move_30 : decode cX12_move 30 = .ok (.aload_n 0, 1) := by decide +kernel
theorem dX12_move_34 : decode cX12_move 34 = .ok (.iload_n 1, 1) := by decide +kernel
theorem dX12_move_36 : decode cX12_move 36 = .ok (.iconst (-1), 1) := by decide +kernel
theorem dX12_move_37 : decode cX12_move 37 = .ok (.iastore, 1) := by decide +kernel
theorem dX12_move_35 : decode cX12_move 35 = .ok (.iaload, 1) := by decide +kernel
theorem dX12_move_31 : decode cX12_move 31 = .ok (.getfield 40, 3) := by decide +kernel
theorem dX12_move_27 : decode cX12_move 27 = .ok (.getfield 65, 3) := by decide +kernel
theorem dX12_move_23 : decode cX12_move 23 = .ok (.if_icmp .ne 15, 3) := by decide +kernel
theorem dX12_move_21 : decode cX12_move 21 = .ok (.iaload, 1) := by decide +kernel
theorem dX12_move_20 : decode cX12_move 20 = .ok (.iaload, 1) := by decide +kernel
theorem dX12_move_16 : decode cX12_move 16 = .ok (.getfield 40, 3) := by decide +kernel
theorem dX12_move_12 : decode cX12_move 12 = .ok (.getfield 65, 3) := by decide +kernel
theorem dX12_move_10 : decode cX12_move 10 = .ok (.return_, 1) := by decide +kernel
theorem dX12_move_7 : decode cX12_move 7 = .ok (.if_icmp .ne 4, 3) := by decide +kernel
theorem dX12_move_5 : decode cX12_move 5 = .ok (.iaload, 1) := by decide +kernel
theorem dX12_move_1 : decode cX12_move 1 = .ok (.getfield 40, 3) := by decide +kernel
def wr_205 (c k : Nat) : Bool := Nat.beq c 103 || Nat.beq c 111 || (Nat.beq c 94 && (Nat.beq k 48))
theorem g_205_0 {X : Nat × (Nat → Int32)} {m : Nat → Nat → Int32} {P : Option ma_V → (Nat → Nat → Int32) → Prop} (s : Int32) (to : Int32) (h : (0 ≤ s ∧ s.toNatClampNeg < 3100) ∧ (if (m 103 s.toNatClampNeg) = to then (P none m) else ((0 ≤ s ∧ s.toNatClampNeg < 3100) ∧ ((0 ≤ (m 103 s.toNatClampNeg) ∧ (m 103 s.toNatClampNeg).toNatClampNeg < 4600) ∧ (if (m 111 (m 103 s.toNatClampNeg).toNatClampNeg) = s then ((0 ≤ s ∧ s.toNatClampNeg < 3100) ∧ ((0 ≤ (m 103 s.toNatClampNeg) ∧ (m 103 s.toNatClampNeg).toNatClampNeg < 4600) ∧ ((0 ≤ s ∧ s.toNatClampNeg < 3100) ∧ ((0 ≤ to ∧ to.toNatClampNeg < 4600) ∧ ((0 ≤ s ∧ s.toNatClampNeg < 3100) ∧ (P none (ma_u (ma_u (ma_u (ma_u m 111 (m 103 s.toNatClampNeg).toNatClampNeg (-1 : Int32)) 103 s.toNatClampNeg to) 111 to.toNatClampNeg s) 94 48 ((m 94 48) + ((m 102 s.toNatClampNeg) + (1 : Int32)))))))))) else ((0 ≤ s ∧ s.toNatClampNeg < 3100) ∧ ((0 ≤ to ∧ to.toNatClampNeg < 4600) ∧ ((0 ≤ s ∧ s.toNatClampNeg < 3100) ∧ (P none (ma_u (ma_u (ma_u m 103 s.toNatClampNeg to) 111 to.toNatClampNeg s) 94 48 ((m 94 48) + ((m 102 s.toNatClampNeg) + (1 : Int32))))))))))))) : zm X 1 21 205 0 [(0, .inr (.inr (some 94))), (1, .inl s), (2, .inl to)] m P := by
  intro d w S Q hd hw hS hm HQ
  subst hm
  refine zw_push hm_205 dX12_move_0 (v := .inr (.inr (some 94))) rfl ?_
  refine zw_gf hm_205 dX12_move_1 (v := .inr (.inr (some 103))) (zT_is hS s_94) (zT_t hS s_94) rfl f_12_40_12 (zT_f hS r_94_35) ?_
  refine zw_push hm_205 dX12_move_4 (v := .inl s) rfl ?_
  obtain ⟨hg, h⟩ := h
  refine zw_ia hm_205 dX12_move_5 (zT_is hS s_103) (zT_h hS s_103) rfl hg ?_
  show ma_wp X d w 205 6 [(0, .inr (.inr (some 94))), (1, .inl s), (2, .inl to)] [.inl ((mI S) 103 s.toNatClampNeg)] S _
  refine zw_push hm_205 dX12_move_6 (v := .inl to) rfl ?_
  refine zw_if2 hm_205 dX12_move_7 (t := 11) rfl zc2_ne ?_ ?_
  · intro hc
    rw [if_neg hc] at h
    refine zw_push hm_205 dX12_move_11 (v := .inr (.inr (some 94))) rfl ?_
    refine zw_gf hm_205 dX12_move_12 (v := .inr (.inr (some 111))) (zT_is hS s_94) (zT_t hS s_94) rfl f_12_65_12 (zT_f hS r_94_43) ?_
    refine zw_push hm_205 dX12_move_15 (v := .inr (.inr (some 94))) rfl ?_
    refine zw_gf hm_205 dX12_move_16 (v := .inr (.inr (some 103))) (zT_is hS s_94) (zT_t hS s_94) rfl f_12_40_12 (zT_f hS r_94_35) ?_
    refine zw_push hm_205 dX12_move_19 (v := .inl s) rfl ?_
    obtain ⟨hg, h⟩ := h
    refine zw_ia hm_205 dX12_move_20 (zT_is hS s_103) (zT_h hS s_103) rfl hg ?_
    show ma_wp X d w 205 21 [(0, .inr (.inr (some 94))), (1, .inl s), (2, .inl to)] [.inl ((mI S) 103 s.toNatClampNeg), .inr (.inr (some 111))] S _
    obtain ⟨hg, h⟩ := h
    refine zw_ia hm_205 dX12_move_21 (zT_is hS s_111) (zT_h hS s_111) rfl hg ?_
    show ma_wp X d w 205 22 [(0, .inr (.inr (some 94))), (1, .inl s), (2, .inl to)] [.inl ((mI S) 111 ((mI S) 103 s.toNatClampNeg).toNatClampNeg)] S _
    refine zw_push hm_205 dX12_move_22 (v := .inl s) rfl ?_
    refine zw_if2 hm_205 dX12_move_23 (t := 38) rfl zc2_ne ?_ ?_
    · intro hc
      rw [if_neg hc] at h
      refine zw_push hm_205 dX12_move_38 (v := .inr (.inr (some 94))) rfl ?_
      refine zw_gf hm_205 dX12_move_39 (v := .inr (.inr (some 103))) (zT_is hS s_94) (zT_t hS s_94) rfl f_12_40_12 (zT_f hS r_94_35) ?_
      refine zw_push hm_205 dX12_move_42 (v := .inl s) rfl ?_
      refine zw_push hm_205 dX12_move_43 (v := .inl to) rfl ?_
      obtain ⟨hg, h⟩ := h
      refine zw_ias hm_205 dX12_move_44 (zT_is hS s_103) (zT_h hS s_103) rfl hg ?_
      refine zw_push hm_205 dX12_move_45 (v := .inr (.inr (some 94))) rfl ?_
      refine zw_gf hm_205 dX12_move_46 (v := .inr (.inr (some 111))) (zT_is (zT_pi hS) s_94) (zT_t (zT_pi hS) s_94) rfl f_12_65_12 (zT_f (zT_pi hS) r_94_43) ?_
      refine zw_push hm_205 dX12_move_49 (v := .inl to) rfl ?_
      refine zw_push hm_205 dX12_move_50 (v := .inl s) rfl ?_
      obtain ⟨hg, h⟩ := h
      refine zw_ias hm_205 dX12_move_51 (zT_is (zT_pi hS) s_111) (zT_h (zT_pi hS) s_111) rfl hg ?_
      refine zw_push hm_205 dX12_move_52 (v := .inr (.inr (some 94))) rfl ?_
      refine zw_stk hm_205 dX12_move_53 (st₉ := [.inr (.inr (some 94)), .inr (.inr (some 94))]) rfl rfl ?_
      refine zw_gf hm_205 dX12_move_54 (v := .inl ((mI S) 94 48)) (zT_is (zT_pi (zT_pi hS)) s_94) (zT_t (zT_pi (zT_pi hS)) s_94) rfl f_12_252_12 rfl ?_
      refine zw_push hm_205 dX12_move_57 (v := .inr (.inr (some 94))) rfl ?_
      refine zw_push hm_205 dX12_move_58 (v := .inl s) rfl ?_
      refine zw_cv hm_205 dX12_move_59 v_12_327_12 hm_201 [.inl s] [.inl ((mI S) 94 48), .inr (.inr (some 94))] rfl (zT_rt (zT_pi (zT_pi hS)) s_94 rfl) ⟨by omega, by omega⟩ rfl ?_
      show ma_wp X (d - 1) (w - 21) 201 0 [(0, .inr (.inr (some 94))), (1, .inl s)] [] (ma_put (ma_put S 103 s.toNatClampNeg (.inl to)) 111 to.toNatClampNeg (.inl s)) _
      refine zw_push hm_201 dX12_sizeOf_0 (v := .inr (.inr (some 94))) rfl ?_
      refine zw_gf hm_201 dX12_sizeOf_1 (v := .inr (.inr (some 102))) (zT_is (zT_pi (zT_pi hS)) s_94) (zT_t (zT_pi (zT_pi hS)) s_94) rfl f_12_37_12 (zT_f (zT_pi (zT_pi hS)) r_94_34) ?_
      refine zw_push hm_201 dX12_sizeOf_4 (v := .inl s) rfl ?_
      obtain ⟨hg, h⟩ := h
      refine zw_ia hm_201 dX12_sizeOf_5 (zT_is (zT_pi (zT_pi hS)) s_102) (zT_h (zT_pi (zT_pi hS)) s_102) rfl hg ?_
      show ma_wp X (d - 1) (w - 21) 201 6 [(0, .inr (.inr (some 94))), (1, .inl s)] [.inl ((mI S) 102 s.toNatClampNeg)] (ma_put (ma_put S 103 s.toNatClampNeg (.inl to)) 111 to.toNatClampNeg (.inl s)) _
      refine zw_push hm_201 dX12_sizeOf_6 (v := .inl (1 : Int32)) rfl ?_
      refine zw_stk hm_201 dX12_sizeOf_7 (st₉ := [.inl (((mI S) 102 s.toNatClampNeg) + (1 : Int32))]) rfl rfl ?_
      refine zw_iret hm_201 dX12_sizeOf_8 ?_
      show ma_wp X d w 205 62 [(0, .inr (.inr (some 94))), (1, .inl s), (2, .inl to)] [.inl (((mI S) 102 s.toNatClampNeg) + (1 : Int32)), .inl ((mI S) 94 48), .inr (.inr (some 94))] (ma_put (ma_put S 103 s.toNatClampNeg (.inl to)) 111 to.toNatClampNeg (.inl s)) _
      refine zw_stk hm_205 dX12_move_62 (st₉ := [.inl (((mI S) 94 48) + (((mI S) 102 s.toNatClampNeg) + (1 : Int32))), .inr (.inr (some 94))]) rfl rfl ?_
      refine zw_pf hm_205 dX12_move_63 (zT_is (zT_pi (zT_pi hS)) s_94) (zT_t (zT_pi (zT_pi hS)) s_94) p_12_252_12 zk_int ?_
      exact zw_vret hm_205 dX12_move_66 (HQ _ _ h)
    · intro hc
      rw [if_pos (Classical.not_not.mp hc)] at h
      refine zw_push hm_205 dX12_move_26 (v := .inr (.inr (some 94))) rfl ?_
      refine zw_gf hm_205 dX12_move_27 (v := .inr (.inr (some 111))) (zT_is hS s_94) (zT_t hS s_94) rfl f_12_65_12 (zT_f hS r_94_43) ?_
      refine zw_push hm_205 dX12_move_30 (v := .inr (.inr (some 94))) rfl ?_
      refine zw_gf hm_205 dX12_move_31 (v := .inr (.inr (some 103))) (zT_is hS s_94) (zT_t hS s_94) rfl f_12_40_12 (zT_f hS r_94_35) ?_
      refine zw_push hm_205 dX12_move_34 (v := .inl s) rfl ?_
      obtain ⟨hg, h⟩ := h
      refine zw_ia hm_205 dX12_move_35 (zT_is hS s_103) (zT_h hS s_103) rfl hg ?_
      show ma_wp X d w 205 36 [(0, .inr (.inr (some 94))), (1, .inl s), (2, .inl to)] [.inl ((mI S) 103 s.toNatClampNeg), .inr (.inr (some 111))] S _
      refine zw_push hm_205 dX12_move_36 (v := .inl (-1 : Int32)) rfl ?_
      obtain ⟨hg, h⟩ := h
      refine zw_ias hm_205 dX12_move_37 (zT_is hS s_111) (zT_h hS s_111) rfl hg ?_
      refine zw_push hm_205 dX12_move_38 (v := .inr (.inr (some 94))) rfl ?_
      refine zw_gf hm_205 dX12_move_39 (v := .inr (.inr (some 103))) (zT_is (zT_pi hS) s_94) (zT_t (zT_pi hS) s_94) rfl f_12_40_12 (zT_f (zT_pi hS) r_94_35) ?_
      refine zw_push hm_205 dX12_move_42 (v := .inl s) rfl ?_
      refine zw_push hm_205 dX12_move_43 (v := .inl to) rfl ?_
      obtain ⟨hg, h⟩ := h
      refine zw_ias hm_205 dX12_move_44 (zT_is (zT_pi hS) s_103) (zT_h (zT_pi hS) s_103) rfl hg ?_
      refine zw_push hm_205 dX12_move_45 (v := .inr (.inr (some 94))) rfl ?_
      refine zw_gf hm_205 dX12_move_46 (v := .inr (.inr (some 111))) (zT_is (zT_pi (zT_pi hS)) s_94) (zT_t (zT_pi (zT_pi hS)) s_94) rfl f_12_65_12 (zT_f (zT_pi (zT_pi hS)) r_94_43) ?_
      refine zw_push hm_205 dX12_move_49 (v := .inl to) rfl ?_
      refine zw_push hm_205 dX12_move_50 (v := .inl s) rfl ?_
      obtain ⟨hg, h⟩ := h
      refine zw_ias hm_205 dX12_move_51 (zT_is (zT_pi (zT_pi hS)) s_111) (zT_h (zT_pi (zT_pi hS)) s_111) rfl hg ?_
      refine zw_push hm_205 dX12_move_52 (v := .inr (.inr (some 94))) rfl ?_
      refine zw_stk hm_205 dX12_move_53 (st₉ := [.inr (.inr (some 94)), .inr (.inr (some 94))]) rfl rfl ?_
      refine zw_gf hm_205 dX12_move_54 (v := .inl ((mI S) 94 48)) (zT_is (zT_pi (zT_pi (zT_pi hS))) s_94) (zT_t (zT_pi (zT_pi (zT_pi hS))) s_94) rfl f_12_252_12 rfl ?_
      refine zw_push hm_205 dX12_move_57 (v := .inr (.inr (some 94))) rfl ?_
      refine zw_push hm_205 dX12_move_58 (v := .inl s) rfl ?_
      refine zw_cv hm_205 dX12_move_59 v_12_327_12 hm_201 [.inl s] [.inl ((mI S) 94 48), .inr (.inr (some 94))] rfl (zT_rt (zT_pi (zT_pi (zT_pi hS))) s_94 rfl) ⟨by omega, by omega⟩ rfl ?_
      show ma_wp X (d - 1) (w - 21) 201 0 [(0, .inr (.inr (some 94))), (1, .inl s)] [] (ma_put (ma_put (ma_put S 111 ((mI S) 103 s.toNatClampNeg).toNatClampNeg (.inl (-1 : Int32))) 103 s.toNatClampNeg (.inl to)) 111 to.toNatClampNeg (.inl s)) _
      refine zw_push hm_201 dX12_sizeOf_0 (v := .inr (.inr (some 94))) rfl ?_
      refine zw_gf hm_201 dX12_sizeOf_1 (v := .inr (.inr (some 102))) (zT_is (zT_pi (zT_pi (zT_pi hS))) s_94) (zT_t (zT_pi (zT_pi (zT_pi hS))) s_94) rfl f_12_37_12 (zT_f (zT_pi (zT_pi (zT_pi hS))) r_94_34) ?_
      refine zw_push hm_201 dX12_sizeOf_4 (v := .inl s) rfl ?_
      obtain ⟨hg, h⟩ := h
      refine zw_ia hm_201 dX12_sizeOf_5 (zT_is (zT_pi (zT_pi (zT_pi hS))) s_102) (zT_h (zT_pi (zT_pi (zT_pi hS))) s_102) rfl hg ?_
      show ma_wp X (d - 1) (w - 21) 201 6 [(0, .inr (.inr (some 94))), (1, .inl s)] [.inl ((mI S) 102 s.toNatClampNeg)] (ma_put (ma_put (ma_put S 111 ((mI S) 103 s.toNatClampNeg).toNatClampNeg (.inl (-1 : Int32))) 103 s.toNatClampNeg (.inl to)) 111 to.toNatClampNeg (.inl s)) _
      refine zw_push hm_201 dX12_sizeOf_6 (v := .inl (1 : Int32)) rfl ?_
      refine zw_stk hm_201 dX12_sizeOf_7 (st₉ := [.inl (((mI S) 102 s.toNatClampNeg) + (1 : Int32))]) rfl rfl ?_
      refine zw_iret hm_201 dX12_sizeOf_8 ?_
      show ma_wp X d w 205 62 [(0, .inr (.inr (some 94))), (1, .inl s), (2, .inl to)] [.inl (((mI S) 102 s.toNatClampNeg) + (1 : Int32)), .inl ((mI S) 94 48), .inr (.inr (some 94))] (ma_put (ma_put (ma_put S 111 ((mI S) 103 s.toNatClampNeg).toNatClampNeg (.inl (-1 : Int32))) 103 s.toNatClampNeg (.inl to)) 111 to.toNatClampNeg (.inl s)) _
      refine zw_stk hm_205 dX12_move_62 (st₉ := [.inl (((mI S) 94 48) + (((mI S) 102 s.toNatClampNeg) + (1 : Int32))), .inr (.inr (some 94))]) rfl rfl ?_
      refine zw_pf hm_205 dX12_move_63 (zT_is (zT_pi (zT_pi (zT_pi hS))) s_94) (zT_t (zT_pi (zT_pi (zT_pi hS))) s_94) p_12_252_12 zk_int ?_
      exact zw_vret hm_205 dX12_move_66 (HQ _ _ h)
  · intro hc
    rw [if_pos (Classical.not_not.mp hc)] at h
    exact zw_vret hm_205 dX12_move_10 (HQ _ _ h)
theorem sp_205 {X : Nat × (Nat → Int32)} {P : Option ma_V → (Nat → Nat → Int32) → Prop} {m : Nat → Nat → Int32} (s : Int32) (to : Int32) (hV : zV m) (hpre0 : 0 ≤ s.toInt) (hpre1 : s.toInt ≤ 3099) (hpre2 : 0 ≤ to.toInt) (hpre3 : to.toInt ≤ 4599) (r_US : (m 99) s.toNatClampNeg ≠ 0) (r_OW : zOw (m 99) (m 103) (m 111)) (KZ : ∀ m₉, zV (zov wr_205 m m₉) → (zOw (m 99) (m₉ 103) (m₉ 111)) → (zmov s to (m 103) (m 111) (m₉ 103) (m₉ 111)) → P none (zov wr_205 m m₉)) : zm X 1 21 205 0 [(0, .inr (.inr (some 94))), (1, .inl s), (2, .inl to)] m P := by
  have K : ∀ m₉, zF wr_205 m m₉ → zV m₉ → (zOw (m₉ 99) (m₉ 103) (m₉ 111)) → (zmov s to (m 103) (m 111) (m₉ 103) (m₉ 111)) → P none m₉ := by
    intro m₉ hf z q0 q1
    have e := zov_eq hf
    rw [e] at z ⊢
    try rw [e] at q0
    try rw [e] at q1
    exact KZ m₉ z q0 q1
  refine g_205_0 s to ?_
  have b1 := i_bd s
  have hg2 : (0 ≤ s ∧ s.toNatClampNeg < 3100) := i_ix (by omega) (by omega)
  refine ⟨hg2, ?_⟩
  first | have f3 : 0 ≤ (m 103 s.toNatClampNeg).toInt ∧ (m 103 s.toNatClampNeg).toInt ≤ 4599 := ra_103 (m := m) hV (k := s.toNatClampNeg) (i_ix (n := 3100) (by omega) (by omega)).2 | have b4 := i_bd (m 103 s.toNatClampNeg)
  have b5 := i_bd to
  refine zd (fun (h6 : (m 103 s.toNatClampNeg) = to) => ?_) (fun (h6 : ¬ (m 103 s.toNatClampNeg) = to) => ?_)
  · skip
    have g7 := i_eq h6
    exact K _ zF_rfl hV r_OW (show zmov s to (m 103) (m 111) (m 103) (m 111) from by first | (exact mv_0 (by omega)) | (exfalso; omega; done) | (exfalso; contradiction; done))
  · skip
    have g8 := i_ne h6
    have hg9 : (0 ≤ s ∧ s.toNatClampNeg < 3100) := i_ix (by omega) (by omega)
    refine ⟨hg9, ?_⟩
    have hg10 : (0 ≤ (m 103 s.toNatClampNeg) ∧ (m 103 s.toNatClampNeg).toNatClampNeg < 4600) := i_ix (by omega) (by omega)
    refine ⟨hg10, ?_⟩
    first | have f11 : -1 ≤ (m 111 (m 103 s.toNatClampNeg).toNatClampNeg).toInt ∧ (m 111 (m 103 s.toNatClampNeg).toNatClampNeg).toInt ≤ 3099 := ra_111 (m := m) hV (k := (m 103 s.toNatClampNeg).toNatClampNeg) (i_ix (n := 4600) (by omega) (by omega)).2 | have b12 := i_bd (m 111 (m 103 s.toNatClampNeg).toNatClampNeg)
    refine zd (fun (h13 : (m 111 (m 103 s.toNatClampNeg).toNatClampNeg) = s) => ?_) (fun (h13 : ¬ (m 111 (m 103 s.toNatClampNeg).toNatClampNeg) = s) => ?_)
    · skip
      have g14 := i_eq h13
      have hg15 : (0 ≤ s ∧ s.toNatClampNeg < 3100) := i_ix (by omega) (by omega)
      refine ⟨hg15, ?_⟩
      have hg16 : (0 ≤ (m 103 s.toNatClampNeg) ∧ (m 103 s.toNatClampNeg).toNatClampNeg < 4600) := i_ix (by omega) (by omega)
      refine ⟨hg16, ?_⟩
      have hg17 : (0 ≤ s ∧ s.toNatClampNeg < 3100) := i_ix (by omega) (by omega)
      refine ⟨hg17, ?_⟩
      have hg18 : (0 ≤ to ∧ to.toNatClampNeg < 4600) := i_ix (by omega) (by omega)
      refine ⟨hg18, ?_⟩
      have hg19 : (0 ≤ s ∧ s.toNatClampNeg < 3100) := i_ix (by omega) (by omega)
      refine ⟨hg19, ?_⟩
      have li21 : (-1 : Int32).toInt = -1 := rfl
      have hV20 : zV (ma_u m 111 (m 103 s.toNatClampNeg).toNatClampNeg (-1 : Int32)) := ua_111 hV (by omega) (by omega)
      have hV22 : zV (ma_u (ma_u m 111 (m 103 s.toNatClampNeg).toNatClampNeg (-1 : Int32)) 103 s.toNatClampNeg to) := ua_103 hV20 (by omega) (by omega)
      have hV23 : zV (ma_u (ma_u (ma_u m 111 (m 103 s.toNatClampNeg).toNatClampNeg (-1 : Int32)) 103 s.toNatClampNeg to) 111 to.toNatClampNeg s) := ua_111 hV22 (by omega) (by omega)
      have hV24 : zV (ma_u (ma_u (ma_u (ma_u m 111 (m 103 s.toNatClampNeg).toNatClampNeg (-1 : Int32)) 103 s.toNatClampNeg to) 111 to.toNatClampNeg s) 94 48 ((m 94 48) + ((m 102 s.toNatClampNeg) + (1 : Int32)))) := uf_94_48 hV23
      exact K _ (zF_u (zF_u (zF_u (zF_u zF_rfl rfl) rfl) rfl) rfl) hV24 (by rw [(show (ma_u (ma_u (ma_u (ma_u m 111 (m 103 s.toNatClampNeg).toNatClampNeg (-1 : Int32)) 103 s.toNatClampNeg to) 111 to.toNatClampNeg s) 94 48 ((m 94 48) + ((m 102 s.toNatClampNeg) + (1 : Int32)))) 99 = (m 99) from ((ma_u_ne _ _ _ (by decide)).trans ((ma_u_ne _ _ _ (by decide)).trans ((ma_u_ne _ _ _ (by decide)).trans ((ma_u_ne _ _ _ (by decide)).trans rfl))))), (show (ma_u (ma_u (ma_u (ma_u m 111 (m 103 s.toNatClampNeg).toNatClampNeg (-1 : Int32)) 103 s.toNatClampNeg to) 111 to.toNatClampNeg s) 94 48 ((m 94 48) + ((m 102 s.toNatClampNeg) + (1 : Int32)))) 103 = ((ma_u m 103 s.toNatClampNeg to) 103) from ((ma_u_ne _ _ _ (by decide)).trans ((ma_u_ne _ _ _ (by decide)).trans (mu_congr ((ma_u_ne _ _ _ (by decide)).trans rfl))))), (show (ma_u (ma_u (ma_u (ma_u m 111 (m 103 s.toNatClampNeg).toNatClampNeg (-1 : Int32)) 103 s.toNatClampNeg to) 111 to.toNatClampNeg s) 94 48 ((m 94 48) + ((m 102 s.toNatClampNeg) + (1 : Int32)))) 111 = ((ma_u (ma_u m 111 (m 103 s.toNatClampNeg).toNatClampNeg (-1 : Int32)) 111 to.toNatClampNeg s) 111) from ((ma_u_ne _ _ _ (by decide)).trans (mu_congr ((ma_u_ne _ _ _ (by decide)).trans (mu_congr rfl)))))]; exact (show zOw (m 99) ((ma_u m 103 s.toNatClampNeg to) 103) ((ma_u (ma_u m 111 (m 103 s.toNatClampNeg).toNatClampNeg (-1 : Int32)) 111 to.toNatClampNeg s) 111) from by first | (exact Ow_mv1 r_OW r_US (by decide) (tn_cast (by omega)).symm rfl (tn_cast (by omega)).symm) | (exact Ow_rm r_OW (by decide) (tn_cast (by omega)).symm) | (exfalso; omega; done) | (exfalso; contradiction; done))) (by rw [(show (ma_u (ma_u (ma_u (ma_u m 111 (m 103 s.toNatClampNeg).toNatClampNeg (-1 : Int32)) 103 s.toNatClampNeg to) 111 to.toNatClampNeg s) 94 48 ((m 94 48) + ((m 102 s.toNatClampNeg) + (1 : Int32)))) 103 = ((ma_u m 103 s.toNatClampNeg to) 103) from ((ma_u_ne _ _ _ (by decide)).trans ((ma_u_ne _ _ _ (by decide)).trans (mu_congr ((ma_u_ne _ _ _ (by decide)).trans rfl))))), (show (ma_u (ma_u (ma_u (ma_u m 111 (m 103 s.toNatClampNeg).toNatClampNeg (-1 : Int32)) 103 s.toNatClampNeg to) 111 to.toNatClampNeg s) 94 48 ((m 94 48) + ((m 102 s.toNatClampNeg) + (1 : Int32)))) 111 = ((ma_u (ma_u m 111 (m 103 s.toNatClampNeg).toNatClampNeg (-1 : Int32)) 111 to.toNatClampNeg s) 111) from ((ma_u_ne _ _ _ (by decide)).trans (mu_congr ((ma_u_ne _ _ _ (by decide)).trans (mu_congr rfl)))))]; exact (show zmov s to (m 103) (m 111) ((ma_u m 103 s.toNatClampNeg to) 103) ((ma_u (ma_u m 111 (m 103 s.toNatClampNeg).toNatClampNeg (-1 : Int32)) 111 to.toNatClampNeg s) 111) from by first | (exact mv_1 (by decide) (tn_cast (by omega)).symm (by assumption)) | (exfalso; omega; done) | (exfalso; contradiction; done)))
    · skip
      have g25 := i_ne h13
      have hg26 : (0 ≤ s ∧ s.toNatClampNeg < 3100) := i_ix (by omega) (by omega)
      refine ⟨hg26, ?_⟩
      have hg27 : (0 ≤ to ∧ to.toNatClampNeg < 4600) := i_ix (by omega) (by omega)
      refine ⟨hg27, ?_⟩
      have hg28 : (0 ≤ s ∧ s.toNatClampNeg < 3100) := i_ix (by omega) (by omega)
      refine ⟨hg28, ?_⟩
      have hV29 : zV (ma_u m 103 s.toNatClampNeg to) := ua_103 hV (by omega) (by omega)
      have hV30 : zV (ma_u (ma_u m 103 s.toNatClampNeg to) 111 to.toNatClampNeg s) := ua_111 hV29 (by omega) (by omega)
      have hV31 : zV (ma_u (ma_u (ma_u m 103 s.toNatClampNeg to) 111 to.toNatClampNeg s) 94 48 ((m 94 48) + ((m 102 s.toNatClampNeg) + (1 : Int32)))) := uf_94_48 hV30
      exact K _ (zF_u (zF_u (zF_u zF_rfl rfl) rfl) rfl) hV31 (by rw [(show (ma_u (ma_u (ma_u m 103 s.toNatClampNeg to) 111 to.toNatClampNeg s) 94 48 ((m 94 48) + ((m 102 s.toNatClampNeg) + (1 : Int32)))) 99 = (m 99) from ((ma_u_ne _ _ _ (by decide)).trans ((ma_u_ne _ _ _ (by decide)).trans ((ma_u_ne _ _ _ (by decide)).trans rfl)))), (show (ma_u (ma_u (ma_u m 103 s.toNatClampNeg to) 111 to.toNatClampNeg s) 94 48 ((m 94 48) + ((m 102 s.toNatClampNeg) + (1 : Int32)))) 103 = ((ma_u m 103 s.toNatClampNeg to) 103) from ((ma_u_ne _ _ _ (by decide)).trans ((ma_u_ne _ _ _ (by decide)).trans (mu_congr rfl)))), (show (ma_u (ma_u (ma_u m 103 s.toNatClampNeg to) 111 to.toNatClampNeg s) 94 48 ((m 94 48) + ((m 102 s.toNatClampNeg) + (1 : Int32)))) 111 = ((ma_u m 111 to.toNatClampNeg s) 111) from ((ma_u_ne _ _ _ (by decide)).trans (mu_congr ((ma_u_ne _ _ _ (by decide)).trans rfl))))]; exact (show zOw (m 99) ((ma_u m 103 s.toNatClampNeg to) 103) ((ma_u m 111 to.toNatClampNeg s) 111) from by first | (exact Ow_mv2 r_OW r_US (tn_cast (by omega)).symm (by assumption) (by omega) rfl (tn_cast (by omega)).symm) | (exact Ow_rm r_OW (by decide) (tn_cast (by omega)).symm) | (exfalso; omega; done) | (exfalso; contradiction; done))) (by rw [(show (ma_u (ma_u (ma_u m 103 s.toNatClampNeg to) 111 to.toNatClampNeg s) 94 48 ((m 94 48) + ((m 102 s.toNatClampNeg) + (1 : Int32)))) 103 = ((ma_u m 103 s.toNatClampNeg to) 103) from ((ma_u_ne _ _ _ (by decide)).trans ((ma_u_ne _ _ _ (by decide)).trans (mu_congr rfl)))), (show (ma_u (ma_u (ma_u m 103 s.toNatClampNeg to) 111 to.toNatClampNeg s) 94 48 ((m 94 48) + ((m 102 s.toNatClampNeg) + (1 : Int32)))) 111 = ((ma_u m 111 to.toNatClampNeg s) 111) from ((ma_u_ne _ _ _ (by decide)).trans (mu_congr ((ma_u_ne _ _ _ (by decide)).trans rfl))))]; exact (show zmov s to (m 103) (m 111) ((ma_u m 103 s.toNatClampNeg to) 103) ((ma_u m 111 to.toNatClampNeg s) 111) from by first | (exact mv_2) | (exfalso; omega; done) | (exfalso; contradiction; done)))

