/-! the reference (written by wip/tools/gen94m.py) -/
set_option maxRecDepth 100000 in
theorem hm_205 : ma_md 205 = some (12, yX12_move, cX12_move, 3, none) := rfl
theorem f_12_252_12 : ma_fld 12 252 12 = some 48 := by decide +kernel
theorem p_12_252_12 : ma_pk 12 252 12 48 = true := by decide +kernel
theorem dX12_move_0 : decode cX12_move 0 = .ok (.aload_n 0, 1) := by decide +kernel
theorem dX12_move_4 : decode cX12_move 4 = .ok (.iload_n 1, 1) := by decide +kernel
theorem dX12_move_6 : decode cX12_move 6 = .ok (.iload_n 2, 1) := by decide +kernel
theorem dX12_move_11 : decode cX12_move 11 = .ok (.aload_n 0, 1) := by decide +kernel
theorem dX12_move_15 : decode cX12_move 15 = .ok (.aload_n 0, 1) := by decide +kernel
theorem dX12_move_19 : decode cX12_move 19 = .ok (.iload_n 1, 1) := by decide +kernel
theorem dX12_move_22 : decode cX12_move 22 = .ok (.iload_n 1, 1) := by decide +kernel
theorem dX12_move_38 : decode cX12_move 38 = .ok (.aload_n 0, 1) := by decide +kernel
theorem dX12_move_42 : decode cX12_move 42 = .ok (.iload_n 1, 1) := by decide +kernel
theorem dX12_move_43 : decode cX12_move 43 = .ok (.iload_n 2, 1) := by decide +kernel
theorem dX12_move_45 : decode cX12_move 45 = .ok (.aload_n 0, 1) := by decide +kernel
theorem dX12_move_49 : decode cX12_move 49 = .ok (.iload_n 2, 1) := by decide +kernel
theorem dX12_move_50 : decode cX12_move 50 = .ok (.iload_n 1, 1) := by decide +kernel
theorem dX12_move_52 : decode cX12_move 52 = .ok (.aload_n 0, 1) := by decide +kernel
theorem dX12_move_53 : decode cX12_move 53 = .ok (.dup, 1) := by decide +kernel
theorem dX12_move_57 : decode cX12_move 57 = .ok (.aload_n 0, 1) := by decide +kernel
theorem dX12_move_58 : decode cX12_move 58 = .ok (.iload_n 1, 1) := by decide +kernel
theorem dX12_move_59 : decode cX12_move 59 = .ok (.invokevirtual 327, 3) := by decide +kernel
theorem dX12_move_62 : decode cX12_move 62 = .ok (.iadd, 1) := by decide +kernel
theorem dX12_move_66 : decode cX12_move 66 = .ok (.return_, 1) := by decide +kernel
theorem dX12_move_63 : decode cX12_move 63 = .ok (.putfield 252, 3) := by decide +kernel
theorem dX12_move_54 : decode cX12_move 54 = .ok (.getfield 252, 3) := by decide +kernel
theorem dX12_move_51 : decode cX12_move 51 = .ok (.iastore, 1) := by decide +kernel
theorem dX12_move_46 : decode cX12_move 46 = .ok (.getfield 65, 3) := by decide +kernel
theorem dX12_move_44 : decode cX12_move 44 = .ok (.iastore, 1) := by decide +kernel
theorem dX12_move_39 : decode cX12_move 39 = .ok (.getfield 40, 3) := by decide +kernel
theorem dX12_move_26 : decode cX12_move 26 = .ok (.aload_n 0, 1) := by decide +kernel
theorem dX12_move_30 : decode cX12_move 30 = .ok (.aload_n 0, 1) := by decide +kernel
theorem dX12_move_34 : decode cX12_move 34 = .ok (.iload_n 1, 1) := by decide +kernel
theorem dX12_move_36 : decode cX12_move 36 = .ok (.iconst (-1), 1) := by decide +kernel
theorem dX12_move_37 : decode cX12_move 37 = .ok (.iastore, 1) := by decide +kernel
theorem dX12_move_35 : decode cX12_move 35 = .ok (.iaload, 1) := by decide +kernel
theorem dX12_move_31 : decode cX12_move 31 = .ok (.getfield 40, 3) := by decide +kernel
theorem dX12_move_27 : decode cX12_move 27 = .ok (.getfield 65, 3) := by decide +kernel
theorem dX12_move_23 : decode cX12_move 23 = .ok (.if_icmp .ne 15, 3) := by decide +kernel
theorem dX12_move_21 : decode cX12_move 21 = .ok (.iaload, 1) := by decide +kernel
theorem dX12_move_20 : decode cX12_move 20 = .ok (.iaload, 1) := by decide +kernel
theorem dX12_move_16 : decode cX12_move 16 = .ok (.getfield 40, 3) := by decide +kernel
theorem dX12_move_12 : decode cX12_move 12 = .ok (.getfield 65, 3) := by decide +kernel
theorem dX12_move_10 : decode cX12_move 10 = .ok (.return_, 1) := by decide +kernel
theorem dX12_move_7 : decode cX12_move 7 = .ok (.if_icmp .ne 4, 3) := by decide +kernel
theorem dX12_move_5 : decode cX12_move 5 = .ok (.iaload, 1) := by decide +kernel
theorem dX12_move_1 : decode cX12_move 1 = .ok (.getfield 40, 3) := by decide +kernel
def wr_205 (c k : Nat) : Bool := Nat.beq c 103 || Nat.beq c 111 || (Nat.beq c 94 && (Nat.beq k 48))
theorem g_205_0 {X : Nat × (Nat → Int32)} {m : Nat → Nat → Int32} {P : Option ma_V → (Nat → Nat → Int32) → Prop} (s : Int32) (to : Int32) (h : (0 ≤ s ∧ s.toNatClampNeg < 3100) ∧ (if (m 103 s.toNatClampNeg) = to then (P none m) else ((0 ≤ s ∧ s.toNatClampNeg < 3100) ∧ ((0 ≤ (m 103 s.toNatClampNeg) ∧ (m 103 s.toNatClampNeg).toNatClampNeg < 4600) ∧ (if (m 111 (m 103 s.toNatClampNeg).toNatClampNeg) = s then ((0 ≤ s ∧ s.toNatClampNeg < 3100) ∧ ((0 ≤ (m 103 s.toNatClampNeg) ∧ (m 103 s.toNatClampNeg).toNatClampNeg < 4600) ∧ ((0 ≤ s ∧ s.toNatClampNeg < 3100) ∧ ((0 ≤ to ∧ to.toNatClampNeg < 4600) ∧ ((0 ≤ s ∧ s.toNatClampNeg < 3100) ∧ (P none (ma_u (ma_u (ma_u (ma_u m 111 (m 103 s.toNatClampNeg).toNatClampNeg (-1 : Int32)) 103 s.toNatClampNeg to) 111 to.toNatClampNeg s) 94 48 ((m 94 48) + ((m 102 s.toNatClampNeg) + (1 : Int32)))))))))) else ((0 ≤ s ∧ s.toNatClampNeg < 3100) ∧ ((0 ≤ to ∧ to.toNatClampNeg < 4600) ∧ ((0 ≤ s ∧ s.toNatClampNeg < 3100) ∧ (P none (ma_u (ma_u (ma_u m 103 s.toNatClampNeg to) 111 to.toNatClampNeg s) 94 48 ((m 94 48) + ((m 102 s.toNatClampNeg) + (1 : Int32))))))))))))) : zm X 1 21 205 0 [(0, .inr (.inr (some 94))), (1, .inl s), (2, .inl to)] m P := by
  intro d w S Q hd hw hS hm HQ
  subst hm
  refine zw_push hm_205 dX12_move_0 (v := .inr (.inr (some 94))) rfl ?_
  refine zw_gf hm_205 dX12_move_1 (v := .inr (.inr (some 103))) (zT_is hS s_94) (zT_t hS s_94) rfl f_12_40_12 (zT_f hS r_94_35) ?_
  refine zw_push hm_205 dX12_move_4 (v := .inl s) rfl ?_
  obtain ⟨hg, h⟩ := h
  refine zw_ia hm_205 dX12_move_5 (zT_is hS s_103) (zT_h hS s_103) rfl hg ?_
  show ma_wp X d w 205 6 [(0, .inr (.inr (some 94))), (1, .inl s), (2, .inl to)] [.inl ((mI S) 103 s.toNatClampNeg)] S _
  refine zw_push hm_205 dX12_move_6 (v := .inl to) rfl ?_
  refine zw_if2 hm_205 dX12_move_7 (t := 11) rfl zc2_ne ?_ ?_
  · intro hc
    rw [if_neg hc] at h
    refine zw_push hm_205 dX12_move_11 (v := .inr (.inr (some 94))) rfl ?_
    refine zw_gf hm_205 dX12_move_12 (v := .inr (.inr (some 111))) (zT_is hS s_94) (zT_t hS s_94) rfl f_12_65_12 (zT_f hS r_94_43) ?_
    refine zw_push hm_205 dX12_move_15 (v := .inr (.inr (some 94))) rfl ?_
    refine zw_gf hm_205 dX12_move_16 (v := .inr (.inr (some 103))) (zT_is hS s_94) (zT_t hS s_94) rfl f_12_40_12 (zT_f hS r_94_35) ?_
    refine zw_push hm_205 dX12_move_19 (v := .inl s) rfl ?_
    obtain ⟨hg, h⟩ := h
    refine zw_ia hm_205 dX12_move_20 (zT_is hS s_103) (zT_h hS s_103) rfl hg ?_
    show ma_wp X d w 205 21 [(0, .inr (.inr (some 94))), (1, .inl s), (2, .inl to)] [.inl ((mI S) 103 s.toNatClampNeg), .inr (.inr (some 111))] S _
    obtain ⟨hg, h⟩ := h
    refine zw_ia hm_205 dX12_move_21 (zT_is hS s_111) (zT_h hS s_111) rfl hg ?_
    show ma_wp X d w 205 22 [(0, .inr (.inr (some 94))), (1, .inl s), (2, .inl to)] [.inl ((mI S) 111 ((mI S) 103 s.toNatClampNeg).toNatClampNeg)] S _
    refine zw_push hm_205 dX12_move_22 (v := .inl s) rfl ?_
    refine zw_if2 hm_205 dX12_move_23 (t := 38) rfl zc2_ne ?_ ?_
    · intro hc
      rw [if_neg hc] at h
      refine zw_push hm_205 dX12_move_38 (v := .inr (.inr (some 94))) rfl ?_
      refine zw_gf hm_205 dX12_move_39 (v := .inr (.inr (some 103))) (zT_is hS s_94) (zT_t hS s_94) rfl f_12_40_12 (zT_f hS r_94_35) ?_
      refine zw_push hm_205 dX12_move_42 (v := .inl s) rfl ?_
      refine zw_push hm_205 dX12_move_43 (v := .inl to) rfl ?_
      obtain ⟨hg, h⟩ := h
      refine zw_ias hm_205 dX12_move_44 (zT_is hS s_103) (zT_h hS s_103) rfl hg ?_
      refine zw_push hm_205 dX12_move_45 (v := .inr (.inr (some 94))) rfl ?_
      refine zw_gf hm_205 dX12_move_46 (v := .inr (.inr (some 111))) (zT_is (zT_pi hS) s_94) (zT_t (zT_pi hS) s_94) rfl f_12_65_12 (zT_f (zT_pi hS) r_94_43) ?_
      refine zw_push hm_205 dX12_move_49 (v := .inl to) rfl ?_
      refine zw_push hm_205 dX12_move_50 (v := .inl s) rfl ?_
      obtain ⟨hg, h⟩ := h
      refine zw_ias hm_205 dX12_move_51 (zT_is (zT_pi hS) s_111) (zT_h (zT_pi hS) s_111) rfl hg ?_
      refine zw_push hm_205 dX12_move_52 (v := .inr (.inr (some 94))) rfl ?_
      refine zw_stk hm_205 dX12_move_53 (st' := [.inr (.inr (some 94)), .inr (.inr (some 94))]) rfl rfl ?_
      refine zw_gf hm_205 dX12_move_54 (v := .inl ((mI S) 94 48)) (zT_is (zT_pi (zT_pi hS)) s_94) (zT_t (zT_pi (zT_pi hS)) s_94) rfl f_12_252_12 rfl ?_
      refine zw_push hm_205 dX12_move_57 (v := .inr (.inr (some 94))) rfl ?_
      refine zw_push hm_205 dX12_move_58 (v := .inl s) rfl ?_
      refine zw_cv hm_205 dX12_move_59 v_12_327_12 hm_201 [.inl s] [.inl ((mI S) 94 48), .inr (.inr (some 94))] rfl (zT_rt (zT_pi (zT_pi hS)) s_94 rfl) ⟨by omega, by omega⟩ rfl ?_
      show ma_wp X (d - 1) (w - 21) 201 0 [(0, .inr (.inr (some 94))), (1, .inl s)] [] (ma_put (ma_put S 103 s.toNatClampNeg (.inl to)) 111 to.toNatClampNeg (.inl s)) _
      refine zw_push hm_201 dX12_sizeOf_0 (v := .inr (.inr (some 94))) rfl ?_
      refine zw_gf hm_201 dX12_sizeOf_1 (v := .inr (.inr (some 102))) (zT_is (zT_pi (zT_pi hS)) s_94) (zT_t (zT_pi (zT_pi hS)) s_94) rfl f_12_37_12 (zT_f (zT_pi (zT_pi hS)) r_94_34) ?_
      refine zw_push hm_201 dX12_sizeOf_4 (v := .inl s) rfl ?_
      obtain ⟨hg, h⟩ := h
      refine zw_ia hm_201 dX12_sizeOf_5 (zT_is (zT_pi (zT_pi hS)) s_102) (zT_h (zT_pi (zT_pi hS)) s_102) rfl hg ?_
      show ma_wp X (d - 1) (w - 21) 201 6 [(0, .inr (.inr (some 94))), (1, .inl s)] [.inl ((mI S) 102 s.toNatClampNeg)] (ma_put (ma_put S 103 s.toNatClampNeg (.inl to)) 111 to.toNatClampNeg (.inl s)) _
      refine zw_push hm_201 dX12_sizeOf_6 (v := .inl (1 : Int32)) rfl ?_
      refine zw_stk hm_201 dX12_sizeOf_7 (st' := [.inl (((mI S) 102 s.toNatClampNeg) + (1 : Int32))]) rfl rfl ?_
      refine zw_iret hm_201 dX12_sizeOf_8 ?_
      show ma_wp X d w 205 62 [(0, .inr (.inr (some 94))), (1, .inl s), (2, .inl to)] [.inl (((mI S) 102 s.toNatClampNeg) + (1 : Int32)), .inl ((mI S) 94 48), .inr (.inr (some 94))] (ma_put (ma_put S 103 s.toNatClampNeg (.inl to)) 111 to.toNatClampNeg (.inl s)) _
      refine zw_stk hm_205 dX12_move_62 (st' := [.inl (((mI S) 94 48) + (((mI S) 102 s.toNatClampNeg) + (1 : Int32))), .inr (.inr (some 94))]) rfl rfl ?_
      refine zw_pf hm_205 dX12_move_63 (zT_is (zT_pi (zT_pi hS)) s_94) (zT_t (zT_pi (zT_pi hS)) s_94) p_12_252_12 zk_int ?_
      exact zw_vret hm_205 dX12_move_66 (HQ _ _ h)
    · intro hc
      rw [if_pos (Classical.not_not.mp hc)] at h
      refine zw_push hm_205 dX12_move_26 (v := .inr (.inr (some 94))) rfl ?_
      refine zw_gf hm_205 dX12_move_27 (v := .inr (.inr (some 111))) (zT_is hS s_94) (zT_t hS s_94) rfl f_12_65_12 (zT_f hS r_94_43) ?_
      refine zw_push hm_205 dX12_move_30 (v := .inr (.inr (some 94))) rfl ?_
      refine zw_gf hm_205 dX12_move_31 (v := .inr (.inr (some 103))) (zT_is hS s_94) (zT_t hS s_94) rfl f_12_40_12 (zT_f hS r_94_35) ?_
      refine zw_push hm_205 dX12_move_34 (v := .inl s) rfl ?_
      obtain ⟨hg, h⟩ := h
      refine zw_ia hm_205 dX12_move_35 (zT_is hS s_103) (zT_h hS s_103) rfl hg ?_
      show ma_wp X d w 205 36 [(0, .inr (.inr (some 94))), (1, .inl s), (2, .inl to)] [.inl ((mI S) 103 s.toNatClampNeg), .inr (.inr (some 111))] S _
      refine zw_push hm_205 dX12_move_36 (v := .inl (-1 : Int32)) rfl ?_
      obtain ⟨hg, h⟩ := h
      refine zw_ias hm_205 dX12_move_37 (zT_is hS s_111) (zT_h hS s_111) rfl hg ?_
      refine zw_push hm_205 dX12_move_38 (v := .inr (.inr (some 94))) rfl ?_
      refine zw_gf hm_205 dX12_move_39 (v := .inr (.inr (some 103))) (zT_is (zT_pi hS) s_94) (zT_t (zT_pi hS) s_94) rfl f_12_40_12 (zT_f (zT_pi hS) r_94_35) ?_
      refine zw_push hm_205 dX12_move_42 (v := .inl s) rfl ?_
      refine zw_push hm_205 dX12_move_43 (v := .inl to) rfl ?_
      obtain ⟨hg, h⟩ := h
      refine zw_ias hm_205 dX12_move_44 (zT_is (zT_pi hS) s_103) (zT_h (zT_pi hS) s_103) rfl hg ?_
      refine zw_push hm_205 dX12_move_45 (v := .inr (.inr (some 94))) rfl ?_
      refine zw_gf hm_205 dX12_move_46 (v := .inr (.inr (some 111))) (zT_is (zT_pi (zT_pi hS)) s_94) (zT_t (zT_pi (zT_pi hS)) s_94) rfl f_12_65_12 (zT_f (zT_pi (zT_pi hS)) r_94_43) ?_
      refine zw_push hm_205 dX12_move_49 (v := .inl to) rfl ?_
      refine zw_push hm_205 dX12_move_50 (v := .inl s) rfl ?_
      obtain ⟨hg, h⟩ := h
      refine zw_ias hm_205 dX12_move_51 (zT_is (zT_pi (zT_pi hS)) s_111) (zT_h (zT_pi (zT_pi hS)) s_111) rfl hg ?_
      refine zw_push hm_205 dX12_move_52 (v := .inr (.inr (some 94))) rfl ?_
      refine zw_stk hm_205 dX12_move_53 (st' := [.inr (.inr (some 94)), .inr (.inr (some 94))]) rfl rfl ?_
      refine zw_gf hm_205 dX12_move_54 (v := .inl ((mI S) 94 48)) (zT_is (zT_pi (zT_pi (zT_pi hS))) s_94) (zT_t (zT_pi (zT_pi (zT_pi hS))) s_94) rfl f_12_252_12 rfl ?_
      refine zw_push hm_205 dX12_move_57 (v := .inr (.inr (some 94))) rfl ?_
      refine zw_push hm_205 dX12_move_58 (v := .inl s) rfl ?_
      refine zw_cv hm_205 dX12_move_59 v_12_327_12 hm_201 [.inl s] [.inl ((mI S) 94 48), .inr (.inr (some 94))] rfl (zT_rt (zT_pi (zT_pi (zT_pi hS))) s_94 rfl) ⟨by omega, by omega⟩ rfl ?_
      show ma_wp X (d - 1) (w - 21) 201 0 [(0, .inr (.inr (some 94))), (1, .inl s)] [] (ma_put (ma_put (ma_put S 111 ((mI S) 103 s.toNatClampNeg).toNatClampNeg (.inl (-1 : Int32))) 103 s.toNatClampNeg (.inl to)) 111 to.toNatClampNeg (.inl s)) _
      refine zw_push hm_201 dX12_sizeOf_0 (v := .inr (.inr (some 94))) rfl ?_
      refine zw_gf hm_201 dX12_sizeOf_1 (v := .inr (.inr (some 102))) (zT_is (zT_pi (zT_pi (zT_pi hS))) s_94) (zT_t (zT_pi (zT_pi (zT_pi hS))) s_94) rfl f_12_37_12 (zT_f (zT_pi (zT_pi (zT_pi hS))) r_94_34) ?_
      refine zw_push hm_201 dX12_sizeOf_4 (v := .inl s) rfl ?_
      obtain ⟨hg, h⟩ := h
      refine zw_ia hm_201 dX12_sizeOf_5 (zT_is (zT_pi (zT_pi (zT_pi hS))) s_102) (zT_h (zT_pi (zT_pi (zT_pi hS))) s_102) rfl hg ?_
      show ma_wp X (d - 1) (w - 21) 201 6 [(0, .inr (.inr (some 94))), (1, .inl s)] [.inl ((mI S) 102 s.toNatClampNeg)] (ma_put (ma_put (ma_put S 111 ((mI S) 103 s.toNatClampNeg).toNatClampNeg (.inl (-1 : Int32))) 103 s.toNatClampNeg (.inl to)) 111 to.toNatClampNeg (.inl s)) _
      refine zw_push hm_201 dX12_sizeOf_6 (v := .inl (1 : Int32)) rfl ?_
      refine zw_stk hm_201 dX12_sizeOf_7 (st' := [.inl (((mI S) 102 s.toNatClampNeg) + (1 : Int32))]) rfl rfl ?_
      refine zw_iret hm_201 dX12_sizeOf_8 ?_
      show ma_wp X d w 205 62 [(0, .inr (.inr (some 94))), (1, .inl s), (2, .inl to)] [.inl (((mI S) 102 s.toNatClampNeg) + (1 : Int32)), .inl ((mI S) 94 48), .inr (.inr (some 94))] (ma_put (ma_put (ma_put S 111 ((mI S) 103 s.toNatClampNeg).toNatClampNeg (.inl (-1 : Int32))) 103 s.toNatClampNeg (.inl to)) 111 to.toNatClampNeg (.inl s)) _
      refine zw_stk hm_205 dX12_move_62 (st' := [.inl (((mI S) 94 48) + (((mI S) 102 s.toNatClampNeg) + (1 : Int32))), .inr (.inr (some 94))]) rfl rfl ?_
      refine zw_pf hm_205 dX12_move_63 (zT_is (zT_pi (zT_pi (zT_pi hS))) s_94) (zT_t (zT_pi (zT_pi (zT_pi hS))) s_94) p_12_252_12 zk_int ?_
      exact zw_vret hm_205 dX12_move_66 (HQ _ _ h)
  · intro hc
    rw [if_pos (Classical.not_not.mp hc)] at h
    exact zw_vret hm_205 dX12_move_10 (HQ _ _ h)
theorem sp_205 {X : Nat × (Nat → Int32)} {P : Option ma_V → (Nat → Nat → Int32) → Prop} {m : Nat → Nat → Int32} (s : Int32) (to : Int32) (hV : zV m) (hpre0 : 0 ≤ s.toInt) (hpre1 : s.toInt ≤ 3099) (hpre2 : 0 ≤ to.toInt) (hpre3 : to.toInt ≤ 4599) (r_US : (m 99) s.toNatClampNeg ≠ 0) (r_OW : zOw (m 99) (m 103) (m 111)) (KZ : ∀ m', zV (zov wr_205 m m') → (zOw (m 99) (m' 103) (m' 111)) → (zmov s to (m 103) (m 111) (m' 103) (m' 111)) → P none (zov wr_205 m m')) : zm X 1 21 205 0 [(0, .inr (.inr (some 94))), (1, .inl s), (2, .inl to)] m P := by
  have K : ∀ m', zF wr_205 m m' → zV m' → (zOw (m' 99) (m' 103) (m' 111)) → (zmov s to (m 103) (m 111) (m' 103) (m' 111)) → P none m' := by
    intro m' hf z q0 q1
    have e := zov_eq hf
    rw [e] at z ⊢
    try rw [e] at q0
    try rw [e] at q1
    exact KZ m' z q0 q1
  refine g_205_0 s to ?_
  have b1 := i_bd s
  have hg2 : (0 ≤ s ∧ s.toNatClampNeg < 3100) := i_ix (by omega) (by omega)
  refine ⟨hg2, ?_⟩
  first | have f3 : 0 ≤ (m 103 s.toNatClampNeg).toInt ∧ (m 103 s.toNatClampNeg).toInt ≤ 4599 := ra_103 (m := m) hV (k := s.toNatClampNeg) (i_ix (n := 3100) (by omega) (by omega)).2 | have b4 := i_bd (m 103 s.toNatClampNeg)
  have b5 := i_bd to
  refine zd (fun (h6 : (m 103 s.toNatClampNeg) = to) => ?_) (fun (h6 : ¬ (m 103 s.toNatClampNeg) = to) => ?_)
  · skip
    have g7 := i_eq h6
    exact K _ zF_rfl hV r_OW (show zmov s to (m 103) (m 111) (m 103) (m 111) from by first | (exact mv_0 (by omega)) | (exfalso; omega; done) | (exfalso; contradiction; done))
  · skip
    have g8 := i_ne h6
    have hg9 : (0 ≤ s ∧ s.toNatClampNeg < 3100) := i_ix (by omega) (by omega)
    refine ⟨hg9, ?_⟩
    have hg10 : (0 ≤ (m 103 s.toNatClampNeg) ∧ (m 103 s.toNatClampNeg).toNatClampNeg < 4600) := i_ix (by omega) (by omega)
    refine ⟨hg10, ?_⟩
    first | have f11 : -1 ≤ (m 111 (m 103 s.toNatClampNeg).toNatClampNeg).toInt ∧ (m 111 (m 103 s.toNatClampNeg).toNatClampNeg).toInt ≤ 3099 := ra_111 (m := m) hV (k := (m 103 s.toNatClampNeg).toNatClampNeg) (i_ix (n := 4600) (by omega) (by omega)).2 | have b12 := i_bd (m 111 (m 103 s.toNatClampNeg).toNatClampNeg)
    refine zd (fun (h13 : (m 111 (m 103 s.toNatClampNeg).toNatClampNeg) = s) => ?_) (fun (h13 : ¬ (m 111 (m 103 s.toNatClampNeg).toNatClampNeg) = s) => ?_)
    · skip
      have g14 := i_eq h13
      have hg15 : (0 ≤ s ∧ s.toNatClampNeg < 3100) := i_ix (by omega) (by omega)
      refine ⟨hg15, ?_⟩
      have hg16 : (0 ≤ (m 103 s.toNatClampNeg) ∧ (m 103 s.toNatClampNeg).toNatClampNeg < 4600) := i_ix (by omega) (by omega)
      refine ⟨hg16, ?_⟩
      have hg17 : (0 ≤ s ∧ s.toNatClampNeg < 3100) := i_ix (by omega) (by omega)
      refine ⟨hg17, ?_⟩
      have hg18 : (0 ≤ to ∧ to.toNatClampNeg < 4600) := i_ix (by omega) (by omega)
      refine ⟨hg18, ?_⟩
      have hg19 : (0 ≤ s ∧ s.toNatClampNeg < 3100) := i_ix (by omega) (by omega)
      refine ⟨hg19, ?_⟩
      have li21 : (-1 : Int32).toInt = -1 := rfl
      have hV20 : zV (ma_u m 111 (m 103 s.toNatClampNeg).toNatClampNeg (-1 : Int32)) := ua_111 hV (by omega) (by omega)
      have hV22 : zV (ma_u (ma_u m 111 (m 103 s.toNatClampNeg).toNatClampNeg (-1 : Int32)) 103 s.toNatClampNeg to) := ua_103 hV20 (by omega) (by omega)
      have hV23 : zV (ma_u (ma_u (ma_u m 111 (m 103 s.toNatClampNeg).toNatClampNeg (-1 : Int32)) 103 s.toNatClampNeg to) 111 to.toNatClampNeg s) := ua_111 hV22 (by omega) (by omega)
      have hV24 : zV (ma_u (ma_u (ma_u (ma_u m 111 (m 103 s.toNatClampNeg).toNatClampNeg (-1 : Int32)) 103 s.toNatClampNeg to) 111 to.toNatClampNeg s) 94 48 ((m 94 48) + ((m 102 s.toNatClampNeg) + (1 : Int32)))) := uf_94_48 hV23
      exact K _ (zF_u (zF_u (zF_u (zF_u zF_rfl rfl) rfl) rfl) rfl) hV24 (by rw [(show (ma_u (ma_u (ma_u (ma_u m 111 (m 103 s.toNatClampNeg).toNatClampNeg (-1 : Int32)) 103 s.toNatClampNeg to) 111 to.toNatClampNeg s) 94 48 ((m 94 48) + ((m 102 s.toNatClampNeg) + (1 : Int32)))) 99 = (m 99) from ((ma_u_ne _ _ _ (by decide)).trans ((ma_u_ne _ _ _ (by decide)).trans ((ma_u_ne _ _ _ (by decide)).trans ((ma_u_ne _ _ _ (by decide)).trans rfl))))), (show (ma_u (ma_u (ma_u (ma_u m 111 (m 103 s.toNatClampNeg).toNatClampNeg (-1 : Int32)) 103 s.toNatClampNeg to) 111 to.toNatClampNeg s) 94 48 ((m 94 48) + ((m 102 s.toNatClampNeg) + (1 : Int32)))) 103 = ((ma_u m 103 s.toNatClampNeg to) 103) from ((ma_u_ne _ _ _ (by decide)).trans ((ma_u_ne _ _ _ (by decide)).trans (mu_congr ((ma_u_ne _ _ _ (by decide)).trans rfl))))), (show (ma_u (ma_u (ma_u (ma_u m 111 (m 103 s.toNatClampNeg).toNatClampNeg (-1 : Int32)) 103 s.toNatClampNeg to) 111 to.toNatClampNeg s) 94 48 ((m 94 48) + ((m 102 s.toNatClampNeg) + (1 : Int32)))) 111 = ((ma_u (ma_u m 111 (m 103 s.toNatClampNeg).toNatClampNeg (-1 : Int32)) 111 to.toNatClampNeg s) 111) from ((ma_u_ne _ _ _ (by decide)).trans (mu_congr ((ma_u_ne _ _ _ (by decide)).trans (mu_congr rfl)))))]; exact (show zOw (m 99) ((ma_u m 103 s.toNatClampNeg to) 103) ((ma_u (ma_u m 111 (m 103 s.toNatClampNeg).toNatClampNeg (-1 : Int32)) 111 to.toNatClampNeg s) 111) from by first | (exact Ow_mv1 r_OW r_US (by decide) (tn_cast (by omega)).symm rfl (tn_cast (by omega)).symm) | (exact Ow_rm r_OW (by decide) (tn_cast (by omega)).symm) | (exfalso; omega; done) | (exfalso; contradiction; done))) (by rw [(show (ma_u (ma_u (ma_u (ma_u m 111 (m 103 s.toNatClampNeg).toNatClampNeg (-1 : Int32)) 103 s.toNatClampNeg to) 111 to.toNatClampNeg s) 94 48 ((m 94 48) + ((m 102 s.toNatClampNeg) + (1 : Int32)))) 103 = ((ma_u m 103 s.toNatClampNeg to) 103) from ((ma_u_ne _ _ _ (by decide)).trans ((ma_u_ne _ _ _ (by decide)).trans (mu_congr ((ma_u_ne _ _ _ (by decide)).trans rfl))))), (show (ma_u (ma_u (ma_u (ma_u m 111 (m 103 s.toNatClampNeg).toNatClampNeg (-1 : Int32)) 103 s.toNatClampNeg to) 111 to.toNatClampNeg s) 94 48 ((m 94 48) + ((m 102 s.toNatClampNeg) + (1 : Int32)))) 111 = ((ma_u (ma_u m 111 (m 103 s.toNatClampNeg).toNatClampNeg (-1 : Int32)) 111 to.toNatClampNeg s) 111) from ((ma_u_ne _ _ _ (by decide)).trans (mu_congr ((ma_u_ne _ _ _ (by decide)).trans (mu_congr rfl)))))]; exact (show zmov s to (m 103) (m 111) ((ma_u m 103 s.toNatClampNeg to) 103) ((ma_u (ma_u m 111 (m 103 s.toNatClampNeg).toNatClampNeg (-1 : Int32)) 111 to.toNatClampNeg s) 111) from by first | (exact mv_1 (by decide) (tn_cast (by omega)).symm (by assumption)) | (exfalso; omega; done) | (exfalso; contradiction; done)))
    · skip
      have g25 := i_ne h13
      have hg26 : (0 ≤ s ∧ s.toNatClampNeg < 3100) := i_ix (by omega) (by omega)
      refine ⟨hg26, ?_⟩
      have hg27 : (0 ≤ to ∧ to.toNatClampNeg < 4600) := i_ix (by omega) (by omega)
      refine ⟨hg27, ?_⟩
      have hg28 : (0 ≤ s ∧ s.toNatClampNeg < 3100) := i_ix (by omega) (by omega)
      refine ⟨hg28, ?_⟩
      have hV29 : zV (ma_u m 103 s.toNatClampNeg to) := ua_103 hV (by omega) (by omega)
      have hV30 : zV (ma_u (ma_u m 103 s.toNatClampNeg to) 111 to.toNatClampNeg s) := ua_111 hV29 (by omega) (by omega)
      have hV31 : zV (ma_u (ma_u (ma_u m 103 s.toNatClampNeg to) 111 to.toNatClampNeg s) 94 48 ((m 94 48) + ((m 102 s.toNatClampNeg) + (1 : Int32)))) := uf_94_48 hV30
      exact K _ (zF_u (zF_u (zF_u zF_rfl rfl) rfl) rfl) hV31 (by rw [(show (ma_u (ma_u (ma_u m 103 s.toNatClampNeg to) 111 to.toNatClampNeg s) 94 48 ((m 94 48) + ((m 102 s.toNatClampNeg) + (1 : Int32)))) 99 = (m 99) from ((ma_u_ne _ _ _ (by decide)).trans ((ma_u_ne _ _ _ (by decide)).trans ((ma_u_ne _ _ _ (by decide)).trans rfl)))), (show (ma_u (ma_u (ma_u m 103 s.toNatClampNeg to) 111 to.toNatClampNeg s) 94 48 ((m 94 48) + ((m 102 s.toNatClampNeg) + (1 : Int32)))) 103 = ((ma_u m 103 s.toNatClampNeg to) 103) from ((ma_u_ne _ _ _ (by decide)).trans ((ma_u_ne _ _ _ (by decide)).trans (mu_congr rfl)))), (show (ma_u (ma_u (ma_u m 103 s.toNatClampNeg to) 111 to.toNatClampNeg s) 94 48 ((m 94 48) + ((m 102 s.toNatClampNeg) + (1 : Int32)))) 111 = ((ma_u m 111 to.toNatClampNeg s) 111) from ((ma_u_ne _ _ _ (by decide)).trans (mu_congr ((ma_u_ne _ _ _ (by decide)).trans rfl))))]; exact (show zOw (m 99) ((ma_u m 103 s.toNatClampNeg to) 103) ((ma_u m 111 to.toNatClampNeg s) 111) from by first | (exact Ow_mv2 r_OW r_US (tn_cast (by omega)).symm (by assumption) (by omega) rfl (tn_cast (by omega)).symm) | (exact Ow_rm r_OW (by decide) (tn_cast (by omega)).symm) | (exfalso; omega; done) | (exfalso; contradiction; done))) (by rw [(show (ma_u (ma_u (ma_u m 103 s.toNatClampNeg to) 111 to.toNatClampNeg s) 94 48 ((m 94 48) + ((m 102 s.toNatClampNeg) + (1 : Int32)))) 103 = ((ma_u m 103 s.toNatClampNeg to) 103) from ((ma_u_ne _ _ _ (by decide)).trans ((ma_u_ne _ _ _ (by decide)).trans (mu_congr rfl)))), (show (ma_u (ma_u (ma_u m 103 s.toNatClampNeg to) 111 to.toNatClampNeg s) 94 48 ((m 94 48) + ((m 102 s.toNatClampNeg) + (1 : Int32)))) 111 = ((ma_u m 111 to.toNatClampNeg s) 111) from ((ma_u_ne _ _ _ (by decide)).trans (mu_congr ((ma_u_ne _ _ _ (by decide)).trans rfl))))]; exact (show zmov s to (m 103) (m 111) ((ma_u m 103 s.toNatClampNeg to) 103) ((ma_u m 111 to.toNatClampNeg s) 111) from by first | (exact mv_2) | (exfalso; omega; done) | (exfalso; contradiction; done)))
