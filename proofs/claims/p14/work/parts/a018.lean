/-! from 94.403 -/
/-! the reference (written by wip/tools/gen94m.py) -/
set_option maxRecDepth 100000 in
theorem hm_174 : ma_md 174 = some (12, yX12_wrong, cX12_wrong, 2, (some (FieldType.boolean))) := rfl
set_option maxRecDepth 100000 in
theorem hm_177 : ma_md 177 = some (12, yX12_number, cX12_number, 7, (some (FieldType.boolean))) := rfl
theorem p_12_133_12 : ma_pk 12 133 12 70 = true := by decide +kernel
theorem p_12_147_12 : ma_pk 12 147 12 71 = true := by decide +kernel
theorem v_12_140_12 : ma_vl 12 140 12 = some (1, 173, 0) := by decide +kernel
theorem v_12_144_12 : ma_vl 12 144 12 = some (1, 174, 1) := by decide +kernel
theorem dX12_number_0 : decode cX12_number 0 = .ok (.aload_n 0, 1) := by decide +kernel
theorem dX12_number_1 : decode cX12_number 1 = .ok (.invokevirtual 140, 3) := by decide +kernel
theorem dX12_number_16 : decode cX12_number 16 = .ok (.aload_n 0, 1) := by decide +kernel
theorem dX12_number_20 : decode cX12_number 20 = .ok (.iconst 5, 1) := by decide +kernel
theorem dX12_number_28 : decode cX12_number 28 = .ok (.iconst 0, 1) := by decide +kernel
theorem dX12_number_29 : decode cX12_number 29 = .ok (.istore_n 3, 1) := by decide +kernel
theorem dX12_number_30 : decode cX12_number 30 = .ok (.iconst 0, 1) := by decide +kernel
theorem dX12_number_31 : decode cX12_number 31 = .ok (.istore 4, 2) := by decide +kernel
theorem dX12_number_33 : decode cX12_number 33 = .ok (.iconst 0, 1) := by decide +kernel
theorem dX12_number_34 : decode cX12_number 34 = .ok (.istore 5, 2) := by decide +kernel
theorem dX12_number_24 : decode cX12_number 24 = .ok (.iconst 1, 1) := by decide +kernel
theorem dX12_number_25 : decode cX12_number 25 = .ok (.goto 4, 3) := by decide +kernel
theorem dX12_number_21 : decode cX12_number 21 = .ok (.if_icmp .gt 7, 3) := by decide +kernel
theorem dX12_number_17 : decode cX12_number 17 = .ok (.getfield 130, 3) := by decide +kernel
theorem dX12_number_7 : decode cX12_number 7 = .ok (.aload_n 0, 1) := by decide +kernel
theorem dX12_number_8 : decode cX12_number 8 = .ok (.aload_n 0, 1) := by decide +kernel
theorem dX12_number_12 : decode cX12_number 12 = .ok (.invokevirtual 144, 3) := by decide +kernel
theorem dX12_wrong_0 : decode cX12_wrong 0 = .ok (.aload_n 0, 1) := by decide +kernel
theorem dX12_wrong_1 : decode cX12_wrong 1 = .ok (.iload_n 1, 1) := by decide +kernel
theorem dX12_wrong_5 : decode cX12_wrong 5 = .ok (.iconst 0, 1) := by decide +kernel
theorem dX12_number_15 : decode cX12_number 15 = .ok (.ireturn, 1) := by decide +kernel
theorem dX12_wrong_6 : decode cX12_wrong 6 = .ok (.ireturn, 1) := by decide +kernel
theorem dX12_wrong_2 : decode cX12_wrong 2 = .ok (.putfield 133, 3) := by decide +kernel
theorem dX12_number_9 : decode cX12_number 9 = .ok (.getfield 124, 3) := by decide +kernel
theorem dX12_number_4 : decode cX12_number 4 = .ok (.ifCond .ne 12, 3) := by decide +kernel
theorem dX12_number_36 : decode cX12_number 36 = .ok (.iload 5, 2) := by decide +kernel
theorem dX12_number_38 : decode cX12_number 38 = .ok (.aload_n 0, 1) := by decide +kernel
theorem dX12_number_102 : decode cX12_number 102 = .ok (.aload_n 0, 1) := by decide +kernel
theorem dX12_number_103 : decode cX12_number 103 = .ok (.iload 4, 2) := by decide +kernel
theorem dX12_number_108 : decode cX12_number 108 = .ok (.iload_n 3, 1) := by decide +kernel
theorem dX12_number_124 : decode cX12_number 124 = .ok (.aload_n 0, 1) := by decide +kernel
theorem dX12_number_125 : decode cX12_number 125 = .ok (.aload_n 0, 1) := by decide +kernel
theorem dX12_number_129 : decode cX12_number 129 = .ok (.invokevirtual 144, 3) := by decide +kernel
theorem dX12_number_132 : decode cX12_number 132 = .ok (.ifCond .eq 7, 3) := by decide +kernel
theorem dX12_number_139 : decode cX12_number 139 = .ok (.iconst 0, 1) := by decide +kernel
theorem dX12_number_140 : decode cX12_number 140 = .ok (.ireturn, 1) := by decide +kernel
theorem dX12_number_126 : decode cX12_number 126 = .ok (.getfield 127, 3) := by decide +kernel
theorem dX12_number_112 : decode cX12_number 112 = .ok (.iload 4, 2) := by decide +kernel
theorem dX12_number_114 : decode cX12_number 114 = .ok (.iload_n 1, 1) := by decide +kernel
theorem dX12_number_118 : decode cX12_number 118 = .ok (.iload 4, 2) := by decide +kernel
theorem dX12_number_120 : decode cX12_number 120 = .ok (.iload_n 2, 1) := by decide +kernel
theorem dX12_number_135 : decode cX12_number 135 = .ok (.iconst 1, 1) := by decide +kernel
theorem dX12_number_136 : decode cX12_number 136 = .ok (.goto 4, 3) := by decide +kernel
theorem dX12_number_121 : decode cX12_number 121 = .ok (.if_icmp .le 14, 3) := by decide +kernel
theorem dX12_number_115 : decode cX12_number 115 = .ok (.if_icmp .lt 9, 3) := by decide +kernel
theorem dX12_number_109 : decode cX12_number 109 = .ok (.ifCond .eq 15, 3) := by decide +kernel
theorem dX12_number_105 : decode cX12_number 105 = .ok (.putfield 147, 3) := by decide +kernel
theorem dX12_number_45 : decode cX12_number 45 = .ok (.iload_n 3, 1) := by decide +kernel
theorem dX12_number_49 : decode cX12_number 49 = .ok (.aload_n 0, 1) := by decide +kernel
theorem dX12_number_53 : decode cX12_number 53 = .ok (.aload_n 0, 1) := by decide +kernel
theorem dX12_number_57 : decode cX12_number 57 = .ok (.iload 5, 2) := by decide +kernel
theorem dX12_number_59 : decode cX12_number 59 = .ok (.iadd, 1) := by decide +kernel
theorem dX12_number_61 : decode cX12_number 61 = .ok (.istore 6, 2) := by decide +kernel
theorem dX12_number_63 : decode cX12_number 63 = .ok (.iload 6, 2) := by decide +kernel
theorem dX12_number_65 : decode cX12_number 65 = .ok (.bipush 48, 2) := by decide +kernel
theorem dX12_number_81 : decode cX12_number 81 = .ok (.iconst 0, 1) := by decide +kernel
theorem dX12_number_82 : decode cX12_number 82 = .ok (.istore_n 3, 1) := by decide +kernel
theorem dX12_number_83 : decode cX12_number 83 = .ok (.bipush 10, 2) := by decide +kernel
theorem dX12_number_85 : decode cX12_number 85 = .ok (.iload 4, 2) := by decide +kernel
theorem dX12_number_87 : decode cX12_number 87 = .ok (.imul, 1) := by decide +kernel
theorem dX12_number_88 : decode cX12_number 88 = .ok (.iload 6, 2) := by decide +kernel
theorem dX12_number_90 : decode cX12_number 90 = .ok (.iadd, 1) := by decide +kernel
theorem dX12_number_91 : decode cX12_number 91 = .ok (.bipush 48, 2) := by decide +kernel
theorem dX12_number_93 : decode cX12_number 93 = .ok (.isub, 1) := by decide +kernel
theorem dX12_number_94 : decode cX12_number 94 = .ok (.istore 4, 2) := by decide +kernel
theorem dX12_number_96 : decode cX12_number 96 = .ok (.iinc 5 1, 3) := by decide +kernel
theorem dX12_number_99 : decode cX12_number 99 = .ok (.goto (-63), 3) := by decide +kernel
theorem dX12_number_70 : decode cX12_number 70 = .ok (.iload 6, 2) := by decide +kernel
theorem dX12_number_72 : decode cX12_number 72 = .ok (.bipush 57, 2) := by decide +kernel
theorem dX12_number_77 : decode cX12_number 77 = .ok (.iconst 1, 1) := by decide +kernel
theorem dX12_number_78 : decode cX12_number 78 = .ok (.goto 4, 3) := by decide +kernel
theorem dX12_number_74 : decode cX12_number 74 = .ok (.if_icmp .gt 7, 3) := by decide +kernel
theorem dX12_number_67 : decode cX12_number 67 = .ok (.if_icmp .lt 14, 3) := by decide +kernel
theorem dX12_number_60 : decode cX12_number 60 = .ok (.baload, 1) := by decide +kernel
theorem dX12_number_54 : decode cX12_number 54 = .ok (.getfield 127, 3) := by decide +kernel
theorem dX12_number_50 : decode cX12_number 50 = .ok (.getfield 17, 3) := by decide +kernel
theorem dX12_number_46 : decode cX12_number 46 = .ok (.ifCond .eq 56, 3) := by decide +kernel
theorem dX12_number_42 : decode cX12_number 42 = .ok (.if_icmp .ge 60, 3) := by decide +kernel
theorem dX12_number_39 : decode cX12_number 39 = .ok (.getfield 130, 3) := by decide +kernel
def wr_177 (c k : Nat) : Bool := (Nat.beq c 94 && (Nat.beq k 67 || Nat.beq k 68 || Nat.beq k 69 || Nat.beq k 70 || Nat.beq k 71))
theorem ws_173_177 : ∀ c k, wr_173 c k = true → wr_177 c k = true := by
  intro c k h
  simp only [wr_173, wr_177, Bool.or_eq_true, Bool.and_eq_true, Nat.beq_eq] at h ⊢
  omega
theorem g_177_0 {X : Nat × (Nat → Int32)} {m : Nat → Nat → Int32} {P : Option ma_V → (Nat → Nat → Int32) → Prop} (lo : Int32) (hi : Int32) (h : zm X 0 0 173 0 [(0, .inr (.inr (some 94)))] m (zmi (fun v2 m1 => if v2 = 0 then (P (some (.inl (0 : Int32))) (ma_u m1 94 70 (m1 94 4))) else (if (5 : Int32) < (m1 94 69) then (zm X 1 21 177 36 [(0, .inr (.inr (some 94))), (1, .inl lo), (2, .inl hi), (3, .inl (0 : Int32)), (4, .inl (0 : Int32)), (5, .inl (0 : Int32))] m1 P) else (zm X 1 21 177 36 [(0, .inr (.inr (some 94))), (1, .inl lo), (2, .inl hi), (3, .inl (1 : Int32)), (4, .inl (0 : Int32)), (5, .inl (0 : Int32))] m1 P))))) : zm X 1 21 177 0 [(0, .inr (.inr (some 94))), (1, .inl lo), (2, .inl hi)] m P := by
  intro d w S Q hd hw hS hm HQ
  subst hm
  refine zw_push hm_177 dX12_number_0 (v := .inr (.inr (some 94))) rfl ?_
  refine zw_cv hm_177 dX12_number_1 v_12_140_12 hm_173 [] [] rfl (zT_rt hS s_94 rfl) ⟨by omega, by omega⟩ rfl (h _ _ S _ (by omega) (by omega) hS rfl (fun o9 m1 hv => ?_))
  obtain ⟨v2, rfl, h⟩ := zmi_of hv
  show ma_wp X d w 177 4 [(0, .inr (.inr (some 94))), (1, .inl lo), (2, .inl hi)] [.inl v2] (zst S m1) _
  refine zw_if0 hm_177 dX12_number_4 (t := 16) rfl zc0_ne ?_ ?_
  · intro hc
    rw [if_neg hc] at h
    refine zw_push hm_177 dX12_number_16 (v := .inr (.inr (some 94))) rfl ?_
    refine zw_gf hm_177 dX12_number_17 (v := .inl (m1 94 69)) (zT_is (zT_zst hS m1) s_94) (zT_t (zT_zst hS m1) s_94) rfl f_12_130_12 rfl ?_
    refine zw_push hm_177 dX12_number_20 (v := .inl (5 : Int32)) rfl ?_
    refine zw_if2 hm_177 dX12_number_21 (t := 28) rfl zc2_gt ?_ ?_
    · intro hc
      rw [if_pos hc] at h
      refine zw_push hm_177 dX12_number_28 (v := .inl (0 : Int32)) rfl ?_
      refine zw_sto hm_177 dX12_number_29 [(3, .inl (0 : Int32)), (0, .inr (.inr (some 94))), (1, .inl lo), (2, .inl hi)] rfl rfl rfl ?_
      refine zw_push hm_177 dX12_number_30 (v := .inl (0 : Int32)) rfl ?_
      refine zw_sto hm_177 dX12_number_31 [(4, .inl (0 : Int32)), (3, .inl (0 : Int32)), (0, .inr (.inr (some 94))), (1, .inl lo), (2, .inl hi)] rfl rfl rfl ?_
      refine zw_push hm_177 dX12_number_33 (v := .inl (0 : Int32)) rfl ?_
      refine zw_sto hm_177 dX12_number_34 [(5, .inl (0 : Int32)), (4, .inl (0 : Int32)), (3, .inl (0 : Int32)), (0, .inr (.inr (some 94))), (1, .inl lo), (2, .inl hi)] rfl rfl rfl ?_
      exact zw_sub (ma_nd_of (ks := [0, 1, 2, 3, 4, 5]) rfl (by decide)) (ma_nd_of (ks := [5, 4, 3, 0, 1, 2]) rfl (by decide)) (ma_le_cons rfl (ma_le_cons rfl (ma_le_cons rfl (ma_le_cons rfl (ma_le_cons rfl (ma_le_cons rfl (ma_le_nil _))))))) (h d w _ Q (by omega) (by omega) (zT_zst hS m1) rfl HQ)
    · intro hc
      rw [if_neg hc] at h
      refine zw_push hm_177 dX12_number_24 (v := .inl (1 : Int32)) rfl ?_
      refine zw_goto hm_177 dX12_number_25 (t := 29) rfl ?_
      refine zw_sto hm_177 dX12_number_29 [(3, .inl (1 : Int32)), (0, .inr (.inr (some 94))), (1, .inl lo), (2, .inl hi)] rfl rfl rfl ?_
      refine zw_push hm_177 dX12_number_30 (v := .inl (0 : Int32)) rfl ?_
      refine zw_sto hm_177 dX12_number_31 [(4, .inl (0 : Int32)), (3, .inl (1 : Int32)), (0, .inr (.inr (some 94))), (1, .inl lo), (2, .inl hi)] rfl rfl rfl ?_
      refine zw_push hm_177 dX12_number_33 (v := .inl (0 : Int32)) rfl ?_
      refine zw_sto hm_177 dX12_number_34 [(5, .inl (0 : Int32)), (4, .inl (0 : Int32)), (3, .inl (1 : Int32)), (0, .inr (.inr (some 94))), (1, .inl lo), (2, .inl hi)] rfl rfl rfl ?_
      exact zw_sub (ma_nd_of (ks := [0, 1, 2, 3, 4, 5]) rfl (by decide)) (ma_nd_of (ks := [5, 4, 3, 0, 1, 2]) rfl (by decide)) (ma_le_cons rfl (ma_le_cons rfl (ma_le_cons rfl (ma_le_cons rfl (ma_le_cons rfl (ma_le_cons rfl (ma_le_nil _))))))) (h d w _ Q (by omega) (by omega) (zT_zst hS m1) rfl HQ)
  · intro hc
    rw [if_pos (Classical.not_not.mp hc)] at h
    refine zw_push hm_177 dX12_number_7 (v := .inr (.inr (some 94))) rfl ?_
    refine zw_push hm_177 dX12_number_8 (v := .inr (.inr (some 94))) rfl ?_
    refine zw_gf hm_177 dX12_number_9 (v := .inl (m1 94 4)) (zT_is (zT_zst hS m1) s_94) (zT_t (zT_zst hS m1) s_94) rfl f_12_124_12 rfl ?_
    refine zw_cv hm_177 dX12_number_12 v_12_144_12 hm_174 [.inl (m1 94 4)] [] rfl (zT_rt (zT_zst hS m1) s_94 rfl) ⟨by omega, by omega⟩ rfl ?_
    show ma_wp X (d - 1) (w - 21) 174 0 [(0, .inr (.inr (some 94))), (1, .inl (m1 94 4))] [] (zst S m1) _
    refine zw_push hm_174 dX12_wrong_0 (v := .inr (.inr (some 94))) rfl ?_
    refine zw_push hm_174 dX12_wrong_1 (v := .inl (m1 94 4)) rfl ?_
    refine zw_pf hm_174 dX12_wrong_2 (zT_is (zT_zst hS m1) s_94) (zT_t (zT_zst hS m1) s_94) p_12_133_12 zk_int ?_
    refine zw_push hm_174 dX12_wrong_5 (v := .inl (0 : Int32)) rfl ?_
    refine zw_bret hm_174 dX12_wrong_6 (by decide) ?_
    show ma_wp X d w 177 15 [(0, .inr (.inr (some 94))), (1, .inl lo), (2, .inl hi)] [.inl (0 : Int32)] (ma_put (zst S m1) 94 70 (.inl (m1 94 4))) _
    exact zw_bret hm_177 dX12_number_15 (by decide) (HQ _ _ h)
theorem g_177_36 {X : Nat × (Nat → Int32)} {m : Nat → Nat → Int32} {P : Option ma_V → (Nat → Nat → Int32) → Prop} (l1 : Int32) (l2 : Int32) (l3 : Int32) (l4 : Int32) (l5 : Int32) (h : if (m 94 69) ≤ l5 then (if l3 = 0 then (P (some (.inl (0 : Int32))) (ma_u (ma_u m 94 71 l4) 94 70 (m 94 68))) else (if l4 < l1 then (P (some (.inl (0 : Int32))) (ma_u (ma_u m 94 71 l4) 94 70 (m 94 68))) else (if l4 ≤ l2 then (P (some (.inl (1 : Int32))) (ma_u m 94 71 l4)) else (P (some (.inl (0 : Int32))) (ma_u (ma_u m 94 71 l4) 94 70 (m 94 68)))))) else (if l3 = 0 then (if l3 = 0 then (P (some (.inl (0 : Int32))) (ma_u (ma_u m 94 71 l4) 94 70 (m 94 68))) else (if l4 < l1 then (P (some (.inl (0 : Int32))) (ma_u (ma_u m 94 71 l4) 94 70 (m 94 68))) else (if l4 ≤ l2 then (P (some (.inl (1 : Int32))) (ma_u m 94 71 l4)) else (P (some (.inl (0 : Int32))) (ma_u (ma_u m 94 71 l4) 94 70 (m 94 68)))))) else ((0 ≤ ((m 94 68) + l5) ∧ ((m 94 68) + l5).toNatClampNeg < 100) ∧ (if (m 96 ((m 94 68) + l5).toNatClampNeg) < (48 : Int32) then (zm X 1 21 177 36 [(0, .inr (.inr (some 94))), (1, .inl l1), (2, .inl l2), (3, .inl (0 : Int32)), (4, .inl ((((10 : Int32) * l4) + (m 96 ((m 94 68) + l5).toNatClampNeg)) - (48 : Int32))), (5, .inl (l5 + (1 : Int32)))] m P) else (if (57 : Int32) < (m 96 ((m 94 68) + l5).toNatClampNeg) then (zm X 1 21 177 36 [(0, .inr (.inr (some 94))), (1, .inl l1), (2, .inl l2), (3, .inl (0 : Int32)), (4, .inl ((((10 : Int32) * l4) + (m 96 ((m 94 68) + l5).toNatClampNeg)) - (48 : Int32))), (5, .inl (l5 + (1 : Int32)))] m P) else (zm X 1 21 177 36 [(0, .inr (.inr (some 94))), (1, .inl l1), (2, .inl l2), (3, .inl (1 : Int32)), (4, .inl ((((10 : Int32) * l4) + (m 96 ((m 94 68) + l5).toNatClampNeg)) - (48 : Int32))), (5, .inl (l5 + (1 : Int32)))] m P)))))) : zm X 1 21 177 36 [(0, .inr (.inr (some 94))), (1, .inl l1), (2, .inl l2), (3, .inl l3), (4, .inl l4), (5, .inl l5)] m P := by
  intro d w S Q hd hw hS hm HQ
  subst hm
  refine zw_push hm_177 dX12_number_36 (v := .inl l5) rfl ?_
  refine zw_push hm_177 dX12_number_38 (v := .inr (.inr (some 94))) rfl ?_
  refine zw_gf hm_177 dX12_number_39 (v := .inl ((mI S) 94 69)) (zT_is hS s_94) (zT_t hS s_94) rfl f_12_130_12 rfl ?_
  refine zw_if2 hm_177 dX12_number_42 (t := 102) rfl zc2_ge ?_ ?_
  · intro hc
    rw [if_pos hc] at h
    refine zw_push hm_177 dX12_number_102 (v := .inr (.inr (some 94))) rfl ?_
    refine zw_push hm_177 dX12_number_103 (v := .inl l4) rfl ?_
    refine zw_pf hm_177 dX12_number_105 (zT_is hS s_94) (zT_t hS s_94) p_12_147_12 zk_int ?_
    refine zw_push hm_177 dX12_number_108 (v := .inl l3) rfl ?_
    refine zw_if0 hm_177 dX12_number_109 (t := 124) rfl zc0_eq ?_ ?_
    · intro hc
      rw [if_pos hc] at h
      refine zw_push hm_177 dX12_number_124 (v := .inr (.inr (some 94))) rfl ?_
      refine zw_push hm_177 dX12_number_125 (v := .inr (.inr (some 94))) rfl ?_
      refine zw_gf hm_177 dX12_number_126 (v := .inl ((mI S) 94 68)) (zT_is (zT_pi hS) s_94) (zT_t (zT_pi hS) s_94) rfl f_12_127_12 rfl ?_
      refine zw_cv hm_177 dX12_number_129 v_12_144_12 hm_174 [.inl ((mI S) 94 68)] [] rfl (zT_rt (zT_pi hS) s_94 rfl) ⟨by omega, by omega⟩ rfl ?_
      show ma_wp X (d - 1) (w - 21) 174 0 [(0, .inr (.inr (some 94))), (1, .inl ((mI S) 94 68))] [] (ma_put S 94 71 (.inl l4)) _
      refine zw_push hm_174 dX12_wrong_0 (v := .inr (.inr (some 94))) rfl ?_
      refine zw_push hm_174 dX12_wrong_1 (v := .inl ((mI S) 94 68)) rfl ?_
      refine zw_pf hm_174 dX12_wrong_2 (zT_is (zT_pi hS) s_94) (zT_t (zT_pi hS) s_94) p_12_133_12 zk_int ?_
      refine zw_push hm_174 dX12_wrong_5 (v := .inl (0 : Int32)) rfl ?_
      refine zw_bret hm_174 dX12_wrong_6 (by decide) ?_
      show ma_wp X d w 177 132 [(0, .inr (.inr (some 94))), (1, .inl l1), (2, .inl l2), (3, .inl l3), (4, .inl l4), (5, .inl l5)] [.inl (0 : Int32)] (ma_put (ma_put S 94 71 (.inl l4)) 94 70 (.inl ((mI S) 94 68))) _
      refine zw_if0 hm_177 dX12_number_132 (t := 139) rfl zc0_eq (fun _ => ?_) (fun hc => absurd (by decide) hc)
      refine zw_push hm_177 dX12_number_139 (v := .inl (0 : Int32)) rfl ?_
      exact zw_bret hm_177 dX12_number_140 (by decide) (HQ _ _ h)
    · intro hc
      rw [if_neg hc] at h
      refine zw_push hm_177 dX12_number_112 (v := .inl l4) rfl ?_
      refine zw_push hm_177 dX12_number_114 (v := .inl l1) rfl ?_
      refine zw_if2 hm_177 dX12_number_115 (t := 124) rfl zc2_lt ?_ ?_
      · intro hc
        rw [if_pos hc] at h
        refine zw_push hm_177 dX12_number_124 (v := .inr (.inr (some 94))) rfl ?_
        refine zw_push hm_177 dX12_number_125 (v := .inr (.inr (some 94))) rfl ?_
        refine zw_gf hm_177 dX12_number_126 (v := .inl ((mI S) 94 68)) (zT_is (zT_pi hS) s_94) (zT_t (zT_pi hS) s_94) rfl f_12_127_12 rfl ?_
        refine zw_cv hm_177 dX12_number_129 v_12_144_12 hm_174 [.inl ((mI S) 94 68)] [] rfl (zT_rt (zT_pi hS) s_94 rfl) ⟨by omega, by omega⟩ rfl ?_
        show ma_wp X (d - 1) (w - 21) 174 0 [(0, .inr (.inr (some 94))), (1, .inl ((mI S) 94 68))] [] (ma_put S 94 71 (.inl l4)) _
        refine zw_push hm_174 dX12_wrong_0 (v := .inr (.inr (some 94))) rfl ?_
        refine zw_push hm_174 dX12_wrong_1 (v := .inl ((mI S) 94 68)) rfl ?_
        refine zw_pf hm_174 dX12_wrong_2 (zT_is (zT_pi hS) s_94) (zT_t (zT_pi hS) s_94) p_12_133_12 zk_int ?_
        refine zw_push hm_174 dX12_wrong_5 (v := .inl (0 : Int32)) rfl ?_
        refine zw_bret hm_174 dX12_wrong_6 (by decide) ?_
        show ma_wp X d w 177 132 [(0, .inr (.inr (some 94))), (1, .inl l1), (2, .inl l2), (3, .inl l3), (4, .inl l4), (5, .inl l5)] [.inl (0 : Int32)] (ma_put (ma_put S 94 71 (.inl l4)) 94 70 (.inl ((mI S) 94 68))) _
        refine zw_if0 hm_177 dX12_number_132 (t := 139) rfl zc0_eq (fun _ => ?_) (fun hc => absurd (by decide) hc)
        refine zw_push hm_177 dX12_number_139 (v := .inl (0 : Int32)) rfl ?_
        exact zw_bret hm_177 dX12_number_140 (by decide) (HQ _ _ h)
      · intro hc
        rw [if_neg hc] at h
        refine zw_push hm_177 dX12_number_118 (v := .inl l4) rfl ?_
        refine zw_push hm_177 dX12_number_120 (v := .inl l2) rfl ?_
        refine zw_if2 hm_177 dX12_number_121 (t := 135) rfl zc2_le ?_ ?_
        · intro hc
          rw [if_pos hc] at h
          refine zw_push hm_177 dX12_number_135 (v := .inl (1 : Int32)) rfl ?_
          refine zw_goto hm_177 dX12_number_136 (t := 140) rfl ?_
          exact zw_bret hm_177 dX12_number_140 (by decide) (HQ _ _ h)
        · intro hc
          rw [if_neg hc] at h
          refine zw_push hm_177 dX12_number_124 (v := .inr (.inr (some 94))) rfl ?_
          refine zw_push hm_177 dX12_number_125 (v := .inr (.inr (some 94))) rfl ?_
          refine zw_gf hm_177 dX12_number_126 (v := .inl ((mI S) 94 68)) (zT_is (zT_pi hS) s_94) (zT_t (zT_pi hS) s_94) rfl f_12_127_12 rfl ?_
          refine zw_cv hm_177 dX12_number_129 v_12_144_12 hm_174 [.inl ((mI S) 94 68)] [] rfl (zT_rt (zT_pi hS) s_94 rfl) ⟨by omega, by omega⟩ rfl ?_
          show ma_wp X (d - 1) (w - 21) 174 0 [(0, .inr (.inr (some 94))), (1, .inl ((mI S) 94 68))] [] (ma_put S 94 71 (.inl l4)) _
          refine zw_push hm_174 dX12_wrong_0 (v := .inr (.inr (some 94))) rfl ?_
          refine zw_push hm_174 dX12_wrong_1 (v := .inl ((mI S) 94 68)) rfl ?_
          refine zw_pf hm_174 dX12_wrong_2 (zT_is (zT_pi hS) s_94) (zT_t (zT_pi hS) s_94) p_12_133_12 zk_int ?_
          refine zw_push hm_174 dX12_wrong_5 (v := .inl (0 : Int32)) rfl ?_
          refine zw_bret hm_174 dX12_wrong_6 (by decide) ?_
          show ma_wp X d w 177 132 [(0, .inr (.inr (some 94))), (1, .inl l1), (2, .inl l2), (3, .inl l3), (4, .inl l4), (5, .inl l5)] [.inl (0 : Int32)] (ma_put (ma_put S 94 71 (.inl l4)) 94 70 (.inl ((mI S) 94 68))) _
          refine zw_if0 hm_177 dX12_number_132 (t := 139) rfl zc0_eq (fun _ => ?_) (fun hc => absurd (by decide) hc)
          refine zw_push hm_177 dX12_number_139 (v := .inl (0 : Int32)) rfl ?_
          exact zw_bret hm_177 dX12_number_140 (by decide) (HQ _ _ h)
  · intro hc
    rw [if_neg hc] at h
    refine zw_push hm_177 dX12_number_45 (v := .inl l3) rfl ?_
    refine zw_if0 hm_177 dX12_number_46 (t := 102) rfl zc0_eq ?_ ?_
    · intro hc
      rw [if_pos hc] at h
      refine zw_push hm_177 dX12_number_102 (v := .inr (.inr (some 94))) rfl ?_
      refine zw_push hm_177 dX12_number_103 (v := .inl l4) rfl ?_
      refine zw_pf hm_177 dX12_number_105 (zT_is hS s_94) (zT_t hS s_94) p_12_147_12 zk_int ?_
      refine zw_push hm_177 dX12_number_108 (v := .inl l3) rfl ?_
      refine zw_if0 hm_177 dX12_number_109 (t := 124) rfl zc0_eq ?_ ?_
      · intro hc
        rw [if_pos hc] at h
        refine zw_push hm_177 dX12_number_124 (v := .inr (.inr (some 94))) rfl ?_
        refine zw_push hm_177 dX12_number_125 (v := .inr (.inr (some 94))) rfl ?_
        refine zw_gf hm_177 dX12_number_126 (v := .inl ((mI S) 94 68)) (zT_is (zT_pi hS) s_94) (zT_t (zT_pi hS) s_94) rfl f_12_127_12 rfl ?_
        refine zw_cv hm_177 dX12_number_129 v_12_144_12 hm_174 [.inl ((mI S) 94 68)] [] rfl (zT_rt (zT_pi hS) s_94 rfl) ⟨by omega, by omega⟩ rfl ?_
        show ma_wp X (d - 1) (w - 21) 174 0 [(0, .inr (.inr (some 94))), (1, .inl ((mI S) 94 68))] [] (ma_put S 94 71 (.inl l4)) _
        refine zw_push hm_174 dX12_wrong_0 (v := .inr (.inr (some 94))) rfl ?_
        refine zw_push hm_174 dX12_wrong_1 (v := .inl ((mI S) 94 68)) rfl ?_
        refine zw_pf hm_174 dX12_wrong_2 (zT_is (zT_pi hS) s_94) (zT_t (zT_pi hS) s_94) p_12_133_12 zk_int ?_
        refine zw_push hm_174 dX12_wrong_5 (v := .inl (0 : Int32)) rfl ?_
        refine zw_bret hm_174 dX12_wrong_6 (by decide) ?_
        show ma_wp X d w 177 132 [(0, .inr (.inr (some 94))), (1, .inl l1), (2, .inl l2), (3, .inl l3), (4, .inl l4), (5, .inl l5)] [.inl (0 : Int32)] (ma_put (ma_put S 94 71 (.inl l4)) 94 70 (.inl ((mI S) 94 68))) _
        refine zw_if0 hm_177 dX12_number_132 (t := 139) rfl zc0_eq (fun _ => ?_) (fun hc => absurd (by decide) hc)
        refine zw_push hm_177 dX12_number_139 (v := .inl (0 : Int32)) rfl ?_
        exact zw_bret hm_177 dX12_number_140 (by decide) (HQ _ _ h)
      · intro hc
        rw [if_neg hc] at h
        refine zw_push hm_177 dX12_number_112 (v := .inl l4) rfl ?_
        refine zw_push hm_177 dX12_number_114 (v := .inl l1) rfl ?_
        refine zw_if2 hm_177 dX12_number_115 (t := 124) rfl zc2_lt ?_ ?_
        · intro hc
          rw [if_pos hc] at h
          refine zw_push hm_177 dX12_number_124 (v := .inr (.inr (some 94))) rfl ?_
          refine zw_push hm_177 dX12_number_125 (v := .inr (.inr (some 94))) rfl ?_
          refine zw_gf hm_177 dX12_number_126 (v := .inl ((mI S) 94 68)) (zT_is (zT_pi hS) s_94) (zT_t (zT_pi hS) s_94) rfl f_12_127_12 rfl ?_
          refine zw_cv hm_177 dX12_number_129 v_12_144_12 hm_174 [.inl ((mI S) 94 68)] [] rfl (zT_rt (zT_pi hS) s_94 rfl) ⟨by omega, by omega⟩ rfl ?_
          show ma_wp X (d - 1) (w - 21) 174 0 [(0, .inr (.inr (some 94))), (1, .inl ((mI S) 94 68))] [] (ma_put S 94 71 (.inl l4)) _
          refine zw_push hm_174 dX12_wrong_0 (v := .inr (.inr (some 94))) rfl ?_
          refine zw_push hm_174 dX12_wrong_1 (v := .inl ((mI S) 94 68)) rfl ?_
          refine zw_pf hm_174 dX12_wrong_2 (zT_is (zT_pi hS) s_94) (zT_t (zT_pi hS) s_94) p_12_133_12 zk_int ?_
          refine zw_push hm_174 dX12_wrong_5 (v := .inl (0 : Int32)) rfl ?_
          refine zw_bret hm_174 dX12_wrong_6 (by decide) ?_
          show ma_wp X d w 177 132 [(0, .inr (.inr (some 94))), (1, .inl l1), (2, .inl l2), (3, .inl l3), (4, .inl l4), (5, .inl l5)] [.inl (0 : Int32)] (ma_put (ma_put S 94 71 (.inl l4)) 94 70 (.inl ((mI S) 94 68))) _
          refine zw_if0 hm_177 dX12_number_132 (t := 139) rfl zc0_eq (fun _ => ?_) (fun hc => absurd (by decide) hc)
          refine zw_push hm_177 dX12_number_139 (v := .inl (0 : Int32)) rfl ?_
          exact zw_bret hm_177 dX12_number_140 (by decide) (HQ _ _ h)
        · intro hc
          rw [if_neg hc] at h
          refine zw_push hm_177 dX12_number_118 (v := .inl l4) rfl ?_
          refine zw_push hm_177 dX12_number_120 (v := .inl l2) rfl ?_
          refine zw_if2 hm_177 dX12_number_121 (t := 135) rfl zc2_le ?_ ?_
          · intro hc
            rw [if_pos hc] at h
            refine zw_push hm_177 dX12_number_135 (v := .inl (1 : Int32)) rfl ?_
            refine zw_goto hm_177 dX12_number_136 (t := 140) rfl ?_
            exact zw_bret hm_177 dX12_number_140 (by decide) (HQ _ _ h)
          · intro hc
            rw [if_neg hc] at h
            refine zw_push hm_177 dX12_number_124 (v := .inr (.inr (some 94))) rfl ?_
            refine zw_push hm_177 dX12_number_125 (v := .inr (.inr (some 94))) rfl ?_
            refine zw_gf hm_177 dX12_number_126 (v := .inl ((mI S) 94 68)) (zT_is (zT_pi hS) s_94) (zT_t (zT_pi hS) s_94) rfl f_12_127_12 rfl ?_
            refine zw_cv hm_177 dX12_number_129 v_12_144_12 hm_174 [.inl ((mI S) 94 68)] [] rfl (zT_rt (zT_pi hS) s_94 rfl) ⟨by omega, by omega⟩ rfl ?_
            show ma_wp X (d - 1) (w - 21) 174 0 [(0, .inr (.inr (some 94))), (1, .inl ((mI S) 94 68))] [] (ma_put S 94 71 (.inl l4)) _
            refine zw_push hm_174 dX12_wrong_0 (v := .inr (.inr (some 94))) rfl ?_
            refine zw_push hm_174 dX12_wrong_1 (v := .inl ((mI S) 94 68)) rfl ?_
            refine zw_pf hm_174 dX12_wrong_2 (zT_is (zT_pi hS) s_94) (zT_t (zT_pi hS) s_94) p_12_133_12 zk_int ?_
            refine zw_push hm_174 dX12_wrong_5 (v := .inl (0 : Int32)) rfl ?_
            refine zw_bret hm_174 dX12_wrong_6 (by decide) ?_
            show ma_wp X d w 177 132 [(0, .inr (.inr (some 94))), (1, .inl l1), (2, .inl l2), (3, .inl l3), (4, .inl l4), (5, .inl l5)] [.inl (0 : Int32)] (ma_put (ma_put S 94 71 (.inl l4)) 94 70 (.inl ((mI S) 94 68))) _
            refine zw_if0 hm_177 dX12_number_132 (t := 139) rfl zc0_eq (fun _ => ?_) (fun hc => absurd (by decide) hc)
            refine zw_push hm_177 dX12_number_139 (v := .inl (0 : Int32)) rfl ?_
            exact zw_bret hm_177 dX12_number_140 (by decide) (HQ _ _ h)
    · intro hc
      rw [if_neg hc] at h
      refine zw_push hm_177 dX12_number_49 (v := .inr (.inr (some 94))) rfl ?_
      refine zw_gf hm_177 dX12_number_50 (v := .inr (.inr (some 96))) (zT_is hS s_94) (zT_t hS s_94) rfl f_12_17_12 (zT_f hS r_94_2) ?_
      refine zw_push hm_177 dX12_number_53 (v := .inr (.inr (some 94))) rfl ?_
      refine zw_gf hm_177 dX12_number_54 (v := .inl ((mI S) 94 68)) (zT_is hS s_94) (zT_t hS s_94) rfl f_12_127_12 rfl ?_
      refine zw_push hm_177 dX12_number_57 (v := .inl l5) rfl ?_
      refine zw_stk hm_177 dX12_number_59 (st₉ := [.inl (((mI S) 94 68) + l5), .inr (.inr (some 96))]) rfl rfl ?_
      obtain ⟨hg, h⟩ := h
      refine zw_ba hm_177 dX12_number_60 (zT_is hS s_96) (zT_h hS s_96) rfl rfl hg ?_
      show ma_wp X d w 177 61 [(0, .inr (.inr (some 94))), (1, .inl l1), (2, .inl l2), (3, .inl l3), (4, .inl l4), (5, .inl l5)] [.inl ((mI S) 96 (((mI S) 94 68) + l5).toNatClampNeg)] S _
      refine zw_sto hm_177 dX12_number_61 [(6, .inl ((mI S) 96 (((mI S) 94 68) + l5).toNatClampNeg)), (0, .inr (.inr (some 94))), (1, .inl l1), (2, .inl l2), (3, .inl l3), (4, .inl l4), (5, .inl l5)] rfl rfl rfl ?_
      refine zw_push hm_177 dX12_number_63 (v := .inl ((mI S) 96 (((mI S) 94 68) + l5).toNatClampNeg)) rfl ?_
      refine zw_push hm_177 dX12_number_65 (v := .inl (48 : Int32)) rfl ?_
      refine zw_if2 hm_177 dX12_number_67 (t := 81) rfl zc2_lt ?_ ?_
      · intro hc
        rw [if_pos hc] at h
        refine zw_push hm_177 dX12_number_81 (v := .inl (0 : Int32)) rfl ?_
        refine zw_sto hm_177 dX12_number_82 [(3, .inl (0 : Int32)), (6, .inl ((mI S) 96 (((mI S) 94 68) + l5).toNatClampNeg)), (0, .inr (.inr (some 94))), (1, .inl l1), (2, .inl l2), (4, .inl l4), (5, .inl l5)] rfl rfl rfl ?_
        refine zw_push hm_177 dX12_number_83 (v := .inl (10 : Int32)) rfl ?_
        refine zw_push hm_177 dX12_number_85 (v := .inl l4) rfl ?_
        refine zw_stk hm_177 dX12_number_87 (st₉ := [.inl ((10 : Int32) * l4)]) rfl rfl ?_
        refine zw_push hm_177 dX12_number_88 (v := .inl ((mI S) 96 (((mI S) 94 68) + l5).toNatClampNeg)) rfl ?_
        refine zw_stk hm_177 dX12_number_90 (st₉ := [.inl (((10 : Int32) * l4) + ((mI S) 96 (((mI S) 94 68) + l5).toNatClampNeg))]) rfl rfl ?_
        refine zw_push hm_177 dX12_number_91 (v := .inl (48 : Int32)) rfl ?_
        refine zw_stk hm_177 dX12_number_93 (st₉ := [.inl ((((10 : Int32) * l4) + ((mI S) 96 (((mI S) 94 68) + l5).toNatClampNeg)) - (48 : Int32))]) rfl rfl ?_
        refine zw_sto hm_177 dX12_number_94 [(4, .inl ((((10 : Int32) * l4) + ((mI S) 96 (((mI S) 94 68) + l5).toNatClampNeg)) - (48 : Int32))), (3, .inl (0 : Int32)), (6, .inl ((mI S) 96 (((mI S) 94 68) + l5).toNatClampNeg)), (0, .inr (.inr (some 94))), (1, .inl l1), (2, .inl l2), (5, .inl l5)] rfl rfl rfl ?_
        refine zw_sto hm_177 dX12_number_96 [(5, .inl (l5 + (1 : Int32))), (4, .inl ((((10 : Int32) * l4) + ((mI S) 96 (((mI S) 94 68) + l5).toNatClampNeg)) - (48 : Int32))), (3, .inl (0 : Int32)), (6, .inl ((mI S) 96 (((mI S) 94 68) + l5).toNatClampNeg)), (0, .inr (.inr (some 94))), (1, .inl l1), (2, .inl l2)] rfl rfl rfl ?_
        refine zw_goto hm_177 dX12_number_99 (t := 36) rfl ?_
        exact zw_sub (ma_nd_of (ks := [0, 1, 2, 3, 4, 5]) rfl (by decide)) (ma_nd_of (ks := [5, 4, 3, 6, 0, 1, 2]) rfl (by decide)) (ma_le_cons rfl (ma_le_cons rfl (ma_le_cons rfl (ma_le_cons rfl (ma_le_cons rfl (ma_le_cons rfl (ma_le_nil _))))))) (h d w _ Q (by omega) (by omega) hS rfl HQ)
      · intro hc
        rw [if_neg hc] at h
        refine zw_push hm_177 dX12_number_70 (v := .inl ((mI S) 96 (((mI S) 94 68) + l5).toNatClampNeg)) rfl ?_
        refine zw_push hm_177 dX12_number_72 (v := .inl (57 : Int32)) rfl ?_
        refine zw_if2 hm_177 dX12_number_74 (t := 81) rfl zc2_gt ?_ ?_
        · intro hc
          rw [if_pos hc] at h
          refine zw_push hm_177 dX12_number_81 (v := .inl (0 : Int32)) rfl ?_
          refine zw_sto hm_177 dX12_number_82 [(3, .inl (0 : Int32)), (6, .inl ((mI S) 96 (((mI S) 94 68) + l5).toNatClampNeg)), (0, .inr (.inr (some 94))), (1, .inl l1), (2, .inl l2), (4, .inl l4), (5, .inl l5)] rfl rfl rfl ?_
          refine zw_push hm_177 dX12_number_83 (v := .inl (10 : Int32)) rfl ?_
          refine zw_push hm_177 dX12_number_85 (v := .inl l4) rfl ?_
          refine zw_stk hm_177 dX12_number_87 (st₉ := [.inl ((10 : Int32) * l4)]) rfl rfl ?_
          refine zw_push hm_177 dX12_number_88 (v := .inl ((mI S) 96 (((mI S) 94 68) + l5).toNatClampNeg)) rfl ?_
          refine zw_stk hm_177 dX12_number_90 (st₉ := [.inl (((10 : Int32) * l4) + ((mI S) 96 (((mI S) 94 68) + l5).toNatClampNeg))]) rfl rfl ?_
          refine zw_push hm_177 dX12_number_91 (v := .inl (48 : Int32)) rfl ?_
          refine zw_stk hm_177 dX12_number_93 (st₉ := [.inl ((((10 : Int32) * l4) + ((mI S) 96 (((mI S) 94 68) + l5).toNatClampNeg)) - (48 : Int32))]) rfl rfl ?_
          refine zw_sto hm_177 dX12_number_94 [(4, .inl ((((10 : Int32) * l4) + ((mI S) 96 (((mI S) 94 68) + l5).toNatClampNeg)) - (48 : Int32))), (3, .inl (0 : Int32)), (6, .inl ((mI S) 96 (((mI S) 94 68) + l5).toNatClampNeg)), (0, .inr (.inr (some 94))), (1, .inl l1), (2, .inl l2), (5, .inl l5)] rfl rfl rfl ?_
          refine zw_sto hm_177 dX12_number_96 [(5, .inl (l5 + (1 : Int32))), (4, .inl ((((10 : Int32) * l4) + ((mI S) 96 (((mI S) 94 68) + l5).toNatClampNeg)) - (48 : Int32))), (3, .inl (0 : Int32)), (6, .inl ((mI S) 96 (((mI S) 94 68) + l5).toNatClampNeg)), (0, .inr (.inr (some 94))), (1, .inl l1), (2, .inl l2)] rfl rfl rfl ?_
          refine zw_goto hm_177 dX12_number_99 (t := 36) rfl ?_
          exact zw_sub (ma_nd_of (ks := [0, 1, 2, 3, 4, 5]) rfl (by decide)) (ma_nd_of (ks := [5, 4, 3, 6, 0, 1, 2]) rfl (by decide)) (ma_le_cons rfl (ma_le_cons rfl (ma_le_cons rfl (ma_le_cons rfl (ma_le_cons rfl (ma_le_cons rfl (ma_le_nil _))))))) (h d w _ Q (by omega) (by omega) hS rfl HQ)
        · intro hc
          rw [if_neg hc] at h
          refine zw_push hm_177 dX12_number_77 (v := .inl (1 : Int32)) rfl ?_
          refine zw_goto hm_177 dX12_number_78 (t := 82) rfl ?_
          refine zw_sto hm_177 dX12_number_82 [(3, .inl (1 : Int32)), (6, .inl ((mI S) 96 (((mI S) 94 68) + l5).toNatClampNeg)), (0, .inr (.inr (some 94))), (1, .inl l1), (2, .inl l2), (4, .inl l4), (5, .inl l5)] rfl rfl rfl ?_
          refine zw_push hm_177 dX12_number_83 (v := .inl (10 : Int32)) rfl ?_
          refine zw_push hm_177 dX12_number_85 (v := .inl l4) rfl ?_
          refine zw_stk hm_177 dX12_number_87 (st₉ := [.inl ((10 : Int32) * l4)]) rfl rfl ?_
          refine zw_push hm_177 dX12_number_88 (v := .inl ((mI S) 96 (((mI S) 94 68) + l5).toNatClampNeg)) rfl ?_
          refine zw_stk hm_177 dX12_number_90 (st₉ := [.inl (((10 : Int32) * l4) + ((mI S) 96 (((mI S) 94 68) + l5).toNatClampNeg))]) rfl rfl ?_
          refine zw_push hm_177 dX12_number_91 (v := .inl (48 : Int32)) rfl ?_
          refine zw_stk hm_177 dX12_number_93 (st₉ := [.inl ((((10 : Int32) * l4) + ((mI S) 96 (((mI S) 94 68) + l5).toNatClampNeg)) - (48 : Int32))]) rfl rfl ?_
          refine zw_sto hm_177 dX12_number_94 [(4, .inl ((((10 : Int32) * l4) + ((mI S) 96 (((mI S) 94 68) + l5).toNatClampNeg)) - (48 : Int32))), (3, .inl (1 : Int32)), (6, .inl ((mI S) 96 (((mI S) 94 68) + l5).toNatClampNeg)), (0, .inr (.inr (some 94))), (1, .inl l1), (2, .inl l2), (5, .inl l5)] rfl rfl rfl ?_
          refine zw_sto hm_177 dX12_number_96 [(5, .inl (l5 + (1 : Int32))), (4, .inl ((((10 : Int32) * l4) + ((mI S) 96 (((mI S) 94 68) + l5).toNatClampNeg)) - (48 : Int32))), (3, .inl (1 : Int32)), (6, .inl ((mI S) 96 (((mI S) 94 68) + l5).toNatClampNeg)), (0, .inr (.inr (some 94))), (1, .inl l1), (2, .inl l2)] rfl rfl rfl ?_
          refine zw_goto hm_177 dX12_number_99 (t := 36) rfl ?_
          exact zw_sub (ma_nd_of (ks := [0, 1, 2, 3, 4, 5]) rfl (by decide)) (ma_nd_of (ks := [5, 4, 3, 6, 0, 1, 2]) rfl (by decide)) (ma_le_cons rfl (ma_le_cons rfl (ma_le_cons rfl (ma_le_cons rfl (ma_le_cons rfl (ma_le_cons rfl (ma_le_nil _))))))) (h d w _ Q (by omega) (by omega) hS rfl HQ)
/-! from 94.404 -/
/-! the reference (written by wip/tools/gen94m.py) -/
set_option maxRecDepth 100000 in
theorem hm_246 : ma_md 246 = some (12, yX12_placeOf, cX12_placeOf, 3, (some (FieldType.int))) := rfl
theorem s_99 : zs 99 = some (22, 3100) := rfl
theorem s_100 : zs 100 = some (20, 3100) := rfl
theorem r_94_31 : zfi 94 31 = some 99 := rfl
theorem r_94_32 : zfi 94 32 = some 100 := rfl
theorem f_12_27_12 : ma_fld 12 27 12 = some 31 := by decide +kernel
theorem f_12_31_12 : ma_fld 12 31 12 = some 32 := by decide +kernel
theorem dX12_placeOf_0 : decode cX12_placeOf 0 = .ok (.iconst 0, 1) := by decide +kernel
theorem dX12_placeOf_1 : decode cX12_placeOf 1 = .ok (.istore_n 2, 1) := by decide +kernel
theorem dX12_placeOf_2 : decode cX12_placeOf 2 = .ok (.iload_n 2, 1) := by decide +kernel
theorem dX12_placeOf_3 : decode cX12_placeOf 3 = .ok (.sipush 3100, 3) := by decide +kernel
theorem dX12_placeOf_36 : decode cX12_placeOf 36 = .ok (.iconst (-1), 1) := by decide +kernel
theorem dX12_placeOf_37 : decode cX12_placeOf 37 = .ok (.ireturn, 1) := by decide +kernel
theorem dX12_placeOf_9 : decode cX12_placeOf 9 = .ok (.aload_n 0, 1) := by decide +kernel
theorem dX12_placeOf_13 : decode cX12_placeOf 13 = .ok (.iload_n 2, 1) := by decide +kernel
theorem dX12_placeOf_30 : decode cX12_placeOf 30 = .ok (.iinc 2 1, 3) := by decide +kernel
theorem dX12_placeOf_33 : decode cX12_placeOf 33 = .ok (.goto (-31), 3) := by decide +kernel
theorem dX12_placeOf_18 : decode cX12_placeOf 18 = .ok (.aload_n 0, 1) := by decide +kernel
theorem dX12_placeOf_22 : decode cX12_placeOf 22 = .ok (.iload_n 2, 1) := by decide +kernel
theorem dX12_placeOf_24 : decode cX12_placeOf 24 = .ok (.iload_n 1, 1) := by decide +kernel
theorem dX12_placeOf_28 : decode cX12_placeOf 28 = .ok (.iload_n 2, 1) := by decide +kernel
theorem dX12_placeOf_29 : decode cX12_placeOf 29 = .ok (.ireturn, 1) := by decide +kernel
theorem dX12_placeOf_25 : decode cX12_placeOf 25 = .ok (.if_icmp .ne 5, 3) := by decide +kernel
theorem dX12_placeOf_23 : decode cX12_placeOf 23 = .ok (.iaload, 1) := by decide +kernel
theorem dX12_placeOf_19 : decode cX12_placeOf 19 = .ok (.getfield 31, 3) := by decide +kernel
theorem dX12_placeOf_15 : decode cX12_placeOf 15 = .ok (.ifCond .eq 15, 3) := by decide +kernel
theorem dX12_placeOf_14 : decode cX12_placeOf 14 = .ok (.baload, 1) := by decide +kernel
theorem dX12_placeOf_10 : decode cX12_placeOf 10 = .ok (.getfield 27, 3) := by decide +kernel
theorem dX12_placeOf_6 : decode cX12_placeOf 6 = .ok (.if_icmp .ge 30, 3) := by decide +kernel
def wr_246 (_ _ : Nat) : Bool := false
theorem g_246_0 {X : Nat × (Nat → Int32)} {m : Nat → Nat → Int32} {P : Option ma_V → (Nat → Nat → Int32) → Prop} (n : Int32) (h : zm X 0 0 246 2 [(0, .inr (.inr (some 94))), (1, .inl n), (2, .inl (0 : Int32))] m P) : zm X 0 0 246 0 [(0, .inr (.inr (some 94))), (1, .inl n)] m P := by
  intro d w S Q hd hw hS hm HQ
  subst hm
  refine zw_push hm_246 dX12_placeOf_0 (v := .inl (0 : Int32)) rfl ?_
  refine zw_sto hm_246 dX12_placeOf_1 [(2, .inl (0 : Int32)), (0, .inr (.inr (some 94))), (1, .inl n)] rfl rfl rfl ?_
  exact zw_sub (ma_nd_of (ks := [0, 1, 2]) rfl (by decide)) (ma_nd_of (ks := [2, 0, 1]) rfl (by decide)) (ma_le_cons rfl (ma_le_cons rfl (ma_le_cons rfl (ma_le_nil _)))) (h d w _ Q (by omega) (by omega) hS rfl HQ)
theorem g_246_2 {X : Nat × (Nat → Int32)} {m : Nat → Nat → Int32} {P : Option ma_V → (Nat → Nat → Int32) → Prop} (l1 : Int32) (l2 : Int32) (h : if (3100 : Int32) ≤ l2 then (P (some (.inl (-1 : Int32))) m) else ((0 ≤ l2 ∧ l2.toNatClampNeg < 3100) ∧ (if (m 99 l2.toNatClampNeg) = 0 then (zm X 0 0 246 2 [(0, .inr (.inr (some 94))), (1, .inl l1), (2, .inl (l2 + (1 : Int32)))] m P) else ((0 ≤ l2 ∧ l2.toNatClampNeg < 3100) ∧ (if (m 100 l2.toNatClampNeg) = l1 then (P (some (.inl l2)) m) else (zm X 0 0 246 2 [(0, .inr (.inr (some 94))), (1, .inl l1), (2, .inl (l2 + (1 : Int32)))] m P)))))) : zm X 0 0 246 2 [(0, .inr (.inr (some 94))), (1, .inl l1), (2, .inl l2)] m P := by
  intro d w S Q hd hw hS hm HQ
  subst hm
  refine zw_push hm_246 dX12_placeOf_2 (v := .inl l2) rfl ?_
  refine zw_push hm_246 dX12_placeOf_3 (v := .inl (3100 : Int32)) rfl ?_
  refine zw_if2 hm_246 dX12_placeOf_6 (t := 36) rfl zc2_ge ?_ ?_
  · intro hc
    rw [if_pos hc] at h
    refine zw_push hm_246 dX12_placeOf_36 (v := .inl (-1 : Int32)) rfl ?_
    exact zw_iret hm_246 dX12_placeOf_37 (HQ _ _ h)
  · intro hc
    rw [if_neg hc] at h
    refine zw_push hm_246 dX12_placeOf_9 (v := .inr (.inr (some 94))) rfl ?_
    refine zw_gf hm_246 dX12_placeOf_10 (v := .inr (.inr (some 99))) (zT_is hS s_94) (zT_t hS s_94) rfl f_12_27_12 (zT_f hS r_94_31) ?_
    refine zw_push hm_246 dX12_placeOf_13 (v := .inl l2) rfl ?_
    obtain ⟨hg, h⟩ := h
    refine zw_ba hm_246 dX12_placeOf_14 (zT_is hS s_99) (zT_h hS s_99) rfl rfl hg ?_
    show ma_wp X d w 246 15 [(0, .inr (.inr (some 94))), (1, .inl l1), (2, .inl l2)] [.inl ((mI S) 99 l2.toNatClampNeg)] S _
    refine zw_if0 hm_246 dX12_placeOf_15 (t := 30) rfl zc0_eq ?_ ?_
    · intro hc
      rw [if_pos hc] at h
      refine zw_sto hm_246 dX12_placeOf_30 [(2, .inl (l2 + (1 : Int32))), (0, .inr (.inr (some 94))), (1, .inl l1)] rfl rfl rfl ?_
      refine zw_goto hm_246 dX12_placeOf_33 (t := 2) rfl ?_
      exact zw_sub (ma_nd_of (ks := [0, 1, 2]) rfl (by decide)) (ma_nd_of (ks := [2, 0, 1]) rfl (by decide)) (ma_le_cons rfl (ma_le_cons rfl (ma_le_cons rfl (ma_le_nil _)))) (h d w _ Q (by omega) (by omega) hS rfl HQ)
    · intro hc
      rw [if_neg hc] at h
      refine zw_push hm_246 dX12_placeOf_18 (v := .inr (.inr (some 94))) rfl ?_
      refine zw_gf hm_246 dX12_placeOf_19 (v := .inr (.inr (some 100))) (zT_is hS s_94) (zT_t hS s_94) rfl f_12_31_12 (zT_f hS r_94_32) ?_
      refine zw_push hm_246 dX12_placeOf_22 (v := .inl l2) rfl ?_
      obtain ⟨hg, h⟩ := h
      refine zw_ia hm_246 dX12_placeOf_23 (zT_is hS s_100) (zT_h hS s_100) rfl hg ?_
      show ma_wp X d w 246 24 [(0, .inr (.inr (some 94))), (1, .inl l1), (2, .inl l2)] [.inl ((mI S) 100 l2.toNatClampNeg)] S _
      refine zw_push hm_246 dX12_placeOf_24 (v := .inl l1) rfl ?_
      refine zw_if2 hm_246 dX12_placeOf_25 (t := 30) rfl zc2_ne ?_ ?_
      · intro hc
        rw [if_neg hc] at h
        refine zw_sto hm_246 dX12_placeOf_30 [(2, .inl (l2 + (1 : Int32))), (0, .inr (.inr (some 94))), (1, .inl l1)] rfl rfl rfl ?_
        refine zw_goto hm_246 dX12_placeOf_33 (t := 2) rfl ?_
        exact zw_sub (ma_nd_of (ks := [0, 1, 2]) rfl (by decide)) (ma_nd_of (ks := [2, 0, 1]) rfl (by decide)) (ma_le_cons rfl (ma_le_cons rfl (ma_le_cons rfl (ma_le_nil _)))) (h d w _ Q (by omega) (by omega) hS rfl HQ)
      · intro hc
        rw [if_pos (Classical.not_not.mp hc)] at h
        refine zw_push hm_246 dX12_placeOf_28 (v := .inl l2) rfl ?_
        exact zw_iret hm_246 dX12_placeOf_29 (HQ _ _ h)
set_option maxRecDepth 100000 in
theorem hm_189 : ma_md 189 = some (12, yX12_keepNone, cX12_keepNone, 2, none) := rfl
theorem s_110 : zs 110 = some (22, 3100) := rfl
theorem r_94_42 : zfi 94 42 = some 110 := rfl
theorem f_12_62_12 : ma_fld 12 62 12 = some 42 := by decide +kernel
theorem dX12_keepNone_0 : decode cX12_keepNone 0 = .ok (.iconst 0, 1) := by decide +kernel
theorem dX12_keepNone_1 : decode cX12_keepNone 1 = .ok (.istore_n 1, 1) := by decide +kernel
theorem dX12_keepNone_2 : decode cX12_keepNone 2 = .ok (.iload_n 1, 1) := by decide +kernel
theorem dX12_keepNone_3 : decode cX12_keepNone 3 = .ok (.sipush 3100, 3) := by decide +kernel
theorem dX12_keepNone_22 : decode cX12_keepNone 22 = .ok (.return_, 1) := by decide +kernel
theorem dX12_keepNone_9 : decode cX12_keepNone 9 = .ok (.aload_n 0, 1) := by decide +kernel
theorem dX12_keepNone_13 : decode cX12_keepNone 13 = .ok (.iload_n 1, 1) := by decide +kernel
theorem dX12_keepNone_14 : decode cX12_keepNone 14 = .ok (.iconst 0, 1) := by decide +kernel
theorem dX12_keepNone_16 : decode cX12_keepNone 16 = .ok (.iinc 1 1, 3) := by decide +kernel
theorem dX12_keepNone_19 : decode cX12_keepNone 19 = .ok (.goto (-17), 3) := by decide +kernel
theorem dX12_keepNone_15 : decode cX12_keepNone 15 = .ok (.bastore, 1) := by decide +kernel
theorem dX12_keepNone_10 : decode cX12_keepNone 10 = .ok (.getfield 62, 3) := by decide +kernel
theorem dX12_keepNone_6 : decode cX12_keepNone 6 = .ok (.if_icmp .ge 16, 3) := by decide +kernel
def wr_189 (c _ : Nat) : Bool := Nat.beq c 110
theorem g_189_0 {X : Nat × (Nat → Int32)} {m : Nat → Nat → Int32} {P : Option ma_V → (Nat → Nat → Int32) → Prop}  (h : zm X 0 0 189 2 [(0, .inr (.inr (some 94))), (1, .inl (0 : Int32))] m P) : zm X 0 0 189 0 [(0, .inr (.inr (some 94)))] m P := by
  intro d w S Q hd hw hS hm HQ
  subst hm
  refine zw_push hm_189 dX12_keepNone_0 (v := .inl (0 : Int32)) rfl ?_
  refine zw_sto hm_189 dX12_keepNone_1 [(1, .inl (0 : Int32)), (0, .inr (.inr (some 94)))] rfl rfl rfl ?_
  exact zw_sub (ma_nd_of (ks := [0, 1]) rfl (by decide)) (ma_nd_of (ks := [1, 0]) rfl (by decide)) (ma_le_cons rfl (ma_le_cons rfl (ma_le_nil _))) (h d w _ Q (by omega) (by omega) hS rfl HQ)
theorem g_189_2 {X : Nat × (Nat → Int32)} {m : Nat → Nat → Int32} {P : Option ma_V → (Nat → Nat → Int32) → Prop} (l1 : Int32) (h : if (3100 : Int32) ≤ l1 then (P none m) else ((0 ≤ l1 ∧ l1.toNatClampNeg < 3100) ∧ (zm X 0 0 189 2 [(0, .inr (.inr (some 94))), (1, .inl (l1 + (1 : Int32)))] (ma_u m 110 l1.toNatClampNeg (0 : Int32)) P))) : zm X 0 0 189 2 [(0, .inr (.inr (some 94))), (1, .inl l1)] m P := by
  intro d w S Q hd hw hS hm HQ
  subst hm
  refine zw_push hm_189 dX12_keepNone_2 (v := .inl l1) rfl ?_
  refine zw_push hm_189 dX12_keepNone_3 (v := .inl (3100 : Int32)) rfl ?_
  refine zw_if2 hm_189 dX12_keepNone_6 (t := 22) rfl zc2_ge ?_ ?_
  · intro hc
    rw [if_pos hc] at h
    exact zw_vret hm_189 dX12_keepNone_22 (HQ _ _ h)
  · intro hc
    rw [if_neg hc] at h
    refine zw_push hm_189 dX12_keepNone_9 (v := .inr (.inr (some 94))) rfl ?_
    refine zw_gf hm_189 dX12_keepNone_10 (v := .inr (.inr (some 110))) (zT_is hS s_94) (zT_t hS s_94) rfl f_12_62_12 (zT_f hS r_94_42) ?_
    refine zw_push hm_189 dX12_keepNone_13 (v := .inl l1) rfl ?_
    refine zw_push hm_189 dX12_keepNone_14 (v := .inl (0 : Int32)) rfl ?_
    obtain ⟨hg, h⟩ := h
    refine zw_bas22l hm_189 dX12_keepNone_15 (hx := by decide) (yv := (0 : Int32)) (zT_is hS s_110) (zT_h hS s_110) rfl hg ?_
    refine zw_sto hm_189 dX12_keepNone_16 [(1, .inl (l1 + (1 : Int32))), (0, .inr (.inr (some 94)))] rfl rfl rfl ?_
    refine zw_goto hm_189 dX12_keepNone_19 (t := 2) rfl ?_
    exact zw_sub (ma_nd_of (ks := [0, 1]) rfl (by decide)) (ma_nd_of (ks := [1, 0]) rfl (by decide)) (ma_le_cons rfl (ma_le_cons rfl (ma_le_nil _))) (h d w _ Q (by omega) (by omega) (zT_pi hS) rfl HQ)
theorem lp_189_2 {X : Nat × (Nat → Int32)} {P : Option ma_V → (Nat → Nat → Int32) → Prop} {m0 : Nat → Nat → Int32} (h0 : zV m0) (K : ∀ m₉, zF wr_189 m0 m₉ → zV m₉ → (∀ s : Nat, s < 3100 → (m₉ 110) s = 0) → P none m₉) : ∀ (n : Nat) (m : Nat → Nat → Int32) (l1 : Int32), (3100 - l1.toInt).toNat = n → zF wr_189 m0 m → zV m → (0 ≤ l1.toInt) → (∀ s : Nat, (s : Int) < l1.toInt → (m 110) s = 0) → zm X 0 0 189 2 [(0, .inr (.inr (some 94))), (1, .inl l1)] m P := by
  intro n
  induction n using Nat.strongRecOn with
  | _ n IH =>
    intro m l1 hmu hF hV hi0 r_KZ0
    refine g_189_2 l1 ?_
    have li1 : (3100 : Int32).toInt = 3100 := rfl
    have b2 := i_bd l1
    refine zd (fun (h3 : (3100 : Int32) ≤ l1) => ?_) (fun (h3 : ¬ (3100 : Int32) ≤ l1) => ?_)
    · skip
      have g4 := i_le h3
      exact K _ hF hV (show ∀ s : Nat, s < 3100 → (m 110) s = 0 from by first | (exact z0_all r_KZ0 (by omega)) | (exfalso; omega; done) | (exfalso; contradiction; done))
    · skip
      have g5 := i_nle h3
      have hg6 : (0 ≤ l1 ∧ l1.toNatClampNeg < 3100) := i_ix (by omega) (by omega)
      refine ⟨hg6, ?_⟩
      have li8 : (0 : Int32).toInt = 0 := rfl
      have hV7 : zV (ma_u m 110 l1.toNatClampNeg (0 : Int32)) := ua_110 hV (by omega) (by omega)
      first | have e9 : (l1 + (1 : Int32)).toInt = l1.toInt + (1) := i_addk rfl (by omega) (by omega) | have b10 := i_bd (l1 + (1 : Int32))
      exact IH (3100 - (l1 + (1 : Int32)).toInt).toNat (by omega) _ ((l1 + (1 : Int32))) rfl (zF_u hF rfl) hV7 (by omega) (show ∀ s : Nat, (s : Int) < (l1 + (1 : Int32)).toInt → ((ma_u m 110 l1.toNatClampNeg (0 : Int32)) 110) s = 0 from by first | (exact z0_step r_KZ0 (by omega) (by omega)) | (intro s hs; omega; done) | (exfalso; omega; done) | (exfalso; contradiction; done))
theorem sp_189 {X : Nat × (Nat → Int32)} {P : Option ma_V → (Nat → Nat → Int32) → Prop} {m : Nat → Nat → Int32}  (hV : zV m)  (KZ : ∀ m₉, zV (zov wr_189 m m₉) → (∀ s : Nat, s < 3100 → (m₉ 110) s = 0) → P none (zov wr_189 m m₉)) : zm X 0 0 189 0 [(0, .inr (.inr (some 94)))] m P := by
  have K : ∀ m₉, zF wr_189 m m₉ → zV m₉ → (∀ s : Nat, s < 3100 → (m₉ 110) s = 0) → P none m₉ := by
    intro m₉ hf z q0
    have e := zov_eq hf
    rw [e] at z ⊢
    try rw [e] at q0
    exact KZ m₉ z q0
  refine g_189_0  ?_
  have li1 : (0 : Int32).toInt = 0 := rfl
  exact lp_189_2 hV K _ _ ((0 : Int32)) rfl zF_rfl hV (by omega) (show ∀ s : Nat, (s : Int) < (0 : Int32).toInt → (m 110) s = 0 from by first | (intro s hs; omega; done) | (exfalso; omega; done) | (exfalso; contradiction; done))

