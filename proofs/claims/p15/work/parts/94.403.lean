/-! the reference (written by wip/tools/gen94m.py) -/
set_option maxRecDepth 100000 in
theorem hm_174 : ma_md 174 = some (12, yX12_wrong, cX12_wrong, 2, (some (FieldType.boolean))) := rfl
set_option maxRecDepth 100000 in
theorem hm_177 : ma_md 177 = some (12, yX12_number, cX12_number, 7, (some (FieldType.boolean))) := rfl
theorem p_12_133_12 : ma_pk 12 133 12 70 = true := by decide +kernel
theorem p_12_147_12 : ma_pk 12 147 12 71 = true := by decide +kernel
theorem v_12_140_12 : ma_vl 12 140 12 = some (1, 173, 0) := by decide +kernel
theorem v_12_144_12 : ma_vl 12 144 12 = some (1, 174, 1) := by decide +kernel
theorem dX12_number_0 : decode cX12_number 0 = .ok (.aload_n 0, 1) := by decide +kernel
theorem dX12_number_1 : decode cX12_number 1 = .ok (.invokevirtual 140, 3) := by decide +kernel
theorem dX12_number_16 : decode cX12_number 16 = .ok (.aload_n 0, 1) := by decide +kernel
theorem dX12_number_20 : decode cX12_number 20 = .ok (.iconst 5, 1) := by decide +kernel
theorem dX12_number_28 : decode cX12_number 28 = .ok (.iconst 0, 1) := by decide +kernel
theorem dX12_number_29 : decode cX12_number 29 = .ok (.istore_n 3, 1) := by decide +kernel
theorem dX12_number_30 : decode cX12_number 30 = .ok (.iconst 0, 1) := by decide +kernel
theorem dX12_number_31 : decode cX12_number 31 = .ok (.istore 4, 2) := by decide +kernel
theorem dX12_number_33 : decode cX12_number 33 = .ok (.iconst 0, 1) := by decide +kernel
theorem dX12_number_34 : decode cX12_number 34 = .ok (.istore 5, 2) := by decide +kernel
theorem dX12_number_24 : decode cX12_number 24 = .ok (.iconst 1, 1) := by decide +kernel
theorem dX12_number_25 : decode cX12_number 25 = .ok (.goto 4, 3) := by decide +kernel
theorem dX12_number_21 : decode cX12_number 21 = .ok (.if_icmp .gt 7, 3) := by decide +kernel
theorem dX12_number_17 : decode cX12_number 17 = .ok (.getfield 130, 3) := by decide +kernel
theorem dX12_number_7 : decode cX12_number 7 = .ok (.aload_n 0, 1) := by decide +kernel
theorem dX12_number_8 : decode cX12_number 8 = .ok (.aload_n 0, 1) := by decide +kernel
theorem dX12_number_12 : decode cX12_number 12 = .ok (.invokevirtual 144, 3) := by decide +kernel
theorem dX12_wrong_0 : decode cX12_wrong 0 = .ok (.aload_n 0, 1) := by decide +kernel
theorem dX12_wrong_1 : decode cX12_wrong 1 = .ok (.iload_n 1, 1) := by decide +kernel
theorem dX12_wrong_5 : decode cX12_wrong 5 = .ok (.iconst 0, 1) := by decide +kernel
theorem dX12_number_15 : decode cX12_number 15 = .ok (.ireturn, 1) := by decide +kernel
theorem dX12_wrong_6 : decode cX12_wrong 6 = .ok (.ireturn, 1) := by decide +kernel
theorem dX12_wrong_2 : decode cX12_wrong 2 = .ok (.putfield 133, 3) := by decide +kernel
theorem dX12_number_9 : decode cX12_number 9 = .ok (.getfield 124, 3) := by decide +kernel
theorem dX12_number_4 : decode cX12_number 4 = .ok (.ifCond .ne 12, 3) := by decide +kernel
theorem dX12_number_36 : decode cX12_number 36 = .ok (.iload 5, 2) := by decide +kernel
theorem dX12_number_38 : decode cX12_number 38 = .ok (.aload_n 0, 1) := by decide +kernel
theorem dX12_number_102 : decode cX12_number 102 = .ok (.aload_n 0, 1) := by decide +kernel
theorem dX12_number_103 : decode cX12_number 103 = .ok (.iload 4, 2) := by decide +kernel
theorem dX12_number_108 : decode cX12_number 108 = .ok (.iload_n 3, 1) := by decide +kernel
theorem dX12_number_124 : decode cX12_number 124 = .ok (.aload_n 0, 1) := by decide +kernel
theorem dX12_number_125 : decode cX12_number 125 = .ok (.aload_n 0, 1) := by decide +kernel
theorem dX12_number_129 : decode cX12_number 129 = .ok (.invokevirtual 144, 3) := by decide +kernel
theorem dX12_number_132 : decode cX12_number 132 = .ok (.ifCond .eq 7, 3) := by decide +kernel
theorem dX12_number_139 : decode cX12_number 139 = .ok (.iconst 0, 1) := by decide +kernel
theorem dX12_number_140 : decode cX12_number 140 = .ok (.ireturn, 1) := by decide +kernel
theorem dX12_number_126 : decode cX12_number 126 = .ok (.getfield 127, 3) := by decide +kernel
theorem dX12_number_112 : decode cX12_number 112 = .ok (.iload 4, 2) := by decide +kernel
theorem dX12_number_114 : decode cX12_number 114 = .ok (.iload_n 1, 1) := by decide +kernel
theorem dX12_number_118 : decode cX12_number 118 = .ok (.iload 4, 2) := by decide +kernel
theorem dX12_number_120 : decode cX12_number 120 = .ok (.iload_n 2, 1) := by decide +kernel
theorem dX12_number_135 : decode cX12_number 135 = .ok (.iconst 1, 1) := by decide +kernel
theorem dX12_number_136 : decode cX12_number 136 = .ok (.goto 4, 3) := by decide +kernel
theorem dX12_number_121 : decode cX12_number 121 = .ok (.if_icmp .le 14, 3) := by decide +kernel
theorem dX12_number_115 : decode cX12_number 115 = .ok (.if_icmp .lt 9, 3) := by decide +kernel
theorem dX12_number_109 : decode cX12_number 109 = .ok (.ifCond .eq 15, 3) := by decide +kernel
theorem dX12_number_105 : decode cX12_number 105 = .ok (.putfield 147, 3) := by decide +kernel
theorem dX12_number_45 : decode cX12_number 45 = .ok (.iload_n 3, 1) := by decide +kernel
theorem dX12_number_49 : decode cX12_number 49 = .ok (.aload_n 0, 1) := by decide +kernel
theorem dX12_number_53 : decode cX12_number 53 = .ok (.aload_n 0, 1) := by decide +kernel
theorem dX12_number_57 : decode cX12_number 57 = .ok (.iload 5, 2) := by decide +kernel
theorem dX12_number_59 : decode cX12_number 59 = .ok (.iadd, 1) := by decide +kernel
theorem dX12_number_61 : decode cX12_number 61 = .ok (.istore 6, 2) := by decide +kernel
theorem dX12_number_63 : decode cX12_number 63 = .ok (.iload 6, 2) := by decide +kernel
theorem dX12_number_65 : decode cX12_number 65 = .ok (.bipush 48, 2) := by decide +kernel
theorem dX12_number_81 : decode cX12_number 81 = .ok (.iconst 0, 1) := by decide +kernel
theorem dX12_number_82 : decode cX12_number 82 = .ok (.istore_n 3, 1) := by decide +kernel
theorem dX12_number_83 : decode cX12_number 83 = .ok (.bipush 10, 2) := by decide +kernel
theorem dX12_number_85 : decode cX12_number 85 = .ok (.iload 4, 2) := by decide +kernel
theorem dX12_number_87 : decode cX12_number 87 = .ok (.imul, 1) := by decide +kernel
theorem dX12_number_88 : decode cX12_number 88 = .ok (.iload 6, 2) := by decide +kernel
theorem dX12_number_90 : decode cX12_number 90 = .ok (.iadd, 1) := by decide +kernel
theorem dX12_number_91 : decode cX12_number 91 = .ok (.bipush 48, 2) := by decide +kernel
theorem dX12_number_93 : decode cX12_number 93 = .ok (.isub, 1) := by decide +kernel
theorem dX12_number_94 : decode cX12_number 94 = .ok (.istore 4, 2) := by decide +kernel
theorem dX12_number_96 : decode cX12_number 96 = .ok (.iinc 5 1, 3) := by decide +kernel
theorem dX12_number_99 : decode cX12_number 99 = .ok (.goto (-63), 3) := by decide +kernel
theorem dX12_number_70 : decode cX12_number 70 = .ok (.iload 6, 2) := by decide +kernel
theorem dX12_number_72 : decode cX12_number 72 = .ok (.bipush 57, 2) := by decide +kernel
theorem dX12_number_77 : decode cX12_number 77 = .ok (.iconst 1, 1) := by decide +kernel
theorem dX12_number_78 : decode cX12_number 78 = .ok (.goto 4, 3) := by decide +kernel
theorem dX12_number_74 : decode cX12_number 74 = .ok (.if_icmp .gt 7, 3) := by decide +kernel
theorem dX12_number_67 : decode cX12_number 67 = .ok (.if_icmp .lt 14, 3) := by decide +kernel
theorem dX12_number_60 : decode cX12_number 60 = .ok (.baload, 1) := by decide +kernel
theorem dX12_number_54 : decode cX12_number 54 = .ok (.getfield 127, 3) := by decide +kernel
theorem dX12_number_50 : decode cX12_number 50 = .ok (.getfield 17, 3) := by decide +kernel
theorem dX12_number_46 : decode cX12_number 46 = .ok (.ifCond .eq 56, 3) := by decide +kernel
theorem dX12_number_42 : decode cX12_number 42 = .ok (.if_icmp .ge 60, 3) := by decide +kernel
theorem dX12_number_39 : decode cX12_number 39 = .ok (.getfield 130, 3) := by decide +kernel
def wr_177 (c k : Nat) : Bool := (Nat.beq c 94 && (Nat.beq k 67 || Nat.beq k 68 || Nat.beq k 69 || Nat.beq k 70 || Nat.beq k 71))
theorem ws_173_177 : ∀ c k, wr_173 c k = true → wr_177 c k = true := by
  intro c k h
  simp only [wr_173, wr_177, Bool.or_eq_true, Bool.and_eq_true, Nat.beq_eq] at h ⊢
  omega
theorem g_177_0 {X : Nat × (Nat → Int32)} {m : Nat → Nat → Int32} {P : Option ma_V → (Nat → Nat → Int32) → Prop} (lo : Int32) (hi : Int32) (h : zm X 0 0 173 0 [(0, .inr (.inr (some 94)))] m (zmi (fun v2 m1 => if v2 = 0 then (P (some (.inl (0 : Int32))) (ma_u m1 94 70 (m1 94 4))) else (if (5 : Int32) < (m1 94 69) then (zm X 1 21 177 36 [(0, .inr (.inr (some 94))), (1, .inl lo), (2, .inl hi), (3, .inl (0 : Int32)), (4, .inl (0 : Int32)), (5, .inl (0 : Int32))] m1 P) else (zm X 1 21 177 36 [(0, .inr (.inr (some 94))), (1, .inl lo), (2, .inl hi), (3, .inl (1 : Int32)), (4, .inl (0 : Int32)), (5, .inl (0 : Int32))] m1 P))))) : zm X 1 21 177 0 [(0, .inr (.inr (some 94))), (1, .inl lo), (2, .inl hi)] m P := by
  intro d w S Q hd hw hS hm HQ
  subst hm
  refine zw_push hm_177 dX12_number_0 (v := .inr (.inr (some 94))) rfl ?_
  refine zw_cv hm_177 dX12_number_1 v_12_140_12 hm_173 [] [] rfl (zT_rt hS s_94 rfl) ⟨by omega, by omega⟩ rfl (h _ _ S _ (by omega) (by omega) hS rfl (fun o9 m1 hv => ?_))
  obtain ⟨v2, rfl, h⟩ := zmi_of hv
  show ma_wp X d w 177 4 [(0, .inr (.inr (some 94))), (1, .inl lo), (2, .inl hi)] [.inl v2] (zst S m1) _
  refine zw_if0 hm_177 dX12_number_4 (t := 16) rfl zc0_ne ?_ ?_
  · intro hc
    rw [if_neg hc] at h
    refine zw_push hm_177 dX12_number_16 (v := .inr (.inr (some 94))) rfl ?_
    refine zw_gf hm_177 dX12_number_17 (v := .inl (m1 94 69)) (zT_is (zT_zst hS m1) s_94) (zT_t (zT_zst hS m1) s_94) rfl f_12_130_12 rfl ?_
    refine zw_push hm_177 dX12_number_20 (v := .inl (5 : Int32)) rfl ?_
    refine zw_if2 hm_177 dX12_number_21 (t := 28) rfl zc2_gt ?_ ?_
    · intro hc
      rw [if_pos hc] at h
      refine zw_push hm_177 dX12_number_28 (v := .inl (0 : Int32)) rfl ?_
      refine zw_sto hm_177 dX12_number_29 [(3, .inl (0 : Int32)), (0, .inr (.inr (some 94))), (1, .inl lo), (2, .inl hi)] rfl rfl rfl ?_
      refine zw_push hm_177 dX12_number_30 (v := .inl (0 : Int32)) rfl ?_
      refine zw_sto hm_177 dX12_number_31 [(4, .inl (0 : Int32)), (3, .inl (0 : Int32)), (0, .inr (.inr (some 94))), (1, .inl lo), (2, .inl hi)] rfl rfl rfl ?_
      refine zw_push hm_177 dX12_number_33 (v := .inl (0 : Int32)) rfl ?_
      refine zw_sto hm_177 dX12_number_34 [(5, .inl (0 : Int32)), (4, .inl (0 : Int32)), (3, .inl (0 : Int32)), (0, .inr (.inr (some 94))), (1, .inl lo), (2, .inl hi)] rfl rfl rfl ?_
      exact zw_sub (ma_nd_of (ks := [0, 1, 2, 3, 4, 5]) rfl (by decide)) (ma_nd_of (ks := [5, 4, 3, 0, 1, 2]) rfl (by decide)) (ma_le_cons rfl (ma_le_cons rfl (ma_le_cons rfl (ma_le_cons rfl (ma_le_cons rfl (ma_le_cons rfl (ma_le_nil _))))))) (h d w _ Q (by omega) (by omega) (zT_zst hS m1) rfl HQ)
    · intro hc
      rw [if_neg hc] at h
      refine zw_push hm_177 dX12_number_24 (v := .inl (1 : Int32)) rfl ?_
      refine zw_goto hm_177 dX12_number_25 (t := 29) rfl ?_
      refine zw_sto hm_177 dX12_number_29 [(3, .inl (1 : Int32)), (0, .inr (.inr (some 94))), (1, .inl lo), (2, .inl hi)] rfl rfl rfl ?_
      refine zw_push hm_177 dX12_number_30 (v := .inl (0 : Int32)) rfl ?_
      refine zw_sto hm_177 dX12_number_31 [(4, .inl (0 : Int32)), (3, .inl (1 : Int32)), (0, .inr (.inr (some 94))), (1, .inl lo), (2, .inl hi)] rfl rfl rfl ?_
      refine zw_push hm_177 dX12_number_33 (v := .inl (0 : Int32)) rfl ?_
      refine zw_sto hm_177 dX12_number_34 [(5, .inl (0 : Int32)), (4, .inl (0 : Int32)), (3, .inl (1 : Int32)), (0, .inr (.inr (some 94))), (1, .inl lo), (2, .inl hi)] rfl rfl rfl ?_
      exact zw_sub (ma_nd_of (ks := [0, 1, 2, 3, 4, 5]) rfl (by decide)) (ma_nd_of (ks := [5, 4, 3, 0, 1, 2]) rfl (by decide)) (ma_le_cons rfl (ma_le_cons rfl (ma_le_cons rfl (ma_le_cons rfl (ma_le_cons rfl (ma_le_cons rfl (ma_le_nil _))))))) (h d w _ Q (by omega) (by omega) (zT_zst hS m1) rfl HQ)
  · intro hc
    rw [if_pos (Classical.not_not.mp hc)] at h
    refine zw_push hm_177 dX12_number_7 (v := .inr (.inr (some 94))) rfl ?_
    refine zw_push hm_177 dX12_number_8 (v := .inr (.inr (some 94))) rfl ?_
    refine zw_gf hm_177 dX12_number_9 (v := .inl (m1 94 4)) (zT_is (zT_zst hS m1) s_94) (zT_t (zT_zst hS m1) s_94) rfl f_12_124_12 rfl ?_
    refine zw_cv hm_177 dX12_number_12 v_12_144_12 hm_174 [.inl (m1 94 4)] [] rfl (zT_rt (zT_zst hS m1) s_94 rfl) ⟨by omega, by omega⟩ rfl ?_
    show ma_wp X (d - 1) (w - 21) 174 0 [(0, .inr (.inr (some 94))), (1, .inl (m1 94 4))] [] (zst S m1) _
    refine zw_push hm_174 dX12_wrong_0 (v := .inr (.inr (some 94))) rfl ?_
    refine zw_push hm_174 dX12_wrong_1 (v := .inl (m1 94 4)) rfl ?_
    refine zw_pf hm_174 dX12_wrong_2 (zT_is (zT_zst hS m1) s_94) (zT_t (zT_zst hS m1) s_94) p_12_133_12 zk_int ?_
    refine zw_push hm_174 dX12_wrong_5 (v := .inl (0 : Int32)) rfl ?_
    refine zw_bret hm_174 dX12_wrong_6 (by decide) ?_
    show ma_wp X d w 177 15 [(0, .inr (.inr (some 94))), (1, .inl lo), (2, .inl hi)] [.inl (0 : Int32)] (ma_put (zst S m1) 94 70 (.inl (m1 94 4))) _
    exact zw_bret hm_177 dX12_number_15 (by decide) (HQ _ _ h)
theorem g_177_36 {X : Nat × (Nat → Int32)} {m : Nat → Nat → Int32} {P : Option ma_V → (Nat → Nat → Int32) → Prop} (l1 : Int32) (l2 : Int32) (l3 : Int32) (l4 : Int32) (l5 : Int32) (h : if (m 94 69) ≤ l5 then (if l3 = 0 then (P (some (.inl (0 : Int32))) (ma_u (ma_u m 94 71 l4) 94 70 (m 94 68))) else (if l4 < l1 then (P (some (.inl (0 : Int32))) (ma_u (ma_u m 94 71 l4) 94 70 (m 94 68))) else (if l4 ≤ l2 then (P (some (.inl (1 : Int32))) (ma_u m 94 71 l4)) else (P (some (.inl (0 : Int32))) (ma_u (ma_u m 94 71 l4) 94 70 (m 94 68)))))) else (if l3 = 0 then (if l3 = 0 then (P (some (.inl (0 : Int32))) (ma_u (ma_u m 94 71 l4) 94 70 (m 94 68))) else (if l4 < l1 then (P (some (.inl (0 : Int32))) (ma_u (ma_u m 94 71 l4) 94 70 (m 94 68))) else (if l4 ≤ l2 then (P (some (.inl (1 : Int32))) (ma_u m 94 71 l4)) else (P (some (.inl (0 : Int32))) (ma_u (ma_u m 94 71 l4) 94 70 (m 94 68)))))) else ((0 ≤ ((m 94 68) + l5) ∧ ((m 94 68) + l5).toNatClampNeg < 100) ∧ (if (m 96 ((m 94 68) + l5).toNatClampNeg) < (48 : Int32) then (zm X 1 21 177 36 [(0, .inr (.inr (some 94))), (1, .inl l1), (2, .inl l2), (3, .inl (0 : Int32)), (4, .inl ((((10 : Int32) * l4) + (m 96 ((m 94 68) + l5).toNatClampNeg)) - (48 : Int32))), (5, .inl (l5 + (1 : Int32)))] m P) else (if (57 : Int32) < (m 96 ((m 94 68) + l5).toNatClampNeg) then (zm X 1 21 177 36 [(0, .inr (.inr (some 94))), (1, .inl l1), (2, .inl l2), (3, .inl (0 : Int32)), (4, .inl ((((10 : Int32) * l4) + (m 96 ((m 94 68) + l5).toNatClampNeg)) - (48 : Int32))), (5, .inl (l5 + (1 : Int32)))] m P) else (zm X 1 21 177 36 [(0, .inr (.inr (some 94))), (1, .inl l1), (2, .inl l2), (3, .inl (1 : Int32)), (4, .inl ((((10 : Int32) * l4) + (m 96 ((m 94 68) + l5).toNatClampNeg)) - (48 : Int32))), (5, .inl (l5 + (1 : Int32)))] m P)))))) : zm X 1 21 177 36 [(0, .inr (.inr (some 94))), (1, .inl l1), (2, .inl l2), (3, .inl l3), (4, .inl l4), (5, .inl l5)] m P := by
  intro d w S Q hd hw hS hm HQ
  subst hm
  refine zw_push hm_177 dX12_number_36 (v := .inl l5) rfl ?_
  refine zw_push hm_177 dX12_number_38 (v := .inr (.inr (some 94))) rfl ?_
  refine zw_gf hm_177 dX12_number_39 (v := .inl ((mI S) 94 69)) (zT_is hS s_94) (zT_t hS s_94) rfl f_12_130_12 rfl ?_
  refine zw_if2 hm_177 dX12_number_42 (t := 102) rfl zc2_ge ?_ ?_
  · intro hc
    rw [if_pos hc] at h
    refine zw_push hm_177 dX12_number_102 (v := .inr (.inr (some 94))) rfl ?_
    refine zw_push hm_177 dX12_number_103 (v := .inl l4) rfl ?_
    refine zw_pf hm_177 dX12_number_105 (zT_is hS s_94) (zT_t hS s_94) p_12_147_12 zk_int ?_
    refine zw_push hm_177 dX12_number_108 (v := .inl l3) rfl ?_
    refine zw_if0 hm_177 dX12_number_109 (t := 124) rfl zc0_eq ?_ ?_
    · intro hc
      rw [if_pos hc] at h
      refine zw_push hm_177 dX12_number_124 (v := .inr (.inr (some 94))) rfl ?_
      refine zw_push hm_177 dX12_number_125 (v := .inr (.inr (some 94))) rfl ?_
      refine zw_gf hm_177 dX12_number_126 (v := .inl ((mI S) 94 68)) (zT_is (zT_pi hS) s_94) (zT_t (zT_pi hS) s_94) rfl f_12_127_12 rfl ?_
      refine zw_cv hm_177 dX12_number_129 v_12_144_12 hm_174 [.inl ((mI S) 94 68)] [] rfl (zT_rt (zT_pi hS) s_94 rfl) ⟨by omega, by omega⟩ rfl ?_
      show ma_wp X (d - 1) (w - 21) 174 0 [(0, .inr (.inr (some 94))), (1, .inl ((mI S) 94 68))] [] (ma_put S 94 71 (.inl l4)) _
      refine zw_push hm_174 dX12_wrong_0 (v := .inr (.inr (some 94))) rfl ?_
      refine zw_push hm_174 dX12_wrong_1 (v := .inl ((mI S) 94 68)) rfl ?_
      refine zw_pf hm_174 dX12_wrong_2 (zT_is (zT_pi hS) s_94) (zT_t (zT_pi hS) s_94) p_12_133_12 zk_int ?_
      refine zw_push hm_174 dX12_wrong_5 (v := .inl (0 : Int32)) rfl ?_
      refine zw_bret hm_174 dX12_wrong_6 (by decide) ?_
      show ma_wp X d w 177 132 [(0, .inr (.inr (some 94))), (1, .inl l1), (2, .inl l2), (3, .inl l3), (4, .inl l4), (5, .inl l5)] [.inl (0 : Int32)] (ma_put (ma_put S 94 71 (.inl l4)) 94 70 (.inl ((mI S) 94 68))) _
      refine zw_if0 hm_177 dX12_number_132 (t := 139) rfl zc0_eq (fun _ => ?_) (fun hc => absurd (by decide) hc)
      refine zw_push hm_177 dX12_number_139 (v := .inl (0 : Int32)) rfl ?_
      exact zw_bret hm_177 dX12_number_140 (by decide) (HQ _ _ h)
    · intro hc
      rw [if_neg hc] at h
      refine zw_push hm_177 dX12_number_112 (v := .inl l4) rfl ?_
      refine zw_push hm_177 dX12_number_114 (v := .inl l1) rfl ?_
      refine zw_if2 hm_177 dX12_number_115 (t := 124) rfl zc2_lt ?_ ?_
      · intro hc
        rw [if_pos hc] at h
        refine zw_push hm_177 dX12_number_124 (v := .inr (.inr (some 94))) rfl ?_
        refine zw_push hm_177 dX12_number_125 (v := .inr (.inr (some 94))) rfl ?_
        refine zw_gf hm_177 dX12_number_126 (v := .inl ((mI S) 94 68)) (zT_is (zT_pi hS) s_94) (zT_t (zT_pi hS) s_94) rfl f_12_127_12 rfl ?_
        refine zw_cv hm_177 dX12_number_129 v_12_144_12 hm_174 [.inl ((mI S) 94 68)] [] rfl (zT_rt (zT_pi hS) s_94 rfl) ⟨by omega, by omega⟩ rfl ?_
        show ma_wp X (d - 1) (w - 21) 174 0 [(0, .inr (.inr (some 94))), (1, .inl ((mI S) 94 68))] [] (ma_put S 94 71 (.inl l4)) _
        refine zw_push hm_174 dX12_wrong_0 (v := .inr (.inr (some 94))) rfl ?_
        refine zw_push hm_174 dX12_wrong_1 (v := .inl ((mI S) 94 68)) rfl ?_
        refine zw_pf hm_174 dX12_wrong_2 (zT_is (zT_pi hS) s_94) (zT_t (zT_pi hS) s_94) p_12_133_12 zk_int ?_
        refine zw_push hm_174 dX12_wrong_5 (v := .inl (0 : Int32)) rfl ?_
        refine zw_bret hm_174 dX12_wrong_6 (by decide) ?_
        show ma_wp X d w 177 132 [(0, .inr (.inr (some 94))), (1, .inl l1), (2, .inl l2), (3, .inl l3), (4, .inl l4), (5, .inl l5)] [.inl (0 : Int32)] (ma_put (ma_put S 94 71 (.inl l4)) 94 70 (.inl ((mI S) 94 68))) _
        refine zw_if0 hm_177 dX12_number_132 (t := 139) rfl zc0_eq (fun _ => ?_) (fun hc => absurd (by decide) hc)
        refine zw_push hm_177 dX12_number_139 (v := .inl (0 : Int32)) rfl ?_
        exact zw_bret hm_177 dX12_number_140 (by decide) (HQ _ _ h)
      · intro hc
        rw [if_neg hc] at h
        refine zw_push hm_177 dX12_number_118 (v := .inl l4) rfl ?_
        refine zw_push hm_177 dX12_number_120 (v := .inl l2) rfl ?_
        refine zw_if2 hm_177 dX12_number_121 (t := 135) rfl zc2_le ?_ ?_
        · intro hc
          rw [if_pos hc] at h
          refine zw_push hm_177 dX12_number_135 (v := .inl (1 : Int32)) rfl ?_
          refine zw_goto hm_177 dX12_number_136 (t := 140) rfl ?_
          exact zw_bret hm_177 dX12_number_140 (by decide) (HQ _ _ h)
        · intro hc
          rw [if_neg hc] at h
          refine zw_push hm_177 dX12_number_124 (v := .inr (.inr (some 94))) rfl ?_
          refine zw_push hm_177 dX12_number_125 (v := .inr (.inr (some 94))) rfl ?_
          refine zw_gf hm_177 dX12_number_126 (v := .inl ((mI S) 94 68)) (zT_is (zT_pi hS) s_94) (zT_t (zT_pi hS) s_94) rfl f_12_127_12 rfl ?_
          refine zw_cv hm_177 dX12_number_129 v_12_144_12 hm_174 [.inl ((mI S) 94 68)] [] rfl (zT_rt (zT_pi hS) s_94 rfl) ⟨by omega, by omega⟩ rfl ?_
          show ma_wp X (d - 1) (w - 21) 174 0 [(0, .inr (.inr (some 94))), (1, .inl ((mI S) 94 68))] [] (ma_put S 94 71 (.inl l4)) _
          refine zw_push hm_174 dX12_wrong_0 (v := .inr (.inr (some 94))) rfl ?_
          refine zw_push hm_174 dX12_wrong_1 (v := .inl ((mI S) 94 68)) rfl ?_
          refine zw_pf hm_174 dX12_wrong_2 (zT_is (zT_pi hS) s_94) (zT_t (zT_pi hS) s_94) p_12_133_12 zk_int ?_
          refine zw_push hm_174 dX12_wrong_5 (v := .inl (0 : Int32)) rfl ?_
          refine zw_bret hm_174 dX12_wrong_6 (by decide) ?_
          show ma_wp X d w 177 132 [(0, .inr (.inr (some 94))), (1, .inl l1), (2, .inl l2), (3, .inl l3), (4, .inl l4), (5, .inl l5)] [.inl (0 : Int32)] (ma_put (ma_put S 94 71 (.inl l4)) 94 70 (.inl ((mI S) 94 68))) _
          refine zw_if0 hm_177 dX12_number_132 (t := 139) rfl zc0_eq (fun _ => ?_) (fun hc => absurd (by decide) hc)
          refine zw_push hm_177 dX12_number_139 (v := .inl (0 : Int32)) rfl ?_
          exact zw_bret hm_177 dX12_number_140 (by decide) (HQ _ _ h)
  · intro hc
    rw [if_neg hc] at h
    refine zw_push hm_177 dX12_number_45 (v := .inl l3) rfl ?_
    refine zw_if0 hm_177 dX12_number_46 (t := 102) rfl zc0_eq ?_ ?_
    · intro hc
      rw [if_pos hc] at h
      refine zw_push hm_177 dX12_number_102 (v := .inr (.inr (some 94))) rfl ?_
      refine zw_push hm_177 dX12_number_103 (v := .inl l4) rfl ?_
      refine zw_pf hm_177 dX12_number_105 (zT_is hS s_94) (zT_t hS s_94) p_12_147_12 zk_int ?_
      refine zw_push hm_177 dX12_number_108 (v := .inl l3) rfl ?_
      refine zw_if0 hm_177 dX12_number_109 (t := 124) rfl zc0_eq ?_ ?_
      · intro hc
        rw [if_pos hc] at h
        refine zw_push hm_177 dX12_number_124 (v := .inr (.inr (some 94))) rfl ?_
        refine zw_push hm_177 dX12_number_125 (v := .inr (.inr (some 94))) rfl ?_
        refine zw_gf hm_177 dX12_number_126 (v := .inl ((mI S) 94 68)) (zT_is (zT_pi hS) s_94) (zT_t (zT_pi hS) s_94) rfl f_12_127_12 rfl ?_
        refine zw_cv hm_177 dX12_number_129 v_12_144_12 hm_174 [.inl ((mI S) 94 68)] [] rfl (zT_rt (zT_pi hS) s_94 rfl) ⟨by omega, by omega⟩ rfl ?_
        show ma_wp X (d - 1) (w - 21) 174 0 [(0, .inr (.inr (some 94))), (1, .inl ((mI S) 94 68))] [] (ma_put S 94 71 (.inl l4)) _
        refine zw_push hm_174 dX12_wrong_0 (v := .inr (.inr (some 94))) rfl ?_
        refine zw_push hm_174 dX12_wrong_1 (v := .inl ((mI S) 94 68)) rfl ?_
        refine zw_pf hm_174 dX12_wrong_2 (zT_is (zT_pi hS) s_94) (zT_t (zT_pi hS) s_94) p_12_133_12 zk_int ?_
        refine zw_push hm_174 dX12_wrong_5 (v := .inl (0 : Int32)) rfl ?_
        refine zw_bret hm_174 dX12_wrong_6 (by decide) ?_
        show ma_wp X d w 177 132 [(0, .inr (.inr (some 94))), (1, .inl l1), (2, .inl l2), (3, .inl l3), (4, .inl l4), (5, .inl l5)] [.inl (0 : Int32)] (ma_put (ma_put S 94 71 (.inl l4)) 94 70 (.inl ((mI S) 94 68))) _
        refine zw_if0 hm_177 dX12_number_132 (t := 139) rfl zc0_eq (fun _ => ?_) (fun hc => absurd (by decide) hc)
        refine zw_push hm_177 dX12_number_139 (v := .inl (0 : Int32)) rfl ?_
        exact zw_bret hm_177 dX12_number_140 (by decide) (HQ _ _ h)
      · intro hc
        rw [if_neg hc] at h
        refine zw_push hm_177 dX12_number_112 (v := .inl l4) rfl ?_
        refine zw_push hm_177 dX12_number_114 (v := .inl l1) rfl ?_
        refine zw_if2 hm_177 dX12_number_115 (t := 124) rfl zc2_lt ?_ ?_
        · intro hc
          rw [if_pos hc] at h
          refine zw_push hm_177 dX12_number_124 (v := .inr (.inr (some 94))) rfl ?_
          refine zw_push hm_177 dX12_number_125 (v := .inr (.inr (some 94))) rfl ?_
          refine zw_gf hm_177 dX12_number_126 (v := .inl ((mI S) 94 68)) (zT_is (zT_pi hS) s_94) (zT_t (zT_pi hS) s_94) rfl f_12_127_12 rfl ?_
          refine zw_cv hm_177 dX12_number_129 v_12_144_12 hm_174 [.inl ((mI S) 94 68)] [] rfl (zT_rt (zT_pi hS) s_94 rfl) ⟨by omega, by omega⟩ rfl ?_
          show ma_wp X (d - 1) (w - 21) 174 0 [(0, .inr (.inr (some 94))), (1, .inl ((mI S) 94 68))] [] (ma_put S 94 71 (.inl l4)) _
          refine zw_push hm_174 dX12_wrong_0 (v := .inr (.inr (some 94))) rfl ?_
          refine zw_push hm_174 dX12_wrong_1 (v := .inl ((mI S) 94 68)) rfl ?_
          refine zw_pf hm_174 dX12_wrong_2 (zT_is (zT_pi hS) s_94) (zT_t (zT_pi hS) s_94) p_12_133_12 zk_int ?_
          refine zw_push hm_174 dX12_wrong_5 (v := .inl (0 : Int32)) rfl ?_
          refine zw_bret hm_174 dX12_wrong_6 (by decide) ?_
          show ma_wp X d w 177 132 [(0, .inr (.inr (some 94))), (1, .inl l1), (2, .inl l2), (3, .inl l3), (4, .inl l4), (5, .inl l5)] [.inl (0 : Int32)] (ma_put (ma_put S 94 71 (.inl l4)) 94 70 (.inl ((mI S) 94 68))) _
          refine zw_if0 hm_177 dX12_number_132 (t := 139) rfl zc0_eq (fun _ => ?_) (fun hc => absurd (by decide) hc)
          refine zw_push hm_177 dX12_number_139 (v := .inl (0 : Int32)) rfl ?_
          exact zw_bret hm_177 dX12_number_140 (by decide) (HQ _ _ h)
        · intro hc
          rw [if_neg hc] at h
          refine zw_push hm_177 dX12_number_118 (v := .inl l4) rfl ?_
          refine zw_push hm_177 dX12_number_120 (v := .inl l2) rfl ?_
          refine zw_if2 hm_177 dX12_number_121 (t := 135) rfl zc2_le ?_ ?_
          · intro hc
            rw [if_pos hc] at h
            refine zw_push hm_177 dX12_number_135 (v := .inl (1 : Int32)) rfl ?_
            refine zw_goto hm_177 dX12_number_136 (t := 140) rfl ?_
            exact zw_bret hm_177 dX12_number_140 (by decide) (HQ _ _ h)
          · intro hc
            rw [if_neg hc] at h
            refine zw_push hm_177 dX12_number_124 (v := .inr (.inr (some 94))) rfl ?_
            refine zw_push hm_177 dX12_number_125 (v := .inr (.inr (some 94))) rfl ?_
            refine zw_gf hm_177 dX12_number_126 (v := .inl ((mI S) 94 68)) (zT_is (zT_pi hS) s_94) (zT_t (zT_pi hS) s_94) rfl f_12_127_12 rfl ?_
            refine zw_cv hm_177 dX12_number_129 v_12_144_12 hm_174 [.inl ((mI S) 94 68)] [] rfl (zT_rt (zT_pi hS) s_94 rfl) ⟨by omega, by omega⟩ rfl ?_
            show ma_wp X (d - 1) (w - 21) 174 0 [(0, .inr (.inr (some 94))), (1, .inl ((mI S) 94 68))] [] (ma_put S 94 71 (.inl l4)) _
            refine zw_push hm_174 dX12_wrong_0 (v := .inr (.inr (some 94))) rfl ?_
            refine zw_push hm_174 dX12_wrong_1 (v := .inl ((mI S) 94 68)) rfl ?_
            refine zw_pf hm_174 dX12_wrong_2 (zT_is (zT_pi hS) s_94) (zT_t (zT_pi hS) s_94) p_12_133_12 zk_int ?_
            refine zw_push hm_174 dX12_wrong_5 (v := .inl (0 : Int32)) rfl ?_
            refine zw_bret hm_174 dX12_wrong_6 (by decide) ?_
            show ma_wp X d w 177 132 [(0, .inr (.inr (some 94))), (1, .inl l1), (2, .inl l2), (3, .inl l3), (4, .inl l4), (5, .inl l5)] [.inl (0 : Int32)] (ma_put (ma_put S 94 71 (.inl l4)) 94 70 (.inl ((mI S) 94 68))) _
            refine zw_if0 hm_177 dX12_number_132 (t := 139) rfl zc0_eq (fun _ => ?_) (fun hc => absurd (by decide) hc)
            refine zw_push hm_177 dX12_number_139 (v := .inl (0 : Int32)) rfl ?_
            exact zw_bret hm_177 dX12_number_140 (by decide) (HQ _ _ h)
    · intro hc
      rw [if_neg hc] at h
      refine zw_push hm_177 dX12_number_49 (v := .inr (.inr (some 94))) rfl ?_
      refine zw_gf hm_177 dX12_number_50 (v := .inr (.inr (some 96))) (zT_is hS s_94) (zT_t hS s_94) rfl f_12_17_12 (zT_f hS r_94_2) ?_
      refine zw_push hm_177 dX12_number_53 (v := .inr (.inr (some 94))) rfl ?_
      refine zw_gf hm_177 dX12_number_54 (v := .inl ((mI S) 94 68)) (zT_is hS s_94) (zT_t hS s_94) rfl f_12_127_12 rfl ?_
      refine zw_push hm_177 dX12_number_57 (v := .inl l5) rfl ?_
      refine zw_stk hm_177 dX12_number_59 (st' := [.inl (((mI S) 94 68) + l5), .inr (.inr (some 96))]) rfl rfl ?_
      obtain ⟨hg, h⟩ := h
      refine zw_ba hm_177 dX12_number_60 (zT_is hS s_96) (zT_h hS s_96) rfl rfl hg ?_
      show ma_wp X d w 177 61 [(0, .inr (.inr (some 94))), (1, .inl l1), (2, .inl l2), (3, .inl l3), (4, .inl l4), (5, .inl l5)] [.inl ((mI S) 96 (((mI S) 94 68) + l5).toNatClampNeg)] S _
      refine zw_sto hm_177 dX12_number_61 [(6, .inl ((mI S) 96 (((mI S) 94 68) + l5).toNatClampNeg)), (0, .inr (.inr (some 94))), (1, .inl l1), (2, .inl l2), (3, .inl l3), (4, .inl l4), (5, .inl l5)] rfl rfl rfl ?_
      refine zw_push hm_177 dX12_number_63 (v := .inl ((mI S) 96 (((mI S) 94 68) + l5).toNatClampNeg)) rfl ?_
      refine zw_push hm_177 dX12_number_65 (v := .inl (48 : Int32)) rfl ?_
      refine zw_if2 hm_177 dX12_number_67 (t := 81) rfl zc2_lt ?_ ?_
      · intro hc
        rw [if_pos hc] at h
        refine zw_push hm_177 dX12_number_81 (v := .inl (0 : Int32)) rfl ?_
        refine zw_sto hm_177 dX12_number_82 [(3, .inl (0 : Int32)), (6, .inl ((mI S) 96 (((mI S) 94 68) + l5).toNatClampNeg)), (0, .inr (.inr (some 94))), (1, .inl l1), (2, .inl l2), (4, .inl l4), (5, .inl l5)] rfl rfl rfl ?_
        refine zw_push hm_177 dX12_number_83 (v := .inl (10 : Int32)) rfl ?_
        refine zw_push hm_177 dX12_number_85 (v := .inl l4) rfl ?_
        refine zw_stk hm_177 dX12_number_87 (st' := [.inl ((10 : Int32) * l4)]) rfl rfl ?_
        refine zw_push hm_177 dX12_number_88 (v := .inl ((mI S) 96 (((mI S) 94 68) + l5).toNatClampNeg)) rfl ?_
        refine zw_stk hm_177 dX12_number_90 (st' := [.inl (((10 : Int32) * l4) + ((mI S) 96 (((mI S) 94 68) + l5).toNatClampNeg))]) rfl rfl ?_
        refine zw_push hm_177 dX12_number_91 (v := .inl (48 : Int32)) rfl ?_
        refine zw_stk hm_177 dX12_number_93 (st' := [.inl ((((10 : Int32) * l4) + ((mI S) 96 (((mI S) 94 68) + l5).toNatClampNeg)) - (48 : Int32))]) rfl rfl ?_
        refine zw_sto hm_177 dX12_number_94 [(4, .inl ((((10 : Int32) * l4) + ((mI S) 96 (((mI S) 94 68) + l5).toNatClampNeg)) - (48 : Int32))), (3, .inl (0 : Int32)), (6, .inl ((mI S) 96 (((mI S) 94 68) + l5).toNatClampNeg)), (0, .inr (.inr (some 94))), (1, .inl l1), (2, .inl l2), (5, .inl l5)] rfl rfl rfl ?_
        refine zw_sto hm_177 dX12_number_96 [(5, .inl (l5 + (1 : Int32))), (4, .inl ((((10 : Int32) * l4) + ((mI S) 96 (((mI S) 94 68) + l5).toNatClampNeg)) - (48 : Int32))), (3, .inl (0 : Int32)), (6, .inl ((mI S) 96 (((mI S) 94 68) + l5).toNatClampNeg)), (0, .inr (.inr (some 94))), (1, .inl l1), (2, .inl l2)] rfl rfl rfl ?_
        refine zw_goto hm_177 dX12_number_99 (t := 36) rfl ?_
        exact zw_sub (ma_nd_of (ks := [0, 1, 2, 3, 4, 5]) rfl (by decide)) (ma_nd_of (ks := [5, 4, 3, 6, 0, 1, 2]) rfl (by decide)) (ma_le_cons rfl (ma_le_cons rfl (ma_le_cons rfl (ma_le_cons rfl (ma_le_cons rfl (ma_le_cons rfl (ma_le_nil _))))))) (h d w _ Q (by omega) (by omega) hS rfl HQ)
      · intro hc
        rw [if_neg hc] at h
        refine zw_push hm_177 dX12_number_70 (v := .inl ((mI S) 96 (((mI S) 94 68) + l5).toNatClampNeg)) rfl ?_
        refine zw_push hm_177 dX12_number_72 (v := .inl (57 : Int32)) rfl ?_
        refine zw_if2 hm_177 dX12_number_74 (t := 81) rfl zc2_gt ?_ ?_
        · intro hc
          rw [if_pos hc] at h
          refine zw_push hm_177 dX12_number_81 (v := .inl (0 : Int32)) rfl ?_
          refine zw_sto hm_177 dX12_number_82 [(3, .inl (0 : Int32)), (6, .inl ((mI S) 96 (((mI S) 94 68) + l5).toNatClampNeg)), (0, .inr (.inr (some 94))), (1, .inl l1), (2, .inl l2), (4, .inl l4), (5, .inl l5)] rfl rfl rfl ?_
          refine zw_push hm_177 dX12_number_83 (v := .inl (10 : Int32)) rfl ?_
          refine zw_push hm_177 dX12_number_85 (v := .inl l4) rfl ?_
          refine zw_stk hm_177 dX12_number_87 (st' := [.inl ((10 : Int32) * l4)]) rfl rfl ?_
          refine zw_push hm_177 dX12_number_88 (v := .inl ((mI S) 96 (((mI S) 94 68) + l5).toNatClampNeg)) rfl ?_
          refine zw_stk hm_177 dX12_number_90 (st' := [.inl (((10 : Int32) * l4) + ((mI S) 96 (((mI S) 94 68) + l5).toNatClampNeg))]) rfl rfl ?_
          refine zw_push hm_177 dX12_number_91 (v := .inl (48 : Int32)) rfl ?_
          refine zw_stk hm_177 dX12_number_93 (st' := [.inl ((((10 : Int32) * l4) + ((mI S) 96 (((mI S) 94 68) + l5).toNatClampNeg)) - (48 : Int32))]) rfl rfl ?_
          refine zw_sto hm_177 dX12_number_94 [(4, .inl ((((10 : Int32) * l4) + ((mI S) 96 (((mI S) 94 68) + l5).toNatClampNeg)) - (48 : Int32))), (3, .inl (0 : Int32)), (6, .inl ((mI S) 96 (((mI S) 94 68) + l5).toNatClampNeg)), (0, .inr (.inr (some 94))), (1, .inl l1), (2, .inl l2), (5, .inl l5)] rfl rfl rfl ?_
          refine zw_sto hm_177 dX12_number_96 [(5, .inl (l5 + (1 : Int32))), (4, .inl ((((10 : Int32) * l4) + ((mI S) 96 (((mI S) 94 68) + l5).toNatClampNeg)) - (48 : Int32))), (3, .inl (0 : Int32)), (6, .inl ((mI S) 96 (((mI S) 94 68) + l5).toNatClampNeg)), (0, .inr (.inr (some 94))), (1, .inl l1), (2, .inl l2)] rfl rfl rfl ?_
          refine zw_goto hm_177 dX12_number_99 (t := 36) rfl ?_
          exact zw_sub (ma_nd_of (ks := [0, 1, 2, 3, 4, 5]) rfl (by decide)) (ma_nd_of (ks := [5, 4, 3, 6, 0, 1, 2]) rfl (by decide)) (ma_le_cons rfl (ma_le_cons rfl (ma_le_cons rfl (ma_le_cons rfl (ma_le_cons rfl (ma_le_cons rfl (ma_le_nil _))))))) (h d w _ Q (by omega) (by omega) hS rfl HQ)
        · intro hc
          rw [if_neg hc] at h
          refine zw_push hm_177 dX12_number_77 (v := .inl (1 : Int32)) rfl ?_
          refine zw_goto hm_177 dX12_number_78 (t := 82) rfl ?_
          refine zw_sto hm_177 dX12_number_82 [(3, .inl (1 : Int32)), (6, .inl ((mI S) 96 (((mI S) 94 68) + l5).toNatClampNeg)), (0, .inr (.inr (some 94))), (1, .inl l1), (2, .inl l2), (4, .inl l4), (5, .inl l5)] rfl rfl rfl ?_
          refine zw_push hm_177 dX12_number_83 (v := .inl (10 : Int32)) rfl ?_
          refine zw_push hm_177 dX12_number_85 (v := .inl l4) rfl ?_
          refine zw_stk hm_177 dX12_number_87 (st' := [.inl ((10 : Int32) * l4)]) rfl rfl ?_
          refine zw_push hm_177 dX12_number_88 (v := .inl ((mI S) 96 (((mI S) 94 68) + l5).toNatClampNeg)) rfl ?_
          refine zw_stk hm_177 dX12_number_90 (st' := [.inl (((10 : Int32) * l4) + ((mI S) 96 (((mI S) 94 68) + l5).toNatClampNeg))]) rfl rfl ?_
          refine zw_push hm_177 dX12_number_91 (v := .inl (48 : Int32)) rfl ?_
          refine zw_stk hm_177 dX12_number_93 (st' := [.inl ((((10 : Int32) * l4) + ((mI S) 96 (((mI S) 94 68) + l5).toNatClampNeg)) - (48 : Int32))]) rfl rfl ?_
          refine zw_sto hm_177 dX12_number_94 [(4, .inl ((((10 : Int32) * l4) + ((mI S) 96 (((mI S) 94 68) + l5).toNatClampNeg)) - (48 : Int32))), (3, .inl (1 : Int32)), (6, .inl ((mI S) 96 (((mI S) 94 68) + l5).toNatClampNeg)), (0, .inr (.inr (some 94))), (1, .inl l1), (2, .inl l2), (5, .inl l5)] rfl rfl rfl ?_
          refine zw_sto hm_177 dX12_number_96 [(5, .inl (l5 + (1 : Int32))), (4, .inl ((((10 : Int32) * l4) + ((mI S) 96 (((mI S) 94 68) + l5).toNatClampNeg)) - (48 : Int32))), (3, .inl (1 : Int32)), (6, .inl ((mI S) 96 (((mI S) 94 68) + l5).toNatClampNeg)), (0, .inr (.inr (some 94))), (1, .inl l1), (2, .inl l2)] rfl rfl rfl ?_
          refine zw_goto hm_177 dX12_number_99 (t := 36) rfl ?_
          exact zw_sub (ma_nd_of (ks := [0, 1, 2, 3, 4, 5]) rfl (by decide)) (ma_nd_of (ks := [5, 4, 3, 6, 0, 1, 2]) rfl (by decide)) (ma_le_cons rfl (ma_le_cons rfl (ma_le_cons rfl (ma_le_cons rfl (ma_le_cons rfl (ma_le_cons rfl (ma_le_nil _))))))) (h d w _ Q (by omega) (by omega) hS rfl HQ)
theorem lp_177_36 {X : Nat × (Nat → Int32)} {P : Option ma_V → (Nat → Nat → Int32) → Prop} {lo : Int32} {hi : Int32} {m0 : Nat → Nat → Int32} (h0 : zV m0) (K : ∀ v m', zF wr_177 m0 m' → zV m' → (v = 0 ∨ v = 1) → ((m' 94 67).toInt ≤ (m' 94 4).toInt) → ((m' 94 68).toInt + (m' 94 69).toInt ≤ 100) → (v.toInt = 1 → lo.toInt ≤ (m' 94 71).toInt ∧ (m' 94 71).toInt ≤ hi.toInt) → P (some (.inl v)) m') : ∀ (n : Nat) (m : Nat → Nat → Int32) (l1 : Int32) (l2 : Int32) (l3 : Int32) (l4 : Int32) (l5 : Int32), (100 - l5.toInt).toNat = n → zF wr_177 m0 m → zV m → (0 ≤ l5.toInt) → (l1.toInt = lo.toInt) → (l2.toInt = hi.toInt) → (0 ≤ l3.toInt) → (l3.toInt ≤ 1) → ((m 94 67).toInt ≤ (m 94 4).toInt) → ((m 94 68).toInt + (m 94 69).toInt ≤ 100) → zm X 1 21 177 36 [(0, .inr (.inr (some 94))), (1, .inl l1), (2, .inl l2), (3, .inl l3), (4, .inl l4), (5, .inl l5)] m P := by
  intro n
  induction n using Nat.strongRecOn with
  | _ n IH =>
    intro m l1 l2 l3 l4 l5 hmu hF hV hi0 hi1 hi2 hi3 hi4 hi5 hi6
    refine g_177_36 l1 l2 l3 l4 l5 ?_
    have f1 : 0 ≤ (m 94 67).toInt ∧ (m 94 67).toInt ≤ 100 := rs_94_67 (m := m) hV
    have f2 : 0 ≤ (m 94 4).toInt ∧ (m 94 4).toInt ≤ 100 := rs_94_4 (m := m) hV
    have f3 : 0 ≤ (m 94 68).toInt ∧ (m 94 68).toInt ≤ 100 := rs_94_68 (m := m) hV
    have f4 : 0 ≤ (m 94 69).toInt ∧ (m 94 69).toInt ≤ 100 := rs_94_69 (m := m) hV
    have b5 := i_bd l5
    refine zd (fun (h6 : (m 94 69) ≤ l5) => ?_) (fun (h6 : ¬ (m 94 69) ≤ l5) => ?_)
    · skip
      have g7 := i_le h6
      have b8 := i_bd l3
      have li9 : (0 : Int32).toInt = 0 := rfl
      refine zd (fun (h10 : l3 = (0 : Int32)) => ?_) (fun (h10 : ¬ l3 = (0 : Int32)) => ?_)
      · skip
        have g11 := i_eq h10
        have hV12 : zV (ma_u m 94 71 l4) := uf_94_71 hV
        have hV13 : zV (ma_u (ma_u m 94 71 l4) 94 70 (m 94 68)) := us_94_70 hV12 (by omega) (by omega)
        have b14 := i_bd l4
        exact K ((0 : Int32)) _ (zF_u (zF_u hF rfl) rfl) hV13 (by decide) (show (m 94 67).toInt ≤ (m 94 4).toInt from by omega) (show (m 94 68).toInt + (m 94 69).toInt ≤ 100 from by omega) (show (0 : Int32).toInt = 1 → lo.toInt ≤ l4.toInt ∧ l4.toInt ≤ hi.toInt from by omega)
      · skip
        have g15 := i_ne h10
        have b16 := i_bd l4
        have b17 := i_bd l1
        refine zd (fun (h18 : l4 < l1) => ?_) (fun (h18 : ¬ l4 < l1) => ?_)
        · skip
          have g19 := i_lt h18
          have hV20 : zV (ma_u m 94 71 l4) := uf_94_71 hV
          have hV21 : zV (ma_u (ma_u m 94 71 l4) 94 70 (m 94 68)) := us_94_70 hV20 (by omega) (by omega)
          exact K ((0 : Int32)) _ (zF_u (zF_u hF rfl) rfl) hV21 (by decide) (show (m 94 67).toInt ≤ (m 94 4).toInt from by omega) (show (m 94 68).toInt + (m 94 69).toInt ≤ 100 from by omega) (show (0 : Int32).toInt = 1 → lo.toInt ≤ l4.toInt ∧ l4.toInt ≤ hi.toInt from by omega)
        · skip
          have g22 := i_nlt h18
          have b23 := i_bd l2
          refine zd (fun (h24 : l4 ≤ l2) => ?_) (fun (h24 : ¬ l4 ≤ l2) => ?_)
          · skip
            have g25 := i_le h24
            have hV26 : zV (ma_u m 94 71 l4) := uf_94_71 hV
            have li27 : (1 : Int32).toInt = 1 := rfl
            exact K ((1 : Int32)) _ (zF_u hF rfl) hV26 (by decide) (show (m 94 67).toInt ≤ (m 94 4).toInt from by omega) (show (m 94 68).toInt + (m 94 69).toInt ≤ 100 from by omega) (show (1 : Int32).toInt = 1 → lo.toInt ≤ l4.toInt ∧ l4.toInt ≤ hi.toInt from by omega)
          · skip
            have g28 := i_nle h24
            have hV29 : zV (ma_u m 94 71 l4) := uf_94_71 hV
            have hV30 : zV (ma_u (ma_u m 94 71 l4) 94 70 (m 94 68)) := us_94_70 hV29 (by omega) (by omega)
            exact K ((0 : Int32)) _ (zF_u (zF_u hF rfl) rfl) hV30 (by decide) (show (m 94 67).toInt ≤ (m 94 4).toInt from by omega) (show (m 94 68).toInt + (m 94 69).toInt ≤ 100 from by omega) (show (0 : Int32).toInt = 1 → lo.toInt ≤ l4.toInt ∧ l4.toInt ≤ hi.toInt from by omega)
    · skip
      have g31 := i_nle h6
      have b32 := i_bd l3
      have li33 : (0 : Int32).toInt = 0 := rfl
      refine zd (fun (h34 : l3 = (0 : Int32)) => ?_) (fun (h34 : ¬ l3 = (0 : Int32)) => ?_)
      · skip
        have g35 := i_eq h34
        refine zd (fun (h36 : l3 = (0 : Int32)) => ?_) (fun (h36 : ¬ l3 = (0 : Int32)) => ?_)
        · skip
          have g37 := i_eq h36
          have hV38 : zV (ma_u m 94 71 l4) := uf_94_71 hV
          have hV39 : zV (ma_u (ma_u m 94 71 l4) 94 70 (m 94 68)) := us_94_70 hV38 (by omega) (by omega)
          have b40 := i_bd l4
          exact K ((0 : Int32)) _ (zF_u (zF_u hF rfl) rfl) hV39 (by decide) (show (m 94 67).toInt ≤ (m 94 4).toInt from by omega) (show (m 94 68).toInt + (m 94 69).toInt ≤ 100 from by omega) (show (0 : Int32).toInt = 1 → lo.toInt ≤ l4.toInt ∧ l4.toInt ≤ hi.toInt from by omega)
        · skip
          have g41 := i_ne h36
          have b42 := i_bd l4
          have b43 := i_bd l1
          refine zd (fun (h44 : l4 < l1) => ?_) (fun (h44 : ¬ l4 < l1) => ?_)
          · skip
            have g45 := i_lt h44
            have hV46 : zV (ma_u m 94 71 l4) := uf_94_71 hV
            have hV47 : zV (ma_u (ma_u m 94 71 l4) 94 70 (m 94 68)) := us_94_70 hV46 (by omega) (by omega)
            exact K ((0 : Int32)) _ (zF_u (zF_u hF rfl) rfl) hV47 (by decide) (show (m 94 67).toInt ≤ (m 94 4).toInt from by omega) (show (m 94 68).toInt + (m 94 69).toInt ≤ 100 from by omega) (show (0 : Int32).toInt = 1 → lo.toInt ≤ l4.toInt ∧ l4.toInt ≤ hi.toInt from by omega)
          · skip
            have g48 := i_nlt h44
            have b49 := i_bd l2
            refine zd (fun (h50 : l4 ≤ l2) => ?_) (fun (h50 : ¬ l4 ≤ l2) => ?_)
            · skip
              have g51 := i_le h50
              have hV52 : zV (ma_u m 94 71 l4) := uf_94_71 hV
              have li53 : (1 : Int32).toInt = 1 := rfl
              exact K ((1 : Int32)) _ (zF_u hF rfl) hV52 (by decide) (show (m 94 67).toInt ≤ (m 94 4).toInt from by omega) (show (m 94 68).toInt + (m 94 69).toInt ≤ 100 from by omega) (show (1 : Int32).toInt = 1 → lo.toInt ≤ l4.toInt ∧ l4.toInt ≤ hi.toInt from by omega)
            · skip
              have g54 := i_nle h50
              have hV55 : zV (ma_u m 94 71 l4) := uf_94_71 hV
              have hV56 : zV (ma_u (ma_u m 94 71 l4) 94 70 (m 94 68)) := us_94_70 hV55 (by omega) (by omega)
              exact K ((0 : Int32)) _ (zF_u (zF_u hF rfl) rfl) hV56 (by decide) (show (m 94 67).toInt ≤ (m 94 4).toInt from by omega) (show (m 94 68).toInt + (m 94 69).toInt ≤ 100 from by omega) (show (0 : Int32).toInt = 1 → lo.toInt ≤ l4.toInt ∧ l4.toInt ≤ hi.toInt from by omega)
      · skip
        have g57 := i_ne h34
        first | have e58 : ((m 94 68) + l5).toInt = (m 94 68).toInt + l5.toInt := i_add (by omega) (by omega) | have b59 := i_bd ((m 94 68) + l5)
        have hg60 : (0 ≤ ((m 94 68) + l5) ∧ ((m 94 68) + l5).toNatClampNeg < 100) := i_ix (by omega) (by omega)
        refine ⟨hg60, ?_⟩
        have b61 := i_bd (m 96 ((m 94 68) + l5).toNatClampNeg)
        have li62 : (48 : Int32).toInt = 48 := rfl
        refine zd (fun (h63 : (m 96 ((m 94 68) + l5).toNatClampNeg) < (48 : Int32)) => ?_) (fun (h63 : ¬ (m 96 ((m 94 68) + l5).toNatClampNeg) < (48 : Int32)) => ?_)
        · skip
          have g64 := i_lt h63
          have b65 := i_bd l1
          have b66 := i_bd l2
          have li67 : (10 : Int32).toInt = 10 := rfl
          have b68 := i_bd l4
          first | have e69 : ((10 : Int32) * l4).toInt = 10 * l4.toInt := i_mulk2 rfl (by omega) (by omega) | have b70 := i_bd ((10 : Int32) * l4)
          first | have e71 : (((10 : Int32) * l4) + (m 96 ((m 94 68) + l5).toNatClampNeg)).toInt = ((10 : Int32) * l4).toInt + (m 96 ((m 94 68) + l5).toNatClampNeg).toInt := i_add (by omega) (by omega) | have b72 := i_bd (((10 : Int32) * l4) + (m 96 ((m 94 68) + l5).toNatClampNeg))
          first | have e73 : ((((10 : Int32) * l4) + (m 96 ((m 94 68) + l5).toNatClampNeg)) - (48 : Int32)).toInt = (((10 : Int32) * l4) + (m 96 ((m 94 68) + l5).toNatClampNeg)).toInt - (48) := i_subk rfl (by omega) (by omega) | have b74 := i_bd ((((10 : Int32) * l4) + (m 96 ((m 94 68) + l5).toNatClampNeg)) - (48 : Int32))
          first | have e75 : (l5 + (1 : Int32)).toInt = l5.toInt + (1) := i_addk rfl (by omega) (by omega) | have b76 := i_bd (l5 + (1 : Int32))
          exact IH (100 - (l5 + (1 : Int32)).toInt).toNat (by omega) _ (l1) (l2) ((0 : Int32)) (((((10 : Int32) * l4) + (m 96 ((m 94 68) + l5).toNatClampNeg)) - (48 : Int32))) ((l5 + (1 : Int32))) rfl hF hV (by omega) (by omega) (by omega) (by omega) (by omega) (show (m 94 67).toInt ≤ (m 94 4).toInt from by omega) (show (m 94 68).toInt + (m 94 69).toInt ≤ 100 from by omega)
        · skip
          have g77 := i_nlt h63
          have li78 : (57 : Int32).toInt = 57 := rfl
          refine zd (fun (h79 : (57 : Int32) < (m 96 ((m 94 68) + l5).toNatClampNeg)) => ?_) (fun (h79 : ¬ (57 : Int32) < (m 96 ((m 94 68) + l5).toNatClampNeg)) => ?_)
          · skip
            have g80 := i_lt h79
            have b81 := i_bd l1
            have b82 := i_bd l2
            have li83 : (10 : Int32).toInt = 10 := rfl
            have b84 := i_bd l4
            first | have e85 : ((10 : Int32) * l4).toInt = 10 * l4.toInt := i_mulk2 rfl (by omega) (by omega) | have b86 := i_bd ((10 : Int32) * l4)
            first | have e87 : (((10 : Int32) * l4) + (m 96 ((m 94 68) + l5).toNatClampNeg)).toInt = ((10 : Int32) * l4).toInt + (m 96 ((m 94 68) + l5).toNatClampNeg).toInt := i_add (by omega) (by omega) | have b88 := i_bd (((10 : Int32) * l4) + (m 96 ((m 94 68) + l5).toNatClampNeg))
            first | have e89 : ((((10 : Int32) * l4) + (m 96 ((m 94 68) + l5).toNatClampNeg)) - (48 : Int32)).toInt = (((10 : Int32) * l4) + (m 96 ((m 94 68) + l5).toNatClampNeg)).toInt - (48) := i_subk rfl (by omega) (by omega) | have b90 := i_bd ((((10 : Int32) * l4) + (m 96 ((m 94 68) + l5).toNatClampNeg)) - (48 : Int32))
            first | have e91 : (l5 + (1 : Int32)).toInt = l5.toInt + (1) := i_addk rfl (by omega) (by omega) | have b92 := i_bd (l5 + (1 : Int32))
            exact IH (100 - (l5 + (1 : Int32)).toInt).toNat (by omega) _ (l1) (l2) ((0 : Int32)) (((((10 : Int32) * l4) + (m 96 ((m 94 68) + l5).toNatClampNeg)) - (48 : Int32))) ((l5 + (1 : Int32))) rfl hF hV (by omega) (by omega) (by omega) (by omega) (by omega) (show (m 94 67).toInt ≤ (m 94 4).toInt from by omega) (show (m 94 68).toInt + (m 94 69).toInt ≤ 100 from by omega)
          · skip
            have g93 := i_nlt h79
            have b94 := i_bd l1
            have b95 := i_bd l2
            have li96 : (1 : Int32).toInt = 1 := rfl
            have li97 : (10 : Int32).toInt = 10 := rfl
            have b98 := i_bd l4
            first | have e99 : ((10 : Int32) * l4).toInt = 10 * l4.toInt := i_mulk2 rfl (by omega) (by omega) | have b100 := i_bd ((10 : Int32) * l4)
            first | have e101 : (((10 : Int32) * l4) + (m 96 ((m 94 68) + l5).toNatClampNeg)).toInt = ((10 : Int32) * l4).toInt + (m 96 ((m 94 68) + l5).toNatClampNeg).toInt := i_add (by omega) (by omega) | have b102 := i_bd (((10 : Int32) * l4) + (m 96 ((m 94 68) + l5).toNatClampNeg))
            first | have e103 : ((((10 : Int32) * l4) + (m 96 ((m 94 68) + l5).toNatClampNeg)) - (48 : Int32)).toInt = (((10 : Int32) * l4) + (m 96 ((m 94 68) + l5).toNatClampNeg)).toInt - (48) := i_subk rfl (by omega) (by omega) | have b104 := i_bd ((((10 : Int32) * l4) + (m 96 ((m 94 68) + l5).toNatClampNeg)) - (48 : Int32))
            first | have e105 : (l5 + (1 : Int32)).toInt = l5.toInt + (1) := i_addk rfl (by omega) (by omega) | have b106 := i_bd (l5 + (1 : Int32))
            exact IH (100 - (l5 + (1 : Int32)).toInt).toNat (by omega) _ (l1) (l2) ((1 : Int32)) (((((10 : Int32) * l4) + (m 96 ((m 94 68) + l5).toNatClampNeg)) - (48 : Int32))) ((l5 + (1 : Int32))) rfl hF hV (by omega) (by omega) (by omega) (by omega) (by omega) (show (m 94 67).toInt ≤ (m 94 4).toInt from by omega) (show (m 94 68).toInt + (m 94 69).toInt ≤ 100 from by omega)
theorem sp_177 {X : Nat × (Nat → Int32)} {P : Option ma_V → (Nat → Nat → Int32) → Prop} {m : Nat → Nat → Int32} (lo : Int32) (hi : Int32) (hV : zV m) (hpre0 : (m 94 67).toInt ≤ (m 94 4).toInt) (KZ : ∀ v m', zV (zov wr_177 m m') → (v = 0 ∨ v = 1) → ((m' 94 67).toInt ≤ (m 94 4).toInt) → ((m' 94 68).toInt + (m' 94 69).toInt ≤ 100) → (v.toInt = 1 → lo.toInt ≤ (m' 94 71).toInt ∧ (m' 94 71).toInt ≤ hi.toInt) → P (some (.inl v)) (zov wr_177 m m')) : zm X 1 21 177 0 [(0, .inr (.inr (some 94))), (1, .inl lo), (2, .inl hi)] m P := by
  have K : ∀ v m', zF wr_177 m m' → zV m' → (v = 0 ∨ v = 1) → ((m' 94 67).toInt ≤ (m' 94 4).toInt) → ((m' 94 68).toInt + (m' 94 69).toInt ≤ 100) → (v.toInt = 1 → lo.toInt ≤ (m' 94 71).toInt ∧ (m' 94 71).toInt ≤ hi.toInt) → P (some (.inl v)) m' := by
    intro v m' hf z q0 q1 q2 q3
    have e := zov_eq hf
    rw [e] at z ⊢
    try rw [e] at q0
    try rw [e] at q1
    try rw [e] at q2
    try rw [e] at q3
    exact KZ v m' z q0 q1 q2 q3
  refine g_177_0 lo hi ?_
  have f1 : 0 ≤ (m 94 67).toInt ∧ (m 94 67).toInt ≤ 100 := rs_94_67 (m := m) hV
  have f2 : 0 ≤ (m 94 4).toInt ∧ (m 94 4).toInt ≤ 100 := rs_94_4 (m := m) hV
  refine sp_173  hV (show (m 94 67).toInt ≤ (m 94 4).toInt from by omega) (fun v2 m1 hV_m1 hb_m1 p0_m1 => zmi_n ?_)
  have p0_m1 : (m1 94 67).toInt ≤ (m 94 4).toInt ∧ (m1 94 68).toInt + (m1 94 69).toInt = (m1 94 67).toInt := p0_m1
  have f3 : 0 ≤ (m1 94 67).toInt ∧ (m1 94 67).toInt ≤ 100 := rs_94_67 (m := (zov wr_173 m m1)) hV_m1
  have f4 : 0 ≤ (m1 94 68).toInt ∧ (m1 94 68).toInt ≤ 100 := rs_94_68 (m := (zov wr_173 m m1)) hV_m1
  have f5 : 0 ≤ (m1 94 69).toInt ∧ (m1 94 69).toInt ≤ 100 := rs_94_69 (m := (zov wr_173 m m1)) hV_m1
  have f6 := i_01 hb_m1
  have li7 : (0 : Int32).toInt = 0 := rfl
  refine zd (fun (h8 : v2 = (0 : Int32)) => ?_) (fun (h8 : ¬ v2 = (0 : Int32)) => ?_)
  · skip
    have g9 := i_eq h8
    have hV10 : zV (ma_u (zov wr_173 m m1) 94 70 (m 94 4)) := us_94_70 hV_m1 (by omega) (by omega)
    have b11 := i_bd (m 94 71)
    exact K ((0 : Int32)) _ (zF_u (zF_zov zF_rfl ws_173_177) rfl) hV10 (by decide) (show (m1 94 67).toInt ≤ (m 94 4).toInt from by omega) (show (m1 94 68).toInt + (m1 94 69).toInt ≤ 100 from by omega) (show (0 : Int32).toInt = 1 → lo.toInt ≤ (m 94 71).toInt ∧ (m 94 71).toInt ≤ hi.toInt from by omega)
  · skip
    have g12 := i_ne h8
    have li13 : (5 : Int32).toInt = 5 := rfl
    refine zd (fun (h14 : (5 : Int32) < (m1 94 69)) => ?_) (fun (h14 : ¬ (5 : Int32) < (m1 94 69)) => ?_)
    · skip
      have g15 := i_lt h14
      have b16 := i_bd lo
      have b17 := i_bd hi
      exact lp_177_36 (lo := lo) (hi := hi) hV K _ _ (lo) (hi) ((0 : Int32)) ((0 : Int32)) ((0 : Int32)) rfl (zF_zov zF_rfl ws_173_177) hV_m1 (by omega) (by omega) (by omega) (by omega) (by omega) (show (m1 94 67).toInt ≤ (m 94 4).toInt from by omega) (show (m1 94 68).toInt + (m1 94 69).toInt ≤ 100 from by omega)
    · skip
      have g18 := i_nlt h14
      have b19 := i_bd lo
      have b20 := i_bd hi
      have li21 : (1 : Int32).toInt = 1 := rfl
      exact lp_177_36 (lo := lo) (hi := hi) hV K _ _ (lo) (hi) ((1 : Int32)) ((0 : Int32)) ((0 : Int32)) rfl (zF_zov zF_rfl ws_173_177) hV_m1 (by omega) (by omega) (by omega) (by omega) (by omega) (show (m1 94 67).toInt ≤ (m 94 4).toInt from by omega) (show (m1 94 68).toInt + (m1 94 69).toInt ≤ 100 from by omega)
