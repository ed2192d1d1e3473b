/-! from 94.400 -/
/-! the reference (written by wip/tools/gen94m.py) -/
set_option maxRecDepth 100000 in
theorem hm_168 : ma_md 168 = some (12, yX12_four, cX12_four, 3, none) := rfl
theorem s_94 : zs 94 = some (12, 85) := rfl
theorem s_95 : zs 95 = some (21, 100) := rfl
theorem r_94_1 : zfi 94 1 = some 95 := rfl
theorem f_12_13_12 : ma_fld 12 13 12 = some 1 := by decide +kernel
theorem f_12_107_12 : ma_fld 12 107 12 = some 3 := by decide +kernel
theorem p_12_107_12 : ma_pk 12 107 12 3 = true := by decide +kernel
theorem dX12_four_0 : decode cX12_four 0 = .ok (.bipush 24, 2) := by decide +kernel
theorem dX12_four_2 : decode cX12_four 2 = .ok (.istore_n 2, 1) := by decide +kernel
theorem dX12_four_3 : decode cX12_four 3 = .ok (.iload_n 2, 1) := by decide +kernel
theorem dX12_four_36 : decode cX12_four 36 = .ok (.return_, 1) := by decide +kernel
theorem dX12_four_7 : decode cX12_four 7 = .ok (.aload_n 0, 1) := by decide +kernel
theorem dX12_four_11 : decode cX12_four 11 = .ok (.aload_n 0, 1) := by decide +kernel
theorem dX12_four_15 : decode cX12_four 15 = .ok (.iload_n 1, 1) := by decide +kernel
theorem dX12_four_16 : decode cX12_four 16 = .ok (.iload_n 2, 1) := by decide +kernel
theorem dX12_four_17 : decode cX12_four 17 = .ok (.ishr, 1) := by decide +kernel
theorem dX12_four_18 : decode cX12_four 18 = .ok (.i2b, 1) := by decide +kernel
theorem dX12_four_20 : decode cX12_four 20 = .ok (.aload_n 0, 1) := by decide +kernel
theorem dX12_four_21 : decode cX12_four 21 = .ok (.dup, 1) := by decide +kernel
theorem dX12_four_25 : decode cX12_four 25 = .ok (.iconst 1, 1) := by decide +kernel
theorem dX12_four_26 : decode cX12_four 26 = .ok (.iadd, 1) := by decide +kernel
theorem dX12_four_30 : decode cX12_four 30 = .ok (.iinc 2 (-8), 3) := by decide +kernel
theorem dX12_four_33 : decode cX12_four 33 = .ok (.goto (-30), 3) := by decide +kernel
theorem dX12_four_27 : decode cX12_four 27 = .ok (.putfield 107, 3) := by decide +kernel
theorem dX12_four_22 : decode cX12_four 22 = .ok (.getfield 107, 3) := by decide +kernel
theorem dX12_four_19 : decode cX12_four 19 = .ok (.bastore, 1) := by decide +kernel
theorem dX12_four_12 : decode cX12_four 12 = .ok (.getfield 107, 3) := by decide +kernel
theorem dX12_four_8 : decode cX12_four 8 = .ok (.getfield 13, 3) := by decide +kernel
theorem dX12_four_4 : decode cX12_four 4 = .ok (.ifCond .lt 32, 3) := by decide +kernel
def wr_168 (c k : Nat) : Bool := Nat.beq c 95 || (Nat.beq c 94 && (Nat.beq k 3))
theorem g_168_0 {X : Nat × (Nat → Int32)} {m : Nat → Nat → Int32} {P : Option ma_V → (Nat → Nat → Int32) → Prop} (a : Int32) (h : zm X 0 0 168 3 [(0, .inr (.inr (some 94))), (1, .inl a), (2, .inl (24 : Int32))] m P) : zm X 0 0 168 0 [(0, .inr (.inr (some 94))), (1, .inl a)] m P := by
  intro d w S Q hd hw hS hm HQ
  subst hm
  refine zw_push hm_168 dX12_four_0 (v := .inl (24 : Int32)) rfl ?_
  refine zw_sto hm_168 dX12_four_2 [(2, .inl (24 : Int32)), (0, .inr (.inr (some 94))), (1, .inl a)] rfl rfl rfl ?_
  exact zw_sub (ma_nd_of (ks := [0, 1, 2]) rfl (by decide)) (ma_nd_of (ks := [2, 0, 1]) rfl (by decide)) (ma_le_cons rfl (ma_le_cons rfl (ma_le_cons rfl (ma_le_nil _)))) (h d w _ Q (by omega) (by omega) hS rfl HQ)
theorem g_168_3 {X : Nat × (Nat → Int32)} {m : Nat → Nat → Int32} {P : Option ma_V → (Nat → Nat → Int32) → Prop} (l1 : Int32) (l2 : Int32) (h : if l2 < 0 then (P none m) else ((0 ≤ (m 94 3) ∧ (m 94 3).toNatClampNeg < 100) ∧ (zm X 0 0 168 3 [(0, .inr (.inr (some 94))), (1, .inl l1), (2, .inl (l2 + (-8 : Int32)))] (ma_u (ma_u m 95 (m 94 3).toNatClampNeg (vp_nar .byte ((l1 >>> (l2 &&& 31)).toInt8.toInt32))) 94 3 ((m 94 3) + (1 : Int32))) P))) : zm X 0 0 168 3 [(0, .inr (.inr (some 94))), (1, .inl l1), (2, .inl l2)] m P := by
  intro d w S Q hd hw hS hm HQ
  subst hm
  refine zw_push hm_168 dX12_four_3 (v := .inl l2) rfl ?_
  refine zw_if0 hm_168 dX12_four_4 (t := 36) rfl zc0_lt ?_ ?_
  · intro hc
    rw [if_pos hc] at h
    exact zw_vret hm_168 dX12_four_36 (HQ _ _ h)
  · intro hc
    rw [if_neg hc] at h
    refine zw_push hm_168 dX12_four_7 (v := .inr (.inr (some 94))) rfl ?_
    refine zw_gf hm_168 dX12_four_8 (v := .inr (.inr (some 95))) (zT_is hS s_94) (zT_t hS s_94) rfl f_12_13_12 (zT_f hS r_94_1) ?_
    refine zw_push hm_168 dX12_four_11 (v := .inr (.inr (some 94))) rfl ?_
    refine zw_gf hm_168 dX12_four_12 (v := .inl ((mI S) 94 3)) (zT_is hS s_94) (zT_t hS s_94) rfl f_12_107_12 rfl ?_
    refine zw_push hm_168 dX12_four_15 (v := .inl l1) rfl ?_
    refine zw_push hm_168 dX12_four_16 (v := .inl l2) rfl ?_
    refine zw_stk hm_168 dX12_four_17 (st₉ := [.inl (l1 >>> (l2 &&& 31)), .inl ((mI S) 94 3), .inr (.inr (some 95))]) rfl rfl ?_
    refine zw_stk hm_168 dX12_four_18 (st₉ := [.inl ((l1 >>> (l2 &&& 31)).toInt8.toInt32), .inl ((mI S) 94 3), .inr (.inr (some 95))]) rfl rfl ?_
    obtain ⟨hg, h⟩ := h
    refine zw_bas21 hm_168 dX12_four_19 (zT_is hS s_95) (zT_h hS s_95) rfl hg ?_
    refine zw_push hm_168 dX12_four_20 (v := .inr (.inr (some 94))) rfl ?_
    refine zw_stk hm_168 dX12_four_21 (st₉ := [.inr (.inr (some 94)), .inr (.inr (some 94))]) rfl rfl ?_
    refine zw_gf hm_168 dX12_four_22 (v := .inl ((mI S) 94 3)) (zT_is (zT_pi hS) s_94) (zT_t (zT_pi hS) s_94) rfl f_12_107_12 rfl ?_
    refine zw_push hm_168 dX12_four_25 (v := .inl (1 : Int32)) rfl ?_
    refine zw_stk hm_168 dX12_four_26 (st₉ := [.inl (((mI S) 94 3) + (1 : Int32)), .inr (.inr (some 94))]) rfl rfl ?_
    refine zw_pf hm_168 dX12_four_27 (zT_is (zT_pi hS) s_94) (zT_t (zT_pi hS) s_94) p_12_107_12 zk_int ?_
    refine zw_sto hm_168 dX12_four_30 [(2, .inl (l2 + (-8 : Int32))), (0, .inr (.inr (some 94))), (1, .inl l1)] rfl rfl rfl ?_
    refine zw_goto hm_168 dX12_four_33 (t := 3) rfl ?_
    exact zw_sub (ma_nd_of (ks := [0, 1, 2]) rfl (by decide)) (ma_nd_of (ks := [2, 0, 1]) rfl (by decide)) (ma_le_cons rfl (ma_le_cons rfl (ma_le_cons rfl (ma_le_nil _)))) (h d w _ Q (by omega) (by omega) (zT_pi (zT_pi hS)) rfl HQ)
/-! from 94.401 -/
/-! the reference (written by wip/tools/gen94m.py) -/
set_option maxRecDepth 100000 in
theorem hm_173 : ma_md 173 = some (12, yX12_token, cX12_token, 1, (some (FieldType.boolean))) := rfl
theorem s_96 : zs 96 = some (21, 100) := rfl
theorem r_94_2 : zfi 94 2 = some 96 := rfl
theorem f_12_17_12 : ma_fld 12 17 12 = some 2 := by decide +kernel
theorem f_12_121_12 : ma_fld 12 121 12 = some 67 := by decide +kernel
theorem f_12_124_12 : ma_fld 12 124 12 = some 4 := by decide +kernel
theorem f_12_127_12 : ma_fld 12 127 12 = some 68 := by decide +kernel
theorem f_12_130_12 : ma_fld 12 130 12 = some 69 := by decide +kernel
theorem p_12_121_12 : ma_pk 12 121 12 67 = true := by decide +kernel
theorem p_12_127_12 : ma_pk 12 127 12 68 = true := by decide +kernel
theorem p_12_130_12 : ma_pk 12 130 12 69 = true := by decide +kernel
theorem dX12_token_0 : decode cX12_token 0 = .ok (.aload_n 0, 1) := by decide +kernel
theorem dX12_token_4 : decode cX12_token 4 = .ok (.aload_n 0, 1) := by decide +kernel
theorem dX12_token_38 : decode cX12_token 38 = .ok (.aload_n 0, 1) := by decide +kernel
theorem dX12_token_39 : decode cX12_token 39 = .ok (.aload_n 0, 1) := by decide +kernel
theorem dX12_token_43 : decode cX12_token 43 = .ok (.putfield 127, 3) := by decide +kernel
theorem dX12_token_40 : decode cX12_token 40 = .ok (.getfield 121, 3) := by decide +kernel
theorem dX12_token_11 : decode cX12_token 11 = .ok (.aload_n 0, 1) := by decide +kernel
theorem dX12_token_15 : decode cX12_token 15 = .ok (.aload_n 0, 1) := by decide +kernel
theorem dX12_token_20 : decode cX12_token 20 = .ok (.bipush 32, 2) := by decide +kernel
theorem dX12_token_25 : decode cX12_token 25 = .ok (.aload_n 0, 1) := by decide +kernel
theorem dX12_token_26 : decode cX12_token 26 = .ok (.dup, 1) := by decide +kernel
theorem dX12_token_30 : decode cX12_token 30 = .ok (.iconst 1, 1) := by decide +kernel
theorem dX12_token_31 : decode cX12_token 31 = .ok (.iadd, 1) := by decide +kernel
theorem dX12_token_35 : decode cX12_token 35 = .ok (.goto (-35), 3) := by decide +kernel
theorem dX12_token_32 : decode cX12_token 32 = .ok (.putfield 121, 3) := by decide +kernel
theorem dX12_token_27 : decode cX12_token 27 = .ok (.getfield 121, 3) := by decide +kernel
theorem dX12_token_22 : decode cX12_token 22 = .ok (.if_icmp .ne 16, 3) := by decide +kernel
theorem dX12_token_19 : decode cX12_token 19 = .ok (.baload, 1) := by decide +kernel
theorem dX12_token_16 : decode cX12_token 16 = .ok (.getfield 121, 3) := by decide +kernel
theorem dX12_token_12 : decode cX12_token 12 = .ok (.getfield 17, 3) := by decide +kernel
theorem dX12_token_8 : decode cX12_token 8 = .ok (.if_icmp .ge 30, 3) := by decide +kernel
theorem dX12_token_5 : decode cX12_token 5 = .ok (.getfield 124, 3) := by decide +kernel
theorem dX12_token_1 : decode cX12_token 1 = .ok (.getfield 121, 3) := by decide +kernel
theorem dX12_token_46 : decode cX12_token 46 = .ok (.aload_n 0, 1) := by decide +kernel
theorem dX12_token_50 : decode cX12_token 50 = .ok (.aload_n 0, 1) := by decide +kernel
theorem dX12_token_84 : decode cX12_token 84 = .ok (.aload_n 0, 1) := by decide +kernel
theorem dX12_token_85 : decode cX12_token 85 = .ok (.aload_n 0, 1) := by decide +kernel
theorem dX12_token_89 : decode cX12_token 89 = .ok (.aload_n 0, 1) := by decide +kernel
theorem dX12_token_93 : decode cX12_token 93 = .ok (.isub, 1) := by decide +kernel
theorem dX12_token_97 : decode cX12_token 97 = .ok (.aload_n 0, 1) := by decide +kernel
theorem dX12_token_108 : decode cX12_token 108 = .ok (.iconst 0, 1) := by decide +kernel
theorem dX12_token_109 : decode cX12_token 109 = .ok (.ireturn, 1) := by decide +kernel
theorem dX12_token_104 : decode cX12_token 104 = .ok (.iconst 1, 1) := by decide +kernel
theorem dX12_token_105 : decode cX12_token 105 = .ok (.goto 4, 3) := by decide +kernel
theorem dX12_token_101 : decode cX12_token 101 = .ok (.ifCond .le 7, 3) := by decide +kernel
theorem dX12_token_98 : decode cX12_token 98 = .ok (.getfield 130, 3) := by decide +kernel
theorem dX12_token_94 : decode cX12_token 94 = .ok (.putfield 130, 3) := by decide +kernel
theorem dX12_token_90 : decode cX12_token 90 = .ok (.getfield 127, 3) := by decide +kernel
theorem dX12_token_86 : decode cX12_token 86 = .ok (.getfield 121, 3) := by decide +kernel
theorem dX12_token_57 : decode cX12_token 57 = .ok (.aload_n 0, 1) := by decide +kernel
theorem dX12_token_61 : decode cX12_token 61 = .ok (.aload_n 0, 1) := by decide +kernel
theorem dX12_token_66 : decode cX12_token 66 = .ok (.bipush 32, 2) := by decide +kernel
theorem dX12_token_71 : decode cX12_token 71 = .ok (.aload_n 0, 1) := by decide +kernel
theorem dX12_token_72 : decode cX12_token 72 = .ok (.dup, 1) := by decide +kernel
theorem dX12_token_76 : decode cX12_token 76 = .ok (.iconst 1, 1) := by decide +kernel
theorem dX12_token_77 : decode cX12_token 77 = .ok (.iadd, 1) := by decide +kernel
theorem dX12_token_81 : decode cX12_token 81 = .ok (.goto (-35), 3) := by decide +kernel
theorem dX12_token_78 : decode cX12_token 78 = .ok (.putfield 121, 3) := by decide +kernel
theorem dX12_token_73 : decode cX12_token 73 = .ok (.getfield 121, 3) := by decide +kernel
theorem dX12_token_68 : decode cX12_token 68 = .ok (.if_icmp .eq 16, 3) := by decide +kernel
theorem dX12_token_65 : decode cX12_token 65 = .ok (.baload, 1) := by decide +kernel
theorem dX12_token_62 : decode cX12_token 62 = .ok (.getfield 121, 3) := by decide +kernel
theorem dX12_token_58 : decode cX12_token 58 = .ok (.getfield 17, 3) := by decide +kernel
theorem dX12_token_54 : decode cX12_token 54 = .ok (.if_icmp .ge 30, 3) := by decide +kernel
theorem dX12_token_51 : decode cX12_token 51 = .ok (.getfield 124, 3) := by decide +kernel
theorem dX12_token_47 : decode cX12_token 47 = .ok (.getfield 121, 3) := by decide +kernel
def wr_173 (c k : Nat) : Bool := (Nat.beq c 94 && (Nat.beq k 67 || Nat.beq k 68 || Nat.beq k 69))
theorem g_173_0 {X : Nat × (Nat → Int32)} {m : Nat → Nat → Int32} {P : Option ma_V → (Nat → Nat → Int32) → Prop}  (h : if (m 94 4) ≤ (m 94 67) then (zm X 0 0 173 46 [(0, .inr (.inr (some 94)))] (ma_u m 94 68 (m 94 67)) P) else ((0 ≤ (m 94 67) ∧ (m 94 67).toNatClampNeg < 100) ∧ (if (m 96 (m 94 67).toNatClampNeg) = (32 : Int32) then (zm X 0 0 173 0 [(0, .inr (.inr (some 94)))] (ma_u m 94 67 ((m 94 67) + (1 : Int32))) P) else (zm X 0 0 173 46 [(0, .inr (.inr (some 94)))] (ma_u m 94 68 (m 94 67)) P)))) : zm X 0 0 173 0 [(0, .inr (.inr (some 94)))] m P := by
  intro d w S Q hd hw hS hm HQ
  subst hm
  refine zw_push hm_173 dX12_token_0 (v := .inr (.inr (some 94))) rfl ?_
  refine zw_gf hm_173 dX12_token_1 (v := .inl ((mI S) 94 67)) (zT_is hS s_94) (zT_t hS s_94) rfl f_12_121_12 rfl ?_
  refine zw_push hm_173 dX12_token_4 (v := .inr (.inr (some 94))) rfl ?_
  refine zw_gf hm_173 dX12_token_5 (v := .inl ((mI S) 94 4)) (zT_is hS s_94) (zT_t hS s_94) rfl f_12_124_12 rfl ?_
  refine zw_if2 hm_173 dX12_token_8 (t := 38) rfl zc2_ge ?_ ?_
  · intro hc
    rw [if_pos hc] at h
    refine zw_push hm_173 dX12_token_38 (v := .inr (.inr (some 94))) rfl ?_
    refine zw_push hm_173 dX12_token_39 (v := .inr (.inr (some 94))) rfl ?_
    refine zw_gf hm_173 dX12_token_40 (v := .inl ((mI S) 94 67)) (zT_is hS s_94) (zT_t hS s_94) rfl f_12_121_12 rfl ?_
    refine zw_pf hm_173 dX12_token_43 (zT_is hS s_94) (zT_t hS s_94) p_12_127_12 zk_int ?_
    exact (h d w _ Q (by omega) (by omega) (zT_pi hS) rfl HQ)
  · intro hc
    rw [if_neg hc] at h
    refine zw_push hm_173 dX12_token_11 (v := .inr (.inr (some 94))) rfl ?_
    refine zw_gf hm_173 dX12_token_12 (v := .inr (.inr (some 96))) (zT_is hS s_94) (zT_t hS s_94) rfl f_12_17_12 (zT_f hS r_94_2) ?_
    refine zw_push hm_173 dX12_token_15 (v := .inr (.inr (some 94))) rfl ?_
    refine zw_gf hm_173 dX12_token_16 (v := .inl ((mI S) 94 67)) (zT_is hS s_94) (zT_t hS s_94) rfl f_12_121_12 rfl ?_
    obtain ⟨hg, h⟩ := h
    refine zw_ba hm_173 dX12_token_19 (zT_is hS s_96) (zT_h hS s_96) rfl rfl hg ?_
    show ma_wp X d w 173 20 [(0, .inr (.inr (some 94)))] [.inl ((mI S) 96 ((mI S) 94 67).toNatClampNeg)] S _
    refine zw_push hm_173 dX12_token_20 (v := .inl (32 : Int32)) rfl ?_
    refine zw_if2 hm_173 dX12_token_22 (t := 38) rfl zc2_ne ?_ ?_
    · intro hc
      rw [if_neg hc] at h
      refine zw_push hm_173 dX12_token_38 (v := .inr (.inr (some 94))) rfl ?_
      refine zw_push hm_173 dX12_token_39 (v := .inr (.inr (some 94))) rfl ?_
      refine zw_gf hm_173 dX12_token_40 (v := .inl ((mI S) 94 67)) (zT_is hS s_94) (zT_t hS s_94) rfl f_12_121_12 rfl ?_
      refine zw_pf hm_173 dX12_token_43 (zT_is hS s_94) (zT_t hS s_94) p_12_127_12 zk_int ?_
      exact (h d w _ Q (by omega) (by omega) (zT_pi hS) rfl HQ)
    · intro hc
      rw [if_pos (Classical.not_not.mp hc)] at h
      refine zw_push hm_173 dX12_token_25 (v := .inr (.inr (some 94))) rfl ?_
      refine zw_stk hm_173 dX12_token_26 (st₉ := [.inr (.inr (some 94)), .inr (.inr (some 94))]) rfl rfl ?_
      refine zw_gf hm_173 dX12_token_27 (v := .inl ((mI S) 94 67)) (zT_is hS s_94) (zT_t hS s_94) rfl f_12_121_12 rfl ?_
      refine zw_push hm_173 dX12_token_30 (v := .inl (1 : Int32)) rfl ?_
      refine zw_stk hm_173 dX12_token_31 (st₉ := [.inl (((mI S) 94 67) + (1 : Int32)), .inr (.inr (some 94))]) rfl rfl ?_
      refine zw_pf hm_173 dX12_token_32 (zT_is hS s_94) (zT_t hS s_94) p_12_121_12 zk_int ?_
      refine zw_goto hm_173 dX12_token_35 (t := 0) rfl ?_
      exact (h d w _ Q (by omega) (by omega) (zT_pi hS) rfl HQ)
theorem g_173_46 {X : Nat × (Nat → Int32)} {m : Nat → Nat → Int32} {P : Option ma_V → (Nat → Nat → Int32) → Prop}  (h : if (m 94 4) ≤ (m 94 67) then (if ((m 94 67) - (m 94 68)) ≤ 0 then (P (some (.inl (0 : Int32))) (ma_u m 94 69 ((m 94 67) - (m 94 68)))) else (P (some (.inl (1 : Int32))) (ma_u m 94 69 ((m 94 67) - (m 94 68))))) else ((0 ≤ (m 94 67) ∧ (m 94 67).toNatClampNeg < 100) ∧ (if (m 96 (m 94 67).toNatClampNeg) = (32 : Int32) then (if ((m 94 67) - (m 94 68)) ≤ 0 then (P (some (.inl (0 : Int32))) (ma_u m 94 69 ((m 94 67) - (m 94 68)))) else (P (some (.inl (1 : Int32))) (ma_u m 94 69 ((m 94 67) - (m 94 68))))) else (zm X 0 0 173 46 [(0, .inr (.inr (some 94)))] (ma_u m 94 67 ((m 94 67) + (1 : Int32))) P)))) : zm X 0 0 173 46 [(0, .inr (.inr (some 94)))] m P := by
  intro d w S Q hd hw hS hm HQ
  subst hm
  refine zw_push hm_173 dX12_token_46 (v := .inr (.inr (some 94))) rfl ?_
  refine zw_gf hm_173 dX12_token_47 (v := .inl ((mI S) 94 67)) (zT_is hS s_94) (zT_t hS s_94) rfl f_12_121_12 rfl ?_
  refine zw_push hm_173 dX12_token_50 (v := .inr (.inr (some 94))) rfl ?_
  refine zw_gf hm_173 dX12_token_51 (v := .inl ((mI S) 94 4)) (zT_is hS s_94) (zT_t hS s_94) rfl f_12_124_12 rfl ?_
  refine zw_if2 hm_173 dX12_token_54 (t := 84) rfl zc2_ge ?_ ?_
  · intro hc
    rw [if_pos hc] at h
    refine zw_push hm_173 dX12_token_84 (v := .inr (.inr (some 94))) rfl ?_
    refine zw_push hm_173 dX12_token_85 (v := .inr (.inr (some 94))) rfl ?_
    refine zw_gf hm_173 dX12_token_86 (v := .inl ((mI S) 94 67)) (zT_is hS s_94) (zT_t hS s_94) rfl f_12_121_12 rfl ?_
    refine zw_push hm_173 dX12_token_89 (v := .inr (.inr (some 94))) rfl ?_
    refine zw_gf hm_173 dX12_token_90 (v := .inl ((mI S) 94 68)) (zT_is hS s_94) (zT_t hS s_94) rfl f_12_127_12 rfl ?_
    refine zw_stk hm_173 dX12_token_93 (st₉ := [.inl (((mI S) 94 67) - ((mI S) 94 68)), .inr (.inr (some 94))]) rfl rfl ?_
    refine zw_pf hm_173 dX12_token_94 (zT_is hS s_94) (zT_t hS s_94) p_12_130_12 zk_int ?_
    refine zw_push hm_173 dX12_token_97 (v := .inr (.inr (some 94))) rfl ?_
    refine zw_gf hm_173 dX12_token_98 (v := .inl (((mI S) 94 67) - ((mI S) 94 68))) (zT_is (zT_pi hS) s_94) (zT_t (zT_pi hS) s_94) rfl f_12_130_12 rfl ?_
    refine zw_if0 hm_173 dX12_token_101 (t := 108) rfl zc0_le ?_ ?_
    · intro hc
      rw [if_pos hc] at h
      refine zw_push hm_173 dX12_token_108 (v := .inl (0 : Int32)) rfl ?_
      exact zw_bret hm_173 dX12_token_109 (by decide) (HQ _ _ h)
    · intro hc
      rw [if_neg hc] at h
      refine zw_push hm_173 dX12_token_104 (v := .inl (1 : Int32)) rfl ?_
      refine zw_goto hm_173 dX12_token_105 (t := 109) rfl ?_
      exact zw_bret hm_173 dX12_token_109 (by decide) (HQ _ _ h)
  · intro hc
    rw [if_neg hc] at h
    refine zw_push hm_173 dX12_token_57 (v := .inr (.inr (some 94))) rfl ?_
    refine zw_gf hm_173 dX12_token_58 (v := .inr (.inr (some 96))) (zT_is hS s_94) (zT_t hS s_94) rfl f_12_17_12 (zT_f hS r_94_2) ?_
    refine zw_push hm_173 dX12_token_61 (v := .inr (.inr (some 94))) rfl ?_
    refine zw_gf hm_173 dX12_token_62 (v := .inl ((mI S) 94 67)) (zT_is hS s_94) (zT_t hS s_94) rfl f_12_121_12 rfl ?_
    obtain ⟨hg, h⟩ := h
    refine zw_ba hm_173 dX12_token_65 (zT_is hS s_96) (zT_h hS s_96) rfl rfl hg ?_
    show ma_wp X d w 173 66 [(0, .inr (.inr (some 94)))] [.inl ((mI S) 96 ((mI S) 94 67).toNatClampNeg)] S _
    refine zw_push hm_173 dX12_token_66 (v := .inl (32 : Int32)) rfl ?_
    refine zw_if2 hm_173 dX12_token_68 (t := 84) rfl zc2_eq ?_ ?_
    · intro hc
      rw [if_pos hc] at h
      refine zw_push hm_173 dX12_token_84 (v := .inr (.inr (some 94))) rfl ?_
      refine zw_push hm_173 dX12_token_85 (v := .inr (.inr (some 94))) rfl ?_
      refine zw_gf hm_173 dX12_token_86 (v := .inl ((mI S) 94 67)) (zT_is hS s_94) (zT_t hS s_94) rfl f_12_121_12 rfl ?_
      refine zw_push hm_173 dX12_token_89 (v := .inr (.inr (some 94))) rfl ?_
      refine zw_gf hm_173 dX12_token_90 (v := .inl ((mI S) 94 68)) (zT_is hS s_94) (zT_t hS s_94) rfl f_12_127_12 rfl ?_
      refine zw_stk hm_173 dX12_token_93 (st₉ := [.inl (((mI S) 94 67) - ((mI S) 94 68)), .inr (.inr (some 94))]) rfl rfl ?_
      refine zw_pf hm_173 dX12_token_94 (zT_is hS s_94) (zT_t hS s_94) p_12_130_12 zk_int ?_
      refine zw_push hm_173 dX12_token_97 (v := .inr (.inr (some 94))) rfl ?_
      refine zw_gf hm_173 dX12_token_98 (v := .inl (((mI S) 94 67) - ((mI S) 94 68))) (zT_is (zT_pi hS) s_94) (zT_t (zT_pi hS) s_94) rfl f_12_130_12 rfl ?_
      refine zw_if0 hm_173 dX12_token_101 (t := 108) rfl zc0_le ?_ ?_
      · intro hc
        rw [if_pos hc] at h
        refine zw_push hm_173 dX12_token_108 (v := .inl (0 : Int32)) rfl ?_
        exact zw_bret hm_173 dX12_token_109 (by decide) (HQ _ _ h)
      · intro hc
        rw [if_neg hc] at h
        refine zw_push hm_173 dX12_token_104 (v := .inl (1 : Int32)) rfl ?_
        refine zw_goto hm_173 dX12_token_105 (t := 109) rfl ?_
        exact zw_bret hm_173 dX12_token_109 (by decide) (HQ _ _ h)
    · intro hc
      rw [if_neg hc] at h
      refine zw_push hm_173 dX12_token_71 (v := .inr (.inr (some 94))) rfl ?_
      refine zw_stk hm_173 dX12_token_72 (st₉ := [.inr (.inr (some 94)), .inr (.inr (some 94))]) rfl rfl ?_
      refine zw_gf hm_173 dX12_token_73 (v := .inl ((mI S) 94 67)) (zT_is hS s_94) (zT_t hS s_94) rfl f_12_121_12 rfl ?_
      refine zw_push hm_173 dX12_token_76 (v := .inl (1 : Int32)) rfl ?_
      refine zw_stk hm_173 dX12_token_77 (st₉ := [.inl (((mI S) 94 67) + (1 : Int32)), .inr (.inr (some 94))]) rfl rfl ?_
      refine zw_pf hm_173 dX12_token_78 (zT_is hS s_94) (zT_t hS s_94) p_12_121_12 zk_int ?_
      refine zw_goto hm_173 dX12_token_81 (t := 46) rfl ?_
      exact (h d w _ Q (by omega) (by omega) (zT_pi hS) rfl HQ)
