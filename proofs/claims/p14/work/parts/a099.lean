/-! from 95.g36 -/
/-! the heap by numbers, the class (written by wip/tools/gen18.py) -/
theorem g_91_69_s_0 {X : Nat × (Nat → Int32)} {d w : Nat} {S : ma_S} {Q : Option ma_V ⊕ Nat → ma_S → Prop} (t : Nat) (hd : 2 ≤ d) (hw : 42 ≤ w) (hS : zT S) (h : (126 ≤ t ∧ t < mN S) ∧ ((126 ≤ t ∧ t < mN S) ∧ ((126 ≤ t ∧ t < mN S) ∧ (if (512 : Int32) ≤ (mI S t 0) then (Q (.inl none) S) else ((126 ≤ t ∧ t < mN S) ∧ (if (mI S t 4) < 0 then (Q (.inl none) S) else (if ((mI S t 4) + (mI S t 2)) ≤ (4500 : Int32) then ((126 ≤ t ∧ t < mN S) ∧ ((0 ≤ (mI S t 0) ∧ (mI S t 0).toNatClampNeg < 512) ∧ ((126 ≤ t ∧ t < mN S) ∧ ((126 ≤ t ∧ t < mN (ma_put S 70 (mI S t 0).toNatClampNeg (.inr (.inr (some t))))) ∧ ((126 ≤ t ∧ t < mN (ma_put S 70 (mI S t 0).toNatClampNeg (.inr (.inr (some t))))) ∧ ((0 ≤ (mI S t 4) ∧ (mI S t 4).toNatClampNeg < 4500) ∧ (ma_wp X d w 91 60 [(0, .inr (.inr (some 69))), (1, .inr (.inr (some t))), (3, .inl (0 : Int32))] [] (ma_put (ma_put S 70 (mI S t 0).toNatClampNeg (.inr (.inr (some t)))) 71 (mI S t 4).toNatClampNeg (.inl (mI S t 0))) Q))))))) else (Q (.inl none) S)))))))) : ma_wp X d w 91 0 [(0, .inr (.inr (some 69))), (1, .inr (.inr (some t)))] [] S Q := by
  refine zw_push hm_91 dX7_add_0 (v := .inr (.inr (some t))) rfl ?_
  obtain ⟨hg, h⟩ := h
  refine zw_gf hm_91 dX7_add_1 (v := .inl (mI S t 4)) (zT_tis hS hg) (zT_tt hS hg) rfl f_7_61_9 rfl ?_
  refine zw_push hm_91 dX7_add_4 (v := .inr (.inr (some t))) rfl ?_
  obtain ⟨hg, h⟩ := h
  refine zw_gf hm_91 dX7_add_5 (v := .inl (mI S t 2)) (zT_tis hS hg) (zT_tt hS hg) rfl f_7_64_9 rfl ?_
  refine zw_stk hm_91 dX7_add_8 (st₉ := [.inl ((mI S t 4) + (mI S t 2))]) rfl rfl ?_
  refine zw_sto hm_91 dX7_add_9 [(2, .inl ((mI S t 4) + (mI S t 2))), (0, .inr (.inr (some 69))), (1, .inr (.inr (some t)))] rfl rfl rfl ?_
  refine zw_push hm_91 dX7_add_10 (v := .inr (.inr (some t))) rfl ?_
  obtain ⟨hg, h⟩ := h
  refine zw_gf hm_91 dX7_add_11 (v := .inl (mI S t 0)) (zT_tis hS hg) (zT_tt hS hg) rfl f_7_67_9 rfl ?_
  refine zw_push hm_91 dX7_add_14 (v := .inl (512 : Int32)) rfl ?_
  refine zw_if2 hm_91 dX7_add_17 (t := 34) rfl zc2_ge ?_ ?_
  · intro hc
    rw [if_pos hc] at h
    exact zw_vret hm_91 dX7_add_34 h
  · intro hc
    rw [if_neg hc] at h
    refine zw_push hm_91 dX7_add_20 (v := .inr (.inr (some t))) rfl ?_
    obtain ⟨hg, h⟩ := h
    refine zw_gf hm_91 dX7_add_21 (v := .inl (mI S t 4)) (zT_tis hS hg) (zT_tt hS hg) rfl f_7_61_9 rfl ?_
    refine zw_if0 hm_91 dX7_add_24 (t := 34) rfl zc0_lt ?_ ?_
    · intro hc
      rw [if_pos hc] at h
      exact zw_vret hm_91 dX7_add_34 h
    · intro hc
      rw [if_neg hc] at h
      refine zw_push hm_91 dX7_add_27 (v := .inl ((mI S t 4) + (mI S t 2))) rfl ?_
      refine zw_push hm_91 dX7_add_28 (v := .inl (4500 : Int32)) rfl ?_
      refine zw_if2 hm_91 dX7_add_31 (t := 35) rfl zc2_le ?_ ?_
      · intro hc
        rw [if_pos hc] at h
        refine zw_push hm_91 dX7_add_35 (v := .inr (.inr (some 69))) rfl ?_
        refine zw_gf hm_91 dX7_add_36 (v := .inr (.inr (some 70))) (zT_is hS s_69) (zT_t hS s_69) rfl f_7_11_7 (zT_f hS r_69_0) ?_
        refine zw_push hm_91 dX7_add_39 (v := .inr (.inr (some t))) rfl ?_
        obtain ⟨hg, h⟩ := h
        refine zw_gf hm_91 dX7_add_40 (v := .inl (mI S t 0)) (zT_tis hS hg) (zT_tt hS hg) rfl f_7_67_9 rfl ?_
        refine zw_push hm_91 dX7_add_43 (v := .inr (.inr (some t))) rfl ?_
        obtain ⟨hg, h⟩ := h
        obtain ⟨hg2, h⟩ := h
        refine zw_aas hm_91 dX7_add_44 (zT_is hS s_70) (zT_h hS s_70) rfl hg (fun b z => by cases z; exact ⟨zT_tis hS hg2, zT_tt hS hg2⟩) ?_
        refine zw_push hm_91 dX7_add_45 (v := .inr (.inr (some 69))) rfl ?_
        refine zw_gf hm_91 dX7_add_46 (v := .inr (.inr (some 71))) (zT_is (zT_pr hS (zfi_row (by decide +kernel))) s_69) (zT_t (zT_pr hS (zfi_row (by decide +kernel))) s_69) rfl f_7_17_7 (zT_f (zT_pr hS (zfi_row (by decide +kernel))) r_69_1) ?_
        refine zw_push hm_91 dX7_add_49 (v := .inr (.inr (some t))) rfl ?_
        obtain ⟨hg, h⟩ := h
        refine zw_gf hm_91 dX7_add_50 (v := .inl (mI S t 4)) (zT_tis (zT_pr hS (zfi_row (by decide +kernel))) hg) (zT_tt (zT_pr hS (zfi_row (by decide +kernel))) hg) rfl f_7_61_9 rfl ?_
        refine zw_push hm_91 dX7_add_53 (v := .inr (.inr (some t))) rfl ?_
        obtain ⟨hg, h⟩ := h
        refine zw_gf hm_91 dX7_add_54 (v := .inl (mI S t 0)) (zT_tis (zT_pr hS (zfi_row (by decide +kernel))) hg) (zT_tt (zT_pr hS (zfi_row (by decide +kernel))) hg) rfl f_7_67_9 rfl ?_
        obtain ⟨hg, h⟩ := h
        refine zw_ias hm_91 dX7_add_57 (zT_is (zT_pr hS (zfi_row (by decide +kernel))) s_71) (zT_h (zT_pr hS (zfi_row (by decide +kernel))) s_71) rfl hg ?_
        refine zw_push hm_91 dX7_add_58 (v := .inl (0 : Int32)) rfl ?_
        refine zw_sto hm_91 dX7_add_59 [(3, .inl (0 : Int32)), (2, .inl ((mI S t 4) + (mI S t 2))), (0, .inr (.inr (some 69))), (1, .inr (.inr (some t)))] rfl rfl rfl ?_
        exact zw_sub (ma_nd_of (ks := [0, 1, 3]) rfl (by decide)) (ma_nd_of (ks := [3, 2, 0, 1]) rfl (by decide)) (ma_le_cons rfl (ma_le_cons rfl (ma_le_cons rfl (ma_le_nil _)))) h
      · intro hc
        rw [if_neg hc] at h
        exact zw_vret hm_91 dX7_add_34 h
theorem g_91_69_s_60 {X : Nat × (Nat → Int32)} {d w : Nat} {S : ma_S} {Q : Option ma_V ⊕ Nat → ma_S → Prop} (l1 : Nat) (l3 : Int32) (hd : 2 ≤ d) (hw : 42 ≤ w) (hS : zT S) (h : (126 ≤ l1 ∧ l1 < mN S) ∧ (if ((mI S l1 2) - (1 : Int32)) ≤ l3 then ((126 ≤ l1 ∧ l1 < mN (ma_put (ma_put S 69 6 (.inl ((mI S 69 6) + (1 : Int32)))) 69 7 (.inl ((mI S 69 7) + (1 : Int32))))) ∧ (Q (.inl none) (ma_put (ma_put (ma_put S 69 6 (.inl ((mI S 69 6) + (1 : Int32)))) 69 7 (.inl ((mI S 69 7) + (1 : Int32)))) 69 8 (.inl ((mI S 69 8) + (mI (ma_put (ma_put S 69 6 (.inl ((mI S 69 6) + (1 : Int32)))) 69 7 (.inl ((mI S 69 7) + (1 : Int32)))) l1 2)))))) else ((126 ≤ l1 ∧ l1 < mN S) ∧ ((126 ≤ l1 ∧ l1 < mN S) ∧ ((126 ≤ l1 ∧ l1 < mN S) ∧ (if l3 < 0 then ((0 ≤ (((mI S l1 4) + (1 : Int32)) + l3) ∧ (((mI S l1 4) + (1 : Int32)) + l3).toNatClampNeg < 4500) ∧ (ma_wp X d w 91 60 [(0, .inr (.inr (some 69))), (1, .inr (.inr (some l1))), (3, .inl (l3 + (1 : Int32)))] [] (ma_put S 71 (((mI S l1 4) + (1 : Int32)) + l3).toNatClampNeg (.inl (0 : Int32))) Q)) else ((126 ≤ l1 ∧ l1 < mN S) ∧ (if ((mI S l1 2) - (1 : Int32)) ≤ l3 then ((0 ≤ (((mI S l1 4) + (1 : Int32)) + l3) ∧ (((mI S l1 4) + (1 : Int32)) + l3).toNatClampNeg < 4500) ∧ (ma_wp X d w 91 60 [(0, .inr (.inr (some 69))), (1, .inr (.inr (some l1))), (3, .inl (l3 + (1 : Int32)))] [] (ma_put S 71 (((mI S l1 4) + (1 : Int32)) + l3).toNatClampNeg (.inl (0 : Int32))) Q)) else ((126 ≤ l1 ∧ l1 < mN S) ∧ (if (lg_cmp ((((mL S l1 3).toUInt64 >>> (l3.toInt64.toUInt64 &&& Int64.toUInt64 63)).toInt64) &&& (1 : Int64)) (0 : Int64)) = 0 then ((0 ≤ (((mI S l1 4) + (1 : Int32)) + l3) ∧ (((mI S l1 4) + (1 : Int32)) + l3).toNatClampNeg < 4500) ∧ (ma_wp X d w 91 60 [(0, .inr (.inr (some 69))), (1, .inr (.inr (some l1))), (3, .inl (l3 + (1 : Int32)))] [] (ma_put S 71 (((mI S l1 4) + (1 : Int32)) + l3).toNatClampNeg (.inl (0 : Int32))) Q)) else ((0 ≤ (((mI S l1 4) + (1 : Int32)) + l3) ∧ (((mI S l1 4) + (1 : Int32)) + l3).toNatClampNeg < 4500) ∧ (ma_wp X d w 91 60 [(0, .inr (.inr (some 69))), (1, .inr (.inr (some l1))), (3, .inl (l3 + (1 : Int32)))] [] (ma_put S 71 (((mI S l1 4) + (1 : Int32)) + l3).toNatClampNeg (.inl (-1 : Int32))) Q)))))))))))) : ma_wp X d w 91 60 [(0, .inr (.inr (some 69))), (1, .inr (.inr (some l1))), (3, .inl l3)] [] S Q := by
  refine zw_push hm_91 dX7_add_60 (v := .inl l3) rfl ?_
  refine zw_push hm_91 dX7_add_61 (v := .inr (.inr (some l1))) rfl ?_
  obtain ⟨hg, h⟩ := h
  refine zw_gf hm_91 dX7_add_62 (v := .inl (mI S l1 2)) (zT_tis hS hg) (zT_tt hS hg) rfl f_7_64_9 rfl ?_
  refine zw_push hm_91 dX7_add_65 (v := .inl (1 : Int32)) rfl ?_
  refine zw_stk hm_91 dX7_add_66 (st₉ := [.inl ((mI S l1 2) - (1 : Int32)), .inl l3]) rfl rfl ?_
  refine zw_if2 hm_91 dX7_add_67 (t := 102) rfl zc2_ge ?_ ?_
  · intro hc
    rw [if_pos hc] at h
    refine zw_push hm_91 dX7_add_102 (v := .inr (.inr (some 69))) rfl ?_
    refine zw_stk hm_91 dX7_add_103 (st₉ := [.inr (.inr (some 69)), .inr (.inr (some 69))]) rfl rfl ?_
    refine zw_gf hm_91 dX7_add_104 (v := .inl (mI S 69 6)) (zT_is hS s_69) (zT_t hS s_69) rfl f_7_40_7 rfl ?_
    refine zw_push hm_91 dX7_add_107 (v := .inl (1 : Int32)) rfl ?_
    refine zw_stk hm_91 dX7_add_108 (st₉ := [.inl ((mI S 69 6) + (1 : Int32)), .inr (.inr (some 69))]) rfl rfl ?_
    refine zw_pf hm_91 dX7_add_109 (zT_is hS s_69) (zT_t hS s_69) p_7_40_7 zk_int ?_
    refine zw_push hm_91 dX7_add_112 (v := .inr (.inr (some 69))) rfl ?_
    refine zw_stk hm_91 dX7_add_113 (st₉ := [.inr (.inr (some 69)), .inr (.inr (some 69))]) rfl rfl ?_
    refine zw_gf hm_91 dX7_add_114 (v := .inl (mI S 69 7)) (zT_is (zT_pi hS) s_69) (zT_t (zT_pi hS) s_69) rfl f_7_43_7 rfl ?_
    refine zw_push hm_91 dX7_add_117 (v := .inl (1 : Int32)) rfl ?_
    refine zw_stk hm_91 dX7_add_118 (st₉ := [.inl ((mI S 69 7) + (1 : Int32)), .inr (.inr (some 69))]) rfl rfl ?_
    refine zw_pf hm_91 dX7_add_119 (zT_is (zT_pi hS) s_69) (zT_t (zT_pi hS) s_69) p_7_43_7 zk_int ?_
    refine zw_push hm_91 dX7_add_122 (v := .inr (.inr (some 69))) rfl ?_
    refine zw_stk hm_91 dX7_add_123 (st₉ := [.inr (.inr (some 69)), .inr (.inr (some 69))]) rfl rfl ?_
    refine zw_gf hm_91 dX7_add_124 (v := .inl (mI S 69 8)) (zT_is (zT_pi (zT_pi hS)) s_69) (zT_t (zT_pi (zT_pi hS)) s_69) rfl f_7_46_7 rfl ?_
    refine zw_push hm_91 dX7_add_127 (v := .inr (.inr (some l1))) rfl ?_
    obtain ⟨hg, h⟩ := h
    refine zw_gf hm_91 dX7_add_128 (v := .inl (mI (ma_put (ma_put S 69 6 (.inl ((mI S 69 6) + (1 : Int32)))) 69 7 (.inl ((mI S 69 7) + (1 : Int32)))) l1 2)) (zT_tis (zT_pi (zT_pi hS)) hg) (zT_tt (zT_pi (zT_pi hS)) hg) rfl f_7_64_9 rfl ?_
    refine zw_stk hm_91 dX7_add_131 (st₉ := [.inl ((mI S 69 8) + (mI (ma_put (ma_put S 69 6 (.inl ((mI S 69 6) + (1 : Int32)))) 69 7 (.inl ((mI S 69 7) + (1 : Int32)))) l1 2)), .inr (.inr (some 69))]) rfl rfl ?_
    refine zw_pf hm_91 dX7_add_132 (zT_is (zT_pi (zT_pi hS)) s_69) (zT_t (zT_pi (zT_pi hS)) s_69) p_7_46_7 zk_int ?_
    exact zw_vret hm_91 dX7_add_135 h
  · intro hc
    rw [if_neg hc] at h
    refine zw_push hm_91 dX7_add_70 (v := .inr (.inr (some 69))) rfl ?_
    refine zw_gf hm_91 dX7_add_71 (v := .inr (.inr (some 71))) (zT_is hS s_69) (zT_t hS s_69) rfl f_7_17_7 (zT_f hS r_69_1) ?_
    refine zw_push hm_91 dX7_add_74 (v := .inr (.inr (some l1))) rfl ?_
    obtain ⟨hg, h⟩ := h
    refine zw_gf hm_91 dX7_add_75 (v := .inl (mI S l1 4)) (zT_tis hS hg) (zT_tt hS hg) rfl f_7_61_9 rfl ?_
    refine zw_push hm_91 dX7_add_78 (v := .inl (1 : Int32)) rfl ?_
    refine zw_stk hm_91 dX7_add_79 (st₉ := [.inl ((mI S l1 4) + (1 : Int32)), .inr (.inr (some 71))]) rfl rfl ?_
    refine zw_push hm_91 dX7_add_80 (v := .inl l3) rfl ?_
    refine zw_stk hm_91 dX7_add_81 (st₉ := [.inl (((mI S l1 4) + (1 : Int32)) + l3), .inr (.inr (some 71))]) rfl rfl ?_
    refine zw_push hm_91 dX7_add_82 (v := .inr (.inr (some l1))) rfl ?_
    refine zw_push hm_91 dX7_add_83 (v := .inl l3) rfl ?_
    obtain ⟨hg, h⟩ := h
    refine zw_cv hm_91 dX7_add_84 v_7_70_9 hm_113 [.inl l3] [.inl (((mI S l1 4) + (1 : Int32)) + l3), .inr (.inr (some 71))] rfl (zT_trt hS hg) ⟨by omega, by omega⟩ rfl ?_
    show ma_wp X (d - 1) (w - 21) 113 0 [(0, .inr (.inr (some l1))), (1, .inl l3)] [] S _
    refine zw_push hm_113 dX9_isReference_0 (v := .inr (.inr (some l1))) rfl ?_
    refine zw_push hm_113 dX9_isReference_1 (v := .inl l3) rfl ?_
    obtain ⟨hg, h⟩ := h
    refine zw_cv hm_113 dX9_isReference_2 v_9_26_9 hm_114 [.inl l3] [] rfl (zT_trt hS hg) ⟨by omega, by omega⟩ rfl ?_
    show ma_wp X ((d - 1) - 1) ((w - 21) - 21) 114 0 [(0, .inr (.inr (some l1))), (1, .inl l3)] [] S _
    refine zw_push hm_114 dX9_hasWord_0 (v := .inl l3) rfl ?_
    refine zw_if0 hm_114 dX9_hasWord_1 (t := 18) rfl zc0_lt ?_ ?_
    · intro hc
      rw [if_pos hc] at h
      refine zw_push hm_114 dX9_hasWord_18 (v := .inl (0 : Int32)) rfl ?_
      refine zw_bret hm_114 dX9_hasWord_19 (by decide) ?_
      show ma_wp X (d - 1) (w - 21) 113 5 [(0, .inr (.inr (some l1))), (1, .inl l3)] [.inl (0 : Int32)] S _
      refine zw_if0 hm_113 dX9_isReference_5 (t := 25) rfl zc0_eq (fun _ => ?_) (fun hc => absurd (by decide) hc)
      refine zw_push hm_113 dX9_isReference_25 (v := .inl (0 : Int32)) rfl ?_
      refine zw_bret hm_113 dX9_isReference_26 (by decide) ?_
      show ma_wp X d w 91 87 [(0, .inr (.inr (some 69))), (1, .inr (.inr (some l1))), (3, .inl l3)] [.inl (0 : Int32), .inl (((mI S l1 4) + (1 : Int32)) + l3), .inr (.inr (some 71))] S _
      refine zw_if0 hm_91 dX7_add_87 (t := 94) rfl zc0_eq (fun _ => ?_) (fun hc => absurd (by decide) hc)
      refine zw_push hm_91 dX7_add_94 (v := .inl (0 : Int32)) rfl ?_
      obtain ⟨hg, h⟩ := h
      refine zw_ias hm_91 dX7_add_95 (zT_is hS s_71) (zT_h hS s_71) rfl hg ?_
      refine zw_sto hm_91 dX7_add_96 [(3, .inl (l3 + (1 : Int32))), (0, .inr (.inr (some 69))), (1, .inr (.inr (some l1)))] rfl rfl rfl ?_
      refine zw_goto hm_91 dX7_add_99 (t := 60) rfl ?_
      exact zw_sub (ma_nd_of (ks := [0, 1, 3]) rfl (by decide)) (ma_nd_of (ks := [3, 0, 1]) rfl (by decide)) (ma_le_cons rfl (ma_le_cons rfl (ma_le_cons rfl (ma_le_nil _)))) h
    · intro hc
      rw [if_neg hc] at h
      refine zw_push hm_114 dX9_hasWord_4 (v := .inl l3) rfl ?_
      refine zw_push hm_114 dX9_hasWord_5 (v := .inr (.inr (some l1))) rfl ?_
      obtain ⟨hg, h⟩ := h
      refine zw_gf hm_114 dX9_hasWord_6 (v := .inl (mI S l1 2)) (zT_tis hS hg) (zT_tt hS hg) rfl f_9_16_9 rfl ?_
      refine zw_push hm_114 dX9_hasWord_9 (v := .inl (1 : Int32)) rfl ?_
      refine zw_stk hm_114 dX9_hasWord_10 (st₉ := [.inl ((mI S l1 2) - (1 : Int32)), .inl l3]) rfl rfl ?_
      refine zw_if2 hm_114 dX9_hasWord_11 (t := 18) rfl zc2_ge ?_ ?_
      · intro hc
        rw [if_pos hc] at h
        refine zw_push hm_114 dX9_hasWord_18 (v := .inl (0 : Int32)) rfl ?_
        refine zw_bret hm_114 dX9_hasWord_19 (by decide) ?_
        show ma_wp X (d - 1) (w - 21) 113 5 [(0, .inr (.inr (some l1))), (1, .inl l3)] [.inl (0 : Int32)] S _
        refine zw_if0 hm_113 dX9_isReference_5 (t := 25) rfl zc0_eq (fun _ => ?_) (fun hc => absurd (by decide) hc)
        refine zw_push hm_113 dX9_isReference_25 (v := .inl (0 : Int32)) rfl ?_
        refine zw_bret hm_113 dX9_isReference_26 (by decide) ?_
        show ma_wp X d w 91 87 [(0, .inr (.inr (some 69))), (1, .inr (.inr (some l1))), (3, .inl l3)] [.inl (0 : Int32), .inl (((mI S l1 4) + (1 : Int32)) + l3), .inr (.inr (some 71))] S _
        refine zw_if0 hm_91 dX7_add_87 (t := 94) rfl zc0_eq (fun _ => ?_) (fun hc => absurd (by decide) hc)
        refine zw_push hm_91 dX7_add_94 (v := .inl (0 : Int32)) rfl ?_
        obtain ⟨hg, h⟩ := h
        refine zw_ias hm_91 dX7_add_95 (zT_is hS s_71) (zT_h hS s_71) rfl hg ?_
        refine zw_sto hm_91 dX7_add_96 [(3, .inl (l3 + (1 : Int32))), (0, .inr (.inr (some 69))), (1, .inr (.inr (some l1)))] rfl rfl rfl ?_
        refine zw_goto hm_91 dX7_add_99 (t := 60) rfl ?_
        exact zw_sub (ma_nd_of (ks := [0, 1, 3]) rfl (by decide)) (ma_nd_of (ks := [3, 0, 1]) rfl (by decide)) (ma_le_cons rfl (ma_le_cons rfl (ma_le_cons rfl (ma_le_nil _)))) h
      · intro hc
        rw [if_neg hc] at h
        refine zw_push hm_114 dX9_hasWord_14 (v := .inl (1 : Int32)) rfl ?_
        refine zw_goto hm_114 dX9_hasWord_15 (t := 19) rfl ?_
        refine zw_bret hm_114 dX9_hasWord_19 (by decide) ?_
        show ma_wp X (d - 1) (w - 21) 113 5 [(0, .inr (.inr (some l1))), (1, .inl l3)] [.inl (1 : Int32)] S _
        refine zw_if0 hm_113 dX9_isReference_5 (t := 25) rfl zc0_eq (fun hc => absurd hc (by decide)) (fun _ => ?_)
        refine zw_push hm_113 dX9_isReference_8 (v := .inr (.inr (some l1))) rfl ?_
        obtain ⟨hg, h⟩ := h
        refine zw_gf hm_113 dX9_isReference_9 (v := .inr (.inl (mL S l1 3))) (zT_tis hS hg) (zT_tt hS hg) rfl f_9_19_9 rfl ?_
        refine zw_push hm_113 dX9_isReference_12 (v := .inl l3) rfl ?_
        refine zw_stk hm_113 dX9_isReference_13 (st₉ := [.inr (.inl (((mL S l1 3).toUInt64 >>> (l3.toInt64.toUInt64 &&& Int64.toUInt64 63)).toInt64))]) rfl rfl ?_
        refine zw_push hm_113 dX9_isReference_14 (v := .inr (.inl (1 : Int64))) rfl ?_
        refine zw_stk hm_113 dX9_isReference_15 (st₉ := [.inr (.inl ((((mL S l1 3).toUInt64 >>> (l3.toInt64.toUInt64 &&& Int64.toUInt64 63)).toInt64) &&& (1 : Int64)))]) rfl rfl ?_
        refine zw_push hm_113 dX9_isReference_16 (v := .inr (.inl (0 : Int64))) rfl ?_
        refine zw_stk hm_113 dX9_isReference_17 (st₉ := [.inl (lg_cmp ((((mL S l1 3).toUInt64 >>> (l3.toInt64.toUInt64 &&& Int64.toUInt64 63)).toInt64) &&& (1 : Int64)) (0 : Int64))]) rfl rfl ?_
        refine zw_if0 hm_113 dX9_isReference_18 (t := 25) rfl zc0_eq ?_ ?_
        · intro hc
          rw [if_pos hc] at h
          refine zw_push hm_113 dX9_isReference_25 (v := .inl (0 : Int32)) rfl ?_
          refine zw_bret hm_113 dX9_isReference_26 (by decide) ?_
          show ma_wp X d w 91 87 [(0, .inr (.inr (some 69))), (1, .inr (.inr (some l1))), (3, .inl l3)] [.inl (0 : Int32), .inl (((mI S l1 4) + (1 : Int32)) + l3), .inr (.inr (some 71))] S _
          refine zw_if0 hm_91 dX7_add_87 (t := 94) rfl zc0_eq (fun _ => ?_) (fun hc => absurd (by decide) hc)
          refine zw_push hm_91 dX7_add_94 (v := .inl (0 : Int32)) rfl ?_
          obtain ⟨hg, h⟩ := h
          refine zw_ias hm_91 dX7_add_95 (zT_is hS s_71) (zT_h hS s_71) rfl hg ?_
          refine zw_sto hm_91 dX7_add_96 [(3, .inl (l3 + (1 : Int32))), (0, .inr (.inr (some 69))), (1, .inr (.inr (some l1)))] rfl rfl rfl ?_
          refine zw_goto hm_91 dX7_add_99 (t := 60) rfl ?_
          exact zw_sub (ma_nd_of (ks := [0, 1, 3]) rfl (by decide)) (ma_nd_of (ks := [3, 0, 1]) rfl (by decide)) (ma_le_cons rfl (ma_le_cons rfl (ma_le_cons rfl (ma_le_nil _)))) h
        · intro hc
          rw [if_neg hc] at h
          refine zw_push hm_113 dX9_isReference_21 (v := .inl (1 : Int32)) rfl ?_
          refine zw_goto hm_113 dX9_isReference_22 (t := 26) rfl ?_
          refine zw_bret hm_113 dX9_isReference_26 (by decide) ?_
          show ma_wp X d w 91 87 [(0, .inr (.inr (some 69))), (1, .inr (.inr (some l1))), (3, .inl l3)] [.inl (1 : Int32), .inl (((mI S l1 4) + (1 : Int32)) + l3), .inr (.inr (some 71))] S _
          refine zw_if0 hm_91 dX7_add_87 (t := 94) rfl zc0_eq (fun hc => absurd hc (by decide)) (fun _ => ?_)
          refine zw_push hm_91 dX7_add_90 (v := .inl (-1 : Int32)) rfl ?_
          refine zw_goto hm_91 dX7_add_91 (t := 95) rfl ?_
          obtain ⟨hg, h⟩ := h
          refine zw_ias hm_91 dX7_add_95 (zT_is hS s_71) (zT_h hS s_71) rfl hg ?_
          refine zw_sto hm_91 dX7_add_96 [(3, .inl (l3 + (1 : Int32))), (0, .inr (.inr (some 69))), (1, .inr (.inr (some l1)))] rfl rfl rfl ?_
          refine zw_goto hm_91 dX7_add_99 (t := 60) rfl ?_
          exact zw_sub (ma_nd_of (ks := [0, 1, 3]) rfl (by decide)) (ma_nd_of (ks := [3, 0, 1]) rfl (by decide)) (ma_le_cons rfl (ma_le_cons rfl (ma_le_cons rfl (ma_le_nil _)))) h
theorem lp_91_69_s_60 {X : Nat × (Nat → Int32)} {d w : Nat} {f : Nat → Nat → Int32} {r : Nat → Nat → Option Nat} {C Z N : Nat} {Q : Option ma_V ⊕ Nat → ma_S → Prop} {ab : Nat→Nat→Int32} {R : zRT} {W : Nat} {y : Int32} {I0 : Nat→Int32} {L0 : Int64} {u : Nat} (hd : 2 ≤ d) (hw : 42 ≤ w) (K : ∀ S₉, zS f r C Z N S₉ → (xB S₉ (zRu R y.toNatClampNeg (some u))) → (aS W S₉ = aAd ab y I0 L0) → Q (.inl none) S₉) : ∀ (n : Nat) (S : ma_S) (l1 : Nat) (l3 : Int32), (61 - l3.toInt).toNat = n → zS f r C Z N S → (126 ≤ l1 ∧ l1 < N) → (0 ≤ l3.toInt) → ((mI S 69 6).toInt ≤ 511) → ((mI S l1 4).toInt + (mI S l1 2).toInt ≤ 4500) → (l3.toInt ≤ (mI S l1 2).toInt - 1) → (xB S (zRu R y.toNatClampNeg (some u))) → (xW W) → (mI S l1 = I0) → (mL S l1 3 = L0) → (I0 0 = y) → ((0 ≤ (I0 0).toInt ∧ (I0 0).toInt ≤ 511) ∧ (1 ≤ (I0 2).toInt ∧ (I0 2).toInt ≤ 61) ∧ 0 ≤ (I0 4).toInt ∧ (I0 4).toInt + (I0 2).toInt ≤ 4500) → (l1 = u) → (aS W S = zIw (ma_u (zNw ab y.toNatClampNeg I0 L0) 71 (I0 4).toNatClampNeg y) (I0 4).toInt L0 l3.toInt) → ma_wp X d w 91 60 [(0, .inr (.inr (some 69))), (1, .inr (.inr (some l1))), (3, .inl l3)] [] S Q := by
  intro n
  induction n using Nat.strongRecOn with
  | _ n IH =>
    intro S l1 l3 hmu hI th_l1 hi0 hi1 hi2 hi3 hi4 hi5 hi6 hi7 hi8 hi9 hi10 hi11
    refine g_91_69_s_60 l1 l3 (by omega) (by omega) (zG_T hI) ?_
    refine ⟨zG_n hI th_l1, ?_⟩
    have f1 := zG_th hI th_l1
    first | have e2 : ((mI S l1 2) - (1 : Int32)).toInt = (mI S l1 2).toInt - (1) := i_subk rfl (by omega) (by omega) | have b3 := i_bd ((mI S l1 2) - (1 : Int32))
    have b4 := i_bd l3
    refine zd (fun h5 => ?_) (fun h5 => ?_)
    · skip
      have g6 := i_le h5
      have f8 := zG_s hI (0) (512) (c := 69) (k := 6) (by decide)
      first | have e9 : ((mI S 69 6) + (1 : Int32)).toInt = (mI S 69 6).toInt + (1) := i_addk rfl (by omega) (by omega) | have b10 := i_bd ((mI S 69 6) + (1 : Int32))
      have hI7 : zS f r C Z N (ma_put S 69 6 (.inl ((mI S 69 6) + (1 : Int32)))) := zG_sp hI (0) (512) rfl (by decide) (by decide) (by decide) trivial (by omega) (by omega)
      have hI11 : zS f r C Z N (ma_put (ma_put S 69 6 (.inl ((mI S 69 6) + (1 : Int32)))) 69 7 (.inl ((mI S 69 7) + (1 : Int32)))) := zG_fr hI7 rfl (by decide) (by decide) (by decide) trivial
      refine ⟨zG_n hI11 th_l1, ?_⟩
      have hI12 : zS f r C Z N (ma_put (ma_put (ma_put S 69 6 (.inl ((mI S 69 6) + (1 : Int32)))) 69 7 (.inl ((mI S 69 7) + (1 : Int32)))) 69 8 (.inl ((mI S 69 8) + (mI (ma_put (ma_put S 69 6 (.inl ((mI S 69 6) + (1 : Int32)))) 69 7 (.inl ((mI S 69 7) + (1 : Int32)))) l1 2)))) := zG_fr hI11 rfl (by decide) (by decide) (by decide) trivial
      exact K _ hI12 (show xB (ma_put (ma_put (ma_put S 69 6 (.inl ((mI S 69 6) + (1 : Int32)))) 69 7 (.inl ((mI S 69 7) + (1 : Int32)))) 69 8 (.inl ((mI S 69 8) + (mI (ma_put (ma_put S 69 6 (.inl ((mI S 69 6) + (1 : Int32)))) 69 7 (.inl ((mI S 69 7) + (1 : Int32)))) l1 2)))) (zRu R y.toNatClampNeg (some u)) from by first | (exact (xC_p (c := 69) (k := 8) (x := ((mI S 69 8) + (mI (ma_put (ma_put S 69 6 (.inl ((mI S 69 6) + (1 : Int32)))) 69 7 (.inl ((mI S 69 7) + (1 : Int32)))) l1 2))) (xC_n (c := 69) (k := 7) (x := ((mI S 69 7) + (1 : Int32))) (xC_p (c := 69) (k := 6) (x := ((mI S 69 6) + (1 : Int32))) (xC_o (W := W) hi4) 69 hi5 rfl (zcw_s (by decide))) (zir_W hi5 rfl (by decide))) 69 hi5 rfl (zcw_s (by decide))).2)) (show aS W (ma_put (ma_put (ma_put S 69 6 (.inl ((mI S 69 6) + (1 : Int32)))) 69 7 (.inl ((mI S 69 7) + (1 : Int32)))) 69 8 (.inl ((mI S 69 8) + (mI (ma_put (ma_put S 69 6 (.inl ((mI S 69 6) + (1 : Int32)))) 69 7 (.inl ((mI S 69 7) + (1 : Int32)))) l1 2)))) = aAd ab y I0 L0 from by first | (have i2 : mI S l1 2 = I0 2 := congrFun hi6 2; have i2i := congrArg Int32.toInt i2; have bd := hi9; have g6 : mI S 69 6 = ab 69 6 := (aS_I (W := W) (S := S) (c := 69) (c₉ := 69) (k := 6) rfl (zcw_s (by decide))).symm.trans ((congrFun (congrFun hi11 69) 6).trans (by rw [zIw_o (by decide), xu_o (by omega), zNw_o (by decide)])); have g8 : mI S 69 8 = ab 69 8 := (aS_I (W := W) (S := S) (c := 69) (c₉ := 69) (k := 8) rfl (zcw_s (by decide))).symm.trans ((congrFun (congrFun hi11 69) 8).trans (by rw [zIw_o (by decide), xu_o (by omega), zNw_o (by decide)])); refine (xC_p (c := 69) (k := 8) (x := ((mI S 69 8) + (mI (ma_put (ma_put S 69 6 (.inl ((mI S 69 6) + (1 : Int32)))) 69 7 (.inl ((mI S 69 7) + (1 : Int32)))) l1 2))) (xC_n (c := 69) (k := 7) (x := ((mI S 69 7) + (1 : Int32))) (xC_p (c := 69) (k := 6) (x := ((mI S 69 6) + (1 : Int32))) (xC_o (W := W) hi4) 69 hi5 rfl (zcw_s (by decide))) (zir_W hi5 rfl (by decide))) 69 hi5 rfl (zcw_s (by decide))).1.trans ?_; (try simp only [zp_e (c₉ := 69) th_l1.1 (by decide)]); rw [hi11, i2, g6, g8, show l3.toInt = (I0 2).toInt - 1 from by omega]; rfl))
    · skip
      have g13 := i_nle h5
      refine ⟨zG_n hI th_l1, ?_⟩
      refine ⟨zG_n hI th_l1, ?_⟩
      refine ⟨zG_n hI th_l1, ?_⟩
      have li14 : (0 : Int32).toInt = 0 := rfl
      refine zd (fun h15 => ?_) (fun h15 => ?_)
      · skip
        have g16 := i_lt h15
        have f17 := zG_th hI th_l1
        first | have e18 : ((mI S l1 4) + (1 : Int32)).toInt = (mI S l1 4).toInt + (1) := i_addk rfl (by omega) (by omega) | have b19 := i_bd ((mI S l1 4) + (1 : Int32))
        first | have e20 : (((mI S l1 4) + (1 : Int32)) + l3).toInt = ((mI S l1 4) + (1 : Int32)).toInt + l3.toInt := i_add (by omega) (by omega) | have b21 := i_bd (((mI S l1 4) + (1 : Int32)) + l3)
        refine ⟨i_ix (by omega) (by omega), ?_⟩
        have hI22 : zS f r C Z N (ma_put S 71 (((mI S l1 4) + (1 : Int32)) + l3).toNatClampNeg (.inl (0 : Int32))) := zG_fa hI rfl (by decide) (by decide) (by decide) trivial
        first | have e23 : (l3 + (1 : Int32)).toInt = l3.toInt + (1) := i_addk rfl (by omega) (by omega) | have b24 := i_bd (l3 + (1 : Int32))
        have f25 := zG_s hI (0) (512) (c := 69) (k := 6) (by decide)
        have q26 : (mI (ma_put S 71 (((mI S l1 4) + (1 : Int32)) + l3).toNatClampNeg (.inl (0 : Int32))) l1 4).toInt = (mI S l1 4).toInt := zp_fx th_l1.1 (by decide)
        have f27 := zG_th hI22 th_l1
        have q28 : (mI (ma_put S 71 (((mI S l1 4) + (1 : Int32)) + l3).toNatClampNeg (.inl (0 : Int32))) l1 2).toInt = (mI S l1 2).toInt := zp_fx th_l1.1 (by decide)
        have f29 := zG_th hI22 th_l1
        exact IH _ (by omega) _ l1 ((l3 + (1 : Int32))) rfl hI22 th_l1 (by omega) (show (mI S 69 6).toInt ≤ 511 from by omega) (show (mI (ma_put S 71 (((mI S l1 4) + (1 : Int32)) + l3).toNatClampNeg (.inl (0 : Int32))) l1 4).toInt + (mI (ma_put S 71 (((mI S l1 4) + (1 : Int32)) + l3).toNatClampNeg (.inl (0 : Int32))) l1 2).toInt ≤ 4500 from by omega) (show ((l3 + (1 : Int32))).toInt ≤ (mI (ma_put S 71 (((mI S l1 4) + (1 : Int32)) + l3).toNatClampNeg (.inl (0 : Int32))) l1 2).toInt - 1 from by omega) (show xB (ma_put S 71 (((mI S l1 4) + (1 : Int32)) + l3).toNatClampNeg (.inl (0 : Int32))) (zRu R y.toNatClampNeg (some u)) from by first | (exact (xC_p (c := 71) (k := (((mI S l1 4) + (1 : Int32)) + l3).toNatClampNeg) (x := (0 : Int32)) (xC_o (W := W) hi4) 71 hi5 rfl (zcw_s (by decide))).2)) (show xW W from by first | (exact hi5) | (exact xW88)) (show mI (ma_put S 71 (((mI S l1 4) + (1 : Int32)) + l3).toNatClampNeg (.inl (0 : Int32))) l1 = I0 from by first | (rw [zp_row th_l1.1 (by decide)]; exact hi6)) (show mL (ma_put S 71 (((mI S l1 4) + (1 : Int32)) + l3).toNatClampNeg (.inl (0 : Int32))) l1 3 = L0 from by first | (exact hi7)) (show I0 0 = y from by first | (exact hi8)) (show (0 ≤ (I0 0).toInt ∧ (I0 0).toInt ≤ 511) ∧ (1 ≤ (I0 2).toInt ∧ (I0 2).toInt ≤ 61) ∧ 0 ≤ (I0 4).toInt ∧ (I0 4).toInt + (I0 2).toInt ≤ 4500 from by first | (exact hi9)) (show l1 = u from by first | (exact hi10)) (show aS W (ma_put S 71 (((mI S l1 4) + (1 : Int32)) + l3).toNatClampNeg (.inl (0 : Int32))) = zIw (ma_u (zNw ab y.toNatClampNeg I0 L0) 71 (I0 4).toNatClampNeg y) (I0 4).toInt L0 ((l3 + (1 : Int32))).toInt from by first | (exfalso; omega) | (have i4 : mI S l1 4 = I0 4 := congrFun hi6 4; have i4i := congrArg Int32.toInt i4; have i2i := congrArg Int32.toInt (congrFun hi6 2); have bd := hi9; refine (xC_p (c := 71) (k := (((mI S l1 4) + (1 : Int32)) + l3).toNatClampNeg) (x := (0 : Int32)) (xC_o (W := W) hi4) 71 hi5 rfl (zcw_s (by decide))).1.trans ?_; rw [hi11]; exact zIw_s (by omega) (by omega) (by rw [tn_cast (by omega)]; omega) (by rw [← hi7]; exact zb_y (by assumption))) | (have i4 : mI S l1 4 = I0 4 := congrFun hi6 4; have i4i := congrArg Int32.toInt i4; have i2i := congrArg Int32.toInt (congrFun hi6 2); have bd := hi9; refine (xC_p (c := 71) (k := (((mI S l1 4) + (1 : Int32)) + l3).toNatClampNeg) (x := (0 : Int32)) (xC_o (W := W) hi4) 71 hi5 rfl (zcw_s (by decide))).1.trans ?_; rw [hi11]; exact zIw_s (by omega) (by omega) (by rw [tn_cast (by omega)]; omega) (by rw [← hi7]; exact zb_n (by assumption))))
      · skip
        have g30 := i_nlt h15
        refine ⟨zG_n hI th_l1, ?_⟩
        refine zd (fun h31 => ?_) (fun h31 => ?_)
        · skip
          have g32 := i_le h31
          have f33 := zG_th hI th_l1
          first | have e34 : ((mI S l1 4) + (1 : Int32)).toInt = (mI S l1 4).toInt + (1) := i_addk rfl (by omega) (by omega) | have b35 := i_bd ((mI S l1 4) + (1 : Int32))
          first | have e36 : (((mI S l1 4) + (1 : Int32)) + l3).toInt = ((mI S l1 4) + (1 : Int32)).toInt + l3.toInt := i_add (by omega) (by omega) | have b37 := i_bd (((mI S l1 4) + (1 : Int32)) + l3)
          refine ⟨i_ix (by omega) (by omega), ?_⟩
          have hI38 : zS f r C Z N (ma_put S 71 (((mI S l1 4) + (1 : Int32)) + l3).toNatClampNeg (.inl (0 : Int32))) := zG_fa hI rfl (by decide) (by decide) (by decide) trivial
          first | have e39 : (l3 + (1 : Int32)).toInt = l3.toInt + (1) := i_addk rfl (by omega) (by omega) | have b40 := i_bd (l3 + (1 : Int32))
          have f41 := zG_s hI (0) (512) (c := 69) (k := 6) (by decide)
          have q42 : (mI (ma_put S 71 (((mI S l1 4) + (1 : Int32)) + l3).toNatClampNeg (.inl (0 : Int32))) l1 4).toInt = (mI S l1 4).toInt := zp_fx th_l1.1 (by decide)
          have f43 := zG_th hI38 th_l1
          have q44 : (mI (ma_put S 71 (((mI S l1 4) + (1 : Int32)) + l3).toNatClampNeg (.inl (0 : Int32))) l1 2).toInt = (mI S l1 2).toInt := zp_fx th_l1.1 (by decide)
          have f45 := zG_th hI38 th_l1
          exact IH _ (by omega) _ l1 ((l3 + (1 : Int32))) rfl hI38 th_l1 (by omega) (show (mI S 69 6).toInt ≤ 511 from by omega) (show (mI (ma_put S 71 (((mI S l1 4) + (1 : Int32)) + l3).toNatClampNeg (.inl (0 : Int32))) l1 4).toInt + (mI (ma_put S 71 (((mI S l1 4) + (1 : Int32)) + l3).toNatClampNeg (.inl (0 : Int32))) l1 2).toInt ≤ 4500 from by omega) (show ((l3 + (1 : Int32))).toInt ≤ (mI (ma_put S 71 (((mI S l1 4) + (1 : Int32)) + l3).toNatClampNeg (.inl (0 : Int32))) l1 2).toInt - 1 from by omega) (show xB (ma_put S 71 (((mI S l1 4) + (1 : Int32)) + l3).toNatClampNeg (.inl (0 : Int32))) (zRu R y.toNatClampNeg (some u)) from by first | (exact (xC_p (c := 71) (k := (((mI S l1 4) + (1 : Int32)) + l3).toNatClampNeg) (x := (0 : Int32)) (xC_o (W := W) hi4) 71 hi5 rfl (zcw_s (by decide))).2)) (show xW W from by first | (exact hi5) | (exact xW88)) (show mI (ma_put S 71 (((mI S l1 4) + (1 : Int32)) + l3).toNatClampNeg (.inl (0 : Int32))) l1 = I0 from by first | (rw [zp_row th_l1.1 (by decide)]; exact hi6)) (show mL (ma_put S 71 (((mI S l1 4) + (1 : Int32)) + l3).toNatClampNeg (.inl (0 : Int32))) l1 3 = L0 from by first | (exact hi7)) (show I0 0 = y from by first | (exact hi8)) (show (0 ≤ (I0 0).toInt ∧ (I0 0).toInt ≤ 511) ∧ (1 ≤ (I0 2).toInt ∧ (I0 2).toInt ≤ 61) ∧ 0 ≤ (I0 4).toInt ∧ (I0 4).toInt + (I0 2).toInt ≤ 4500 from by first | (exact hi9)) (show l1 = u from by first | (exact hi10)) (show aS W (ma_put S 71 (((mI S l1 4) + (1 : Int32)) + l3).toNatClampNeg (.inl (0 : Int32))) = zIw (ma_u (zNw ab y.toNatClampNeg I0 L0) 71 (I0 4).toNatClampNeg y) (I0 4).toInt L0 ((l3 + (1 : Int32))).toInt from by first | (exfalso; omega) | (have i4 : mI S l1 4 = I0 4 := congrFun hi6 4; have i4i := congrArg Int32.toInt i4; have i2i := congrArg Int32.toInt (congrFun hi6 2); have bd := hi9; refine (xC_p (c := 71) (k := (((mI S l1 4) + (1 : Int32)) + l3).toNatClampNeg) (x := (0 : Int32)) (xC_o (W := W) hi4) 71 hi5 rfl (zcw_s (by decide))).1.trans ?_; rw [hi11]; exact zIw_s (by omega) (by omega) (by rw [tn_cast (by omega)]; omega) (by rw [← hi7]; exact zb_y (by assumption))) | (have i4 : mI S l1 4 = I0 4 := congrFun hi6 4; have i4i := congrArg Int32.toInt i4; have i2i := congrArg Int32.toInt (congrFun hi6 2); have bd := hi9; refine (xC_p (c := 71) (k := (((mI S l1 4) + (1 : Int32)) + l3).toNatClampNeg) (x := (0 : Int32)) (xC_o (W := W) hi4) 71 hi5 rfl (zcw_s (by decide))).1.trans ?_; rw [hi11]; exact zIw_s (by omega) (by omega) (by rw [tn_cast (by omega)]; omega) (by rw [← hi7]; exact zb_n (by assumption))))
        · skip
          have g46 := i_nle h31
          refine ⟨zG_n hI th_l1, ?_⟩
          have b47 := i_bd (lg_cmp ((((mL S l1 3).toUInt64 >>> (l3.toInt64.toUInt64 &&& Int64.toUInt64 63)).toInt64) &&& (1 : Int64)) (0 : Int64))
          refine zd (fun h48 => ?_) (fun h48 => ?_)
          · skip
            have g49 := i_eq h48
            have f50 := zG_th hI th_l1
            first | have e51 : ((mI S l1 4) + (1 : Int32)).toInt = (mI S l1 4).toInt + (1) := i_addk rfl (by omega) (by omega) | have b52 := i_bd ((mI S l1 4) + (1 : Int32))
            first | have e53 : (((mI S l1 4) + (1 : Int32)) + l3).toInt = ((mI S l1 4) + (1 : Int32)).toInt + l3.toInt := i_add (by omega) (by omega) | have b54 := i_bd (((mI S l1 4) + (1 : Int32)) + l3)
            refine ⟨i_ix (by omega) (by omega), ?_⟩
            have hI55 : zS f r C Z N (ma_put S 71 (((mI S l1 4) + (1 : Int32)) + l3).toNatClampNeg (.inl (0 : Int32))) := zG_fa hI rfl (by decide) (by decide) (by decide) trivial
            first | have e56 : (l3 + (1 : Int32)).toInt = l3.toInt + (1) := i_addk rfl (by omega) (by omega) | have b57 := i_bd (l3 + (1 : Int32))
            have f58 := zG_s hI (0) (512) (c := 69) (k := 6) (by decide)
            have q59 : (mI (ma_put S 71 (((mI S l1 4) + (1 : Int32)) + l3).toNatClampNeg (.inl (0 : Int32))) l1 4).toInt = (mI S l1 4).toInt := zp_fx th_l1.1 (by decide)
            have f60 := zG_th hI55 th_l1
            have q61 : (mI (ma_put S 71 (((mI S l1 4) + (1 : Int32)) + l3).toNatClampNeg (.inl (0 : Int32))) l1 2).toInt = (mI S l1 2).toInt := zp_fx th_l1.1 (by decide)
            have f62 := zG_th hI55 th_l1
            exact IH _ (by omega) _ l1 ((l3 + (1 : Int32))) rfl hI55 th_l1 (by omega) (show (mI S 69 6).toInt ≤ 511 from by omega) (show (mI (ma_put S 71 (((mI S l1 4) + (1 : Int32)) + l3).toNatClampNeg (.inl (0 : Int32))) l1 4).toInt + (mI (ma_put S 71 (((mI S l1 4) + (1 : Int32)) + l3).toNatClampNeg (.inl (0 : Int32))) l1 2).toInt ≤ 4500 from by omega) (show ((l3 + (1 : Int32))).toInt ≤ (mI (ma_put S 71 (((mI S l1 4) + (1 : Int32)) + l3).toNatClampNeg (.inl (0 : Int32))) l1 2).toInt - 1 from by omega) (show xB (ma_put S 71 (((mI S l1 4) + (1 : Int32)) + l3).toNatClampNeg (.inl (0 : Int32))) (zRu R y.toNatClampNeg (some u)) from by first | (exact (xC_p (c := 71) (k := (((mI S l1 4) + (1 : Int32)) + l3).toNatClampNeg) (x := (0 : Int32)) (xC_o (W := W) hi4) 71 hi5 rfl (zcw_s (by decide))).2)) (show xW W from by first | (exact hi5) | (exact xW88)) (show mI (ma_put S 71 (((mI S l1 4) + (1 : Int32)) + l3).toNatClampNeg (.inl (0 : Int32))) l1 = I0 from by first | (rw [zp_row th_l1.1 (by decide)]; exact hi6)) (show mL (ma_put S 71 (((mI S l1 4) + (1 : Int32)) + l3).toNatClampNeg (.inl (0 : Int32))) l1 3 = L0 from by first | (exact hi7)) (show I0 0 = y from by first | (exact hi8)) (show (0 ≤ (I0 0).toInt ∧ (I0 0).toInt ≤ 511) ∧ (1 ≤ (I0 2).toInt ∧ (I0 2).toInt ≤ 61) ∧ 0 ≤ (I0 4).toInt ∧ (I0 4).toInt + (I0 2).toInt ≤ 4500 from by first | (exact hi9)) (show l1 = u from by first | (exact hi10)) (show aS W (ma_put S 71 (((mI S l1 4) + (1 : Int32)) + l3).toNatClampNeg (.inl (0 : Int32))) = zIw (ma_u (zNw ab y.toNatClampNeg I0 L0) 71 (I0 4).toNatClampNeg y) (I0 4).toInt L0 ((l3 + (1 : Int32))).toInt from by first | (exfalso; omega) | (have i4 : mI S l1 4 = I0 4 := congrFun hi6 4; have i4i := congrArg Int32.toInt i4; have i2i := congrArg Int32.toInt (congrFun hi6 2); have bd := hi9; refine (xC_p (c := 71) (k := (((mI S l1 4) + (1 : Int32)) + l3).toNatClampNeg) (x := (0 : Int32)) (xC_o (W := W) hi4) 71 hi5 rfl (zcw_s (by decide))).1.trans ?_; rw [hi11]; exact zIw_s (by omega) (by omega) (by rw [tn_cast (by omega)]; omega) (by rw [← hi7]; exact zb_y (by assumption))) | (have i4 : mI S l1 4 = I0 4 := congrFun hi6 4; have i4i := congrArg Int32.toInt i4; have i2i := congrArg Int32.toInt (congrFun hi6 2); have bd := hi9; refine (xC_p (c := 71) (k := (((mI S l1 4) + (1 : Int32)) + l3).toNatClampNeg) (x := (0 : Int32)) (xC_o (W := W) hi4) 71 hi5 rfl (zcw_s (by decide))).1.trans ?_; rw [hi11]; exact zIw_s (by omega) (by omega) (by rw [tn_cast (by omega)]; omega) (by rw [← hi7]; exact zb_n (by assumption))))
          · skip
            have g63 := i_ne h48
            have f64 := zG_th hI th_l1
            first | have e65 : ((mI S l1 4) + (1 : Int32)).toInt = (mI S l1 4).toInt + (1) := i_addk rfl (by omega) (by omega) | have b66 := i_bd ((mI S l1 4) + (1 : Int32))
            first | have e67 : (((mI S l1 4) + (1 : Int32)) + l3).toInt = ((mI S l1 4) + (1 : Int32)).toInt + l3.toInt := i_add (by omega) (by omega) | have b68 := i_bd (((mI S l1 4) + (1 : Int32)) + l3)
            refine ⟨i_ix (by omega) (by omega), ?_⟩
            have hI69 : zS f r C Z N (ma_put S 71 (((mI S l1 4) + (1 : Int32)) + l3).toNatClampNeg (.inl (-1 : Int32))) := zG_fa hI rfl (by decide) (by decide) (by decide) trivial
            first | have e70 : (l3 + (1 : Int32)).toInt = l3.toInt + (1) := i_addk rfl (by omega) (by omega) | have b71 := i_bd (l3 + (1 : Int32))
            have f72 := zG_s hI (0) (512) (c := 69) (k := 6) (by decide)
            have q73 : (mI (ma_put S 71 (((mI S l1 4) + (1 : Int32)) + l3).toNatClampNeg (.inl (-1 : Int32))) l1 4).toInt = (mI S l1 4).toInt := zp_fx th_l1.1 (by decide)
            have f74 := zG_th hI69 th_l1
            have q75 : (mI (ma_put S 71 (((mI S l1 4) + (1 : Int32)) + l3).toNatClampNeg (.inl (-1 : Int32))) l1 2).toInt = (mI S l1 2).toInt := zp_fx th_l1.1 (by decide)
            have f76 := zG_th hI69 th_l1
            exact IH _ (by omega) _ l1 ((l3 + (1 : Int32))) rfl hI69 th_l1 (by omega) (show (mI S 69 6).toInt ≤ 511 from by omega) (show (mI (ma_put S 71 (((mI S l1 4) + (1 : Int32)) + l3).toNatClampNeg (.inl (-1 : Int32))) l1 4).toInt + (mI (ma_put S 71 (((mI S l1 4) + (1 : Int32)) + l3).toNatClampNeg (.inl (-1 : Int32))) l1 2).toInt ≤ 4500 from by omega) (show ((l3 + (1 : Int32))).toInt ≤ (mI (ma_put S 71 (((mI S l1 4) + (1 : Int32)) + l3).toNatClampNeg (.inl (-1 : Int32))) l1 2).toInt - 1 from by omega) (show xB (ma_put S 71 (((mI S l1 4) + (1 : Int32)) + l3).toNatClampNeg (.inl (-1 : Int32))) (zRu R y.toNatClampNeg (some u)) from by first | (exact (xC_p (c := 71) (k := (((mI S l1 4) + (1 : Int32)) + l3).toNatClampNeg) (x := (-1 : Int32)) (xC_o (W := W) hi4) 71 hi5 rfl (zcw_s (by decide))).2)) (show xW W from by first | (exact hi5) | (exact xW88)) (show mI (ma_put S 71 (((mI S l1 4) + (1 : Int32)) + l3).toNatClampNeg (.inl (-1 : Int32))) l1 = I0 from by first | (rw [zp_row th_l1.1 (by decide)]; exact hi6)) (show mL (ma_put S 71 (((mI S l1 4) + (1 : Int32)) + l3).toNatClampNeg (.inl (-1 : Int32))) l1 3 = L0 from by first | (exact hi7)) (show I0 0 = y from by first | (exact hi8)) (show (0 ≤ (I0 0).toInt ∧ (I0 0).toInt ≤ 511) ∧ (1 ≤ (I0 2).toInt ∧ (I0 2).toInt ≤ 61) ∧ 0 ≤ (I0 4).toInt ∧ (I0 4).toInt + (I0 2).toInt ≤ 4500 from by first | (exact hi9)) (show l1 = u from by first | (exact hi10)) (show aS W (ma_put S 71 (((mI S l1 4) + (1 : Int32)) + l3).toNatClampNeg (.inl (-1 : Int32))) = zIw (ma_u (zNw ab y.toNatClampNeg I0 L0) 71 (I0 4).toNatClampNeg y) (I0 4).toInt L0 ((l3 + (1 : Int32))).toInt from by first | (exfalso; omega) | (have i4 : mI S l1 4 = I0 4 := congrFun hi6 4; have i4i := congrArg Int32.toInt i4; have i2i := congrArg Int32.toInt (congrFun hi6 2); have bd := hi9; refine (xC_p (c := 71) (k := (((mI S l1 4) + (1 : Int32)) + l3).toNatClampNeg) (x := (-1 : Int32)) (xC_o (W := W) hi4) 71 hi5 rfl (zcw_s (by decide))).1.trans ?_; rw [hi11]; exact zIw_s (by omega) (by omega) (by rw [tn_cast (by omega)]; omega) (by rw [← hi7]; exact zb_y (by assumption))) | (have i4 : mI S l1 4 = I0 4 := congrFun hi6 4; have i4i := congrArg Int32.toInt i4; have i2i := congrArg Int32.toInt (congrFun hi6 2); have bd := hi9; refine (xC_p (c := 71) (k := (((mI S l1 4) + (1 : Int32)) + l3).toNatClampNeg) (x := (-1 : Int32)) (xC_o (W := W) hi4) 71 hi5 rfl (zcw_s (by decide))).1.trans ?_; rw [hi11]; exact zIw_s (by omega) (by omega) (by rw [tn_cast (by omega)]; omega) (by rw [← hi7]; exact zb_n (by assumption))))
theorem sp_91_69_s {X : Nat × (Nat → Int32)} {d w : Nat} {f : Nat → Nat → Int32} {r : Nat → Nat → Option Nat} {C Z N : Nat} {Q : Option ma_V ⊕ Nat → ma_S → Prop} {ab : Nat→Nat→Int32} {R : zRT} {W : Nat} {y : Int32} {I0 : Nat→Int32} {L0 : Int64} {u : Nat} {S : ma_S} (t : Nat) (hd : 2 ≤ d) (hw : 42 ≤ w) (hI : zS f r C Z N S) (th_t : 126 ≤ t ∧ t < N) (hpre0 : (mI S 69 6).toInt ≤ 511) (hpre1 : xB S R) (hpre2 : aS W S = ab) (hpre3 : xW W) (hpre4 : mI S t = I0) (hpre5 : mL S t 3 = L0) (hpre6 : I0 0 = y) (hpre7 : (0 ≤ (I0 0).toInt ∧ (I0 0).toInt ≤ 511) ∧ (1 ≤ (I0 2).toInt ∧ (I0 2).toInt ≤ 61) ∧ 0 ≤ (I0 4).toInt ∧ (I0 4).toInt + (I0 2).toInt ≤ 4500) (hpre8 : t = u) (K : ∀ S₉, zS f r C Z N S₉ → (xB S₉ (zRu R y.toNatClampNeg (some u))) → (aS W S₉ = aAd ab y I0 L0) → Q (.inl none) S₉) : ma_wp X d w 91 0 [(0, .inr (.inr (some 69))), (1, .inr (.inr (some t)))] [] S Q := by
  refine g_91_69_s_0 t (by omega) (by omega) (zG_T hI) ?_
  refine ⟨zG_n hI th_t, ?_⟩
  refine ⟨zG_n hI th_t, ?_⟩
  refine ⟨zG_n hI th_t, ?_⟩
  have li1 : (512 : Int32).toInt = 512 := rfl
  have f2 := zG_th hI th_t
  refine zd (fun h3 => ?_) (fun h3 => ?_)
  · skip
    have g4 := i_le h3
    exact K _ hI (show xB S (zRu R y.toNatClampNeg (some u)) from by first | (exfalso; omega) | (exfalso; have j2 := congrArg Int32.toInt (congrFun hpre4 2); have j4 := congrArg Int32.toInt (congrFun hpre4 4); have bd := hpre7; omega) | (have i0 : mI S t 0 = I0 0 := congrFun hpre4 0; have i2 : mI S t 2 = I0 2 := congrFun hpre4 2; have i4 : mI S t 4 = I0 4 := congrFun hpre4 4; have bd := hpre7; have hn5 : (mI S t 0).toNatClampNeg < 512 := (by have q := tn_cast (x := mI S t 0) (by rw [i0]; omega); rw [i0] at q ⊢; omega); have hnu : mI S t 0 = Int32.ofNat (mI S t 0).toNatClampNeg := (ofN_tn (by rw [i0]; omega)).symm; rw [← hpre6, ← i0, ← hpre8]; exact (xC_o (W := W) hpre1).2)) (show aS W S = aAd ab y I0 L0 from by first | (exfalso; omega) | (exfalso; have j2 := congrArg Int32.toInt (congrFun hpre4 2); have j4 := congrArg Int32.toInt (congrFun hpre4 4); have bd := hpre7; omega))
  · skip
    have g5 := i_nle h3
    refine ⟨zG_n hI th_t, ?_⟩
    have f6 := zG_th hI th_t
    have li7 : (0 : Int32).toInt = 0 := rfl
    refine zd (fun h8 => ?_) (fun h8 => ?_)
    · skip
      have g9 := i_lt h8
      exact K _ hI (show xB S (zRu R y.toNatClampNeg (some u)) from by first | (exfalso; omega) | (exfalso; have j2 := congrArg Int32.toInt (congrFun hpre4 2); have j4 := congrArg Int32.toInt (congrFun hpre4 4); have bd := hpre7; omega) | (have i0 : mI S t 0 = I0 0 := congrFun hpre4 0; have i2 : mI S t 2 = I0 2 := congrFun hpre4 2; have i4 : mI S t 4 = I0 4 := congrFun hpre4 4; have bd := hpre7; have hn5 : (mI S t 0).toNatClampNeg < 512 := (by have q := tn_cast (x := mI S t 0) (by rw [i0]; omega); rw [i0] at q ⊢; omega); have hnu : mI S t 0 = Int32.ofNat (mI S t 0).toNatClampNeg := (ofN_tn (by rw [i0]; omega)).symm; rw [← hpre6, ← i0, ← hpre8]; exact (xC_o (W := W) hpre1).2)) (show aS W S = aAd ab y I0 L0 from by first | (exfalso; omega) | (exfalso; have j2 := congrArg Int32.toInt (congrFun hpre4 2); have j4 := congrArg Int32.toInt (congrFun hpre4 4); have bd := hpre7; omega))
    · skip
      have g10 := i_nlt h8
      have f11 := zG_th hI th_t
      first | have e12 : ((mI S t 4) + (mI S t 2)).toInt = (mI S t 4).toInt + (mI S t 2).toInt := i_add (by omega) (by omega) | have b13 := i_bd ((mI S t 4) + (mI S t 2))
      have li14 : (4500 : Int32).toInt = 4500 := rfl
      refine zd (fun h15 => ?_) (fun h15 => ?_)
      · skip
        have g16 := i_le h15
        refine ⟨zG_n hI th_t, ?_⟩
        refine ⟨i_ix (by omega) (by omega), ?_⟩
        refine ⟨zG_n hI th_t, ?_⟩
        have hI17 : zS f r C Z N (ma_put S 70 (mI S t 0).toNatClampNeg (.inr (.inr (some t)))) := zG_rf hI (by decide) (by decide +kernel) (fun _ z => by cases z; exact th_t)
        refine ⟨zG_n hI17 th_t, ?_⟩
        refine ⟨zG_n hI17 th_t, ?_⟩
        refine ⟨i_ix (by omega) (by omega), ?_⟩
        have hI18 : zS f r C Z N (ma_put (ma_put S 70 (mI S t 0).toNatClampNeg (.inr (.inr (some t)))) 71 (mI S t 4).toNatClampNeg (.inl (mI S t 0))) := zG_fa hI17 rfl (by decide) (by decide) (by decide) trivial
        have f19 := zG_s hI (0) (512) (c := 69) (k := 6) (by decide)
        have q20 : (mI (ma_put (ma_put S 70 (mI S t 0).toNatClampNeg (.inr (.inr (some t)))) 71 (mI S t 4).toNatClampNeg (.inl (mI S t 0))) t 4).toInt = (mI S t 4).toInt := zp_fx th_t.1 (by decide)
        have f21 := zG_th hI18 th_t
        have q22 : (mI (ma_put (ma_put S 70 (mI S t 0).toNatClampNeg (.inr (.inr (some t)))) 71 (mI S t 4).toNatClampNeg (.inl (mI S t 0))) t 2).toInt = (mI S t 2).toInt := zp_fx th_t.1 (by decide)
        have f23 := zG_th hI18 th_t
        exact lp_91_69_s_60 (by omega) (by omega) K _ _ t ((0 : Int32)) rfl hI18 th_t (by omega) (show (mI S 69 6).toInt ≤ 511 from by omega) (show (mI (ma_put (ma_put S 70 (mI S t 0).toNatClampNeg (.inr (.inr (some t)))) 71 (mI S t 4).toNatClampNeg (.inl (mI S t 0))) t 4).toInt + (mI (ma_put (ma_put S 70 (mI S t 0).toNatClampNeg (.inr (.inr (some t)))) 71 (mI S t 4).toNatClampNeg (.inl (mI S t 0))) t 2).toInt ≤ 4500 from by omega) (show ((0 : Int32)).toInt ≤ (mI (ma_put (ma_put S 70 (mI S t 0).toNatClampNeg (.inr (.inr (some t)))) 71 (mI S t 4).toNatClampNeg (.inl (mI S t 0))) t 2).toInt - 1 from by omega) (show xB (ma_put (ma_put S 70 (mI S t 0).toNatClampNeg (.inr (.inr (some t)))) 71 (mI S t 4).toNatClampNeg (.inl (mI S t 0))) (zRu R y.toNatClampNeg (some u)) from by first | (exfalso; omega) | (exfalso; have j2 := congrArg Int32.toInt (congrFun hpre4 2); have j4 := congrArg Int32.toInt (congrFun hpre4 4); have bd := hpre7; omega) | (have i0 : mI S t 0 = I0 0 := congrFun hpre4 0; have i2 : mI S t 2 = I0 2 := congrFun hpre4 2; have i4 : mI S t 4 = I0 4 := congrFun hpre4 4; have bd := hpre7; have hn5 : (mI S t 0).toNatClampNeg < 512 := (by have q := tn_cast (x := mI S t 0) (by rw [i0]; omega); rw [i0] at q ⊢; omega); have hnu : mI S t 0 = Int32.ofNat (mI S t 0).toNatClampNeg := (ofN_tn (by rw [i0]; omega)).symm; rw [← hpre6, ← i0, ← hpre8]; exact (xC_p (c := 71) (k := (mI S t 4).toNatClampNeg) (x := (mI S t 0)) (xC_s (xC_o (W := W) hpre1) th_t.1 (n := (mI S t 0).toNatClampNeg) (c := t) hn5 hnu) 71 hpre3 rfl (zcw_s (by decide))).2)) (show xW W from by first | (exact hpre3) | (exact xW88)) (show mI (ma_put (ma_put S 70 (mI S t 0).toNatClampNeg (.inr (.inr (some t)))) 71 (mI S t 4).toNatClampNeg (.inl (mI S t 0))) t = I0 from by first | (rw [zp_row th_t.1 (by decide)]; exact hpre4)) (show mL (ma_put (ma_put S 70 (mI S t 0).toNatClampNeg (.inr (.inr (some t)))) 71 (mI S t 4).toNatClampNeg (.inl (mI S t 0))) t 3 = L0 from by first | (exact hpre5)) (show I0 0 = y from by first | (exact hpre6)) (show (0 ≤ (I0 0).toInt ∧ (I0 0).toInt ≤ 511) ∧ (1 ≤ (I0 2).toInt ∧ (I0 2).toInt ≤ 61) ∧ 0 ≤ (I0 4).toInt ∧ (I0 4).toInt + (I0 2).toInt ≤ 4500 from by first | (exact hpre7)) (show t = u from by first | (exact hpre8)) (show aS W (ma_put (ma_put S 70 (mI S t 0).toNatClampNeg (.inr (.inr (some t)))) 71 (mI S t 4).toNatClampNeg (.inl (mI S t 0))) = zIw (ma_u (zNw ab y.toNatClampNeg I0 L0) 71 (I0 4).toNatClampNeg y) (I0 4).toInt L0 ((0 : Int32)).toInt from by first | (exfalso; omega) | (have i0 : mI S t 0 = I0 0 := congrFun hpre4 0; have i2 : mI S t 2 = I0 2 := congrFun hpre4 2; have i4 : mI S t 4 = I0 4 := congrFun hpre4 4; have bd := hpre7; have hn5 : (mI S t 0).toNatClampNeg < 512 := (by have q := tn_cast (x := mI S t 0) (by rw [i0]; omega); rw [i0] at q ⊢; omega); have hnu : mI S t 0 = Int32.ofNat (mI S t 0).toNatClampNeg := (ofN_tn (by rw [i0]; omega)).symm; refine (xC_p (c := 71) (k := (mI S t 4).toNatClampNeg) (x := (mI S t 0)) (xC_s (xC_o (W := W) hpre1) th_t.1 (n := (mI S t 0).toNatClampNeg) (c := t) hn5 hnu) 71 hpre3 rfl (zcw_s (by decide))).1.trans ?_; (try simp only [zp_e (c₉ := 70) th_t.1 (by decide), zp_e (c₉ := 71) th_t.1 (by decide), zp_r]); rw [hpre2, hpre4, hpre5, hpre6]; exact zIw_0.symm))
      · skip
        have g24 := i_nle h15
        exact K _ hI (show xB S (zRu R y.toNatClampNeg (some u)) from by first | (exfalso; omega) | (exfalso; have j2 := congrArg Int32.toInt (congrFun hpre4 2); have j4 := congrArg Int32.toInt (congrFun hpre4 4); have bd := hpre7; omega) | (have i0 : mI S t 0 = I0 0 := congrFun hpre4 0; have i2 : mI S t 2 = I0 2 := congrFun hpre4 2; have i4 : mI S t 4 = I0 4 := congrFun hpre4 4; have bd := hpre7; have hn5 : (mI S t 0).toNatClampNeg < 512 := (by have q := tn_cast (x := mI S t 0) (by rw [i0]; omega); rw [i0] at q ⊢; omega); have hnu : mI S t 0 = Int32.ofNat (mI S t 0).toNatClampNeg := (ofN_tn (by rw [i0]; omega)).symm; rw [← hpre6, ← i0, ← hpre8]; exact (xC_o (W := W) hpre1).2)) (show aS W S = aAd ab y I0 L0 from by first | (exfalso; omega) | (exfalso; have j2 := congrArg Int32.toInt (congrFun hpre4 2); have j4 := congrArg Int32.toInt (congrFun hpre4 4); have bd := hpre7; omega))

