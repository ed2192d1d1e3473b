/-! from 95.m49 -/
/-! COUNTS, the class (written by wip/tools/gen20k.py) -/
theorem g_91_69_sk_0 {X : Nat × (Nat → Int32)} {d w : Nat} {S : ma_S} {Q : Option ma_V ⊕ Nat → ma_S → Prop} (t : Nat) (hd : 2 ≤ d) (hw : 42 ≤ w) (hS : zT S) (h : (126 ≤ t ∧ t < mN S) ∧ ((126 ≤ t ∧ t < mN S) ∧ ((126 ≤ t ∧ t < mN S) ∧ (if (512 : Int32) ≤ (mI S t 0) then (Q (.inl none) S) else ((126 ≤ t ∧ t < mN S) ∧ (if (mI S t 4) < 0 then (Q (.inl none) S) else (if ((mI S t 4) + (mI S t 2)) ≤ (4500 : Int32) then ((126 ≤ t ∧ t < mN S) ∧ ((0 ≤ (mI S t 0) ∧ (mI S t 0).toNatClampNeg < 512) ∧ ((126 ≤ t ∧ t < mN S) ∧ ((126 ≤ t ∧ t < mN (ma_put S 70 (mI S t 0).toNatClampNeg (.inr (.inr (some t))))) ∧ ((126 ≤ t ∧ t < mN (ma_put S 70 (mI S t 0).toNatClampNeg (.inr (.inr (some t))))) ∧ ((0 ≤ (mI S t 4) ∧ (mI S t 4).toNatClampNeg < 4500) ∧ (ma_wp X d w 91 60 [(0, .inr (.inr (some 69))), (1, .inr (.inr (some t))), (3, .inl (0 : Int32))] [] (ma_put (ma_put S 70 (mI S t 0).toNatClampNeg (.inr (.inr (some t)))) 71 (mI S t 4).toNatClampNeg (.inl (mI S t 0))) Q))))))) else (Q (.inl none) S)))))))) : ma_wp X d w 91 0 [(0, .inr (.inr (some 69))), (1, .inr (.inr (some t)))] [] S Q := by
  refine zw_push hm_91 dX7_add_0 (v := .inr (.inr (some t))) rfl ?_
  obtain ⟨hg, h⟩ := h
  refine zw_gf hm_91 dX7_add_1 (v := .inl (mI S t 4)) (zT_tis hS hg) (zT_tt hS hg) rfl f_7_61_9 rfl ?_
  refine zw_push hm_91 dX7_add_4 (v := .inr (.inr (some t))) rfl ?_
  obtain ⟨hg, h⟩ := h
  refine zw_gf hm_91 dX7_add_5 (v := .inl (mI S t 2)) (zT_tis hS hg) (zT_tt hS hg) rfl f_7_64_9 rfl ?_
  refine zw_stk hm_91 dX7_add_8 (st₉ := [.inl ((mI S t 4) + (mI S t 2))]) rfl rfl ?_
  refine zw_sto hm_91 dX7_add_9 [(2, .inl ((mI S t 4) + (mI S t 2))), (0, .inr (.inr (some 69))), (1, .inr (.inr (some t)))] rfl rfl rfl ?_
  refine zw_push hm_91 dX7_add_10 (v := .inr (.inr (some t))) rfl ?_
  obtain ⟨hg, h⟩ := h
  refine zw_gf hm_91 dX7_add_11 (v := .inl (mI S t 0)) (zT_tis hS hg) (zT_tt hS hg) rfl f_7_67_9 rfl ?_
  refine zw_push hm_91 dX7_add_14 (v := .inl (512 : Int32)) rfl ?_
  refine zw_if2 hm_91 dX7_add_17 (t := 34) rfl zc2_ge ?_ ?_
  · intro hc
    rw [if_pos hc] at h
    exact zw_vret hm_91 dX7_add_34 h
  · intro hc
    rw [if_neg hc] at h
    refine zw_push hm_91 dX7_add_20 (v := .inr (.inr (some t))) rfl ?_
    obtain ⟨hg, h⟩ := h
    refine zw_gf hm_91 dX7_add_21 (v := .inl (mI S t 4)) (zT_tis hS hg) (zT_tt hS hg) rfl f_7_61_9 rfl ?_
    refine zw_if0 hm_91 dX7_add_24 (t := 34) rfl zc0_lt ?_ ?_
    · intro hc
      rw [if_pos hc] at h
      exact zw_vret hm_91 dX7_add_34 h
    · intro hc
      rw [if_neg hc] at h
      refine zw_push hm_91 dX7_add_27 (v := .inl ((mI S t 4) + (mI S t 2))) rfl ?_
      refine zw_push hm_91 dX7_add_28 (v := .inl (4500 : Int32)) rfl ?_
      refine zw_if2 hm_91 dX7_add_31 (t := 35) rfl zc2_le ?_ ?_
      · intro hc
        rw [if_pos hc] at h
        refine zw_push hm_91 dX7_add_35 (v := .inr (.inr (some 69))) rfl ?_
        refine zw_gf hm_91 dX7_add_36 (v := .inr (.inr (some 70))) (zT_is hS s_69) (zT_t hS s_69) rfl f_7_11_7 (zT_f hS r_69_0) ?_
        refine zw_push hm_91 dX7_add_39 (v := .inr (.inr (some t))) rfl ?_
        obtain ⟨hg, h⟩ := h
        refine zw_gf hm_91 dX7_add_40 (v := .inl (mI S t 0)) (zT_tis hS hg) (zT_tt hS hg) rfl f_7_67_9 rfl ?_
        refine zw_push hm_91 dX7_add_43 (v := .inr (.inr (some t))) rfl ?_
        obtain ⟨hg, h⟩ := h
        obtain ⟨hg2, h⟩ := h
        refine zw_aas hm_91 dX7_add_44 (zT_is hS s_70) (zT_h hS s_70) rfl hg (fun b z => by cases z; exact ⟨zT_tis hS hg2, zT_tt hS hg2⟩) ?_
        refine zw_push hm_91 dX7_add_45 (v := .inr (.inr (some 69))) rfl ?_
        refine zw_gf hm_91 dX7_add_46 (v := .inr (.inr (some 71))) (zT_is (zT_pr hS (zfi_row (by decide +kernel))) s_69) (zT_t (zT_pr hS (zfi_row (by decide +kernel))) s_69) rfl f_7_17_7 (zT_f (zT_pr hS (zfi_row (by decide +kernel))) r_69_1) ?_
        refine zw_push hm_91 dX7_add_49 (v := .inr (.inr (some t))) rfl ?_
        obtain ⟨hg, h⟩ := h
        refine zw_gf hm_91 dX7_add_50 (v := .inl (mI S t 4)) (zT_tis (zT_pr hS (zfi_row (by decide +kernel))) hg) (zT_tt (zT_pr hS (zfi_row (by decide +kernel))) hg) rfl f_7_61_9 rfl ?_
        refine zw_push hm_91 dX7_add_53 (v := .inr (.inr (some t))) rfl ?_
        obtain ⟨hg, h⟩ := h
        refine zw_gf hm_91 dX7_add_54 (v := .inl (mI S t 0)) (zT_tis (zT_pr hS (zfi_row (by decide +kernel))) hg) (zT_tt (zT_pr hS (zfi_row (by decide +kernel))) hg) rfl f_7_67_9 rfl ?_
        obtain ⟨hg, h⟩ := h
        refine zw_ias hm_91 dX7_add_57 (zT_is (zT_pr hS (zfi_row (by decide +kernel))) s_71) (zT_h (zT_pr hS (zfi_row (by decide +kernel))) s_71) rfl hg ?_
        refine zw_push hm_91 dX7_add_58 (v := .inl (0 : Int32)) rfl ?_
        refine zw_sto hm_91 dX7_add_59 [(3, .inl (0 : Int32)), (2, .inl ((mI S t 4) + (mI S t 2))), (0, .inr (.inr (some 69))), (1, .inr (.inr (some t)))] rfl rfl rfl ?_
        exact zw_sub (ma_nd_of (ks := [0, 1, 3]) rfl (by decide)) (ma_nd_of (ks := [3, 2, 0, 1]) rfl (by decide)) (ma_le_cons rfl (ma_le_cons rfl (ma_le_cons rfl (ma_le_nil _)))) h
      · intro hc
        rw [if_neg hc] at h
        exact zw_vret hm_91 dX7_add_34 h
theorem g_91_69_sk_60 {X : Nat × (Nat → Int32)} {d w : Nat} {S : ma_S} {Q : Option ma_V ⊕ Nat → ma_S → Prop} (l1 : Nat) (l3 : Int32) (hd : 2 ≤ d) (hw : 42 ≤ w) (hS : zT S) (h : (126 ≤ l1 ∧ l1 < mN S) ∧ (if ((mI S l1 2) - (1 : Int32)) ≤ l3 then ((126 ≤ l1 ∧ l1 < mN (ma_put (ma_put S 69 6 (.inl ((mI S 69 6) + (1 : Int32)))) 69 7 (.inl ((mI S 69 7) + (1 : Int32))))) ∧ (Q (.inl none) (ma_put (ma_put (ma_put S 69 6 (.inl ((mI S 69 6) + (1 : Int32)))) 69 7 (.inl ((mI S 69 7) + (1 : Int32)))) 69 8 (.inl ((mI S 69 8) + (mI (ma_put (ma_put S 69 6 (.inl ((mI S 69 6) + (1 : Int32)))) 69 7 (.inl ((mI S 69 7) + (1 : Int32)))) l1 2)))))) else ((126 ≤ l1 ∧ l1 < mN S) ∧ ((126 ≤ l1 ∧ l1 < mN S) ∧ ((126 ≤ l1 ∧ l1 < mN S) ∧ (if l3 < 0 then ((0 ≤ (((mI S l1 4) + (1 : Int32)) + l3) ∧ (((mI S l1 4) + (1 : Int32)) + l3).toNatClampNeg < 4500) ∧ (ma_wp X d w 91 60 [(0, .inr (.inr (some 69))), (1, .inr (.inr (some l1))), (3, .inl (l3 + (1 : Int32)))] [] (ma_put S 71 (((mI S l1 4) + (1 : Int32)) + l3).toNatClampNeg (.inl (0 : Int32))) Q)) else ((126 ≤ l1 ∧ l1 < mN S) ∧ (if ((mI S l1 2) - (1 : Int32)) ≤ l3 then ((0 ≤ (((mI S l1 4) + (1 : Int32)) + l3) ∧ (((mI S l1 4) + (1 : Int32)) + l3).toNatClampNeg < 4500) ∧ (ma_wp X d w 91 60 [(0, .inr (.inr (some 69))), (1, .inr (.inr (some l1))), (3, .inl (l3 + (1 : Int32)))] [] (ma_put S 71 (((mI S l1 4) + (1 : Int32)) + l3).toNatClampNeg (.inl (0 : Int32))) Q)) else ((126 ≤ l1 ∧ l1 < mN S) ∧ (if (lg_cmp ((((mL S l1 3).toUInt64 >>> (l3.toInt64.toUInt64 &&& Int64.toUInt64 63)).toInt64) &&& (1 : Int64)) (0 : Int64)) = 0 then ((0 ≤ (((mI S l1 4) + (1 : Int32)) + l3) ∧ (((mI S l1 4) + (1 : Int32)) + l3).toNatClampNeg < 4500) ∧ (ma_wp X d w 91 60 [(0, .inr (.inr (some 69))), (1, .inr (.inr (some l1))), (3, .inl (l3 + (1 : Int32)))] [] (ma_put S 71 (((mI S l1 4) + (1 : Int32)) + l3).toNatClampNeg (.inl (0 : Int32))) Q)) else ((0 ≤ (((mI S l1 4) + (1 : Int32)) + l3) ∧ (((mI S l1 4) + (1 : Int32)) + l3).toNatClampNeg < 4500) ∧ (ma_wp X d w 91 60 [(0, .inr (.inr (some 69))), (1, .inr (.inr (some l1))), (3, .inl (l3 + (1 : Int32)))] [] (ma_put S 71 (((mI S l1 4) + (1 : Int32)) + l3).toNatClampNeg (.inl (-1 : Int32))) Q)))))))))))) : ma_wp X d w 91 60 [(0, .inr (.inr (some 69))), (1, .inr (.inr (some l1))), (3, .inl l3)] [] S Q := by
  refine zw_push hm_91 dX7_add_60 (v := .inl l3) rfl ?_
  refine zw_push hm_91 dX7_add_61 (v := .inr (.inr (some l1))) rfl ?_
  obtain ⟨hg, h⟩ := h
  refine zw_gf hm_91 dX7_add_62 (v := .inl (mI S l1 2)) (zT_tis hS hg) (zT_tt hS hg) rfl f_7_64_9 rfl ?_
  refine zw_push hm_91 dX7_add_65 (v := .inl (1 : Int32)) rfl ?_
  refine zw_stk hm_91 dX7_add_66 (st₉ := [.inl ((mI S l1 2) - (1 : Int32)), .inl l3]) rfl rfl ?_
  refine zw_if2 hm_91 dX7_add_67 (t := 102) rfl zc2_ge ?_ ?_
  · intro hc
    rw [if_pos hc] at h
    refine zw_push hm_91 dX7_add_102 (v := .inr (.inr (some 69))) rfl ?_
    refine zw_stk hm_91 dX7_add_103 (st₉ := [.inr (.inr (some 69)), .inr (.inr (some 69))]) rfl rfl ?_
    refine zw_gf hm_91 dX7_add_104 (v := .inl (mI S 69 6)) (zT_is hS s_69) (zT_t hS s_69) rfl f_7_40_7 rfl ?_
    refine zw_push hm_91 dX7_add_107 (v := .inl (1 : Int32)) rfl ?_
    refine zw_stk hm_91 dX7_add_108 (st₉ := [.inl ((mI S 69 6) + (1 : Int32)), .inr (.inr (some 69))]) rfl rfl ?_
    refine zw_pf hm_91 dX7_add_109 (zT_is hS s_69) (zT_t hS s_69) p_7_40_7 zk_int ?_
    refine zw_push hm_91 dX7_add_112 (v := .inr (.inr (some 69))) rfl ?_
    refine zw_stk hm_91 dX7_add_113 (st₉ := [.inr (.inr (some 69)), .inr (.inr (some 69))]) rfl rfl ?_
    refine zw_gf hm_91 dX7_add_114 (v := .inl (mI S 69 7)) (zT_is (zT_pi hS) s_69) (zT_t (zT_pi hS) s_69) rfl f_7_43_7 rfl ?_
    refine zw_push hm_91 dX7_add_117 (v := .inl (1 : Int32)) rfl ?_
    refine zw_stk hm_91 dX7_add_118 (st₉ := [.inl ((mI S 69 7) + (1 : Int32)), .inr (.inr (some 69))]) rfl rfl ?_
    refine zw_pf hm_91 dX7_add_119 (zT_is (zT_pi hS) s_69) (zT_t (zT_pi hS) s_69) p_7_43_7 zk_int ?_
    refine zw_push hm_91 dX7_add_122 (v := .inr (.inr (some 69))) rfl ?_
    refine zw_stk hm_91 dX7_add_123 (st₉ := [.inr (.inr (some 69)), .inr (.inr (some 69))]) rfl rfl ?_
    refine zw_gf hm_91 dX7_add_124 (v := .inl (mI S 69 8)) (zT_is (zT_pi (zT_pi hS)) s_69) (zT_t (zT_pi (zT_pi hS)) s_69) rfl f_7_46_7 rfl ?_
    refine zw_push hm_91 dX7_add_127 (v := .inr (.inr (some l1))) rfl ?_
    obtain ⟨hg, h⟩ := h
    refine zw_gf hm_91 dX7_add_128 (v := .inl (mI (ma_put (ma_put S 69 6 (.inl ((mI S 69 6) + (1 : Int32)))) 69 7 (.inl ((mI S 69 7) + (1 : Int32)))) l1 2)) (zT_tis (zT_pi (zT_pi hS)) hg) (zT_tt (zT_pi (zT_pi hS)) hg) rfl f_7_64_9 rfl ?_
    refine zw_stk hm_91 dX7_add_131 (st₉ := [.inl ((mI S 69 8) + (mI (ma_put (ma_put S 69 6 (.inl ((mI S 69 6) + (1 : Int32)))) 69 7 (.inl ((mI S 69 7) + (1 : Int32)))) l1 2)), .inr (.inr (some 69))]) rfl rfl ?_
    refine zw_pf hm_91 dX7_add_132 (zT_is (zT_pi (zT_pi hS)) s_69) (zT_t (zT_pi (zT_pi hS)) s_69) p_7_46_7 zk_int ?_
    exact zw_vret hm_91 dX7_add_135 h
  · intro hc
    rw [if_neg hc] at h
    refine zw_push hm_91 dX7_add_70 (v := .inr (.inr (some 69))) rfl ?_
    refine zw_gf hm_91 dX7_add_71 (v := .inr (.inr (some 71))) (zT_is hS s_69) (zT_t hS s_69) rfl f_7_17_7 (zT_f hS r_69_1) ?_
    refine zw_push hm_91 dX7_add_74 (v := .inr (.inr (some l1))) rfl ?_
    obtain ⟨hg, h⟩ := h
    refine zw_gf hm_91 dX7_add_75 (v := .inl (mI S l1 4)) (zT_tis hS hg) (zT_tt hS hg) rfl f_7_61_9 rfl ?_
    refine zw_push hm_91 dX7_add_78 (v := .inl (1 : Int32)) rfl ?_
    refine zw_stk hm_91 dX7_add_79 (st₉ := [.inl ((mI S l1 4) + (1 : Int32)), .inr (.inr (some 71))]) rfl rfl ?_
    refine zw_push hm_91 dX7_add_80 (v := .inl l3) rfl ?_
    refine zw_stk hm_91 dX7_add_81 (st₉ := [.inl (((mI S l1 4) + (1 : Int32)) + l3), .inr (.inr (some 71))]) rfl rfl ?_
    refine zw_push hm_91 dX7_add_82 (v := .inr (.inr (some l1))) rfl ?_
    refine zw_push hm_91 dX7_add_83 (v := .inl l3) rfl ?_
    obtain ⟨hg, h⟩ := h
    refine zw_cv hm_91 dX7_add_84 v_7_70_9 hm_113 [.inl l3] [.inl (((mI S l1 4) + (1 : Int32)) + l3), .inr (.inr (some 71))] rfl (zT_trt hS hg) ⟨by omega, by omega⟩ rfl ?_
    show ma_wp X (d - 1) (w - 21) 113 0 [(0, .inr (.inr (some l1))), (1, .inl l3)] [] S _
    refine zw_push hm_113 dX9_isReference_0 (v := .inr (.inr (some l1))) rfl ?_
    refine zw_push hm_113 dX9_isReference_1 (v := .inl l3) rfl ?_
    obtain ⟨hg, h⟩ := h
    refine zw_cv hm_113 dX9_isReference_2 v_9_26_9 hm_114 [.inl l3] [] rfl (zT_trt hS hg) ⟨by omega, by omega⟩ rfl ?_
    show ma_wp X ((d - 1) - 1) ((w - 21) - 21) 114 0 [(0, .inr (.inr (some l1))), (1, .inl l3)] [] S _
    refine zw_push hm_114 dX9_hasWord_0 (v := .inl l3) rfl ?_
    refine zw_if0 hm_114 dX9_hasWord_1 (t := 18) rfl zc0_lt ?_ ?_
    · intro hc
      rw [if_pos hc] at h
      refine zw_push hm_114 dX9_hasWord_18 (v := .inl (0 : Int32)) rfl ?_
      refine zw_bret hm_114 dX9_hasWord_19 (by decide) ?_
      show ma_wp X (d - 1) (w - 21) 113 5 [(0, .inr (.inr (some l1))), (1, .inl l3)] [.inl (0 : Int32)] S _
      refine zw_if0 hm_113 dX9_isReference_5 (t := 25) rfl zc0_eq (fun _ => ?_) (fun hc => absurd (by decide) hc)
      refine zw_push hm_113 dX9_isReference_25 (v := .inl (0 : Int32)) rfl ?_
      refine zw_bret hm_113 dX9_isReference_26 (by decide) ?_
      show ma_wp X d w 91 87 [(0, .inr (.inr (some 69))), (1, .inr (.inr (some l1))), (3, .inl l3)] [.inl (0 : Int32), .inl (((mI S l1 4) + (1 : Int32)) + l3), .inr (.inr (some 71))] S _
      refine zw_if0 hm_91 dX7_add_87 (t := 94) rfl zc0_eq (fun _ => ?_) (fun hc => absurd (by decide) hc)
      refine zw_push hm_91 dX7_add_94 (v := .inl (0 : Int32)) rfl ?_
      obtain ⟨hg, h⟩ := h
      refine zw_ias hm_91 dX7_add_95 (zT_is hS s_71) (zT_h hS s_71) rfl hg ?_
      refine zw_sto hm_91 dX7_add_96 [(3, .inl (l3 + (1 : Int32))), (0, .inr (.inr (some 69))), (1, .inr (.inr (some l1)))] rfl rfl rfl ?_
      refine zw_goto hm_91 dX7_add_99 (t := 60) rfl ?_
      exact zw_sub (ma_nd_of (ks := [0, 1, 3]) rfl (by decide)) (ma_nd_of (ks := [3, 0, 1]) rfl (by decide)) (ma_le_cons rfl (ma_le_cons rfl (ma_le_cons rfl (ma_le_nil _)))) h
    · intro hc
      rw [if_neg hc] at h
      refine zw_push hm_114 dX9_hasWord_4 (v := .inl l3) rfl ?_
      refine zw_push hm_114 dX9_hasWord_5 (v := .inr (.inr (some l1))) rfl ?_
      obtain ⟨hg, h⟩ := h
      refine zw_gf hm_114 dX9_hasWord_6 (v := .inl (mI S l1 2)) (zT_tis hS hg) (zT_tt hS hg) rfl f_9_16_9 rfl ?_
      refine zw_push hm_114 dX9_hasWord_9 (v := .inl (1 : Int32)) rfl ?_
      refine zw_stk hm_114 dX9_hasWord_10 (st₉ := [.inl ((mI S l1 2) - (1 : Int32)), .inl l3]) rfl rfl ?_
      refine zw_if2 hm_114 dX9_hasWord_11 (t := 18) rfl zc2_ge ?_ ?_
      · intro hc
        rw [if_pos hc] at h
        refine zw_push hm_114 dX9_hasWord_18 (v := .inl (0 : Int32)) rfl ?_
        refine zw_bret hm_114 dX9_hasWord_19 (by decide) ?_
        show ma_wp X (d - 1) (w - 21) 113 5 [(0, .inr (.inr (some l1))), (1, .inl l3)] [.inl (0 : Int32)] S _
        refine zw_if0 hm_113 dX9_isReference_5 (t := 25) rfl zc0_eq (fun _ => ?_) (fun hc => absurd (by decide) hc)
        refine zw_push hm_113 dX9_isReference_25 (v := .inl (0 : Int32)) rfl ?_
        refine zw_bret hm_113 dX9_isReference_26 (by decide) ?_
        show ma_wp X d w 91 87 [(0, .inr (.inr (some 69))), (1, .inr (.inr (some l1))), (3, .inl l3)] [.inl (0 : Int32), .inl (((mI S l1 4) + (1 : Int32)) + l3), .inr (.inr (some 71))] S _
        refine zw_if0 hm_91 dX7_add_87 (t := 94) rfl zc0_eq (fun _ => ?_) (fun hc => absurd (by decide) hc)
        refine zw_push hm_91 dX7_add_94 (v := .inl (0 : Int32)) rfl ?_
        obtain ⟨hg, h⟩ := h
        refine zw_ias hm_91 dX7_add_95 (zT_is hS s_71) (zT_h hS s_71) rfl hg ?_
        refine zw_sto hm_91 dX7_add_96 [(3, .inl (l3 + (1 : Int32))), (0, .inr (.inr (some 69))), (1, .inr (.inr (some l1)))] rfl rfl rfl ?_
        refine zw_goto hm_91 dX7_add_99 (t := 60) rfl ?_
        exact zw_sub (ma_nd_of (ks := [0, 1, 3]) rfl (by decide)) (ma_nd_of (ks := [3, 0, 1]) rfl (by decide)) (ma_le_cons rfl (ma_le_cons rfl (ma_le_cons rfl (ma_le_nil _)))) h
      · intro hc
        rw [if_neg hc] at h
        refine zw_push hm_114 dX9_hasWord_14 (v := .inl (1 : Int32)) rfl ?_
        refine zw_goto hm_114 dX9_hasWord_15 (t := 19) rfl ?_
        refine zw_bret hm_114 dX9_hasWord_19 (by decide) ?_
        show ma_wp X (d - 1) (w - 21) 113 5 [(0, .inr (.inr (some l1))), (1, .inl l3)] [.inl (1 : Int32)] S _
        refine zw_if0 hm_113 dX9_isReference_5 (t := 25) rfl zc0_eq (fun hc => absurd hc (by decide)) (fun _ => ?_)
        refine zw_push hm_113 dX9_isReference_8 (v := .inr (.inr (some l1))) rfl ?_
        obtain ⟨hg, h⟩ := h
        refine zw_gf hm_113 dX9_isReference_9 (v := .inr (.inl (mL S l1 3))) (zT_tis hS hg) (zT_tt hS hg) rfl f_9_19_9 rfl ?_
        refine zw_push hm_113 dX9_isReference_12 (v := .inl l3) rfl ?_
        refine zw_stk hm_113 dX9_isReference_13 (st₉ := [.inr (.inl (((mL S l1 3).toUInt64 >>> (l3.toInt64.toUInt64 &&& Int64.toUInt64 63)).toInt64))]) rfl rfl ?_
        refine zw_push hm_113 dX9_isReference_14 (v := .inr (.inl (1 : Int64))) rfl ?_
        refine zw_stk hm_113 dX9_isReference_15 (st₉ := [.inr (.inl ((((mL S l1 3).toUInt64 >>> (l3.toInt64.toUInt64 &&& Int64.toUInt64 63)).toInt64) &&& (1 : Int64)))]) rfl rfl ?_
        refine zw_push hm_113 dX9_isReference_16 (v := .inr (.inl (0 : Int64))) rfl ?_
        refine zw_stk hm_113 dX9_isReference_17 (st₉ := [.inl (lg_cmp ((((mL S l1 3).toUInt64 >>> (l3.toInt64.toUInt64 &&& Int64.toUInt64 63)).toInt64) &&& (1 : Int64)) (0 : Int64))]) rfl rfl ?_
        refine zw_if0 hm_113 dX9_isReference_18 (t := 25) rfl zc0_eq ?_ ?_
        · intro hc
          rw [if_pos hc] at h
          refine zw_push hm_113 dX9_isReference_25 (v := .inl (0 : Int32)) rfl ?_
          refine zw_bret hm_113 dX9_isReference_26 (by decide) ?_
          show ma_wp X d w 91 87 [(0, .inr (.inr (some 69))), (1, .inr (.inr (some l1))), (3, .inl l3)] [.inl (0 : Int32), .inl (((mI S l1 4) + (1 : Int32)) + l3), .inr (.inr (some 71))] S _
          refine zw_if0 hm_91 dX7_add_87 (t := 94) rfl zc0_eq (fun _ => ?_) (fun hc => absurd (by decide) hc)
          refine zw_push hm_91 dX7_add_94 (v := .inl (0 : Int32)) rfl ?_
          obtain ⟨hg, h⟩ := h
          refine zw_ias hm_91 dX7_add_95 (zT_is hS s_71) (zT_h hS s_71) rfl hg ?_
          refine zw_sto hm_91 dX7_add_96 [(3, .inl (l3 + (1 : Int32))), (0, .inr (.inr (some 69))), (1, .inr (.inr (some l1)))] rfl rfl rfl ?_
          refine zw_goto hm_91 dX7_add_99 (t := 60) rfl ?_
          exact zw_sub (ma_nd_of (ks := [0, 1, 3]) rfl (by decide)) (ma_nd_of (ks := [3, 0, 1]) rfl (by decide)) (ma_le_cons rfl (ma_le_cons rfl (ma_le_cons rfl (ma_le_nil _)))) h
        · intro hc
          rw [if_neg hc] at h
          refine zw_push hm_113 dX9_isReference_21 (v := .inl (1 : Int32)) rfl ?_
          refine zw_goto hm_113 dX9_isReference_22 (t := 26) rfl ?_
          refine zw_bret hm_113 dX9_isReference_26 (by decide) ?_
          show ma_wp X d w 91 87 [(0, .inr (.inr (some 69))), (1, .inr (.inr (some l1))), (3, .inl l3)] [.inl (1 : Int32), .inl (((mI S l1 4) + (1 : Int32)) + l3), .inr (.inr (some 71))] S _
          refine zw_if0 hm_91 dX7_add_87 (t := 94) rfl zc0_eq (fun hc => absurd hc (by decide)) (fun _ => ?_)
          refine zw_push hm_91 dX7_add_90 (v := .inl (-1 : Int32)) rfl ?_
          refine zw_goto hm_91 dX7_add_91 (t := 95) rfl ?_
          obtain ⟨hg, h⟩ := h
          refine zw_ias hm_91 dX7_add_95 (zT_is hS s_71) (zT_h hS s_71) rfl hg ?_
          refine zw_sto hm_91 dX7_add_96 [(3, .inl (l3 + (1 : Int32))), (0, .inr (.inr (some 69))), (1, .inr (.inr (some l1)))] rfl rfl rfl ?_
          refine zw_goto hm_91 dX7_add_99 (t := 60) rfl ?_
          exact zw_sub (ma_nd_of (ks := [0, 1, 3]) rfl (by decide)) (ma_nd_of (ks := [3, 0, 1]) rfl (by decide)) (ma_le_cons rfl (ma_le_cons rfl (ma_le_cons rfl (ma_le_nil _)))) h
theorem lp_91_69_sk_60 {X : Nat × (Nat → Int32)} {d w : Nat} {f : Nat → Nat → Int32} {r : Nat → Nat → Option Nat} {C Z N : Nat} {Q : Option ma_V ⊕ Nat → ma_S → Prop} {ab : Nat→Nat→Int32} {R : zRT} {W : Nat} {y : Int32} {I0 : Nat→Int32} {L0 : Int64} {u : Nat} {kk : Nat→Int32} (hd : 2 ≤ d) (hw : 42 ≤ w) (K : ∀ S₉, zS f r C Z N S₉ → (xB S₉ (zRu R y.toNatClampNeg (some u))) → (aS W S₉ = aAd ab y I0 L0) → (kC S₉ = zKu kk y.toNatClampNeg (I0 6)) → Q (.inl none) S₉) : ∀ (n : Nat) (S : ma_S) (l1 : Nat) (l3 : Int32), (61 - l3.toInt).toNat = n → zS f r C Z N S → (126 ≤ l1 ∧ l1 < N) → (0 ≤ l3.toInt) → ((mI S 69 6).toInt ≤ 511) → ((mI S l1 4).toInt + (mI S l1 2).toInt ≤ 4500) → (l3.toInt ≤ (mI S l1 2).toInt - 1) → (xB S (zRu R y.toNatClampNeg (some u))) → (xW W) → (mI S l1 = I0) → (mL S l1 3 = L0) → (I0 0 = y) → ((0 ≤ (I0 0).toInt ∧ (I0 0).toInt ≤ 511) ∧ (1 ≤ (I0 2).toInt ∧ (I0 2).toInt ≤ 61) ∧ 0 ≤ (I0 4).toInt ∧ (I0 4).toInt + (I0 2).toInt ≤ 4500) → (l1 = u) → (aS W S = zIw (ma_u (zNw ab y.toNatClampNeg I0 L0) 71 (I0 4).toNatClampNeg y) (I0 4).toInt L0 l3.toInt) → (kC S = zKu kk y.toNatClampNeg (I0 6)) → ma_wp X d w 91 60 [(0, .inr (.inr (some 69))), (1, .inr (.inr (some l1))), (3, .inl l3)] [] S Q := by
  intro n
  induction n using Nat.strongRecOn with
  | _ n IH =>
    intro S l1 l3 hmu hI th_l1 hi0 hi1 hi2 hi3 hi4 hi5 hi6 hi7 hi8 hi9 hi10 hi11 hi12
    refine g_91_69_sk_60 l1 l3 (by omega) (by omega) (zG_T hI) ?_
    refine ⟨zG_n hI th_l1, ?_⟩
    have f1 := zG_th hI th_l1
    first | have e2 : ((mI S l1 2) - (1 : Int32)).toInt = (mI S l1 2).toInt - (1) := i_subk rfl (by omega) (by omega) | have b3 := i_bd ((mI S l1 2) - (1 : Int32))
    have b4 := i_bd l3
    refine zd (fun h5 => ?_) (fun h5 => ?_)
    · skip
      have g6 := i_le h5
      have f8 := zG_s hI (0) (512) (c := 69) (k := 6) (by decide)
      first | have e9 : ((mI S 69 6) + (1 : Int32)).toInt = (mI S 69 6).toInt + (1) := i_addk rfl (by omega) (by omega) | have b10 := i_bd ((mI S 69 6) + (1 : Int32))
      have hI7 : zS f r C Z N (ma_put S 69 6 (.inl ((mI S 69 6) + (1 : Int32)))) := zG_sp hI (0) (512) rfl (by decide) (by decide) (by decide) trivial (by omega) (by omega)
      have hI11 : zS f r C Z N (ma_put (ma_put S 69 6 (.inl ((mI S 69 6) + (1 : Int32)))) 69 7 (.inl ((mI S 69 7) + (1 : Int32)))) := zG_fr hI7 rfl (by decide) (by decide) (by decide) trivial
      refine ⟨zG_n hI11 th_l1, ?_⟩
      have hI12 : zS f r C Z N (ma_put (ma_put (ma_put S 69 6 (.inl ((mI S 69 6) + (1 : Int32)))) 69 7 (.inl ((mI S 69 7) + (1 : Int32)))) 69 8 (.inl ((mI S 69 8) + (mI (ma_put (ma_put S 69 6 (.inl ((mI S 69 6) + (1 : Int32)))) 69 7 (.inl ((mI S 69 7) + (1 : Int32)))) l1 2)))) := zG_fr hI11 rfl (by decide) (by decide) (by decide) trivial
      exact K _ hI12 (show xB (ma_put (ma_put (ma_put S 69 6 (.inl ((mI S 69 6) + (1 : Int32)))) 69 7 (.inl ((mI S 69 7) + (1 : Int32)))) 69 8 (.inl ((mI S 69 8) + (mI (ma_put (ma_put S 69 6 (.inl ((mI S 69 6) + (1 : Int32)))) 69 7 (.inl ((mI S 69 7) + (1 : Int32)))) l1 2)))) (zRu R y.toNatClampNeg (some u)) from by first | (exact (xC_p (c := 69) (k := 8) (x := ((mI S 69 8) + (mI (ma_put (ma_put S 69 6 (.inl ((mI S 69 6) + (1 : Int32)))) 69 7 (.inl ((mI S 69 7) + (1 : Int32)))) l1 2))) (xC_n (c := 69) (k := 7) (x := ((mI S 69 7) + (1 : Int32))) (xC_p (c := 69) (k := 6) (x := ((mI S 69 6) + (1 : Int32))) (xC_o (W := W) hi4) 69 hi5 rfl (zcw_s (by decide))) (zir_W hi5 rfl (by decide))) 69 hi5 rfl (zcw_s (by decide))).2)) (show aS W (ma_put (ma_put (ma_put S 69 6 (.inl ((mI S 69 6) + (1 : Int32)))) 69 7 (.inl ((mI S 69 7) + (1 : Int32)))) 69 8 (.inl ((mI S 69 8) + (mI (ma_put (ma_put S 69 6 (.inl ((mI S 69 6) + (1 : Int32)))) 69 7 (.inl ((mI S 69 7) + (1 : Int32)))) l1 2)))) = aAd ab y I0 L0 from by first | (have i2 : mI S l1 2 = I0 2 := congrFun hi6 2; have i2i := congrArg Int32.toInt i2; have bd := hi9; have g6 : mI S 69 6 = ab 69 6 := (aS_I (W := W) (S := S) (c := 69) (c₉ := 69) (k := 6) rfl (zcw_s (by decide))).symm.trans ((congrFun (congrFun hi11 69) 6).trans (by rw [zIw_o (by decide), xu_o (by omega), zNw_o (by decide)])); have g8 : mI S 69 8 = ab 69 8 := (aS_I (W := W) (S := S) (c := 69) (c₉ := 69) (k := 8) rfl (zcw_s (by decide))).symm.trans ((congrFun (congrFun hi11 69) 8).trans (by rw [zIw_o (by decide), xu_o (by omega), zNw_o (by decide)])); refine (xC_p (c := 69) (k := 8) (x := ((mI S 69 8) + (mI (ma_put (ma_put S 69 6 (.inl ((mI S 69 6) + (1 : Int32)))) 69 7 (.inl ((mI S 69 7) + (1 : Int32)))) l1 2))) (xC_n (c := 69) (k := 7) (x := ((mI S 69 7) + (1 : Int32))) (xC_p (c := 69) (k := 6) (x := ((mI S 69 6) + (1 : Int32))) (xC_o (W := W) hi4) 69 hi5 rfl (zcw_s (by decide))) (zir_W hi5 rfl (by decide))) 69 hi5 rfl (zcw_s (by decide))).1.trans ?_; (try simp only [zp_e (c₉ := 69) th_l1.1 (by decide)]); rw [hi11, i2, g6, g8, show l3.toInt = (I0 2).toInt - 1 from by omega]; rfl)) (show kC (ma_put (ma_put (ma_put S 69 6 (.inl ((mI S 69 6) + (1 : Int32)))) 69 7 (.inl ((mI S 69 7) + (1 : Int32)))) 69 8 (.inl ((mI S 69 8) + (mI (ma_put (ma_put S 69 6 (.inl ((mI S 69 6) + (1 : Int32)))) 69 7 (.inl ((mI S 69 7) + (1 : Int32)))) l1 2)))) = zKu kk y.toNatClampNeg (I0 6) from by first | (exact (xK_p (c := 69) (k := 8) (x := ((mI S 69 8) + (mI (ma_put (ma_put S 69 6 (.inl ((mI S 69 6) + (1 : Int32)))) 69 7 (.inl ((mI S 69 7) + (1 : Int32)))) l1 2))) (xK_n (c := 69) (k := 7) (x := ((mI S 69 7) + (1 : Int32))) (xK_p (c := 69) (k := 6) (x := ((mI S 69 6) + (1 : Int32))) (xK_o (W := W) hi4 hi12) 69 hi5 rfl (zcw_s (by decide))) (zir_W hi5 rfl (by decide))) 69 hi5 rfl (zcw_s (by decide))).2))
    · skip
      have g13 := i_nle h5
      refine ⟨zG_n hI th_l1, ?_⟩
      refine ⟨zG_n hI th_l1, ?_⟩
      refine ⟨zG_n hI th_l1, ?_⟩
      have li14 : (0 : Int32).toInt = 0 := rfl
      refine zd (fun h15 => ?_) (fun h15 => ?_)
      · skip
        have g16 := i_lt h15
        have f17 := zG_th hI th_l1
        first | have e18 : ((mI S l1 4) + (1 : Int32)).toInt = (mI S l1 4).toInt + (1) := i_addk rfl (by omega) (by omega) | have b19 := i_bd ((mI S l1 4) + (1 : Int32))
        first | have e20 : (((mI S l1 4) + (1 : Int32)) + l3).toInt = ((mI S l1 4) + (1 : Int32)).toInt + l3.toInt := i_add (by omega) (by omega) | have b21 := i_bd (((mI S l1 4) + (1 : Int32)) + l3)
        refine ⟨i_ix (by omega) (by omega), ?_⟩
        have hI22 : zS f r C Z N (ma_put S 71 (((mI S l1 4) + (1 : Int32)) + l3).toNatClampNeg (.inl (0 : Int32))) := zG_fa hI rfl (by decide) (by decide) (by decide) trivial
        first | have e23 : (l3 + (1 : Int32)).toInt = l3.toInt + (1) := i_addk rfl (by omega) (by omega) | have b24 := i_bd (l3 + (1 : Int32))
        have f25 := zG_s hI (0) (512) (c := 69) (k := 6) (by decide)
        have q26 : (mI (ma_put S 71 (((mI S l1 4) + (1 : Int32)) + l3).toNatClampNeg (.inl (0 : Int32))) l1 4).toInt = (mI S l1 4).toInt := zp_fx th_l1.1 (by decide)
        have f27 := zG_th hI22 th_l1
        have q28 : (mI (ma_put S 71 (((mI S l1 4) + (1 : Int32)) + l3).toNatClampNeg (.inl (0 : Int32))) l1 2).toInt = (mI S l1 2).toInt := zp_fx th_l1.1 (by decide)
        have f29 := zG_th hI22 th_l1
        exact IH _ (by omega) _ l1 ((l3 + (1 : Int32))) rfl hI22 th_l1 (by omega) (show (mI S 69 6).toInt ≤ 511 from by omega) (show (mI (ma_put S 71 (((mI S l1 4) + (1 : Int32)) + l3).toNatClampNeg (.inl (0 : Int32))) l1 4).toInt + (mI (ma_put S 71 (((mI S l1 4) + (1 : Int32)) + l3).toNatClampNeg (.inl (0 : Int32))) l1 2).toInt ≤ 4500 from by omega) (show ((l3 + (1 : Int32))).toInt ≤ (mI (ma_put S 71 (((mI S l1 4) + (1 : Int32)) + l3).toNatClampNeg (.inl (0 : Int32))) l1 2).toInt - 1 from by omega) (show xB (ma_put S 71 (((mI S l1 4) + (1 : Int32)) + l3).toNatClampNeg (.inl (0 : Int32))) (zRu R y.toNatClampNeg (some u)) from by first | (exact (xC_p (c := 71) (k := (((mI S l1 4) + (1 : Int32)) + l3).toNatClampNeg) (x := (0 : Int32)) (xC_o (W := W) hi4) 71 hi5 rfl (zcw_s (by decide))).2)) (show xW W from by first | (exact hi5) | (exact xW88) | (exact xW75)) (show mI (ma_put S 71 (((mI S l1 4) + (1 : Int32)) + l3).toNatClampNeg (.inl (0 : Int32))) l1 = I0 from by first | (rw [zp_row th_l1.1 (by decide)]; exact hi6)) (show mL (ma_put S 71 (((mI S l1 4) + (1 : Int32)) + l3).toNatClampNeg (.inl (0 : Int32))) l1 3 = L0 from by first | (exact hi7)) (show I0 0 = y from by first | (exact hi8)) (show (0 ≤ (I0 0).toInt ∧ (I0 0).toInt ≤ 511) ∧ (1 ≤ (I0 2).toInt ∧ (I0 2).toInt ≤ 61) ∧ 0 ≤ (I0 4).toInt ∧ (I0 4).toInt + (I0 2).toInt ≤ 4500 from by first | (exact hi9)) (show l1 = u from by first | (exact hi10)) (show aS W (ma_put S 71 (((mI S l1 4) + (1 : Int32)) + l3).toNatClampNeg (.inl (0 : Int32))) = zIw (ma_u (zNw ab y.toNatClampNeg I0 L0) 71 (I0 4).toNatClampNeg y) (I0 4).toInt L0 ((l3 + (1 : Int32))).toInt from by first | (exfalso; omega) | (have i4 : mI S l1 4 = I0 4 := congrFun hi6 4; have i4i := congrArg Int32.toInt i4; have i2i := congrArg Int32.toInt (congrFun hi6 2); have bd := hi9; refine (xC_p (c := 71) (k := (((mI S l1 4) + (1 : Int32)) + l3).toNatClampNeg) (x := (0 : Int32)) (xC_o (W := W) hi4) 71 hi5 rfl (zcw_s (by decide))).1.trans ?_; rw [hi11]; exact zIw_s (by omega) (by omega) (by rw [tn_cast (by omega)]; omega) (by rw [← hi7]; exact zb_y (by assumption))) | (have i4 : mI S l1 4 = I0 4 := congrFun hi6 4; have i4i := congrArg Int32.toInt i4; have i2i := congrArg Int32.toInt (congrFun hi6 2); have bd := hi9; refine (xC_p (c := 71) (k := (((mI S l1 4) + (1 : Int32)) + l3).toNatClampNeg) (x := (0 : Int32)) (xC_o (W := W) hi4) 71 hi5 rfl (zcw_s (by decide))).1.trans ?_; rw [hi11]; exact zIw_s (by omega) (by omega) (by rw [tn_cast (by omega)]; omega) (by rw [← hi7]; exact zb_n (by assumption)))) (show kC (ma_put S 71 (((mI S l1 4) + (1 : Int32)) + l3).toNatClampNeg (.inl (0 : Int32))) = zKu kk y.toNatClampNeg (I0 6) from by first | (exact (xK_p (c := 71) (k := (((mI S l1 4) + (1 : Int32)) + l3).toNatClampNeg) (x := (0 : Int32)) (xK_o (W := W) hi4 hi12) 71 hi5 rfl (zcw_s (by decide))).2))
      · skip
        have g30 := i_nlt h15
        refine ⟨zG_n hI th_l1, ?_⟩
        refine zd (fun h31 => ?_) (fun h31 => ?_)
        · skip
          have g32 := i_le h31
          have f33 := zG_th hI th_l1
          first | have e34 : ((mI S l1 4) + (1 : Int32)).toInt = (mI S l1 4).toInt + (1) := i_addk rfl (by omega) (by omega) | have b35 := i_bd ((mI S l1 4) + (1 : Int32))
          first | have e36 : (((mI S l1 4) + (1 : Int32)) + l3).toInt = ((mI S l1 4) + (1 : Int32)).toInt + l3.toInt := i_add (by omega) (by omega) | have b37 := i_bd (((mI S l1 4) + (1 : Int32)) + l3)
          refine ⟨i_ix (by omega) (by omega), ?_⟩
          have hI38 : zS f r C Z N (ma_put S 71 (((mI S l1 4) + (1 : Int32)) + l3).toNatClampNeg (.inl (0 : Int32))) := zG_fa hI rfl (by decide) (by decide) (by decide) trivial
          first | have e39 : (l3 + (1 : Int32)).toInt = l3.toInt + (1) := i_addk rfl (by omega) (by omega) | have b40 := i_bd (l3 + (1 : Int32))
          have f41 := zG_s hI (0) (512) (c := 69) (k := 6) (by decide)
          have q42 : (mI (ma_put S 71 (((mI S l1 4) + (1 : Int32)) + l3).toNatClampNeg (.inl (0 : Int32))) l1 4).toInt = (mI S l1 4).toInt := zp_fx th_l1.1 (by decide)
          have f43 := zG_th hI38 th_l1
          have q44 : (mI (ma_put S 71 (((mI S l1 4) + (1 : Int32)) + l3).toNatClampNeg (.inl (0 : Int32))) l1 2).toInt = (mI S l1 2).toInt := zp_fx th_l1.1 (by decide)
          have f45 := zG_th hI38 th_l1
          exact IH _ (by omega) _ l1 ((l3 + (1 : Int32))) rfl hI38 th_l1 (by omega) (show (mI S 69 6).toInt ≤ 511 from by omega) (show (mI (ma_put S 71 (((mI S l1 4) + (1 : Int32)) + l3).toNatClampNeg (.inl (0 : Int32))) l1 4).toInt + (mI (ma_put S 71 (((mI S l1 4) + (1 : Int32)) + l3).toNatClampNeg (.inl (0 : Int32))) l1 2).toInt ≤ 4500 from by omega) (show ((l3 + (1 : Int32))).toInt ≤ (mI (ma_put S 71 (((mI S l1 4) + (1 : Int32)) + l3).toNatClampNeg (.inl (0 : Int32))) l1 2).toInt - 1 from by omega) (show xB (ma_put S 71 (((mI S l1 4) + (1 : Int32)) + l3).toNatClampNeg (.inl (0 : Int32))) (zRu R y.toNatClampNeg (some u)) from by first | (exact (xC_p (c := 71) (k := (((mI S l1 4) + (1 : Int32)) + l3).toNatClampNeg) (x := (0 : Int32)) (xC_o (W := W) hi4) 71 hi5 rfl (zcw_s (by decide))).2)) (show xW W from by first | (exact hi5) | (exact xW88) | (exact xW75)) (show mI (ma_put S 71 (((mI S l1 4) + (1 : Int32)) + l3).toNatClampNeg (.inl (0 : Int32))) l1 = I0 from by first | (rw [zp_row th_l1.1 (by decide)]; exact hi6)) (show mL (ma_put S 71 (((mI S l1 4) + (1 : Int32)) + l3).toNatClampNeg (.inl (0 : Int32))) l1 3 = L0 from by first | (exact hi7)) (show I0 0 = y from by first | (exact hi8)) (show (0 ≤ (I0 0).toInt ∧ (I0 0).toInt ≤ 511) ∧ (1 ≤ (I0 2).toInt ∧ (I0 2).toInt ≤ 61) ∧ 0 ≤ (I0 4).toInt ∧ (I0 4).toInt + (I0 2).toInt ≤ 4500 from by first | (exact hi9)) (show l1 = u from by first | (exact hi10)) (show aS W (ma_put S 71 (((mI S l1 4) + (1 : Int32)) + l3).toNatClampNeg (.inl (0 : Int32))) = zIw (ma_u (zNw ab y.toNatClampNeg I0 L0) 71 (I0 4).toNatClampNeg y) (I0 4).toInt L0 ((l3 + (1 : Int32))).toInt from by first | (exfalso; omega) | (have i4 : mI S l1 4 = I0 4 := congrFun hi6 4; have i4i := congrArg Int32.toInt i4; have i2i := congrArg Int32.toInt (congrFun hi6 2); have bd := hi9; refine (xC_p (c := 71) (k := (((mI S l1 4) + (1 : Int32)) + l3).toNatClampNeg) (x := (0 : Int32)) (xC_o (W := W) hi4) 71 hi5 rfl (zcw_s (by decide))).1.trans ?_; rw [hi11]; exact zIw_s (by omega) (by omega) (by rw [tn_cast (by omega)]; omega) (by rw [← hi7]; exact zb_y (by assumption))) | (have i4 : mI S l1 4 = I0 4 := congrFun hi6 4; have i4i := congrArg Int32.toInt i4; have i2i := congrArg Int32.toInt (congrFun hi6 2); have bd := hi9; refine (xC_p (c := 71) (k := (((mI S l1 4) + (1 : Int32)) + l3).toNatClampNeg) (x := (0 : Int32)) (xC_o (W := W) hi4) 71 hi5 rfl (zcw_s (by decide))).1.trans ?_; rw [hi11]; exact zIw_s (by omega) (by omega) (by rw [tn_cast (by omega)]; omega) (by rw [← hi7]; exact zb_n (by assumption)))) (show kC (ma_put S 71 (((mI S l1 4) + (1 : Int32)) + l3).toNatClampNeg (.inl (0 : Int32))) = zKu kk y.toNatClampNeg (I0 6) from by first | (exact (xK_p (c := 71) (k := (((mI S l1 4) + (1 : Int32)) + l3).toNatClampNeg) (x := (0 : Int32)) (xK_o (W := W) hi4 hi12) 71 hi5 rfl (zcw_s (by decide))).2))
        · skip
          have g46 := i_nle h31
          refine ⟨zG_n hI th_l1, ?_⟩
          have b47 := i_bd (lg_cmp ((((mL S l1 3).toUInt64 >>> (l3.toInt64.toUInt64 &&& Int64.toUInt64 63)).toInt64) &&& (1 : Int64)) (0 : Int64))
          refine zd (fun h48 => ?_) (fun h48 => ?_)
          · skip
            have g49 := i_eq h48
            have f50 := zG_th hI th_l1
            first | have e51 : ((mI S l1 4) + (1 : Int32)).toInt = (mI S l1 4).toInt + (1) := i_addk rfl (by omega) (by omega) | have b52 := i_bd ((mI S l1 4) + (1 : Int32))
            first | have e53 : (((mI S l1 4) + (1 : Int32)) + l3).toInt = ((mI S l1 4) + (1 : Int32)).toInt + l3.toInt := i_add (by omega) (by omega) | have b54 := i_bd (((mI S l1 4) + (1 : Int32)) + l3)
            refine ⟨i_ix (by omega) (by omega), ?_⟩
            have hI55 : zS f r C Z N (ma_put S 71 (((mI S l1 4) + (1 : Int32)) + l3).toNatClampNeg (.inl (0 : Int32))) := zG_fa hI rfl (by decide) (by decide) (by decide) trivial
            first | have e56 : (l3 + (1 : Int32)).toInt = l3.toInt + (1) := i_addk rfl (by omega) (by omega) | have b57 := i_bd (l3 + (1 : Int32))
            have f58 := zG_s hI (0) (512) (c := 69) (k := 6) (by decide)
            have q59 : (mI (ma_put S 71 (((mI S l1 4) + (1 : Int32)) + l3).toNatClampNeg (.inl (0 : Int32))) l1 4).toInt = (mI S l1 4).toInt := zp_fx th_l1.1 (by decide)
            have f60 := zG_th hI55 th_l1
            have q61 : (mI (ma_put S 71 (((mI S l1 4) + (1 : Int32)) + l3).toNatClampNeg (.inl (0 : Int32))) l1 2).toInt = (mI S l1 2).toInt := zp_fx th_l1.1 (by decide)
            have f62 := zG_th hI55 th_l1
            exact IH _ (by omega) _ l1 ((l3 + (1 : Int32))) rfl hI55 th_l1 (by omega) (show (mI S 69 6).toInt ≤ 511 from by omega) (show (mI (ma_put S 71 (((mI S l1 4) + (1 : Int32)) + l3).toNatClampNeg (.inl (0 : Int32))) l1 4).toInt + (mI (ma_put S 71 (((mI S l1 4) + (1 : Int32)) + l3).toNatClampNeg (.inl (0 : Int32))) l1 2).toInt ≤ 4500 from by omega) (show ((l3 + (1 : Int32))).toInt ≤ (mI (ma_put S 71 (((mI S l1 4) + (1 : Int32)) + l3).toNatClampNeg (.inl (0 : Int32))) l1 2).toInt - 1 from by omega) (show xB (ma_put S 71 (((mI S l1 4) + (1 : Int32)) + l3).toNatClampNeg (.inl (0 : Int32))) (zRu R y.toNatClampNeg (some u)) from by first | (exact (xC_p (c := 71) (k := (((mI S l1 4) + (1 : Int32)) + l3).toNatClampNeg) (x := (0 : Int32)) (xC_o (W := W) hi4) 71 hi5 rfl (zcw_s (by decide))).2)) (show xW W from by first | (exact hi5) | (exact xW88) | (exact xW75)) (show mI (ma_put S 71 (((mI S l1 4) + (1 : Int32)) + l3).toNatClampNeg (.inl (0 : Int32))) l1 = I0 from by first | (rw [zp_row th_l1.1 (by decide)]; exact hi6)) (show mL (ma_put S 71 (((mI S l1 4) + (1 : Int32)) + l3).toNatClampNeg (.inl (0 : Int32))) l1 3 = L0 from by first | (exact hi7)) (show I0 0 = y from by first | (exact hi8)) (show (0 ≤ (I0 0).toInt ∧ (I0 0).toInt ≤ 511) ∧ (1 ≤ (I0 2).toInt ∧ (I0 2).toInt ≤ 61) ∧ 0 ≤ (I0 4).toInt ∧ (I0 4).toInt + (I0 2).toInt ≤ 4500 from by first | (exact hi9)) (show l1 = u from by first | (exact hi10)) (show aS W (ma_put S 71 (((mI S l1 4) + (1 : Int32)) + l3).toNatClampNeg (.inl (0 : Int32))) = zIw (ma_u (zNw ab y.toNatClampNeg I0 L0) 71 (I0 4).toNatClampNeg y) (I0 4).toInt L0 ((l3 + (1 : Int32))).toInt from by first | (exfalso; omega) | (have i4 : mI S l1 4 = I0 4 := congrFun hi6 4; have i4i := congrArg Int32.toInt i4; have i2i := congrArg Int32.toInt (congrFun hi6 2); have bd := hi9; refine (xC_p (c := 71) (k := (((mI S l1 4) + (1 : Int32)) + l3).toNatClampNeg) (x := (0 : Int32)) (xC_o (W := W) hi4) 71 hi5 rfl (zcw_s (by decide))).1.trans ?_; rw [hi11]; exact zIw_s (by omega) (by omega) (by rw [tn_cast (by omega)]; omega) (by rw [← hi7]; exact zb_y (by assumption))) | (have i4 : mI S l1 4 = I0 4 := congrFun hi6 4; have i4i := congrArg Int32.toInt i4; have i2i := congrArg Int32.toInt (congrFun hi6 2); have bd := hi9; refine (xC_p (c := 71) (k := (((mI S l1 4) + (1 : Int32)) + l3).toNatClampNeg) (x := (0 : Int32)) (xC_o (W := W) hi4) 71 hi5 rfl (zcw_s (by decide))).1.trans ?_; rw [hi11]; exact zIw_s (by omega) (by omega) (by rw [tn_cast (by omega)]; omega) (by rw [← hi7]; exact zb_n (by assumption)))) (show kC (ma_put S 71 (((mI S l1 4) + (1 : Int32)) + l3).toNatClampNeg (.inl (0 : Int32))) = zKu kk y.toNatClampNeg (I0 6) from by first | (exact (xK_p (c := 71) (k := (((mI S l1 4) + (1 : Int32)) + l3).toNatClampNeg) (x := (0 : Int32)) (xK_o (W := W) hi4 hi12) 71 hi5 rfl (zcw_s (by decide))).2))
          · skip
            have g63 := i_ne h48
            have f64 := zG_th hI th_l1
            first | have e65 : ((mI S l1 4) + (1 : Int32)).toInt = (mI S l1 4).toInt + (1) := i_addk rfl (by omega) (by omega) | have b66 := i_bd ((mI S l1 4) + (1 : Int32))
            first | have e67 : (((mI S l1 4) + (1 : Int32)) + l3).toInt = ((mI S l1 4) + (1 : Int32)).toInt + l3.toInt := i_add (by omega) (by omega) | have b68 := i_bd (((mI S l1 4) + (1 : Int32)) + l3)
            refine ⟨i_ix (by omega) (by omega), ?_⟩
            have hI69 : zS f r C Z N (ma_put S 71 (((mI S l1 4) + (1 : Int32)) + l3).toNatClampNeg (.inl (-1 : Int32))) := zG_fa hI rfl (by decide) (by decide) (by decide) trivial
            first | have e70 : (l3 + (1 : Int32)).toInt = l3.toInt + (1) := i_addk rfl (by omega) (by omega) | have b71 := i_bd (l3 + (1 : Int32))
            have f72 := zG_s hI (0) (512) (c := 69) (k := 6) (by decide)
            have q73 : (mI (ma_put S 71 (((mI S l1 4) + (1 : Int32)) + l3).toNatClampNeg (.inl (-1 : Int32))) l1 4).toInt = (mI S l1 4).toInt := zp_fx th_l1.1 (by decide)
            have f74 := zG_th hI69 th_l1
            have q75 : (mI (ma_put S 71 (((mI S l1 4) + (1 : Int32)) + l3).toNatClampNeg (.inl (-1 : Int32))) l1 2).toInt = (mI S l1 2).toInt := zp_fx th_l1.1 (by decide)
            have f76 := zG_th hI69 th_l1
            exact IH _ (by omega) _ l1 ((l3 + (1 : Int32))) rfl hI69 th_l1 (by omega) (show (mI S 69 6).toInt ≤ 511 from by omega) (show (mI (ma_put S 71 (((mI S l1 4) + (1 : Int32)) + l3).toNatClampNeg (.inl (-1 : Int32))) l1 4).toInt + (mI (ma_put S 71 (((mI S l1 4) + (1 : Int32)) + l3).toNatClampNeg (.inl (-1 : Int32))) l1 2).toInt ≤ 4500 from by omega) (show ((l3 + (1 : Int32))).toInt ≤ (mI (ma_put S 71 (((mI S l1 4) + (1 : Int32)) + l3).toNatClampNeg (.inl (-1 : Int32))) l1 2).toInt - 1 from by omega) (show xB (ma_put S 71 (((mI S l1 4) + (1 : Int32)) + l3).toNatClampNeg (.inl (-1 : Int32))) (zRu R y.toNatClampNeg (some u)) from by first | (exact (xC_p (c := 71) (k := (((mI S l1 4) + (1 : Int32)) + l3).toNatClampNeg) (x := (-1 : Int32)) (xC_o (W := W) hi4) 71 hi5 rfl (zcw_s (by decide))).2)) (show xW W from by first | (exact hi5) | (exact xW88) | (exact xW75)) (show mI (ma_put S 71 (((mI S l1 4) + (1 : Int32)) + l3).toNatClampNeg (.inl (-1 : Int32))) l1 = I0 from by first | (rw [zp_row th_l1.1 (by decide)]; exact hi6)) (show mL (ma_put S 71 (((mI S l1 4) + (1 : Int32)) + l3).toNatClampNeg (.inl (-1 : Int32))) l1 3 = L0 from by first | (exact hi7)) (show I0 0 = y from by first | (exact hi8)) (show (0 ≤ (I0 0).toInt ∧ (I0 0).toInt ≤ 511) ∧ (1 ≤ (I0 2).toInt ∧ (I0 2).toInt ≤ 61) ∧ 0 ≤ (I0 4).toInt ∧ (I0 4).toInt + (I0 2).toInt ≤ 4500 from by first | (exact hi9)) (show l1 = u from by first | (exact hi10)) (show aS W (ma_put S 71 (((mI S l1 4) + (1 : Int32)) + l3).toNatClampNeg (.inl (-1 : Int32))) = zIw (ma_u (zNw ab y.toNatClampNeg I0 L0) 71 (I0 4).toNatClampNeg y) (I0 4).toInt L0 ((l3 + (1 : Int32))).toInt from by first | (exfalso; omega) | (have i4 : mI S l1 4 = I0 4 := congrFun hi6 4; have i4i := congrArg Int32.toInt i4; have i2i := congrArg Int32.toInt (congrFun hi6 2); have bd := hi9; refine (xC_p (c := 71) (k := (((mI S l1 4) + (1 : Int32)) + l3).toNatClampNeg) (x := (-1 : Int32)) (xC_o (W := W) hi4) 71 hi5 rfl (zcw_s (by decide))).1.trans ?_; rw [hi11]; exact zIw_s (by omega) (by omega) (by rw [tn_cast (by omega)]; omega) (by rw [← hi7]; exact zb_y (by assumption))) | (have i4 : mI S l1 4 = I0 4 := congrFun hi6 4; have i4i := congrArg Int32.toInt i4; have i2i := congrArg Int32.toInt (congrFun hi6 2); have bd := hi9; refine (xC_p (c := 71) (k := (((mI S l1 4) + (1 : Int32)) + l3).toNatClampNeg) (x := (-1 : Int32)) (xC_o (W := W) hi4) 71 hi5 rfl (zcw_s (by decide))).1.trans ?_; rw [hi11]; exact zIw_s (by omega) (by omega) (by rw [tn_cast (by omega)]; omega) (by rw [← hi7]; exact zb_n (by assumption)))) (show kC (ma_put S 71 (((mI S l1 4) + (1 : Int32)) + l3).toNatClampNeg (.inl (-1 : Int32))) = zKu kk y.toNatClampNeg (I0 6) from by first | (exact (xK_p (c := 71) (k := (((mI S l1 4) + (1 : Int32)) + l3).toNatClampNeg) (x := (-1 : Int32)) (xK_o (W := W) hi4 hi12) 71 hi5 rfl (zcw_s (by decide))).2))
theorem sp_91_69_sk {X : Nat × (Nat → Int32)} {d w : Nat} {f : Nat → Nat → Int32} {r : Nat → Nat → Option Nat} {C Z N : Nat} {Q : Option ma_V ⊕ Nat → ma_S → Prop} {ab : Nat→Nat→Int32} {R : zRT} {W : Nat} {y : Int32} {I0 : Nat→Int32} {L0 : Int64} {u : Nat} {kk : Nat→Int32} {S : ma_S} (t : Nat) (hd : 2 ≤ d) (hw : 42 ≤ w) (hI : zS f r C Z N S) (th_t : 126 ≤ t ∧ t < N) (hpre0 : (mI S 69 6).toInt ≤ 511) (hpre1 : xB S R) (hpre2 : aS W S = ab) (hpre3 : xW W) (hpre4 : mI S t = I0) (hpre5 : mL S t 3 = L0) (hpre6 : I0 0 = y) (hpre7 : (0 ≤ (I0 0).toInt ∧ (I0 0).toInt ≤ 511) ∧ (1 ≤ (I0 2).toInt ∧ (I0 2).toInt ≤ 61) ∧ 0 ≤ (I0 4).toInt ∧ (I0 4).toInt + (I0 2).toInt ≤ 4500) (hpre8 : t = u) (hpre9 : kC S = kk) (K : ∀ S₉, zS f r C Z N S₉ → (xB S₉ (zRu R y.toNatClampNeg (some u))) → (aS W S₉ = aAd ab y I0 L0) → (kC S₉ = zKu kk y.toNatClampNeg (I0 6)) → Q (.inl none) S₉) : ma_wp X d w 91 0 [(0, .inr (.inr (some 69))), (1, .inr (.inr (some t)))] [] S Q := by
  refine g_91_69_sk_0 t (by omega) (by omega) (zG_T hI) ?_
  refine ⟨zG_n hI th_t, ?_⟩
  refine ⟨zG_n hI th_t, ?_⟩
  refine ⟨zG_n hI th_t, ?_⟩
  have li1 : (512 : Int32).toInt = 512 := rfl
  have f2 := zG_th hI th_t
  refine zd (fun h3 => ?_) (fun h3 => ?_)
  · skip
    have g4 := i_le h3
    exact K _ hI (show xB S (zRu R y.toNatClampNeg (some u)) from by first | (exfalso; omega) | (exfalso; have j2 := congrArg Int32.toInt (congrFun hpre4 2); have j4 := congrArg Int32.toInt (congrFun hpre4 4); have bd := hpre7; omega) | (have i0 : mI S t 0 = I0 0 := congrFun hpre4 0; have i2 : mI S t 2 = I0 2 := congrFun hpre4 2; have i4 : mI S t 4 = I0 4 := congrFun hpre4 4; have bd := hpre7; have hn5 : (mI S t 0).toNatClampNeg < 512 := (by have q := tn_cast (x := mI S t 0) (by rw [i0]; omega); rw [i0] at q ⊢; omega); have hnu : mI S t 0 = Int32.ofNat (mI S t 0).toNatClampNeg := (ofN_tn (by rw [i0]; omega)).symm; rw [← hpre6, ← i0, ← hpre8]; exact (xC_o (W := W) hpre1).2)) (show aS W S = aAd ab y I0 L0 from by first | (exfalso; omega) | (exfalso; have j2 := congrArg Int32.toInt (congrFun hpre4 2); have j4 := congrArg Int32.toInt (congrFun hpre4 4); have bd := hpre7; omega)) (show kC S = zKu kk y.toNatClampNeg (I0 6) from by first | (exfalso; omega) | (exfalso; have j2 := congrArg Int32.toInt (congrFun hpre4 2); have j4 := congrArg Int32.toInt (congrFun hpre4 4); have bd := hpre7; omega))
  · skip
    have g5 := i_nle h3
    refine ⟨zG_n hI th_t, ?_⟩
    have f6 := zG_th hI th_t
    have li7 : (0 : Int32).toInt = 0 := rfl
    refine zd (fun h8 => ?_) (fun h8 => ?_)
    · skip
      have g9 := i_lt h8
      exact K _ hI (show xB S (zRu R y.toNatClampNeg (some u)) from by first | (exfalso; omega) | (exfalso; have j2 := congrArg Int32.toInt (congrFun hpre4 2); have j4 := congrArg Int32.toInt (congrFun hpre4 4); have bd := hpre7; omega) | (have i0 : mI S t 0 = I0 0 := congrFun hpre4 0; have i2 : mI S t 2 = I0 2 := congrFun hpre4 2; have i4 : mI S t 4 = I0 4 := congrFun hpre4 4; have bd := hpre7; have hn5 : (mI S t 0).toNatClampNeg < 512 := (by have q := tn_cast (x := mI S t 0) (by rw [i0]; omega); rw [i0] at q ⊢; omega); have hnu : mI S t 0 = Int32.ofNat (mI S t 0).toNatClampNeg := (ofN_tn (by rw [i0]; omega)).symm; rw [← hpre6, ← i0, ← hpre8]; exact (xC_o (W := W) hpre1).2)) (show aS W S = aAd ab y I0 L0 from by first | (exfalso; omega) | (exfalso; have j2 := congrArg Int32.toInt (congrFun hpre4 2); have j4 := congrArg Int32.toInt (congrFun hpre4 4); have bd := hpre7; omega)) (show kC S = zKu kk y.toNatClampNeg (I0 6) from by first | (exfalso; omega) | (exfalso; have j2 := congrArg Int32.toInt (congrFun hpre4 2); have j4 := congrArg Int32.toInt (congrFun hpre4 4); have bd := hpre7; omega))
    · skip
      have g10 := i_nlt h8
      have f11 := zG_th hI th_t
      first | have e12 : ((mI S t 4) + (mI S t 2)).toInt = (mI S t 4).toInt + (mI S t 2).toInt := i_add (by omega) (by omega) | have b13 := i_bd ((mI S t 4) + (mI S t 2))
      have li14 : (4500 : Int32).toInt = 4500 := rfl
      refine zd (fun h15 => ?_) (fun h15 => ?_)
      · skip
        have g16 := i_le h15
        refine ⟨zG_n hI th_t, ?_⟩
        refine ⟨i_ix (by omega) (by omega), ?_⟩
        refine ⟨zG_n hI th_t, ?_⟩
        have hI17 : zS f r C Z N (ma_put S 70 (mI S t 0).toNatClampNeg (.inr (.inr (some t)))) := zG_rf hI (by decide) (by decide +kernel) (fun _ z => by cases z; exact th_t)
        refine ⟨zG_n hI17 th_t, ?_⟩
        refine ⟨zG_n hI17 th_t, ?_⟩
        refine ⟨i_ix (by omega) (by omega), ?_⟩
        have hI18 : zS f r C Z N (ma_put (ma_put S 70 (mI S t 0).toNatClampNeg (.inr (.inr (some t)))) 71 (mI S t 4).toNatClampNeg (.inl (mI S t 0))) := zG_fa hI17 rfl (by decide) (by decide) (by decide) trivial
        have f19 := zG_s hI (0) (512) (c := 69) (k := 6) (by decide)
        have q20 : (mI (ma_put (ma_put S 70 (mI S t 0).toNatClampNeg (.inr (.inr (some t)))) 71 (mI S t 4).toNatClampNeg (.inl (mI S t 0))) t 4).toInt = (mI S t 4).toInt := zp_fx th_t.1 (by decide)
        have f21 := zG_th hI18 th_t
        have q22 : (mI (ma_put (ma_put S 70 (mI S t 0).toNatClampNeg (.inr (.inr (some t)))) 71 (mI S t 4).toNatClampNeg (.inl (mI S t 0))) t 2).toInt = (mI S t 2).toInt := zp_fx th_t.1 (by decide)
        have f23 := zG_th hI18 th_t
        exact lp_91_69_sk_60 (by omega) (by omega) K _ _ t ((0 : Int32)) rfl hI18 th_t (by omega) (show (mI S 69 6).toInt ≤ 511 from by omega) (show (mI (ma_put (ma_put S 70 (mI S t 0).toNatClampNeg (.inr (.inr (some t)))) 71 (mI S t 4).toNatClampNeg (.inl (mI S t 0))) t 4).toInt + (mI (ma_put (ma_put S 70 (mI S t 0).toNatClampNeg (.inr (.inr (some t)))) 71 (mI S t 4).toNatClampNeg (.inl (mI S t 0))) t 2).toInt ≤ 4500 from by omega) (show ((0 : Int32)).toInt ≤ (mI (ma_put (ma_put S 70 (mI S t 0).toNatClampNeg (.inr (.inr (some t)))) 71 (mI S t 4).toNatClampNeg (.inl (mI S t 0))) t 2).toInt - 1 from by omega) (show xB (ma_put (ma_put S 70 (mI S t 0).toNatClampNeg (.inr (.inr (some t)))) 71 (mI S t 4).toNatClampNeg (.inl (mI S t 0))) (zRu R y.toNatClampNeg (some u)) from by first | (exfalso; omega) | (exfalso; have j2 := congrArg Int32.toInt (congrFun hpre4 2); have j4 := congrArg Int32.toInt (congrFun hpre4 4); have bd := hpre7; omega) | (have i0 : mI S t 0 = I0 0 := congrFun hpre4 0; have i2 : mI S t 2 = I0 2 := congrFun hpre4 2; have i4 : mI S t 4 = I0 4 := congrFun hpre4 4; have bd := hpre7; have hn5 : (mI S t 0).toNatClampNeg < 512 := (by have q := tn_cast (x := mI S t 0) (by rw [i0]; omega); rw [i0] at q ⊢; omega); have hnu : mI S t 0 = Int32.ofNat (mI S t 0).toNatClampNeg := (ofN_tn (by rw [i0]; omega)).symm; rw [← hpre6, ← i0, ← hpre8]; exact (xC_p (c := 71) (k := (mI S t 4).toNatClampNeg) (x := (mI S t 0)) (xC_s (xC_o (W := W) hpre1) th_t.1 (n := (mI S t 0).toNatClampNeg) (c := t) hn5 hnu) 71 hpre3 rfl (zcw_s (by decide))).2)) (show xW W from by first | (exact hpre3) | (exact xW88) | (exact xW75)) (show mI (ma_put (ma_put S 70 (mI S t 0).toNatClampNeg (.inr (.inr (some t)))) 71 (mI S t 4).toNatClampNeg (.inl (mI S t 0))) t = I0 from by first | (rw [zp_row th_t.1 (by decide)]; exact hpre4)) (show mL (ma_put (ma_put S 70 (mI S t 0).toNatClampNeg (.inr (.inr (some t)))) 71 (mI S t 4).toNatClampNeg (.inl (mI S t 0))) t 3 = L0 from by first | (exact hpre5)) (show I0 0 = y from by first | (exact hpre6)) (show (0 ≤ (I0 0).toInt ∧ (I0 0).toInt ≤ 511) ∧ (1 ≤ (I0 2).toInt ∧ (I0 2).toInt ≤ 61) ∧ 0 ≤ (I0 4).toInt ∧ (I0 4).toInt + (I0 2).toInt ≤ 4500 from by first | (exact hpre7)) (show t = u from by first | (exact hpre8)) (show aS W (ma_put (ma_put S 70 (mI S t 0).toNatClampNeg (.inr (.inr (some t)))) 71 (mI S t 4).toNatClampNeg (.inl (mI S t 0))) = zIw (ma_u (zNw ab y.toNatClampNeg I0 L0) 71 (I0 4).toNatClampNeg y) (I0 4).toInt L0 ((0 : Int32)).toInt from by first | (exfalso; omega) | (have i0 : mI S t 0 = I0 0 := congrFun hpre4 0; have i2 : mI S t 2 = I0 2 := congrFun hpre4 2; have i4 : mI S t 4 = I0 4 := congrFun hpre4 4; have bd := hpre7; have hn5 : (mI S t 0).toNatClampNeg < 512 := (by have q := tn_cast (x := mI S t 0) (by rw [i0]; omega); rw [i0] at q ⊢; omega); have hnu : mI S t 0 = Int32.ofNat (mI S t 0).toNatClampNeg := (ofN_tn (by rw [i0]; omega)).symm; refine (xC_p (c := 71) (k := (mI S t 4).toNatClampNeg) (x := (mI S t 0)) (xC_s (xC_o (W := W) hpre1) th_t.1 (n := (mI S t 0).toNatClampNeg) (c := t) hn5 hnu) 71 hpre3 rfl (zcw_s (by decide))).1.trans ?_; (try simp only [zp_e (c₉ := 70) th_t.1 (by decide), zp_e (c₉ := 71) th_t.1 (by decide), zp_r]); rw [hpre2, hpre4, hpre5, hpre6]; exact zIw_0.symm)) (show kC (ma_put (ma_put S 70 (mI S t 0).toNatClampNeg (.inr (.inr (some t)))) 71 (mI S t 4).toNatClampNeg (.inl (mI S t 0))) = zKu kk y.toNatClampNeg (I0 6) from by first | (exfalso; omega) | (have i0 : mI S t 0 = I0 0 := congrFun hpre4 0; have i2 : mI S t 2 = I0 2 := congrFun hpre4 2; have i4 : mI S t 4 = I0 4 := congrFun hpre4 4; have bd := hpre7; have hn5 : (mI S t 0).toNatClampNeg < 512 := (by have q := tn_cast (x := mI S t 0) (by rw [i0]; omega); rw [i0] at q ⊢; omega); have hnu : mI S t 0 = Int32.ofNat (mI S t 0).toNatClampNeg := (ofN_tn (by rw [i0]; omega)).symm; have i6 : mI S t 6 = I0 6 := congrFun hpre4 6; refine (xK_p (c := 71) (k := (mI S t 4).toNatClampNeg) (x := (mI S t 0)) (xK_s (xK_o (W := W) hpre1 hpre9) th_t.1 (n := (mI S t 0).toNatClampNeg) (c := t) hn5 hnu) 71 hpre3 rfl (zcw_s (by decide))).2.trans ?_; rw [i0, hpre6, i6]))
      · skip
        have g24 := i_nle h15
        exact K _ hI (show xB S (zRu R y.toNatClampNeg (some u)) from by first | (exfalso; omega) | (exfalso; have j2 := congrArg Int32.toInt (congrFun hpre4 2); have j4 := congrArg Int32.toInt (congrFun hpre4 4); have bd := hpre7; omega) | (have i0 : mI S t 0 = I0 0 := congrFun hpre4 0; have i2 : mI S t 2 = I0 2 := congrFun hpre4 2; have i4 : mI S t 4 = I0 4 := congrFun hpre4 4; have bd := hpre7; have hn5 : (mI S t 0).toNatClampNeg < 512 := (by have q := tn_cast (x := mI S t 0) (by rw [i0]; omega); rw [i0] at q ⊢; omega); have hnu : mI S t 0 = Int32.ofNat (mI S t 0).toNatClampNeg := (ofN_tn (by rw [i0]; omega)).symm; rw [← hpre6, ← i0, ← hpre8]; exact (xC_o (W := W) hpre1).2)) (show aS W S = aAd ab y I0 L0 from by first | (exfalso; omega) | (exfalso; have j2 := congrArg Int32.toInt (congrFun hpre4 2); have j4 := congrArg Int32.toInt (congrFun hpre4 4); have bd := hpre7; omega)) (show kC S = zKu kk y.toNatClampNeg (I0 6) from by first | (exfalso; omega) | (exfalso; have j2 := congrArg Int32.toInt (congrFun hpre4 2); have j4 := congrArg Int32.toInt (congrFun hpre4 4); have bd := hpre7; omega))

/-! from 95.m50 -/
/-! COUNTS, the class (written by wip/tools/gen20k.py) -/
theorem g_110_84_sk_0 {X : Nat × (Nat → Int32)} {d w : Nat} {S : ma_S} {Q : Option ma_V ⊕ Nat → ma_S → Prop} (t : Nat) (hd : 0 ≤ d) (hw : 0 ≤ w) (hS : zT S) (h : (126 ≤ t ∧ t < mN S) ∧ ((126 ≤ t ∧ t < mN S) ∧ (Q (.inl none) (ma_put S 84 2 (.inl ((mI S t 4) + (mI S t 2))))))) : ma_wp X d w 110 0 [(0, .inr (.inr (some 84))), (1, .inr (.inr (some t)))] [] S Q := by
  refine zw_push hm_110 dX8_noteMade_0 (v := .inr (.inr (some 84))) rfl ?_
  refine zw_push hm_110 dX8_noteMade_1 (v := .inr (.inr (some t))) rfl ?_
  obtain ⟨hg, h⟩ := h
  refine zw_gf hm_110 dX8_noteMade_2 (v := .inl (mI S t 4)) (zT_tis hS hg) (zT_tt hS hg) rfl f_8_29_9 rfl ?_
  refine zw_push hm_110 dX8_noteMade_5 (v := .inr (.inr (some t))) rfl ?_
  obtain ⟨hg, h⟩ := h
  refine zw_gf hm_110 dX8_noteMade_6 (v := .inl (mI S t 2)) (zT_tis hS hg) (zT_tt hS hg) rfl f_8_34_9 rfl ?_
  refine zw_stk hm_110 dX8_noteMade_9 (st₉ := [.inl ((mI S t 4) + (mI S t 2)), .inr (.inr (some 84))]) rfl rfl ?_
  refine zw_pf hm_110 dX8_noteMade_10 (zT_is hS s_84) (zT_t hS s_84) p_8_18_2 zk_int ?_
  exact zw_vret hm_110 dX8_noteMade_13 h
theorem sp_110_84_sk {X : Nat × (Nat → Int32)} {d w : Nat} {f : Nat → Nat → Int32} {r : Nat → Nat → Option Nat} {C Z N : Nat} {Q : Option ma_V ⊕ Nat → ma_S → Prop} {ab : Nat→Nat→Int32} {R : zRT} {y : Int32} {kk : Nat→Int32} {S : ma_S} (t : Nat) (hd : 0 ≤ d) (hw : 0 ≤ w) (hI : zJ84 f r C Z N S) (th_t : 126 ≤ t ∧ t < N) (hpre0 : xB S R) (hpre1 : aT 84 S = ab) (hpre2 : zTa R y = some t) (hpre3 : kC S = kk) (K : ∀ S₉, zJ84 f r C Z N S₉ → (xB S₉ R) → (aT 84 S₉ = ma_u ab 87 2 (ab 130 y.toNatClampNeg + ab 128 y.toNatClampNeg)) → (kC S₉ = kk) → Q (.inl none) S₉) : ma_wp X d w 110 0 [(0, .inr (.inr (some 84))), (1, .inr (.inr (some t)))] [] S Q := by
  refine g_110_84_sk_0 t (by omega) (by omega) (zG_T hI) ?_
  refine ⟨zG_n hI th_t, ?_⟩
  refine ⟨zG_n hI th_t, ?_⟩
  have f2 := zG_th hI th_t
  have f3 := zG_th hI th_t
  first | have e4 : ((mI S t 4) + (mI S t 2)).toInt = (mI S t 4).toInt + (mI S t 2).toInt := i_add (by omega) (by omega) | have b5 := i_bd ((mI S t 4) + (mI S t 2))
  have hI1 : zJ84 f r C Z N (ma_put S 84 2 (.inl ((mI S t 4) + (mI S t 2)))) := zG_sp hI (0) (400000) rfl (by decide) (by decide) (by decide) trivial (by omega) (by omega)
  exact K _ hI1 (show xB (ma_put S 84 2 (.inl ((mI S t 4) + (mI S t 2)))) R from by first | (exact (xC_n (c := 84) (k := 2) (x := ((mI S t 4) + (mI S t 2))) (xC_o (W := 75) hpre0) ⟨by decide, Or.inl ⟨rfl, rfl⟩⟩).2)) (show aT 84 (ma_put S 84 2 (.inl ((mI S t 4) + (mI S t 2)))) = ma_u ab 87 2 (ab 130 y.toNatClampNeg + ab 128 y.toNatClampNeg) from by first | (have ty := xB_th (W := 75) hpre0 hpre2; have f2 : mI S t 2 = ab 128 y.toNatClampNeg := (by rw [← hpre1, aT_o (by decide)]; exact ty.2.2.2.2.1); have f4 : mI S t 4 = ab 130 y.toNatClampNeg := (by rw [← hpre1, aT_o (by decide)]; exact ty.2.2.2.2.2.1); refine (aT_p4 hpre0).trans ?_; rw [f2, f4, hpre1])) (show kC (ma_put S 84 2 (.inl ((mI S t 4) + (mI S t 2)))) = kk from by first | (exact (xK_n (c := 84) (k := 2) (x := ((mI S t 4) + (mI S t 2))) (xK_o (W := 75) hpre0 hpre3) ⟨by decide, Or.inl ⟨rfl, rfl⟩⟩).2))
theorem g_143_64_sk_64 {X : Nat × (Nat → Int32)} {d w : Nat} {S : ma_S} {Q : Option ma_V ⊕ Nat → ma_S → Prop} (l5 : Int32) (l8 : Nat) (hd : 7 ≤ d) (hw : 182 ≤ w) (hS : zT S) (h : ma_wp X (d - 1) (w - 23) 91 0 [(0, .inr (.inr (some 69))), (1, .inr (.inr (some l8)))] [] S (zv (fun S1 => zT S1 ∧ (ma_wp X (d - 1) (w - 21) 110 0 [(0, .inr (.inr (some 84))), (1, .inr (.inr (some l8)))] [] S1 (zv (fun S3 => zT S3 ∧ (ma_wp X (d - 1) (w - 24) 145 0 [(0, .inr (.inr (some 64))), (1, .inr (.inr (some 84))), (2, .inl l5), (3, .inr (.inr (some l8)))] [] S3 (zo (fun v6 S5 => zT S5 ∧ ((126 ≤ l8 ∧ l8 < mN S5) ∧ (Q (.inl (some (.inl (mI S5 l8 0)))) S5))) (fun x S9 => Q (.inr x) S9)))) (fun _ _ => False)))) (fun x S9 => Q (.inr x) S9))) : ma_wp X d w 143 64 [(0, .inr (.inr (some 64))), (5, .inl l5), (6, .inr (.inr (some 84))), (8, .inr (.inr (some l8)))] [] S Q := by
  refine zw_push hm_143 dX11_addObject_64 (v := .inr (.inr (some 64))) rfl ?_
  refine zw_gf hm_143 dX11_addObject_65 (v := .inr (.inr (some 69))) (zT_is hS s_64) (zT_t hS s_64) rfl f_11_26_11 (zT_f hS r_64_8) ?_
  refine zw_push hm_143 dX11_addObject_68 (v := .inr (.inr (some l8))) rfl ?_
  refine zw_cv hm_143 dX11_addObject_70 v_11_373_7 hm_91 [.inr (.inr (some l8))] [] rfl (zT_rt hS s_69 rfl) ⟨by omega, by omega⟩ rfl (zw_mono h (zv_go ?_ ?_))
  · intro S1 hv
    obtain ⟨hS1, h⟩ := hv
    refine zw_push hm_143 dX11_addObject_73 (v := .inr (.inr (some 84))) rfl ?_
    refine zw_push hm_143 dX11_addObject_75 (v := .inr (.inr (some l8))) rfl ?_
    refine zw_cv hm_143 dX11_addObject_77 v_11_376_2 hm_110 [.inr (.inr (some l8))] [] rfl (zT_rt hS1 s_84 rfl) ⟨by omega, by omega⟩ rfl (zw_mono h (zv_go ?_ ?_))
    · intro S3 hv
      obtain ⟨hS3, h⟩ := hv
      refine zw_push hm_143 dX11_addObject_80 (v := .inr (.inr (some 64))) rfl ?_
      refine zw_push hm_143 dX11_addObject_81 (v := .inr (.inr (some 84))) rfl ?_
      refine zw_push hm_143 dX11_addObject_83 (v := .inl l5) rfl ?_
      refine zw_push hm_143 dX11_addObject_85 (v := .inr (.inr (some l8))) rfl ?_
      refine zw_cv hm_143 dX11_addObject_87 v_11_169_11 hm_145 [.inr (.inr (some l8)), .inl l5, .inr (.inr (some 84))] [] rfl (zT_rt hS3 s_64 rfl) ⟨by omega, by omega⟩ rfl (zw_mono h (zo_go ?_ ?_))
      · intro v6 S5 hv
        obtain ⟨hS5, h⟩ := hv
        refine zw_stk hm_143 dX11_addObject_90 (st₉ := []) rfl rfl ?_
        refine zw_push hm_143 dX11_addObject_91 (v := .inr (.inr (some l8))) rfl ?_
        obtain ⟨hg, h⟩ := h
        refine zw_gf hm_143 dX11_addObject_93 (v := .inl (mI S5 l8 0)) (zT_tis hS5 hg) (zT_tt hS5 hg) rfl f_11_182_9 rfl ?_
        exact zw_iret hm_143 dX11_addObject_96 h
      · intro x S9 hx
        exact ⟨by decide, hx⟩
    · intro x S9 hx
      exact hx.elim
  · intro x S9 hx
    exact ⟨by decide, hx⟩
theorem sg_143_64_sk_64 {X : Nat × (Nat → Int32)} {d w : Nat} {f : Nat → Nat → Int32} {r : Nat → Nat → Option Nat} {C Z N : Nat} {Q : Option ma_V ⊕ Nat → ma_S → Prop} {ab : Nat→Nat→Int32} {R : zRT} {y : Int32} {I0 : Nat→Int32} {L0 : Int64} {kk : Nat→Int32} {B : Int} {S : ma_S} (l5 : Int32) (l8 : Nat) (hd : 7 ≤ d) (hw : 182 ≤ w) (hI : zB f r C Z N S) (th_l8 : 126 ≤ l8 ∧ l8 < N) (hpre0 : (mI S 69 6).toInt ≤ 511) (hpre1 : xB S R) (hpre2 : aT 84 S = ab) (hpre3 : mI S l8 = I0) (hpre4 : mL S l8 3 = L0) (hpre5 : I0 0 = y) (hpre6 : (0 ≤ (I0 0).toInt ∧ (I0 0).toInt ≤ 511) ∧ (1 ≤ (I0 2).toInt ∧ (I0 2).toInt ≤ 61) ∧ 0 ≤ (I0 4).toInt ∧ (I0 4).toInt + (I0 2).toInt ≤ 4500) (hpre7 : 0 ≤ y.toInt ∧ y.toInt < 512) (hpre8 : 0 ≤ l5.toInt) (hpre9 : l5.toInt ≤ 15) (hpre10 : kC S = kk) (hpre11 : I0 6 = 0) (hpre12 : cC (aMd (aAd ab y I0 L0) y) [] (zKu kk y.toNatClampNeg 0) B) (hpre13 : B ≤ 1000000) (K : ∀ v S₉, zB f r C Z N S₉ → (True) → (xB S₉ (mR S₉ 70)) → (aT 84 S₉ = cLe (aR0 (aMd (aAd ab y I0 L0) y) l5 y) (ab 72 l5.toNatClampNeg) ∧ v = y) → (cC (aT 84 S₉) [] (kC S₉) B) → Q (.inl (some (.inl v))) S₉) : ma_wp X d w 143 64 [(0, .inr (.inr (some 64))), (5, .inl l5), (6, .inr (.inr (some 84))), (8, .inr (.inr (some l8)))] [] S Q := by
  refine g_143_64_sk_64 l5 l8 (by omega) (by omega) (zG_T hI) ?_
  have f1 := zG_s hI (0) (512) (c := 69) (k := 6) (by decide)
  refine sp_91_69_sk (ab := (aS 75 S)) (R := R) (W := 75) (y := y) (I0 := I0) (L0 := L0) (u := l8) (kk := (kC S)) l8 (by omega) (by omega) (zB_dn_zS hI) th_l8 (show (mI S 69 6).toInt ≤ 511 from by omega) (show xB S R from by first | (exact (xC_o (W := 75) hpre1).2)) (show aS 75 S = (aS 75 S) from by first | (exact rfl)) (show xW 75 from by first | (exact xW88) | (exact xW75)) (show mI S l8 = I0 from by first | (exact rfl) | (exact hpre3)) (show mL S l8 3 = L0 from by first | (exact rfl) | (exact hpre4)) (show I0 0 = y from by first | (exact rfl) | (exact hpre5)) (show (0 ≤ (I0 0).toInt ∧ (I0 0).toInt ≤ 511) ∧ (1 ≤ (I0 2).toInt ∧ (I0 2).toInt ≤ 61) ∧ 0 ≤ (I0 4).toInt ∧ (I0 4).toInt + (I0 2).toInt ≤ 4500 from by first | (exact hpre6) | (omega)) (show l8 = l8 from by first | (exact rfl)) (show kC S = (kC S) from by first | (exact rfl)) (fun S1 hL_S1 rp0_S1 rp1_S1 rp2_S1 => zv_n ⟨zG_T hL_S1, ?_⟩)
  have hI_S1 := zB_up_zS hI hL_S1
  have rp0_S1 : xB S1 (zRu R y.toNatClampNeg (some l8)) := by
    have z := rp0_S1
    (try rw [show mI S 65 = f 65 from funext (fun k => zG_z hI rfl)] at z)
    (try rw [show mI S 64 1 = f 64 1 from zG_z hI rfl] at z)
    exact z
  have rp1_S1 : aS 75 S1 = aAd (aS 75 S) y I0 L0 := by
    have z := rp1_S1
    (try rw [show mI S 65 = f 65 from funext (fun k => zG_z hI rfl)] at z)
    (try rw [show mI S 64 1 = f 64 1 from zG_z hI rfl] at z)
    exact z
  have rp2_S1 : kC S1 = zKu (kC S) y.toNatClampNeg (I0 6) := by
    have z := rp2_S1
    (try rw [show mI S 65 = f 65 from funext (fun k => zG_z hI rfl)] at z)
    (try rw [show mI S 64 1 = f 64 1 from zG_z hI rfl] at z)
    exact z
  refine sp_110_84_sk (ab := (aT 84 S1)) (R := (zRu R y.toNatClampNeg (some l8))) (y := (y)) (kk := (kC S1)) l8 (by omega) (by omega) (zB_dn_zJ84 hI_S1) th_l8 (show xB S1 (zRu R y.toNatClampNeg (some l8)) from by first | (exact (xC_o (W := 75) rp0_S1).2)) (show aT 84 S1 = (aT 84 S1) from by first | (exact rfl)) (show zTa (zRu R y.toNatClampNeg (some l8)) (y) = some l8 from by first | (exact (zTa_u (R := R) (c := l8) hpre7.1 hpre7.2))) (show kC S1 = (kC S1) from by first | (exact rfl)) (fun S3 hL_S3 rp0_S3 rp1_S3 rp2_S3 => zv_n ⟨zG_T hL_S3, ?_⟩)
  have hI_S3 := zB_up_zJ84 hI_S1 hL_S3
  have rp0_S3 : xB S3 (zRu R y.toNatClampNeg (some l8)) := by
    have z := rp0_S3
    (try rw [show mI S1 65 = f 65 from funext (fun k => zG_z hI_S1 rfl)] at z)
    (try rw [show mI S1 64 1 = f 64 1 from zG_z hI_S1 rfl] at z)
    exact z
  have rp1_S3 : aT 84 S3 = ma_u (aT 84 S1) 87 2 ((aT 84 S1) 130 (y).toNatClampNeg + (aT 84 S1) 128 (y).toNatClampNeg) := by
    have z := rp1_S3
    (try rw [show mI S1 65 = f 65 from funext (fun k => zG_z hI_S1 rfl)] at z)
    (try rw [show mI S1 64 1 = f 64 1 from zG_z hI_S1 rfl] at z)
    exact z
  have rp2_S3 : kC S3 = (kC S1) := by
    have z := rp2_S3
    (try rw [show mI S1 65 = f 65 from funext (fun k => zG_z hI_S1 rfl)] at z)
    (try rw [show mI S1 64 1 = f 64 1 from zG_z hI_S1 rfl] at z)
    exact z
  have b2 := i_bd l5
  refine sp_145_64_84_sk (ab := (aS 75 S3)) (R := (zRu R y.toNatClampNeg (some l8))) (W := 75) (y := (y)) (kk := (kC S3)) (B := B) (fq := (zfP 84 (mI S3))) (n0 := (zN0 S3)) (l5) ((some l8)) (by omega) (by omega) (zB_dn_zJ84 hI_S3) (fun _ z => by cases z; exact th_l8) (show xB S3 (zRu R y.toNatClampNeg (some l8)) from by first | (exact (xC_o (W := 75) rp0_S3).2)) (show aS 75 S3 = (aS 75 S3) from by first | (exact rfl)) (show xW 75 from by first | (exact xW88) | (exact xW75)) (show (some l8) = zTa (zRu R y.toNatClampNeg (some l8)) (y) from by first | (exact (zTa_u (R := R) (c := l8) hpre7.1 hpre7.2).symm)) (by omega) (by omega) (show kC S3 = (kC S3) from by first | (exact rfl)) (show cC (aS 75 S3) [] (kC S3) B from by first | (have s1 := T_ad (P := 84) rp1_S1 (zf_84 (show mI S1 84 = mI S 84 from funext (fun _ => zG_z hL_S1 rfl))); rw [hpre2] at s1; have s2 := rp1_S3; rw [← aMd_n T_8, s1] at s2; have k2 := rp2_S3.trans rp2_S1; rw [hpre10, hpre11] at k2; have cc : cC (aS 75 S3) [] (kC S3) B := C_o8 (T_o8 (P := 84)) (by rw [s2, k2]; exact hpre12); exact cc)) (show B ≤ 1000000 from by first | (exact hpre13)) (show zfP 84 (mI S3) = (zfP 84 (mI S3)) from by first | (exact rfl)) (show zN0 S3 = (zN0 S3) from by first | (exact rfl)) (fun v6 S5 hL_S5 hq_v6 rp0_S5 rp1_S5 rp2_S5 rp3_S5 rp4_S5 rp5_S5 => zo_n ⟨zG_T hL_S5, ?_⟩)
  have hI_S5 := zB_up_zJ84 hI_S3 hL_S5
  have rp0_S5 : xB S5 (mR S5 70) := by
    have z := rp0_S5
    (try rw [show mI S3 65 = f 65 from funext (fun k => zG_z hI_S3 rfl)] at z)
    (try rw [show mI S3 64 1 = f 64 1 from zG_z hI_S3 rfl] at z)
    exact z
  have rp1_S5 : aS 75 S5 = cLe (aR0 (aS 75 S3) l5 (y)) ((aS 75 S3) 72 l5.toNatClampNeg) := by
    have z := rp1_S5
    (try rw [show mI S3 65 = f 65 from funext (fun k => zG_z hI_S3 rfl)] at z)
    (try rw [show mI S3 64 1 = f 64 1 from zG_z hI_S3 rfl] at z)
    exact z
  have rp2_S5 : v6 = zTa (zRu R y.toNatClampNeg (some l8)) ((aS 75 S3) 72 l5.toNatClampNeg) := by
    have z := rp2_S5
    (try rw [show mI S3 65 = f 65 from funext (fun k => zG_z hI_S3 rfl)] at z)
    (try rw [show mI S3 64 1 = f 64 1 from zG_z hI_S3 rfl] at z)
    exact z
  have rp3_S5 : cC (aS 75 S5) [] (kC S5) B := by
    have z := rp3_S5
    (try rw [show mI S3 65 = f 65 from funext (fun k => zG_z hI_S3 rfl)] at z)
    (try rw [show mI S3 64 1 = f 64 1 from zG_z hI_S3 rfl] at z)
    exact z
  have rp4_S5 : zfP 84 (mI S5) = (zfP 84 (mI S3)) := by
    have z := rp4_S5
    (try rw [show mI S3 65 = f 65 from funext (fun k => zG_z hI_S3 rfl)] at z)
    (try rw [show mI S3 64 1 = f 64 1 from zG_z hI_S3 rfl] at z)
    exact z
  have rp5_S5 : zN0 S5 = (zN0 S3) := by
    have z := rp5_S5
    (try rw [show mI S3 65 = f 65 from funext (fun k => zG_z hI_S3 rfl)] at z)
    (try rw [show mI S3 64 1 = f 64 1 from zG_z hI_S3 rfl] at z)
    exact z
  refine ⟨zG_n hI_S5 th_l8, ?_⟩
  have f3 := zG_th hI_S5 th_l8
  exact K ((mI S5 l8 0)) _ hI_S5 trivial (show xB S5 (mR S5 70) from by first | (exact rp0_S5)) (show aT 84 S5 = cLe (aR0 (aMd (aAd ab y I0 L0) y) l5 y) (ab 72 l5.toNatClampNeg) ∧ (mI S5 l8 0) = y from by first | (have s1 := T_ad (P := 84) rp1_S1 (zf_84 (show mI S1 84 = mI S 84 from funext (fun _ => zG_z hL_S1 rfl))); rw [hpre2] at s1; have s2 := rp1_S3; rw [← aMd_n T_8, s1] at s2; have k2 := rp2_S3.trans rp2_S1; rw [hpre10, hpre11] at k2; have cc : cC (aS 75 S3) [] (kC S3) B := C_o8 (T_o8 (P := 84)) (by rw [s2, k2]; exact hpre12); have s3 := T_le (P := 84) rp1_S5 (fun k => congrFun rp4_S5 k) cc (by have h0 : 0 ≤ l5.toInt := (by omega); have h1 := tn_cast h0; omega); rw [s2, ad_72] at s3; have tn := (n0_k rp5_S5 th_l8.1 (Or.inl rfl)).trans (xB_th (W := 75) rp0_S3 (zTa_u (R := R) (c := l8) hpre7.1 hpre7.2)).2.2.1; exact ⟨s3, tn⟩)) (show cC (aT 84 S5) [] (kC S5) B from by first | (exact C_o8 (O8_sy (T_o8 (P := 84))) rp3_S5))
theorem g_143_64_sk_p84_0 {X : Nat × (Nat → Int32)} {d w : Nat} {S : ma_S} {Q : Option ma_V ⊕ Nat → ma_S → Prop} (kd : Int32) (wd : Int32) (rf : Int64) (rt : Int32) (hd : 7 ≤ d) (hw : 182 ≤ w) (hS : zT S) (h : mR S 64 11 = some 84 ∧ (mR S 64 11 = some 84 ∧ (if (512 : Int32) ≤ (mI S 69 6) then (Q (.inl (some (.inl (-1 : Int32)))) S) else (ma_wp X (d - 1) (w - 22) 102 0 [(0, .inr (.inr (some 84))), (1, .inl (wd + (1 : Int32)))] [] S (zi (fun v2 S1 => zT S1 ∧ (if v2 = (-1 : Int32) then (Q (.inl (some (.inl (-1 : Int32)))) S1) else (ma_wp X d w 143 41 [(0, .inr (.inr (some 64))), (1, .inl kd), (2, .inl wd), (3, .inr (.inl rf)), (5, .inl rt), (6, .inr (.inr (some 84))), (7, .inl v2)] [] S1 Q))) (fun _ _ => False)))))) : ma_wp X d w 143 0 [(0, .inr (.inr (some 64))), (1, .inl kd), (2, .inl wd), (3, .inr (.inl rf)), (5, .inl rt)] [] S Q := by
  refine zw_push hm_143 dX11_addObject_0 (v := .inr (.inr (some 64))) rfl ?_
  refine zw_cv hm_143 dX11_addObject_1 v_11_119_11 hm_144 [] [] rfl (zT_rt hS s_64 rfl) ⟨by omega, by omega⟩ rfl ?_
  show ma_wp X (d - 1) (w - 20) 144 0 [(0, .inr (.inr (some 64)))] [] S _
  refine zw_push hm_144 dX11_needCollector_0 (v := .inr (.inr (some 64))) rfl ?_
  obtain ⟨hg, h⟩ := h
  refine zw_gf hm_144 dX11_needCollector_1 (v := .inr (.inr (some 84))) (zT_is hS s_64) (zT_t hS s_64) rfl f_11_98_11 (congrArg (fun z => Sum.inr (Sum.inr z)) hg) ?_
  refine zw_ifnonnull hm_144 dX11_needCollector_4 (t := 15) rfl (fun z => by cases z) (fun _ _ => ?_)
  refine zw_push hm_144 dX11_needCollector_15 (v := .inr (.inr (some 64))) rfl ?_
  obtain ⟨hg, h⟩ := h
  refine zw_gf hm_144 dX11_needCollector_16 (v := .inr (.inr (some 84))) (zT_is hS s_64) (zT_t hS s_64) rfl f_11_98_11 (congrArg (fun z => Sum.inr (Sum.inr z)) hg) ?_
  refine zw_aret hm_144 dX11_needCollector_19 ?_
  show ma_wp X d w 143 4 [(0, .inr (.inr (some 64))), (1, .inl kd), (2, .inl wd), (3, .inr (.inl rf)), (5, .inl rt)] [.inr (.inr (some 84))] S _
  refine zw_sto hm_143 dX11_addObject_4 [(6, .inr (.inr (some 84))), (0, .inr (.inr (some 64))), (1, .inl kd), (2, .inl wd), (3, .inr (.inl rf)), (5, .inl rt)] rfl rfl rfl ?_
  refine zw_push hm_143 dX11_addObject_6 (v := .inr (.inr (some 64))) rfl ?_
  refine zw_gf hm_143 dX11_addObject_7 (v := .inr (.inr (some 69))) (zT_is hS s_64) (zT_t hS s_64) rfl f_11_26_11 (zT_f hS r_64_8) ?_
  refine zw_gf hm_143 dX11_addObject_10 (v := .inl (mI S 69 6)) (zT_is hS s_69) (zT_t hS s_69) rfl f_11_244_7 rfl ?_
  refine zw_push hm_143 dX11_addObject_13 (v := .inl (512 : Int32)) rfl ?_
  refine zw_if2 hm_143 dX11_addObject_16 (t := 30) rfl zc2_ge ?_ ?_
  · intro hc
    rw [if_pos hc] at h
    refine zw_push hm_143 dX11_addObject_30 (v := .inl (-1 : Int32)) rfl ?_
    refine zw_sto hm_143 dX11_addObject_31 [(7, .inl (-1 : Int32)), (6, .inr (.inr (some 84))), (0, .inr (.inr (some 64))), (1, .inl kd), (2, .inl wd), (3, .inr (.inl rf)), (5, .inl rt)] rfl rfl rfl ?_
    refine zw_push hm_143 dX11_addObject_33 (v := .inl (-1 : Int32)) rfl ?_
    refine zw_push hm_143 dX11_addObject_35 (v := .inl (-1 : Int32)) rfl ?_
    refine zw_if2 hm_143 dX11_addObject_36 (t := 41) rfl zc2_ne (fun hc => absurd hc (by decide)) (fun _ => ?_)
    refine zw_push hm_143 dX11_addObject_39 (v := .inl (-1 : Int32)) rfl ?_
    exact zw_iret hm_143 dX11_addObject_40 h
  · intro hc
    rw [if_neg hc] at h
    refine zw_push hm_143 dX11_addObject_19 (v := .inr (.inr (some 84))) rfl ?_
    refine zw_push hm_143 dX11_addObject_21 (v := .inl wd) rfl ?_
    refine zw_push hm_143 dX11_addObject_22 (v := .inl (1 : Int32)) rfl ?_
    refine zw_stk hm_143 dX11_addObject_23 (st₉ := [.inl (wd + (1 : Int32)), .inr (.inr (some 84))]) rfl rfl ?_
    refine zw_cv hm_143 dX11_addObject_24 v_11_367_2 hm_102 [.inl (wd + (1 : Int32))] [] rfl (zT_rt hS s_84 rfl) ⟨by omega, by omega⟩ rfl (zw_mono h (zi_go ?_ ?_))
    · intro v2 S1 hv
      obtain ⟨hS1, h⟩ := hv
      refine zw_goto hm_143 dX11_addObject_27 (t := 31) rfl ?_
      refine zw_sto hm_143 dX11_addObject_31 [(7, .inl v2), (6, .inr (.inr (some 84))), (0, .inr (.inr (some 64))), (1, .inl kd), (2, .inl wd), (3, .inr (.inl rf)), (5, .inl rt)] rfl rfl rfl ?_
      refine zw_push hm_143 dX11_addObject_33 (v := .inl v2) rfl ?_
      refine zw_push hm_143 dX11_addObject_35 (v := .inl (-1 : Int32)) rfl ?_
      refine zw_if2 hm_143 dX11_addObject_36 (t := 41) rfl zc2_ne ?_ ?_
      · intro hc
        rw [if_neg hc] at h
        exact zw_sub (ma_nd_of (ks := [0, 1, 2, 3, 5, 6, 7]) rfl (by decide)) (ma_nd_of (ks := [7, 6, 0, 1, 2, 3, 5]) rfl (by decide)) (ma_le_cons rfl (ma_le_cons rfl (ma_le_cons rfl (ma_le_cons rfl (ma_le_cons rfl (ma_le_cons rfl (ma_le_cons rfl (ma_le_nil _)))))))) h
      · intro hc
        rw [if_pos (Classical.not_not.mp hc)] at h
        refine zw_push hm_143 dX11_addObject_39 (v := .inl (-1 : Int32)) rfl ?_
        exact zw_iret hm_143 dX11_addObject_40 h
    · intro x S9 hx
      exact hx.elim
theorem sp_143_64_sk_p84 {X : Nat × (Nat → Int32)} {d w : Nat} {f : Nat → Nat → Int32} {r : Nat → Nat → Option Nat} {C Z N : Nat} {Q : Option ma_V ⊕ Nat → ma_S → Prop} {ab : Nat→Nat→Int32} {B : Int} {S : ma_S} (kd : Int32) (wd : Int32) (rf : Int64) (rt : Int32) (hd : 7 ≤ d) (hw : 182 ≤ w) (hI : zB f r C Z N S) (hr : r 64 11 = some 84) (hpre0 : 0 ≤ wd.toInt) (hpre1 : wd.toInt ≤ 60) (hpre2 : 0 ≤ rt.toInt) (hpre3 : rt.toInt ≤ 15) (hpre4 : xB S (mR S 70)) (hpre5 : aT 84 S = ab) (hpre6 : cC ab [] (kC S) B) (hpre7 : qI ab) (hpre8 : B ≤ 1000000) (hpre9 : 0 ≤ B) (K : ∀ v S₉ r₉ C₉ Z₉ N₉, (∀ c k, c < 126 → r₉ c k = r c k) → C₉ ≤ C + 1 → Z₉ ≤ Z + 9 → (N ≤ N₉) → zB f r₉ C₉ Z₉ N₉ S₉ → (True) → (xB S₉ (mR S₉ 70)) → (aT 84 S₉ = kMk ab kd wd rf rt ∧ v = sMn ab wd) → (cC (aT 84 S₉) [] (kC S₉) B) → Q (.inl (some (.inl v))) S₉) : ma_wp X d w 143 0 [(0, .inr (.inr (some 64))), (1, .inl kd), (2, .inl wd), (3, .inr (.inl rf)), (5, .inl rt)] [] S Q := by
  refine g_143_64_sk_p84_0 kd wd rf rt (by omega) (by omega) (zG_T hI) ?_
  refine ⟨((zG_r hI (by decide)).trans hr), ?_⟩
  refine ⟨((zG_r hI (by decide)).trans hr), ?_⟩
  have li1 : (512 : Int32).toInt = 512 := rfl
  have f2 := zG_s hI (0) (512) (c := 69) (k := 6) (by decide)
  refine zd (fun h3 => ?_) (fun h3 => ?_)
  · skip
    have g4 := i_le h3
    have li5 : (-1 : Int32).toInt = -1 := rfl
    exact K ((-1 : Int32)) _ _ _ _ _ (fun _ _ _ => rfl) (by omega) (by omega) (Nat.le_refl _) hI trivial (show xB S (mR S 70) from by first | (exact xB_x (xC_o (W := 75) hpre4).2)) (show aT 84 S = kMk ab kd wd rf rt ∧ (-1 : Int32) = sMn ab wd from by first | (have z := kMk_0 (a := ab) (kd := kd) (wd := wd) (rt := rt) (L := rf) (by rw [← hpre5, (show aT 84 S 69 6 = mI S 69 6 from (aT_o (by decide)).trans (aS_I (W := 75) (S := S) (c := 69) (c₉ := 69) (k := 6) rfl rfl))]; omega); exact ⟨hpre5.trans z.1.symm, z.2.symm⟩)) (show cC (aT 84 S) [] (kC S) B from by first | (rw [hpre5]; exact hpre6))
  · skip
    have g6 := i_nle h3
    have b7 := i_bd wd
    first | have e8 : (wd + (1 : Int32)).toInt = wd.toInt + (1) := i_addk rfl (by omega) (by omega) | have b9 := i_bd (wd + (1 : Int32))
    refine sp_102_84_sk (ab := (aT 84 S)) (B := B) ((wd + (1 : Int32))) (by omega) (by omega) (zB_dn_zJ84 hI) (show xB S (mR S 70) from by first | (exact xB_x (xC_o (W := 75) hpre4).2)) (show aT 84 S = (aT 84 S) from by first | (exact rfl)) (show cC (aT 84 S) [] (kC S) B from by first | (exact hpre6) | (rw [hpre5]; exact hpre6)) (show qI (aT 84 S) from by first | (exact hpre7) | (rw [hpre5]; exact hpre7)) (fun v2 S1 hL_S1 hp_v2 rp0_S1 rp1_S1 rp2_S1 => zi_n ⟨zG_T hL_S1, ?_⟩)
    have hI_S1 := zB_up_zJ84 hI hL_S1
    have rp0_S1 : xB S1 (mR S1 70) := by
      have z := rp0_S1
      (try rw [show mI S 65 = f 65 from funext (fun k => zG_z hI rfl)] at z)
      (try rw [show mI S 64 1 = f 64 1 from zG_z hI rfl] at z)
      exact z
    have rp1_S1 : aT 84 S1 = zRs (aT 84 S) (wd + (1 : Int32)).toInt ∧ v2.toInt = zRp (aT 84 S) (wd + (1 : Int32)).toInt := by
      have z := rp1_S1
      (try rw [show mI S 65 = f 65 from funext (fun k => zG_z hI rfl)] at z)
      (try rw [show mI S 64 1 = f 64 1 from zG_z hI rfl] at z)
      exact z
    have rp2_S1 : cC (aT 84 S1) [] (kC S1) B := by
      have z := rp2_S1
      (try rw [show mI S 65 = f 65 from funext (fun k => zG_z hI rfl)] at z)
      (try rw [show mI S 64 1 = f 64 1 from zG_z hI rfl] at z)
      exact z
    have b10 := i_bd v2
    have li11 : (-1 : Int32).toInt = -1 := rfl
    refine zd (fun h12 => ?_) (fun h12 => ?_)
    · skip
      have g13 := i_eq h12
      exact K ((-1 : Int32)) _ _ _ _ _ (fun _ _ _ => rfl) (by omega) (by omega) (Nat.le_refl _) hI_S1 trivial (show xB S1 (mR S1 70) from by first | (exact xB_x (xC_o (W := 75) rp0_S1).2)) (show aT 84 S1 = kMk ab kd wd rf rt ∧ (-1 : Int32) = sMn ab wd from by first | (have wd1 : (wd + (1 : Int32)).toInt = wd.toInt + 1 := i_addk rfl (by omega) (by omega); have rs := rp1_S1; rw [hpre5] at rs; have z := kMk_1 (a := ab) (kd := kd) (wd := wd) (rt := rt) (L := rf) (by rw [← hpre5, (show aT 84 S 69 6 = mI S 69 6 from (aT_o (by decide)).trans (aS_I (W := 75) (S := S) (c := 69) (c₉ := 69) (k := 6) rfl rfl))]; omega) (by omega); exact ⟨rs.1.trans z.1.symm, z.2.symm⟩)) (show cC (aT 84 S1) [] (kC S1) B from by first | (exact rp2_S1))
    · skip
      have g14 := i_ne h12
      have b15 := i_bd rt
      have q16 : (mI S1 69 6).toInt = (mI S 69 6).toInt := zG_zi (f := mI S) hL_S1 rfl
      have f17 := zG_s hI_S1 (0) (512) (c := 69) (k := 6) (by decide)
      have hN2 : 126 ≤ mN S1 := (zG_T hI_S1).2.1
      have hr2 : ∀ n c, mR S1 70 n = some c → c < mN S1 := fun n c q => by have z := zG_70 hI_S1 (by decide) q; rw [zG_N hI_S1]; exact z.2
      have wd1 : (wd + (1 : Int32)).toInt = wd.toInt + 1 := i_addk rfl (by omega) (by omega)
      have hy : (mI S1 69 6) = aT 84 S1 69 6 := (show aT 84 S1 69 6 = mI S1 69 6 from (aT_o (by decide)).trans (aS_I (W := 75) (S := S1) (c := 69) (c₉ := 69) (k := 6) rfl rfl)).symm
      have rs := rp1_S1
      have mk2 := kMk_2 (a := ab) (b := aT 84 S1) (kd := kd) (wd := wd) (rt := rt) (L := rf) (pl := v2) (y := (mI S1 69 6)) (by rw [← hpre5, (show aT 84 S 69 6 = mI S 69 6 from (aT_o (by decide)).trans (aS_I (W := 75) (S := S) (c := 69) (c₉ := 69) (k := 6) rfl rfl))]; omega) (by rw [← hpre5]; exact rs.1) (by rw [← hpre5]; exact rs.2) (by omega) hy
      have rs2 := rs; rw [hpre5] at rs2
      have ne := Ne_o0 (aa := ab) (w := wd) (pl := v2) (y := (mI S1 69 6)) (I_rs hpre7 (C0_un hpre6).2.1) rs2.2 (by omega) (by omega) (by omega) (by rw [← rs2.1]; exact hy.symm) (by omega)
      rw [← rs2.1] at ne
      have neb := Ne_b ne
      have ad := Ad_of (b := aT 84 S1) (y := (mI S1 69 6)) (kk := kd) (w := wd) (pl := v2) (L := rf) neb.1 (by omega) (by omega) (by omega) (by omega)
      have cce := C_ad (K₉ := zKu (kC S1) (mI S1 69 6).toNatClampNeg 0) ne ad rp2_S1 hpre9 (fun _ => rfl)
      exact mk_143s (p := 84) (by omega) (by omega) hI_S1 (by show 0 ≤ (mI S1 69 6).toInt; omega) (by show (mI S1 69 6).toInt ≤ 511; omega) (by omega) (by omega) (by omega) (by omega) (fun Sn hn hj => sg_143_64_sk_64 (ab := aT 84 S1) (R := mR S1 70) (y := (mI S1 69 6)) (I0 := (zFn (mI S1 69 6) kd (wd + (1 : Int32)) v2)) (L0 := rf) (kk := kC S1) (B := B) (rt) N (by omega) (by omega) hn ⟨Nat.le_trans (zG_T hI_S1).2.1 (Nat.le_of_eq (zG_N hI_S1)), Nat.lt_succ_self _⟩ (by rw [hj, zTh_lo (by decide) hN2]; omega) (by rw [hj]; exact mk_B rp0_S1 hN2 hr2) (by rw [hj]; exact T_th4 hN2 hr2) (by rw [hj]; have q := zTh_eq (S := S1) (nu := (mI S1 69 6)) (kd := kd) (sz := wd + (1 : Int32)) (rr := rf) (pl := v2); rw [zG_N hI_S1] at q; exact q) (by rw [hj]; have q := zTh_L3 (S := S1) (nu := (mI S1 69 6)) (kd := kd) (sz := wd + (1 : Int32)) (rr := rf) (pl := v2); rw [zG_N hI_S1] at q; exact q) rfl (show (0 ≤ (mI S1 69 6).toInt ∧ (mI S1 69 6).toInt ≤ 511) ∧ (1 ≤ (wd + (1 : Int32)).toInt ∧ (wd + (1 : Int32)).toInt ≤ 61) ∧ 0 ≤ v2.toInt ∧ v2.toInt + (wd + (1 : Int32)).toInt ≤ 4500 by omega) ⟨by omega, by omega⟩ (by omega) (by omega) (by rw [hj]; exact kC_th hN2 hr2) rfl cce hpre8 (fun v9 S9 h9 h10 q0 q1 q2 => K v9 S9 _ _ _ _ (zrN_lo (zG_T hI_S1) (zG_N hI_S1)) (by omega) (by omega) (by omega) h9 h10 q0 (by rw [mk2.1, mk2.2]; exact q1) q2))

/-! from 95.m51 -/
/-! COUNTS, the class (written by wip/tools/gen20k.py) -/
theorem g_141_64_sk_p84_0 {X : Nat × (Nat → Int32)} {d w : Nat} {S : ma_S} {Q : Option ma_V ⊕ Nat → ma_S → Prop} (ki : Int32) (rt : Int32) (hd : 8 ≤ d) (hw : 232 ≤ w) (hS : zT S) (h : if ki < 0 then (Q (.inr 2) (ma_bump S)) else (if (mI S 64 7) ≤ ki then (Q (.inr 2) (ma_bump S)) else (if rt < 0 then (Q (.inr 2) (ma_bump S)) else (if (16 : Int32) ≤ rt then (Q (.inr 2) (ma_bump S)) else ((0 ≤ ki ∧ ki.toNatClampNeg < 16) ∧ ((0 ≤ ki ∧ ki.toNatClampNeg < 16) ∧ (ma_wp X (d - 1) (w - 28) 143 0 [(0, .inr (.inr (some 64))), (1, .inl ki), (2, .inl (mI S 67 ki.toNatClampNeg)), (3, .inr (.inl ((mI S 68 ki.toNatClampNeg).toInt64))), (5, .inl rt)] [] S (zi (fun v2 S1 => zT S1 ∧ (Q (.inl (some (.inl v2))) S1)) (fun x S9 => Q (.inr x) S9))))))))) : ma_wp X d w 141 0 [(0, .inr (.inr (some 64))), (1, .inl ki), (2, .inl rt)] [] S Q := by
  refine zw_push hm_141 dX11_make_0 (v := .inl ki) rfl ?_
  refine zw_if0 hm_141 dX11_make_1 (t := 19) rfl zc0_lt ?_ ?_
  · intro hc
    rw [if_pos hc] at h
    exact zw_thr hm_141 dX11_make_19 dX11_make_22 dX11_make_23 dX11_make_26 x_11_79_81 n_11_79 (by omega) (by show 0 + 81 ≤ w; omega) h
  · intro hc
    rw [if_neg hc] at h
    refine zw_push hm_141 dX11_make_4 (v := .inl ki) rfl ?_
    refine zw_push hm_141 dX11_make_5 (v := .inr (.inr (some 64))) rfl ?_
    refine zw_gf hm_141 dX11_make_6 (v := .inl (mI S 64 7)) (zT_is hS s_64) (zT_t hS s_64) rfl f_11_82_11 rfl ?_
    refine zw_if2 hm_141 dX11_make_9 (t := 19) rfl zc2_ge ?_ ?_
    · intro hc
      rw [if_pos hc] at h
      exact zw_thr hm_141 dX11_make_19 dX11_make_22 dX11_make_23 dX11_make_26 x_11_79_81 n_11_79 (by omega) (by show 0 + 81 ≤ w; omega) h
    · intro hc
      rw [if_neg hc] at h
      refine zw_push hm_141 dX11_make_12 (v := .inl rt) rfl ?_
      refine zw_cs hm_141 dX11_make_13 pn_11_109 sl_11_109 hm_142 [.inl rt] [] rfl ⟨by omega, by omega⟩ rfl ?_
      show ma_wp X (d - 1) (w - 20) 142 0 [(0, .inl rt)] [] S _
      refine zw_push hm_142 dX11_isSlot_0 (v := .inl rt) rfl ?_
      refine zw_if0 hm_142 dX11_isSlot_1 (t := 14) rfl zc0_lt ?_ ?_
      · intro hc
        rw [if_pos hc] at h
        refine zw_push hm_142 dX11_isSlot_14 (v := .inl (0 : Int32)) rfl ?_
        refine zw_bret hm_142 dX11_isSlot_15 (by decide) ?_
        show ma_wp X d w 141 16 [(0, .inr (.inr (some 64))), (1, .inl ki), (2, .inl rt)] [.inl (0 : Int32)] S _
        refine zw_if0 hm_141 dX11_make_16 (t := 27) rfl zc0_ne (fun hc => absurd hc (by decide)) (fun _ => ?_)
        exact zw_thr hm_141 dX11_make_19 dX11_make_22 dX11_make_23 dX11_make_26 x_11_79_81 n_11_79 (by omega) (by show 0 + 81 ≤ w; omega) h
      · intro hc
        rw [if_neg hc] at h
        refine zw_push hm_142 dX11_isSlot_4 (v := .inl rt) rfl ?_
        refine zw_push hm_142 dX11_isSlot_5 (v := .inl (16 : Int32)) rfl ?_
        refine zw_if2 hm_142 dX11_isSlot_7 (t := 14) rfl zc2_ge ?_ ?_
        · intro hc
          rw [if_pos hc] at h
          refine zw_push hm_142 dX11_isSlot_14 (v := .inl (0 : Int32)) rfl ?_
          refine zw_bret hm_142 dX11_isSlot_15 (by decide) ?_
          show ma_wp X d w 141 16 [(0, .inr (.inr (some 64))), (1, .inl ki), (2, .inl rt)] [.inl (0 : Int32)] S _
          refine zw_if0 hm_141 dX11_make_16 (t := 27) rfl zc0_ne (fun hc => absurd hc (by decide)) (fun _ => ?_)
          exact zw_thr hm_141 dX11_make_19 dX11_make_22 dX11_make_23 dX11_make_26 x_11_79_81 n_11_79 (by omega) (by show 0 + 81 ≤ w; omega) h
        · intro hc
          rw [if_neg hc] at h
          refine zw_push hm_142 dX11_isSlot_10 (v := .inl (1 : Int32)) rfl ?_
          refine zw_goto hm_142 dX11_isSlot_11 (t := 15) rfl ?_
          refine zw_bret hm_142 dX11_isSlot_15 (by decide) ?_
          show ma_wp X d w 141 16 [(0, .inr (.inr (some 64))), (1, .inl ki), (2, .inl rt)] [.inl (1 : Int32)] S _
          refine zw_if0 hm_141 dX11_make_16 (t := 27) rfl zc0_ne (fun _ => ?_) (fun hc => absurd (by decide) hc)
          refine zw_push hm_141 dX11_make_27 (v := .inr (.inr (some 64))) rfl ?_
          refine zw_push hm_141 dX11_make_28 (v := .inl ki) rfl ?_
          refine zw_push hm_141 dX11_make_29 (v := .inr (.inr (some 64))) rfl ?_
          refine zw_gf hm_141 dX11_make_30 (v := .inr (.inr (some 67))) (zT_is hS s_64) (zT_t hS s_64) rfl f_11_17_11 (zT_f hS r_64_5) ?_
          refine zw_push hm_141 dX11_make_33 (v := .inl ki) rfl ?_
          obtain ⟨hg, h⟩ := h
          refine zw_ia hm_141 dX11_make_34 (zT_is hS s_67) (zT_h hS s_67) rfl hg ?_
          show ma_wp X d w 141 35 [(0, .inr (.inr (some 64))), (1, .inl ki), (2, .inl rt)] [.inl (mI S 67 ki.toNatClampNeg), .inl ki, .inr (.inr (some 64))] S _
          refine zw_push hm_141 dX11_make_35 (v := .inr (.inr (some 64))) rfl ?_
          refine zw_gf hm_141 dX11_make_36 (v := .inr (.inr (some 68))) (zT_is hS s_64) (zT_t hS s_64) rfl f_11_20_11 (zT_f hS r_64_6) ?_
          refine zw_push hm_141 dX11_make_39 (v := .inl ki) rfl ?_
          obtain ⟨hg, h⟩ := h
          refine zw_ia hm_141 dX11_make_40 (zT_is hS s_68) (zT_h hS s_68) rfl hg ?_
          show ma_wp X d w 141 41 [(0, .inr (.inr (some 64))), (1, .inl ki), (2, .inl rt)] [.inl (mI S 68 ki.toNatClampNeg), .inl (mI S 67 ki.toNatClampNeg), .inl ki, .inr (.inr (some 64))] S _
          refine zw_stk hm_141 dX11_make_41 (st₉ := [.inr (.inl ((mI S 68 ki.toNatClampNeg).toInt64)), .inl (mI S 67 ki.toNatClampNeg), .inl ki, .inr (.inr (some 64))]) rfl rfl ?_
          refine zw_push hm_141 dX11_make_42 (v := .inl rt) rfl ?_
          refine zw_cv hm_141 dX11_make_43 v_11_113_11 hm_143 [.inl rt, .inr (.inl ((mI S 68 ki.toNatClampNeg).toInt64)), .inl (mI S 67 ki.toNatClampNeg), .inl ki] [] rfl (zT_rt hS s_64 rfl) ⟨by omega, by omega⟩ rfl (zw_mono h (zi_go ?_ ?_))
          · intro v2 S1 hv
            obtain ⟨hS1, h⟩ := hv
            exact zw_iret hm_141 dX11_make_46 h
          · intro x S9 hx
            exact ⟨by decide, hx⟩
theorem sp_141_64_sk_p84 {X : Nat × (Nat → Int32)} {d w : Nat} {f : Nat → Nat → Int32} {r : Nat → Nat → Option Nat} {C Z N : Nat} {Q : Option ma_V ⊕ Nat → ma_S → Prop} {ab : Nat→Nat→Int32} {B : Int} {S : ma_S} (ki : Int32) (rt : Int32) (hd : 8 ≤ d) (hw : 232 ≤ w) (hI : zB f r C Z N S) (hr : r 64 11 = some 84) (hpre0 : xB S (mR S 70)) (hpre1 : aT 84 S = ab) (hpre2 : cC ab [] (kC S) B) (hpre3 : qI ab) (hpre4 : B ≤ 1000000) (hpre5 : 0 ≤ B) (K : ∀ v S₉ r₉ C₉ Z₉ N₉, (∀ c k, c < 126 → r₉ c k = r c k) → C₉ ≤ C + 1 → Z₉ ≤ Z + 9 → (N ≤ N₉) → zB f r₉ C₉ Z₉ N₉ S₉ → (True) → (xB S₉ (mR S₉ 70)) → ((0 ≤ ki.toInt ∧ ki.toInt < (f 64 7).toInt ∧ 0 ≤ rt.toInt ∧ rt.toInt ≤ 15) ∧ aT 84 S₉ = kMk ab ki (f 67 ki.toNatClampNeg) (f 68 ki.toNatClampNeg).toInt64 rt ∧ v = sMn ab (f 67 ki.toNatClampNeg)) → (cC (aT 84 S₉) [] (kC S₉) B) → Q (.inl (some (.inl v))) S₉) (KX : ∀ x S₉, (x = 2) → zB f r C Z N S₉ → (xB S₉ (mR S₉ 70)) → (aT 84 S₉ = ab) → (cC ab [] (kC S₉) B) → (x = 2 ∧ ¬ (0 ≤ ki.toInt ∧ ki.toInt < (f 64 7).toInt ∧ 0 ≤ rt.toInt ∧ rt.toInt ≤ 15)) → Q (.inr x) (ma_bump S₉)) : ma_wp X d w 141 0 [(0, .inr (.inr (some 64))), (1, .inl ki), (2, .inl rt)] [] S Q := by
  refine g_141_64_sk_p84_0 ki rt (by omega) (by omega) (zG_T hI) ?_
  have b1 := i_bd ki
  have li2 : (0 : Int32).toInt = 0 := rfl
  refine zd (fun h3 => ?_) (fun h3 => ?_)
  · skip
    have g4 := i_lt h3
    exact KX 2 _ (by decide) hI (show xB S (mR S 70) from by first | (exact xB_x (xC_o (W := 75) hpre0).2)) (show aT 84 S = ab from by first | (exact hpre1)) (show cC ab [] (kC S) B from by first | (exact hpre2)) (show 2 = 2 ∧ ¬ (0 ≤ ki.toInt ∧ ki.toInt < (f 64 7).toInt ∧ 0 ≤ rt.toInt ∧ rt.toInt ≤ 15) from by first | (have f7 : (mI S 64 7).toInt = (f 64 7).toInt := zG_zi hI rfl; exact ⟨rfl, by omega⟩))
  · skip
    have g5 := i_nlt h3
    have f6 := zG_s hI (0) (16) (c := 64) (k := 7) (by decide)
    refine zd (fun h7 => ?_) (fun h7 => ?_)
    · skip
      have g8 := i_le h7
      exact KX 2 _ (by decide) hI (show xB S (mR S 70) from by first | (exact xB_x (xC_o (W := 75) hpre0).2)) (show aT 84 S = ab from by first | (exact hpre1)) (show cC ab [] (kC S) B from by first | (exact hpre2)) (show 2 = 2 ∧ ¬ (0 ≤ ki.toInt ∧ ki.toInt < (f 64 7).toInt ∧ 0 ≤ rt.toInt ∧ rt.toInt ≤ 15) from by first | (have f7 : (mI S 64 7).toInt = (f 64 7).toInt := zG_zi hI rfl; exact ⟨rfl, by omega⟩))
    · skip
      have g9 := i_nle h7
      have b10 := i_bd rt
      refine zd (fun h11 => ?_) (fun h11 => ?_)
      · skip
        have g12 := i_lt h11
        exact KX 2 _ (by decide) hI (show xB S (mR S 70) from by first | (exact xB_x (xC_o (W := 75) hpre0).2)) (show aT 84 S = ab from by first | (exact hpre1)) (show cC ab [] (kC S) B from by first | (exact hpre2)) (show 2 = 2 ∧ ¬ (0 ≤ ki.toInt ∧ ki.toInt < (f 64 7).toInt ∧ 0 ≤ rt.toInt ∧ rt.toInt ≤ 15) from by first | (have f7 : (mI S 64 7).toInt = (f 64 7).toInt := zG_zi hI rfl; exact ⟨rfl, by omega⟩))
      · skip
        have g13 := i_nlt h11
        have li14 : (16 : Int32).toInt = 16 := rfl
        refine zd (fun h15 => ?_) (fun h15 => ?_)
        · skip
          have g16 := i_le h15
          exact KX 2 _ (by decide) hI (show xB S (mR S 70) from by first | (exact xB_x (xC_o (W := 75) hpre0).2)) (show aT 84 S = ab from by first | (exact hpre1)) (show cC ab [] (kC S) B from by first | (exact hpre2)) (show 2 = 2 ∧ ¬ (0 ≤ ki.toInt ∧ ki.toInt < (f 64 7).toInt ∧ 0 ≤ rt.toInt ∧ rt.toInt ≤ 15) from by first | (have f7 : (mI S 64 7).toInt = (f 64 7).toInt := zG_zi hI rfl; exact ⟨rfl, by omega⟩))
        · skip
          have g17 := i_nle h15
          refine ⟨i_ix (by omega) (by omega), ?_⟩
          refine ⟨i_ix (by omega) (by omega), ?_⟩
          first | have f18 := zG_a hI 16 (0) (8) (c := 67) (k := ki.toNatClampNeg) (by decide) (i_ix (n := 16) (by omega) (by omega)).2 | have b19 := i_bd (mI S 67 ki.toNatClampNeg)
          refine sp_143_64_sk_p84 (ab := (aT 84 S)) (B := B) (ki) ((mI S 67 ki.toNatClampNeg)) (((mI S 68 ki.toNatClampNeg).toInt64)) (rt) (by omega) (by omega) hI hr (by omega) (by omega) (by omega) (by omega) (show xB S (mR S 70) from by first | (exact xB_x (xC_o (W := 75) hpre0).2)) (show aT 84 S = (aT 84 S) from by first | (exact rfl)) (show cC (aT 84 S) [] (kC S) B from by first | (exact hpre2) | (rw [hpre1]; exact hpre2)) (show qI (aT 84 S) from by first | (exact hpre3) | (rw [hpre1]; exact hpre3)) (show B ≤ 1000000 from by first | (exact hpre4)) (show 0 ≤ B from by first | (exact hpre5)) (fun v2 S1 r₉ C₉ Z₉ N₉ sl1 sl2 sl3 sl4 hI_S1 hp_v2 rp0_S1 rp1_S1 rp2_S1 => zi_n ⟨zG_T hI_S1, ?_⟩)
          have rp0_S1 : xB S1 (mR S1 70) := rp0_S1
          have rp1_S1 : aT 84 S1 = kMk (aT 84 S) ki (mI S 67 ki.toNatClampNeg) (((mI S 68 ki.toNatClampNeg).toInt64)) rt ∧ v2 = sMn (aT 84 S) (mI S 67 ki.toNatClampNeg) := rp1_S1
          have rp2_S1 : cC (aT 84 S1) [] (kC S1) B := rp2_S1
          have b20 := i_bd v2
          exact K (v2) _ _ _ _ _ sl1 sl2 sl3 sl4 hI_S1 trivial (show xB S1 (mR S1 70) from by first | (exact xB_x (xC_o (W := 75) rp0_S1).2)) (show (0 ≤ ki.toInt ∧ ki.toInt < (f 64 7).toInt ∧ 0 ≤ rt.toInt ∧ rt.toInt ≤ 15) ∧ aT 84 S1 = kMk ab ki (f 67 ki.toNatClampNeg) (f 68 ki.toNatClampNeg).toInt64 rt ∧ v2 = sMn ab (f 67 ki.toNatClampNeg) from by first | (exfalso; omega) | (have f7 : (mI S 64 7).toInt = (f 64 7).toInt := zG_zi hI rfl; have q := rp1_S1; rw [hpre1, show mI S 67 ki.toNatClampNeg = f 67 ki.toNatClampNeg from zG_z hI rfl, show mI S 68 ki.toNatClampNeg = f 68 ki.toNatClampNeg from zG_z hI rfl] at q; exact ⟨⟨by omega, by omega, by omega, by omega⟩, q⟩)) (show cC (aT 84 S1) [] (kC S1) B from by first | (exact rp2_S1))
theorem g_147_64_sk_p84_0 {X : Nat × (Nat → Int32)} {d w : Nat} {S : ma_S} {Q : Option ma_V ⊕ Nat → ma_S → Prop} (b : Int32) (n : Int32) (rt : Int32) (hd : 8 ≤ d) (hw : 232 ≤ w) (hS : zT S) (h : if n < 0 then (Q (.inr 2) (ma_bump S)) else (if (60 : Int32) < n then (Q (.inr 2) (ma_bump S)) else (if rt < 0 then (Q (.inr 2) (ma_bump S)) else (if (16 : Int32) ≤ rt then (Q (.inr 2) (ma_bump S)) else (if b = 0 then (ma_wp X (d - 1) (w - 28) 143 0 [(0, .inr (.inr (some 64))), (1, .inl (17 : Int32)), (2, .inl n), (3, .inr (.inl (0 : Int64))), (5, .inl rt)] [] S (zi (fun v2 S1 => zT S1 ∧ (Q (.inl (some (.inl v2))) S1)) (fun x S9 => Q (.inr x) S9))) else (ma_wp X (d - 1) (w - 28) 143 0 [(0, .inr (.inr (some 64))), (1, .inl (16 : Int32)), (2, .inl n), (3, .inr (.inl (-1 : Int64))), (5, .inl rt)] [] S (zi (fun v4 S3 => zT S3 ∧ (Q (.inl (some (.inl v4))) S3)) (fun x S9 => Q (.inr x) S9)))))))) : ma_wp X d w 147 0 [(0, .inr (.inr (some 64))), (1, .inl b), (2, .inl n), (3, .inl rt)] [] S Q := by
  refine zw_push hm_147 dX11_row_0 (v := .inl n) rfl ?_
  refine zw_if0 hm_147 dX11_row_1 (t := 17) rfl zc0_lt ?_ ?_
  · intro hc
    rw [if_pos hc] at h
    exact zw_thr hm_147 dX11_row_17 dX11_row_20 dX11_row_21 dX11_row_24 x_11_79_81 n_11_79 (by omega) (by show 0 + 81 ≤ w; omega) h
  · intro hc
    rw [if_neg hc] at h
    refine zw_push hm_147 dX11_row_4 (v := .inl n) rfl ?_
    refine zw_push hm_147 dX11_row_5 (v := .inl (60 : Int32)) rfl ?_
    refine zw_if2 hm_147 dX11_row_7 (t := 17) rfl zc2_gt ?_ ?_
    · intro hc
      rw [if_pos hc] at h
      exact zw_thr hm_147 dX11_row_17 dX11_row_20 dX11_row_21 dX11_row_24 x_11_79_81 n_11_79 (by omega) (by show 0 + 81 ≤ w; omega) h
    · intro hc
      rw [if_neg hc] at h
      refine zw_push hm_147 dX11_row_10 (v := .inl rt) rfl ?_
      refine zw_cs hm_147 dX11_row_11 pn_11_109 sl_11_109 hm_142 [.inl rt] [] rfl ⟨by omega, by omega⟩ rfl ?_
      show ma_wp X (d - 1) (w - 20) 142 0 [(0, .inl rt)] [] S _
      refine zw_push hm_142 dX11_isSlot_0 (v := .inl rt) rfl ?_
      refine zw_if0 hm_142 dX11_isSlot_1 (t := 14) rfl zc0_lt ?_ ?_
      · intro hc
        rw [if_pos hc] at h
        refine zw_push hm_142 dX11_isSlot_14 (v := .inl (0 : Int32)) rfl ?_
        refine zw_bret hm_142 dX11_isSlot_15 (by decide) ?_
        show ma_wp X d w 147 14 [(0, .inr (.inr (some 64))), (1, .inl b), (2, .inl n), (3, .inl rt)] [.inl (0 : Int32)] S _
        refine zw_if0 hm_147 dX11_row_14 (t := 25) rfl zc0_ne (fun hc => absurd hc (by decide)) (fun _ => ?_)
        exact zw_thr hm_147 dX11_row_17 dX11_row_20 dX11_row_21 dX11_row_24 x_11_79_81 n_11_79 (by omega) (by show 0 + 81 ≤ w; omega) h
      · intro hc
        rw [if_neg hc] at h
        refine zw_push hm_142 dX11_isSlot_4 (v := .inl rt) rfl ?_
        refine zw_push hm_142 dX11_isSlot_5 (v := .inl (16 : Int32)) rfl ?_
        refine zw_if2 hm_142 dX11_isSlot_7 (t := 14) rfl zc2_ge ?_ ?_
        · intro hc
          rw [if_pos hc] at h
          refine zw_push hm_142 dX11_isSlot_14 (v := .inl (0 : Int32)) rfl ?_
          refine zw_bret hm_142 dX11_isSlot_15 (by decide) ?_
          show ma_wp X d w 147 14 [(0, .inr (.inr (some 64))), (1, .inl b), (2, .inl n), (3, .inl rt)] [.inl (0 : Int32)] S _
          refine zw_if0 hm_147 dX11_row_14 (t := 25) rfl zc0_ne (fun hc => absurd hc (by decide)) (fun _ => ?_)
          exact zw_thr hm_147 dX11_row_17 dX11_row_20 dX11_row_21 dX11_row_24 x_11_79_81 n_11_79 (by omega) (by show 0 + 81 ≤ w; omega) h
        · intro hc
          rw [if_neg hc] at h
          refine zw_push hm_142 dX11_isSlot_10 (v := .inl (1 : Int32)) rfl ?_
          refine zw_goto hm_142 dX11_isSlot_11 (t := 15) rfl ?_
          refine zw_bret hm_142 dX11_isSlot_15 (by decide) ?_
          show ma_wp X d w 147 14 [(0, .inr (.inr (some 64))), (1, .inl b), (2, .inl n), (3, .inl rt)] [.inl (1 : Int32)] S _
          refine zw_if0 hm_147 dX11_row_14 (t := 25) rfl zc0_ne (fun _ => ?_) (fun hc => absurd (by decide) hc)
          refine zw_push hm_147 dX11_row_25 (v := .inl b) rfl ?_
          refine zw_if0 hm_147 dX11_row_26 (t := 43) rfl zc0_eq ?_ ?_
          · intro hc
            rw [if_pos hc] at h
            refine zw_push hm_147 dX11_row_43 (v := .inr (.inr (some 64))) rfl ?_
            refine zw_push hm_147 dX11_row_44 (v := .inl (17 : Int32)) rfl ?_
            refine zw_push hm_147 dX11_row_46 (v := .inl n) rfl ?_
            refine zw_push hm_147 dX11_row_47 (v := .inr (.inl (0 : Int64))) rfl ?_
            refine zw_push hm_147 dX11_row_48 (v := .inl rt) rfl ?_
            refine zw_cv hm_147 dX11_row_49 v_11_113_11 hm_143 [.inl rt, .inr (.inl (0 : Int64)), .inl n, .inl (17 : Int32)] [] rfl (zT_rt hS s_64 rfl) ⟨by omega, by omega⟩ rfl (zw_mono h (zi_go ?_ ?_))
            · intro v2 S1 hv
              obtain ⟨hS1, h⟩ := hv
              exact zw_iret hm_147 dX11_row_52 h
            · intro x S9 hx
              exact ⟨by decide, hx⟩
          · intro hc
            rw [if_neg hc] at h
            refine zw_push hm_147 dX11_row_29 (v := .inr (.inr (some 64))) rfl ?_
            refine zw_push hm_147 dX11_row_30 (v := .inl (16 : Int32)) rfl ?_
            refine zw_push hm_147 dX11_row_32 (v := .inl n) rfl ?_
            refine zw_l2 hm_147 dX11_row_33 l2_11_117 ?_
            refine zw_push hm_147 dX11_row_36 (v := .inl rt) rfl ?_
            refine zw_cv hm_147 dX11_row_37 v_11_113_11 hm_143 [.inl rt, .inr (.inl (-1 : Int64)), .inl n, .inl (16 : Int32)] [] rfl (zT_rt hS s_64 rfl) ⟨by omega, by omega⟩ rfl (zw_mono h (zi_go ?_ ?_))
            · intro v4 S3 hv
              obtain ⟨hS3, h⟩ := hv
              refine zw_goto hm_147 dX11_row_40 (t := 52) rfl ?_
              exact zw_iret hm_147 dX11_row_52 h
            · intro x S9 hx
              exact ⟨by decide, hx⟩
theorem sp_147_64_sk_p84 {X : Nat × (Nat → Int32)} {d w : Nat} {f : Nat → Nat → Int32} {r : Nat → Nat → Option Nat} {C Z N : Nat} {Q : Option ma_V ⊕ Nat → ma_S → Prop} {ab : Nat→Nat→Int32} {B : Int} {S : ma_S} (b : Int32) (n : Int32) (rt : Int32) (hd : 8 ≤ d) (hw : 232 ≤ w) (hI : zB f r C Z N S) (hr : r 64 11 = some 84) (hpre0 : 0 ≤ b.toInt) (hpre1 : b.toInt ≤ 1) (hpre2 : xB S (mR S 70)) (hpre3 : aT 84 S = ab) (hpre4 : cC ab [] (kC S) B) (hpre5 : qI ab) (hpre6 : B ≤ 1000000) (hpre7 : 0 ≤ B) (K : ∀ v S₉ r₉ C₉ Z₉ N₉, (∀ c k, c < 126 → r₉ c k = r c k) → C₉ ≤ C + 1 → Z₉ ≤ Z + 9 → (N ≤ N₉) → zB f r₉ C₉ Z₉ N₉ S₉ → (True) → (xB S₉ (mR S₉ 70)) → ((0 ≤ n.toInt ∧ n.toInt ≤ 60 ∧ 0 ≤ rt.toInt ∧ rt.toInt ≤ 15) ∧ aT 84 S₉ = (if b = 0 then kMk ab 17 n 0 rt else kMk ab 16 n (-1) rt) ∧ v = sMn ab n) → (cC (aT 84 S₉) [] (kC S₉) B) → Q (.inl (some (.inl v))) S₉) (KX : ∀ x S₉, (x = 2) → zB f r C Z N S₉ → (xB S₉ (mR S₉ 70)) → (aT 84 S₉ = ab) → (cC ab [] (kC S₉) B) → (x = 2 ∧ ¬ (0 ≤ n.toInt ∧ n.toInt ≤ 60 ∧ 0 ≤ rt.toInt ∧ rt.toInt ≤ 15)) → Q (.inr x) (ma_bump S₉)) : ma_wp X d w 147 0 [(0, .inr (.inr (some 64))), (1, .inl b), (2, .inl n), (3, .inl rt)] [] S Q := by
  refine g_147_64_sk_p84_0 b n rt (by omega) (by omega) (zG_T hI) ?_
  have b1 := i_bd n
  have li2 : (0 : Int32).toInt = 0 := rfl
  refine zd (fun h3 => ?_) (fun h3 => ?_)
  · skip
    have g4 := i_lt h3
    exact KX 2 _ (by decide) hI (show xB S (mR S 70) from by first | (exact xB_x (xC_o (W := 75) hpre2).2)) (show aT 84 S = ab from by first | (exact hpre3)) (show cC ab [] (kC S) B from by first | (exact hpre4)) (show 2 = 2 ∧ ¬ (0 ≤ n.toInt ∧ n.toInt ≤ 60 ∧ 0 ≤ rt.toInt ∧ rt.toInt ≤ 15) from by first | (exact ⟨rfl, by omega⟩))
  · skip
    have g5 := i_nlt h3
    have li6 : (60 : Int32).toInt = 60 := rfl
    refine zd (fun h7 => ?_) (fun h7 => ?_)
    · skip
      have g8 := i_lt h7
      exact KX 2 _ (by decide) hI (show xB S (mR S 70) from by first | (exact xB_x (xC_o (W := 75) hpre2).2)) (show aT 84 S = ab from by first | (exact hpre3)) (show cC ab [] (kC S) B from by first | (exact hpre4)) (show 2 = 2 ∧ ¬ (0 ≤ n.toInt ∧ n.toInt ≤ 60 ∧ 0 ≤ rt.toInt ∧ rt.toInt ≤ 15) from by first | (exact ⟨rfl, by omega⟩))
    · skip
      have g9 := i_nlt h7
      have b10 := i_bd rt
      refine zd (fun h11 => ?_) (fun h11 => ?_)
      · skip
        have g12 := i_lt h11
        exact KX 2 _ (by decide) hI (show xB S (mR S 70) from by first | (exact xB_x (xC_o (W := 75) hpre2).2)) (show aT 84 S = ab from by first | (exact hpre3)) (show cC ab [] (kC S) B from by first | (exact hpre4)) (show 2 = 2 ∧ ¬ (0 ≤ n.toInt ∧ n.toInt ≤ 60 ∧ 0 ≤ rt.toInt ∧ rt.toInt ≤ 15) from by first | (exact ⟨rfl, by omega⟩))
      · skip
        have g13 := i_nlt h11
        have li14 : (16 : Int32).toInt = 16 := rfl
        refine zd (fun h15 => ?_) (fun h15 => ?_)
        · skip
          have g16 := i_le h15
          exact KX 2 _ (by decide) hI (show xB S (mR S 70) from by first | (exact xB_x (xC_o (W := 75) hpre2).2)) (show aT 84 S = ab from by first | (exact hpre3)) (show cC ab [] (kC S) B from by first | (exact hpre4)) (show 2 = 2 ∧ ¬ (0 ≤ n.toInt ∧ n.toInt ≤ 60 ∧ 0 ≤ rt.toInt ∧ rt.toInt ≤ 15) from by first | (exact ⟨rfl, by omega⟩))
        · skip
          have g17 := i_nle h15
          have b18 := i_bd b
          refine zd (fun h19 => ?_) (fun h19 => ?_)
          · skip
            have g20 := i_eq h19
            have li21 : (17 : Int32).toInt = 17 := rfl
            refine sp_143_64_sk_p84 (ab := (aT 84 S)) (B := B) ((17 : Int32)) (n) ((0 : Int64)) (rt) (by omega) (by omega) hI hr (by omega) (by omega) (by omega) (by omega) (show xB S (mR S 70) from by first | (exact xB_x (xC_o (W := 75) hpre2).2)) (show aT 84 S = (aT 84 S) from by first | (exact rfl)) (show cC (aT 84 S) [] (kC S) B from by first | (exact hpre4) | (rw [hpre3]; exact hpre4)) (show qI (aT 84 S) from by first | (exact hpre5) | (rw [hpre3]; exact hpre5)) (show B ≤ 1000000 from by first | (exact hpre6)) (show 0 ≤ B from by first | (exact hpre7)) (fun v2 S1 r₉ C₉ Z₉ N₉ sl1 sl2 sl3 sl4 hI_S1 hp_v2 rp0_S1 rp1_S1 rp2_S1 => zi_n ⟨zG_T hI_S1, ?_⟩)
            have rp0_S1 : xB S1 (mR S1 70) := rp0_S1
            have rp1_S1 : aT 84 S1 = kMk (aT 84 S) (17 : Int32) n (0 : Int64) rt ∧ v2 = sMn (aT 84 S) n := rp1_S1
            have rp2_S1 : cC (aT 84 S1) [] (kC S1) B := rp2_S1
            have b22 := i_bd v2
            exact K (v2) _ _ _ _ _ sl1 sl2 sl3 sl4 hI_S1 trivial (show xB S1 (mR S1 70) from by first | (exact xB_x (xC_o (W := 75) rp0_S1).2)) (show (0 ≤ n.toInt ∧ n.toInt ≤ 60 ∧ 0 ≤ rt.toInt ∧ rt.toInt ≤ 15) ∧ aT 84 S1 = (if b = 0 then kMk ab 17 n 0 rt else kMk ab 16 n (-1) rt) ∧ v2 = sMn ab n from by first | (exfalso; omega) | (have q := rp1_S1; rw [hpre3] at q; refine ⟨⟨by omega, by omega, by omega, by omega⟩, ?_⟩; rw [if_pos (by assumption)]; exact q) | (have q := rp1_S1; rw [hpre3] at q; refine ⟨⟨by omega, by omega, by omega, by omega⟩, ?_⟩; rw [if_neg (by assumption)]; exact q)) (show cC (aT 84 S1) [] (kC S1) B from by first | (exact rp2_S1))
          · skip
            have g23 := i_ne h19
            refine sp_143_64_sk_p84 (ab := (aT 84 S)) (B := B) ((16 : Int32)) (n) ((-1 : Int64)) (rt) (by omega) (by omega) hI hr (by omega) (by omega) (by omega) (by omega) (show xB S (mR S 70) from by first | (exact xB_x (xC_o (W := 75) hpre2).2)) (show aT 84 S = (aT 84 S) from by first | (exact rfl)) (show cC (aT 84 S) [] (kC S) B from by first | (exact hpre4) | (rw [hpre3]; exact hpre4)) (show qI (aT 84 S) from by first | (exact hpre5) | (rw [hpre3]; exact hpre5)) (show B ≤ 1000000 from by first | (exact hpre6)) (show 0 ≤ B from by first | (exact hpre7)) (fun v4 S3 r₉ C₉ Z₉ N₉ sl1 sl2 sl3 sl4 hI_S3 hp_v4 rp0_S3 rp1_S3 rp2_S3 => zi_n ⟨zG_T hI_S3, ?_⟩)
            have rp0_S3 : xB S3 (mR S3 70) := rp0_S3
            have rp1_S3 : aT 84 S3 = kMk (aT 84 S) (16 : Int32) n (-1 : Int64) rt ∧ v4 = sMn (aT 84 S) n := rp1_S3
            have rp2_S3 : cC (aT 84 S3) [] (kC S3) B := rp2_S3
            have b24 := i_bd v4
            exact K (v4) _ _ _ _ _ sl1 sl2 sl3 sl4 hI_S3 trivial (show xB S3 (mR S3 70) from by first | (exact xB_x (xC_o (W := 75) rp0_S3).2)) (show (0 ≤ n.toInt ∧ n.toInt ≤ 60 ∧ 0 ≤ rt.toInt ∧ rt.toInt ≤ 15) ∧ aT 84 S3 = (if b = 0 then kMk ab 17 n 0 rt else kMk ab 16 n (-1) rt) ∧ v4 = sMn ab n from by first | (exfalso; omega) | (have q := rp1_S3; rw [hpre3] at q; refine ⟨⟨by omega, by omega, by omega, by omega⟩, ?_⟩; rw [if_pos (by assumption)]; exact q) | (have q := rp1_S3; rw [hpre3] at q; refine ⟨⟨by omega, by omega, by omega, by omega⟩, ?_⟩; rw [if_neg (by assumption)]; exact q)) (show cC (aT 84 S3) [] (kC S3) B from by first | (exact rp2_S3))

/-! from 95.n11 -/
/-! the class opens a heap (written by wip/tools/gen20h.py) -/
theorem g_100_79_66_sh_0 {X : Nat × (Nat → Int32)} {d w : Nat} {S : ma_S} {Q : Option ma_V ⊕ Nat → ma_S → Prop}  (hd : 0 ≤ d) (hw : 0 ≤ w) (hS : zT S) (h : Q (.inl none) (ma_put (ma_put (ma_put S 79 2 (.inl (mI S 66 0))) 79 3 (.inl (mI S 66 1))) 79 4 (.inl (0 : Int32)))) : ma_wp X d w 100 0 [(0, .inr (.inr (some 79))), (1, .inr (.inr (some 66)))] [] S Q := by
  refine zw_push hm_100 dX8_open_0 (v := .inr (.inr (some 79))) rfl ?_
  refine zw_push hm_100 dX8_open_1 (v := .inr (.inr (some 66))) rfl ?_
  refine zw_push hm_100 dX8_open_2 (v := .inl (0 : Int32)) rfl ?_
  refine zw_ia hm_100 dX8_open_3 (zT_is hS s_66) (zT_h hS s_66) rfl ⟨by decide, by decide⟩ ?_
  show ma_wp X d w 100 4 [(0, .inr (.inr (some 79))), (1, .inr (.inr (some 66)))] [.inl (mI S 66 0), .inr (.inr (some 79))] S _
  refine zw_pf hm_100 dX8_open_4 (zT_is hS s_79) (zT_t hS s_79) p_8_9_8 zk_int ?_
  refine zw_push hm_100 dX8_open_7 (v := .inr (.inr (some 79))) rfl ?_
  refine zw_push hm_100 dX8_open_8 (v := .inr (.inr (some 66))) rfl ?_
  refine zw_push hm_100 dX8_open_9 (v := .inl (1 : Int32)) rfl ?_
  refine zw_ia hm_100 dX8_open_10 (zT_is (zT_pi hS) s_66) (zT_h (zT_pi hS) s_66) rfl ⟨by decide, by decide⟩ ?_
  show ma_wp X d w 100 11 [(0, .inr (.inr (some 79))), (1, .inr (.inr (some 66)))] [.inl (mI S 66 1), .inr (.inr (some 79))] (ma_put S 79 2 (.inl (mI S 66 0))) _
  refine zw_pf hm_100 dX8_open_11 (zT_is (zT_pi hS) s_79) (zT_t (zT_pi hS) s_79) p_8_15_8 zk_int ?_
  refine zw_push hm_100 dX8_open_14 (v := .inr (.inr (some 79))) rfl ?_
  refine zw_push hm_100 dX8_open_15 (v := .inl (0 : Int32)) rfl ?_
  refine zw_pf hm_100 dX8_open_16 (zT_is (zT_pi (zT_pi hS)) s_79) (zT_t (zT_pi (zT_pi hS)) s_79) p_8_18_8 zk_int ?_
  exact zw_vret hm_100 dX8_open_19 h
theorem sp_100_79_66_sh {X : Nat × (Nat → Int32)} {d w : Nat} {f : Nat → Nat → Int32} {r : Nat → Nat → Option Nat} {C Z N : Nat} {Q : Option ma_V ⊕ Nat → ma_S → Prop} {ab : Nat→Nat→Int32} {S : ma_S}  (hd : 0 ≤ d) (hw : 0 ≤ w) (hI : zJ79 f r C Z N S) (hpre0 : 0 ≤ (mI S 66 0).toInt ∧ (mI S 66 0).toInt ≤ 1500) (hpre1 : xB S (mR S 70)) (hpre2 : aS 88 S = ab) (K : ∀ S₉, zJ79 f r C Z N S₉ → (xB S₉ (mR S₉ 70)) → (aS 88 S₉ = ab) → (zfP 79 (mI S₉) 0 = (f 66) 0 ∧ zfP 79 (mI S₉) 1 = (f 66) 1 ∧ zfP 79 (mI S₉) 2 = 0) → Q (.inl none) S₉) : ma_wp X d w 100 0 [(0, .inr (.inr (some 79))), (1, .inr (.inr (some 66)))] [] S Q := by
  refine g_100_79_66_sh_0  (by omega) (by omega) (zG_T hI) ?_
  have q1 : (mI S 66 0).toInt = (f 66 0).toInt := zG_zi hI rfl
  have b2 := i_bd (mI S 66 0)
  have hI3 : zJ79 f r C Z N (ma_put S 79 2 (.inl (mI S 66 0))) := zG_sp hI (0) (1500) rfl (by decide) (by decide) (by decide) trivial (by omega) (by omega)
  have hI4 : zJ79 f r C Z N (ma_put (ma_put S 79 2 (.inl (mI S 66 0))) 79 3 (.inl (mI S 66 1))) := zG_fr hI3 rfl (by decide) (by decide) (by decide) trivial
  have li6 : (0 : Int32).toInt = 0 := rfl
  have hI5 : zJ79 f r C Z N (ma_put (ma_put (ma_put S 79 2 (.inl (mI S 66 0))) 79 3 (.inl (mI S 66 1))) 79 4 (.inl (0 : Int32))) := zG_sp hI4 (0) (400000) rfl (by decide) (by decide) (by decide) trivial (by omega) (by omega)
  exact K _ hI5 (show xB (ma_put (ma_put (ma_put S 79 2 (.inl (mI S 66 0))) 79 3 (.inl (mI S 66 1))) 79 4 (.inl (0 : Int32))) (mR (ma_put (ma_put (ma_put S 79 2 (.inl (mI S 66 0))) 79 3 (.inl (mI S 66 1))) 79 4 (.inl (0 : Int32))) 70) from by first | (exact xB_x (xC_n (c := 79) (k := 4) (x := (0 : Int32)) (xC_n (c := 79) (k := 3) (x := (mI S 66 1)) (xC_n (c := 79) (k := 2) (x := (mI S 66 0)) (xC_o (W := 75) hpre1) ⟨by decide, Or.inl ⟨rfl, rfl⟩⟩) ⟨by decide, Or.inl ⟨rfl, rfl⟩⟩) ⟨by decide, Or.inl ⟨rfl, rfl⟩⟩).2)) (show aS 88 (ma_put (ma_put (ma_put S 79 2 (.inl (mI S 66 0))) 79 3 (.inl (mI S 66 1))) 79 4 (.inl (0 : Int32))) = ab from by first | (exact (xC_n (c := 79) (k := 4) (x := (0 : Int32)) (xC_n (c := 79) (k := 3) (x := (mI S 66 1)) (xC_n (c := 79) (k := 2) (x := (mI S 66 0)) (xC_o (W := 88) hpre1) ⟨by decide, Or.inr ⟨rfl, Or.inr ⟨rfl, by decide⟩⟩⟩) ⟨by decide, Or.inr ⟨rfl, Or.inr ⟨rfl, by decide⟩⟩⟩) ⟨by decide, Or.inr ⟨rfl, Or.inr ⟨rfl, by decide⟩⟩⟩).1.trans hpre2)) (show zfP 79 (mI (ma_put (ma_put (ma_put S 79 2 (.inl (mI S 66 0))) 79 3 (.inl (mI S 66 1))) 79 4 (.inl (0 : Int32)))) 0 = (f 66) 0 ∧ zfP 79 (mI (ma_put (ma_put (ma_put S 79 2 (.inl (mI S 66 0))) 79 3 (.inl (mI S 66 1))) 79 4 (.inl (0 : Int32)))) 1 = (f 66) 1 ∧ zfP 79 (mI (ma_put (ma_put (ma_put S 79 2 (.inl (mI S 66 0))) 79 3 (.inl (mI S 66 1))) 79 4 (.inl (0 : Int32)))) 2 = 0 from by first | (exact ⟨(show mI S 66 0 = f 66 0 from zG_z hI rfl), (show mI S 66 1 = f 66 1 from zG_z hI rfl), rfl⟩))
theorem g_101_79_sh_0 {X : Nat × (Nat → Int32)} {d w : Nat} {S : ma_S} {Q : Option ma_V ⊕ Nat → ma_S → Prop}  (hd : 0 ≤ d) (hw : 0 ≤ w) (hS : zT S) (h : Q (.inl (some (.inl (mI S 79 2)))) S) : ma_wp X d w 101 0 [(0, .inr (.inr (some 79)))] [] S Q := by
  refine zw_push hm_101 dX8_total_0 (v := .inr (.inr (some 79))) rfl ?_
  refine zw_gf hm_101 dX8_total_1 (v := .inl (mI S 79 2)) (zT_is hS s_79) (zT_t hS s_79) rfl f_8_9_8 rfl ?_
  exact zw_iret hm_101 dX8_total_4 h
theorem sp_101_79_sh {X : Nat × (Nat → Int32)} {d w : Nat} {f : Nat → Nat → Int32} {r : Nat → Nat → Option Nat} {C Z N : Nat} {Q : Option ma_V ⊕ Nat → ma_S → Prop} {S : ma_S}  (hd : 0 ≤ d) (hw : 0 ≤ w) (hI : zJ79 f r C Z N S)  (K : ∀ v S₉, S₉ = S → (True) → Q (.inl (some (.inl v))) S₉) : ma_wp X d w 101 0 [(0, .inr (.inr (some 79)))] [] S Q := by
  refine g_101_79_sh_0  (by omega) (by omega) (zG_T hI) ?_
  have f1 := zG_s hI (0) (1500) (c := 79) (k := 2) (by decide)
  exact K ((mI S 79 2)) _ rfl trivial
theorem g_100_84_66_sh_0 {X : Nat × (Nat → Int32)} {d w : Nat} {S : ma_S} {Q : Option ma_V ⊕ Nat → ma_S → Prop}  (hd : 0 ≤ d) (hw : 0 ≤ w) (hS : zT S) (h : Q (.inl none) (ma_put (ma_put (ma_put S 84 0 (.inl (mI S 66 0))) 84 1 (.inl (mI S 66 1))) 84 2 (.inl (0 : Int32)))) : ma_wp X d w 100 0 [(0, .inr (.inr (some 84))), (1, .inr (.inr (some 66)))] [] S Q := by
  refine zw_push hm_100 dX8_open_0 (v := .inr (.inr (some 84))) rfl ?_
  refine zw_push hm_100 dX8_open_1 (v := .inr (.inr (some 66))) rfl ?_
  refine zw_push hm_100 dX8_open_2 (v := .inl (0 : Int32)) rfl ?_
  refine zw_ia hm_100 dX8_open_3 (zT_is hS s_66) (zT_h hS s_66) rfl ⟨by decide, by decide⟩ ?_
  show ma_wp X d w 100 4 [(0, .inr (.inr (some 84))), (1, .inr (.inr (some 66)))] [.inl (mI S 66 0), .inr (.inr (some 84))] S _
  refine zw_pf hm_100 dX8_open_4 (zT_is hS s_84) (zT_t hS s_84) p_8_9_2 zk_int ?_
  refine zw_push hm_100 dX8_open_7 (v := .inr (.inr (some 84))) rfl ?_
  refine zw_push hm_100 dX8_open_8 (v := .inr (.inr (some 66))) rfl ?_
  refine zw_push hm_100 dX8_open_9 (v := .inl (1 : Int32)) rfl ?_
  refine zw_ia hm_100 dX8_open_10 (zT_is (zT_pi hS) s_66) (zT_h (zT_pi hS) s_66) rfl ⟨by decide, by decide⟩ ?_
  show ma_wp X d w 100 11 [(0, .inr (.inr (some 84))), (1, .inr (.inr (some 66)))] [.inl (mI S 66 1), .inr (.inr (some 84))] (ma_put S 84 0 (.inl (mI S 66 0))) _
  refine zw_pf hm_100 dX8_open_11 (zT_is (zT_pi hS) s_84) (zT_t (zT_pi hS) s_84) p_8_15_2 zk_int ?_
  refine zw_push hm_100 dX8_open_14 (v := .inr (.inr (some 84))) rfl ?_
  refine zw_push hm_100 dX8_open_15 (v := .inl (0 : Int32)) rfl ?_
  refine zw_pf hm_100 dX8_open_16 (zT_is (zT_pi (zT_pi hS)) s_84) (zT_t (zT_pi (zT_pi hS)) s_84) p_8_18_2 zk_int ?_
  exact zw_vret hm_100 dX8_open_19 h
theorem sp_100_84_66_sh {X : Nat × (Nat → Int32)} {d w : Nat} {f : Nat → Nat → Int32} {r : Nat → Nat → Option Nat} {C Z N : Nat} {Q : Option ma_V ⊕ Nat → ma_S → Prop} {ab : Nat→Nat→Int32} {S : ma_S}  (hd : 0 ≤ d) (hw : 0 ≤ w) (hI : zJ84 f r C Z N S) (hpre0 : 0 ≤ (mI S 66 0).toInt ∧ (mI S 66 0).toInt ≤ 1500) (hpre1 : xB S (mR S 70)) (hpre2 : aS 88 S = ab) (K : ∀ S₉, zJ84 f r C Z N S₉ → (xB S₉ (mR S₉ 70)) → (aS 88 S₉ = ab) → (zfP 84 (mI S₉) 0 = (f 66) 0 ∧ zfP 84 (mI S₉) 1 = (f 66) 1 ∧ zfP 84 (mI S₉) 2 = 0) → Q (.inl none) S₉) : ma_wp X d w 100 0 [(0, .inr (.inr (some 84))), (1, .inr (.inr (some 66)))] [] S Q := by
  refine g_100_84_66_sh_0  (by omega) (by omega) (zG_T hI) ?_
  have q1 : (mI S 66 0).toInt = (f 66 0).toInt := zG_zi hI rfl
  have b2 := i_bd (mI S 66 0)
  have hI3 : zJ84 f r C Z N (ma_put S 84 0 (.inl (mI S 66 0))) := zG_sp hI (0) (1500) rfl (by decide) (by decide) (by decide) trivial (by omega) (by omega)
  have hI4 : zJ84 f r C Z N (ma_put (ma_put S 84 0 (.inl (mI S 66 0))) 84 1 (.inl (mI S 66 1))) := zG_fr hI3 rfl (by decide) (by decide) (by decide) trivial
  have li6 : (0 : Int32).toInt = 0 := rfl
  have hI5 : zJ84 f r C Z N (ma_put (ma_put (ma_put S 84 0 (.inl (mI S 66 0))) 84 1 (.inl (mI S 66 1))) 84 2 (.inl (0 : Int32))) := zG_sp hI4 (0) (400000) rfl (by decide) (by decide) (by decide) trivial (by omega) (by omega)
  exact K _ hI5 (show xB (ma_put (ma_put (ma_put S 84 0 (.inl (mI S 66 0))) 84 1 (.inl (mI S 66 1))) 84 2 (.inl (0 : Int32))) (mR (ma_put (ma_put (ma_put S 84 0 (.inl (mI S 66 0))) 84 1 (.inl (mI S 66 1))) 84 2 (.inl (0 : Int32))) 70) from by first | (exact xB_x (xC_n (c := 84) (k := 2) (x := (0 : Int32)) (xC_n (c := 84) (k := 1) (x := (mI S 66 1)) (xC_n (c := 84) (k := 0) (x := (mI S 66 0)) (xC_o (W := 75) hpre1) ⟨by decide, Or.inl ⟨rfl, rfl⟩⟩) ⟨by decide, Or.inl ⟨rfl, rfl⟩⟩) ⟨by decide, Or.inl ⟨rfl, rfl⟩⟩).2)) (show aS 88 (ma_put (ma_put (ma_put S 84 0 (.inl (mI S 66 0))) 84 1 (.inl (mI S 66 1))) 84 2 (.inl (0 : Int32))) = ab from by first | (exact (xC_n (c := 84) (k := 2) (x := (0 : Int32)) (xC_n (c := 84) (k := 1) (x := (mI S 66 1)) (xC_n (c := 84) (k := 0) (x := (mI S 66 0)) (xC_o (W := 88) hpre1) ⟨by decide, Or.inr ⟨rfl, Or.inr ⟨rfl, by decide⟩⟩⟩) ⟨by decide, Or.inr ⟨rfl, Or.inr ⟨rfl, by decide⟩⟩⟩) ⟨by decide, Or.inr ⟨rfl, Or.inr ⟨rfl, by decide⟩⟩⟩).1.trans hpre2)) (show zfP 84 (mI (ma_put (ma_put (ma_put S 84 0 (.inl (mI S 66 0))) 84 1 (.inl (mI S 66 1))) 84 2 (.inl (0 : Int32)))) 0 = (f 66) 0 ∧ zfP 84 (mI (ma_put (ma_put (ma_put S 84 0 (.inl (mI S 66 0))) 84 1 (.inl (mI S 66 1))) 84 2 (.inl (0 : Int32)))) 1 = (f 66) 1 ∧ zfP 84 (mI (ma_put (ma_put (ma_put S 84 0 (.inl (mI S 66 0))) 84 1 (.inl (mI S 66 1))) 84 2 (.inl (0 : Int32)))) 2 = 0 from by first | (exact ⟨(show mI S 66 0 = f 66 0 from zG_z hI rfl), (show mI S 66 1 = f 66 1 from zG_z hI rfl), rfl⟩))
theorem g_101_84_sh_0 {X : Nat × (Nat → Int32)} {d w : Nat} {S : ma_S} {Q : Option ma_V ⊕ Nat → ma_S → Prop}  (hd : 0 ≤ d) (hw : 0 ≤ w) (hS : zT S) (h : Q (.inl (some (.inl (mI S 84 0)))) S) : ma_wp X d w 101 0 [(0, .inr (.inr (some 84)))] [] S Q := by
  refine zw_push hm_101 dX8_total_0 (v := .inr (.inr (some 84))) rfl ?_
  refine zw_gf hm_101 dX8_total_1 (v := .inl (mI S 84 0)) (zT_is hS s_84) (zT_t hS s_84) rfl f_8_9_2 rfl ?_
  exact zw_iret hm_101 dX8_total_4 h
theorem sp_101_84_sh {X : Nat × (Nat → Int32)} {d w : Nat} {f : Nat → Nat → Int32} {r : Nat → Nat → Option Nat} {C Z N : Nat} {Q : Option ma_V ⊕ Nat → ma_S → Prop} {S : ma_S}  (hd : 0 ≤ d) (hw : 0 ≤ w) (hI : zJ84 f r C Z N S)  (K : ∀ v S₉, S₉ = S → (True) → Q (.inl (some (.inl v))) S₉) : ma_wp X d w 101 0 [(0, .inr (.inr (some 84)))] [] S Q := by
  refine g_101_84_sh_0  (by omega) (by omega) (zG_T hI) ?_
  have f1 := zG_s hI (0) (1500) (c := 84) (k := 0) (by decide)
  exact K ((mI S 84 0)) _ rfl trivial
theorem fn9_t {I : Nat → Nat → Int32} {L : Nat → Nat → Int64} {R : Nat → Option Nat} {S S0 : ma_S} (h0 : zFm I L R S0) (h : zFm (mI S0) (mL S0) (mR S0 70) S) : zFm I L R S := ⟨h.1.trans h0.1, h.2.1.trans h0.2.1, fun c k hc => (h.2.2 c k hc).trans (h0.2.2 c k hc)⟩

/-! from 95.n13 -/
/-! the class opens a heap (written by wip/tools/gen20h.py) -/
theorem g_162_64_sh_p0_0 {X : Nat × (Nat → Int32)} {d w : Nat} {S : ma_S} {Q : Option ma_V ⊕ Nat → ma_S → Prop} (ix : Int32) (pa : Int32) (hd : 7 ≤ d) (hw : 109 ≤ w) (hS : zT S) (h : if pa < 0 then (Q (.inr 2) (ma_bump S)) else (if pa ≤ (1 : Int32) then (mR S 64 11 = none ∧ (Q (.inr 3) (ma_bump S))) else (Q (.inr 2) (ma_bump S)))) : ma_wp X d w 162 0 [(0, .inr (.inr (some 64))), (1, .inl ix), (2, .inl pa)] [] S Q := by
  refine zw_push hm_162 dX11_block_0 (v := .inl pa) rfl ?_
  refine zw_if0 hm_162 dX11_block_1 (t := 9) rfl zc0_lt ?_ ?_
  · intro hc
    rw [if_pos hc] at h
    exact zw_thr hm_162 dX11_block_9 dX11_block_12 dX11_block_13 dX11_block_16 x_11_79_81 n_11_79 (by omega) (by show 0 + 81 ≤ w; omega) h
  · intro hc
    rw [if_neg hc] at h
    refine zw_push hm_162 dX11_block_4 (v := .inl pa) rfl ?_
    refine zw_push hm_162 dX11_block_5 (v := .inl (1 : Int32)) rfl ?_
    refine zw_if2 hm_162 dX11_block_6 (t := 17) rfl zc2_le ?_ ?_
    · intro hc
      rw [if_pos hc] at h
      refine zw_push hm_162 dX11_block_17 (v := .inr (.inr (some 64))) rfl ?_
      refine zw_cv hm_162 dX11_block_18 v_11_119_11 hm_144 [] [] rfl (zT_rt hS s_64 rfl) ⟨by omega, by omega⟩ rfl ?_
      show ma_wp X (d - 1) (w - 20) 144 0 [(0, .inr (.inr (some 64)))] [] S _
      refine zw_push hm_144 dX11_needCollector_0 (v := .inr (.inr (some 64))) rfl ?_
      obtain ⟨hg, h⟩ := h
      refine zw_gf hm_144 dX11_needCollector_1 (v := .inr (.inr none)) (zT_is hS s_64) (zT_t hS s_64) rfl f_11_98_11 (congrArg (fun z => Sum.inr (Sum.inr z)) hg) ?_
      refine zw_ifnonnull hm_144 dX11_needCollector_4 (t := 15) rfl (fun _ => ?_) (fun _ z => by cases z)
      exact zw_thr hm_144 dX11_needCollector_7 dX11_needCollector_10 dX11_needCollector_11 dX11_needCollector_14 x_11_85_87 n_11_85 (by omega) (by show 0 + 81 ≤ (w - 20); omega) ⟨by decide, h⟩
    · intro hc
      rw [if_neg hc] at h
      exact zw_thr hm_162 dX11_block_9 dX11_block_12 dX11_block_13 dX11_block_16 x_11_79_81 n_11_79 (by omega) (by show 0 + 81 ≤ w; omega) h
theorem sp_162_64_sh_p0 {X : Nat × (Nat → Int32)} {d w : Nat} {f : Nat → Nat → Int32} {r : Nat → Nat → Option Nat} {C Z N : Nat} {Q : Option ma_V ⊕ Nat → ma_S → Prop} {S : ma_S} (ix : Int32) (pa : Int32) (hd : 7 ≤ d) (hw : 109 ≤ w) (hI : zB f r C Z N S) (hr : r 64 11 = none)  (K : ∀ v S₉, zB f r C Z N S₉ → ((0 : Int) = 1) → Q (.inl (some (.inl v))) S₉) (KX : ∀ x S₉, (x = 2 ∨ x = 3) → zB f r C Z N S₉ → ((x = 2 ∧ (pa.toInt < 0 ∨ 1 < pa.toInt)) ∨ (x = 3 ∧ 0 ≤ pa.toInt ∧ pa.toInt ≤ 1)) → Q (.inr x) (ma_bump S₉)) : ma_wp X d w 162 0 [(0, .inr (.inr (some 64))), (1, .inl ix), (2, .inl pa)] [] S Q := by
  refine g_162_64_sh_p0_0 ix pa (by omega) (by omega) (zG_T hI) ?_
  have b1 := i_bd pa
  have li2 : (0 : Int32).toInt = 0 := rfl
  refine zd (fun h3 => ?_) (fun h3 => ?_)
  · skip
    have g4 := i_lt h3
    exact KX 2 _ (by decide) hI (show (2 = 2 ∧ (pa.toInt < 0 ∨ 1 < pa.toInt)) ∨ (2 = 3 ∧ 0 ≤ pa.toInt ∧ pa.toInt ≤ 1) from by omega)
  · skip
    have g5 := i_nlt h3
    have li6 : (1 : Int32).toInt = 1 := rfl
    refine zd (fun h7 => ?_) (fun h7 => ?_)
    · skip
      have g8 := i_le h7
      refine ⟨((zG_r hI (by decide)).trans hr), ?_⟩
      exact KX 3 _ (by decide) hI (show (3 = 2 ∧ (pa.toInt < 0 ∨ 1 < pa.toInt)) ∨ (3 = 3 ∧ 0 ≤ pa.toInt ∧ pa.toInt ≤ 1) from by omega)
    · skip
      have g9 := i_nle h7
      exact KX 2 _ (by decide) hI (show (2 = 2 ∧ (pa.toInt < 0 ∨ 1 < pa.toInt)) ∨ (2 = 3 ∧ 0 ≤ pa.toInt ∧ pa.toInt ≤ 1) from by omega)
theorem g_160_64_sh_p79_0 {X : Nat × (Nat → Int32)} {d w : Nat} {S : ma_S} {Q : Option ma_V ⊕ Nat → ma_S → Prop} (n : Int32) (hd : 7 ≤ d) (hw : 114 ≤ w) (hS : zT S) (h : if n < 0 then (Q (.inr 2) (ma_bump S)) else (if n ≤ (1000 : Int32) then (mR S 64 11 = some 79 ∧ (mR S 64 11 = some 79 ∧ (Q (.inr 6) (ma_bump S)))) else (Q (.inr 2) (ma_bump S)))) : ma_wp X d w 160 0 [(0, .inr (.inr (some 64))), (1, .inl n)] [] S Q := by
  refine zw_push hm_160 dX11_step_0 (v := .inl n) rfl ?_
  refine zw_if0 hm_160 dX11_step_1 (t := 11) rfl zc0_lt ?_ ?_
  · intro hc
    rw [if_pos hc] at h
    exact zw_thr hm_160 dX11_step_11 dX11_step_14 dX11_step_15 dX11_step_18 x_11_79_81 n_11_79 (by omega) (by show 0 + 81 ≤ w; omega) h
  · intro hc
    rw [if_neg hc] at h
    refine zw_push hm_160 dX11_step_4 (v := .inl n) rfl ?_
    refine zw_push hm_160 dX11_step_5 (v := .inl (1000 : Int32)) rfl ?_
    refine zw_if2 hm_160 dX11_step_8 (t := 19) rfl zc2_le ?_ ?_
    · intro hc
      rw [if_pos hc] at h
      refine zw_push hm_160 dX11_step_19 (v := .inr (.inr (some 64))) rfl ?_
      refine zw_cv hm_160 dX11_step_20 v_11_119_11 hm_144 [] [] rfl (zT_rt hS s_64 rfl) ⟨by omega, by omega⟩ rfl ?_
      show ma_wp X (d - 1) (w - 20) 144 0 [(0, .inr (.inr (some 64)))] [] S _
      refine zw_push hm_144 dX11_needCollector_0 (v := .inr (.inr (some 64))) rfl ?_
      obtain ⟨hg, h⟩ := h
      refine zw_gf hm_144 dX11_needCollector_1 (v := .inr (.inr (some 79))) (zT_is hS s_64) (zT_t hS s_64) rfl f_11_98_11 (congrArg (fun z => Sum.inr (Sum.inr z)) hg) ?_
      refine zw_ifnonnull hm_144 dX11_needCollector_4 (t := 15) rfl (fun z => by cases z) (fun _ _ => ?_)
      refine zw_push hm_144 dX11_needCollector_15 (v := .inr (.inr (some 64))) rfl ?_
      obtain ⟨hg, h⟩ := h
      refine zw_gf hm_144 dX11_needCollector_16 (v := .inr (.inr (some 79))) (zT_is hS s_64) (zT_t hS s_64) rfl f_11_98_11 (congrArg (fun z => Sum.inr (Sum.inr z)) hg) ?_
      refine zw_aret hm_144 dX11_needCollector_19 ?_
      show ma_wp X d w 160 23 [(0, .inr (.inr (some 64))), (1, .inl n)] [.inr (.inr (some 79))] S _
      refine zw_sto hm_160 dX11_step_23 [(3, .inr (.inr (some 79))), (0, .inr (.inr (some 64))), (1, .inl n)] rfl rfl rfl ?_
      refine zw_push hm_160 dX11_step_24 (v := .inr (.inr (some 79))) rfl ?_
      refine zw_iof hm_160 dX11_step_25 (zT_is hS s_79) (zT_t hS s_79) rfl ct_11_58_8 (v := (0 : Int32)) rfl ?_
      refine zw_if0 hm_160 dX11_step_28 (t := 42) rfl zc0_eq (fun _ => ?_) (fun hc => absurd (by decide) hc)
      exact zw_thr hm_160 dX11_step_42 dX11_step_45 dX11_step_46 dX11_step_49 x_11_192_194 n_11_192 (by omega) (by show 0 + 81 ≤ w; omega) h
    · intro hc
      rw [if_neg hc] at h
      exact zw_thr hm_160 dX11_step_11 dX11_step_14 dX11_step_15 dX11_step_18 x_11_79_81 n_11_79 (by omega) (by show 0 + 81 ≤ w; omega) h
theorem sp_160_64_sh_p79 {X : Nat × (Nat → Int32)} {d w : Nat} {f : Nat → Nat → Int32} {r : Nat → Nat → Option Nat} {C Z N : Nat} {Q : Option ma_V ⊕ Nat → ma_S → Prop} {I0 : Nat→Nat→Int32} {L0 : Nat→Nat→Int64} {R0 : zRT} {S : ma_S} (n : Int32) (hd : 7 ≤ d) (hw : 114 ≤ w) (hI : zB f r C Z N S) (hr : r 64 11 = some 79) (hpre0 : zFm I0 L0 R0 S) (K : ∀ v S₉, zB f r C Z N S₉ → ((0 : Int) = 1) → Q (.inl (some (.inl v))) S₉) (KX : ∀ x S₉, (x = 2 ∨ x = 6) → zB f r C Z N S₉ → ((x = 2 ∧ (n.toInt < 0 ∨ 1000 < n.toInt)) ∨ (x = 6 ∧ 0 ≤ n.toInt ∧ n.toInt ≤ 1000)) → (zFm I0 L0 R0 S₉) → Q (.inr x) (ma_bump S₉)) : ma_wp X d w 160 0 [(0, .inr (.inr (some 64))), (1, .inl n)] [] S Q := by
  refine g_160_64_sh_p79_0 n (by omega) (by omega) (zG_T hI) ?_
  have b1 := i_bd n
  have li2 : (0 : Int32).toInt = 0 := rfl
  refine zd (fun h3 => ?_) (fun h3 => ?_)
  · skip
    have g4 := i_lt h3
    exact KX 2 _ (by decide) hI (show (2 = 2 ∧ (n.toInt < 0 ∨ 1000 < n.toInt)) ∨ (2 = 6 ∧ 0 ≤ n.toInt ∧ n.toInt ≤ 1000) from by omega) (show zFm I0 L0 R0 S from by first | (exact hpre0))
  · skip
    have g5 := i_nlt h3
    have li6 : (1000 : Int32).toInt = 1000 := rfl
    refine zd (fun h7 => ?_) (fun h7 => ?_)
    · skip
      have g8 := i_le h7
      refine ⟨((zG_r hI (by decide)).trans hr), ?_⟩
      refine ⟨((zG_r hI (by decide)).trans hr), ?_⟩
      exact KX 6 _ (by decide) hI (show (6 = 2 ∧ (n.toInt < 0 ∨ 1000 < n.toInt)) ∨ (6 = 6 ∧ 0 ≤ n.toInt ∧ n.toInt ≤ 1000) from by omega) (show zFm I0 L0 R0 S from by first | (exact hpre0))
    · skip
      have g9 := i_nle h7
      exact KX 2 _ (by decide) hI (show (2 = 2 ∧ (n.toInt < 0 ∨ 1000 < n.toInt)) ∨ (2 = 6 ∧ 0 ≤ n.toInt ∧ n.toInt ≤ 1000) from by omega) (show zFm I0 L0 R0 S from by first | (exact hpre0))

/-! from 95.n14 -/
/-! the class opens a heap (written by wip/tools/gen20h.py) -/
theorem g_160_64_sh_p84_0 {X : Nat × (Nat → Int32)} {d w : Nat} {S : ma_S} {Q : Option ma_V ⊕ Nat → ma_S → Prop} (n : Int32) (hd : 7 ≤ d) (hw : 114 ≤ w) (hS : zT S) (h : if n < 0 then (Q (.inr 2) (ma_bump S)) else (if n ≤ (1000 : Int32) then (mR S 64 11 = some 84 ∧ (mR S 64 11 = some 84 ∧ (Q (.inr 6) (ma_bump S)))) else (Q (.inr 2) (ma_bump S)))) : ma_wp X d w 160 0 [(0, .inr (.inr (some 64))), (1, .inl n)] [] S Q := by
  refine zw_push hm_160 dX11_step_0 (v := .inl n) rfl ?_
  refine zw_if0 hm_160 dX11_step_1 (t := 11) rfl zc0_lt ?_ ?_
  · intro hc
    rw [if_pos hc] at h
    exact zw_thr hm_160 dX11_step_11 dX11_step_14 dX11_step_15 dX11_step_18 x_11_79_81 n_11_79 (by omega) (by show 0 + 81 ≤ w; omega) h
  · intro hc
    rw [if_neg hc] at h
    refine zw_push hm_160 dX11_step_4 (v := .inl n) rfl ?_
    refine zw_push hm_160 dX11_step_5 (v := .inl (1000 : Int32)) rfl ?_
    refine zw_if2 hm_160 dX11_step_8 (t := 19) rfl zc2_le ?_ ?_
    · intro hc
      rw [if_pos hc] at h
      refine zw_push hm_160 dX11_step_19 (v := .inr (.inr (some 64))) rfl ?_
      refine zw_cv hm_160 dX11_step_20 v_11_119_11 hm_144 [] [] rfl (zT_rt hS s_64 rfl) ⟨by omega, by omega⟩ rfl ?_
      show ma_wp X (d - 1) (w - 20) 144 0 [(0, .inr (.inr (some 64)))] [] S _
      refine zw_push hm_144 dX11_needCollector_0 (v := .inr (.inr (some 64))) rfl ?_
      obtain ⟨hg, h⟩ := h
      refine zw_gf hm_144 dX11_needCollector_1 (v := .inr (.inr (some 84))) (zT_is hS s_64) (zT_t hS s_64) rfl f_11_98_11 (congrArg (fun z => Sum.inr (Sum.inr z)) hg) ?_
      refine zw_ifnonnull hm_144 dX11_needCollector_4 (t := 15) rfl (fun z => by cases z) (fun _ _ => ?_)
      refine zw_push hm_144 dX11_needCollector_15 (v := .inr (.inr (some 64))) rfl ?_
      obtain ⟨hg, h⟩ := h
      refine zw_gf hm_144 dX11_needCollector_16 (v := .inr (.inr (some 84))) (zT_is hS s_64) (zT_t hS s_64) rfl f_11_98_11 (congrArg (fun z => Sum.inr (Sum.inr z)) hg) ?_
      refine zw_aret hm_144 dX11_needCollector_19 ?_
      show ma_wp X d w 160 23 [(0, .inr (.inr (some 64))), (1, .inl n)] [.inr (.inr (some 84))] S _
      refine zw_sto hm_160 dX11_step_23 [(3, .inr (.inr (some 84))), (0, .inr (.inr (some 64))), (1, .inl n)] rfl rfl rfl ?_
      refine zw_push hm_160 dX11_step_24 (v := .inr (.inr (some 84))) rfl ?_
      refine zw_iof hm_160 dX11_step_25 (zT_is hS s_84) (zT_t hS s_84) rfl ct_11_58_2 (v := (0 : Int32)) rfl ?_
      refine zw_if0 hm_160 dX11_step_28 (t := 42) rfl zc0_eq (fun _ => ?_) (fun hc => absurd (by decide) hc)
      exact zw_thr hm_160 dX11_step_42 dX11_step_45 dX11_step_46 dX11_step_49 x_11_192_194 n_11_192 (by omega) (by show 0 + 81 ≤ w; omega) h
    · intro hc
      rw [if_neg hc] at h
      exact zw_thr hm_160 dX11_step_11 dX11_step_14 dX11_step_15 dX11_step_18 x_11_79_81 n_11_79 (by omega) (by show 0 + 81 ≤ w; omega) h
theorem sp_160_64_sh_p84 {X : Nat × (Nat → Int32)} {d w : Nat} {f : Nat → Nat → Int32} {r : Nat → Nat → Option Nat} {C Z N : Nat} {Q : Option ma_V ⊕ Nat → ma_S → Prop} {I0 : Nat→Nat→Int32} {L0 : Nat→Nat→Int64} {R0 : zRT} {S : ma_S} (n : Int32) (hd : 7 ≤ d) (hw : 114 ≤ w) (hI : zB f r C Z N S) (hr : r 64 11 = some 84) (hpre0 : zFm I0 L0 R0 S) (K : ∀ v S₉, zB f r C Z N S₉ → ((0 : Int) = 1) → Q (.inl (some (.inl v))) S₉) (KX : ∀ x S₉, (x = 2 ∨ x = 6) → zB f r C Z N S₉ → ((x = 2 ∧ (n.toInt < 0 ∨ 1000 < n.toInt)) ∨ (x = 6 ∧ 0 ≤ n.toInt ∧ n.toInt ≤ 1000)) → (zFm I0 L0 R0 S₉) → Q (.inr x) (ma_bump S₉)) : ma_wp X d w 160 0 [(0, .inr (.inr (some 64))), (1, .inl n)] [] S Q := by
  refine g_160_64_sh_p84_0 n (by omega) (by omega) (zG_T hI) ?_
  have b1 := i_bd n
  have li2 : (0 : Int32).toInt = 0 := rfl
  refine zd (fun h3 => ?_) (fun h3 => ?_)
  · skip
    have g4 := i_lt h3
    exact KX 2 _ (by decide) hI (show (2 = 2 ∧ (n.toInt < 0 ∨ 1000 < n.toInt)) ∨ (2 = 6 ∧ 0 ≤ n.toInt ∧ n.toInt ≤ 1000) from by omega) (show zFm I0 L0 R0 S from by first | (exact hpre0))
  · skip
    have g5 := i_nlt h3
    have li6 : (1000 : Int32).toInt = 1000 := rfl
    refine zd (fun h7 => ?_) (fun h7 => ?_)
    · skip
      have g8 := i_le h7
      refine ⟨((zG_r hI (by decide)).trans hr), ?_⟩
      refine ⟨((zG_r hI (by decide)).trans hr), ?_⟩
      exact KX 6 _ (by decide) hI (show (6 = 2 ∧ (n.toInt < 0 ∨ 1000 < n.toInt)) ∨ (6 = 6 ∧ 0 ≤ n.toInt ∧ n.toInt ≤ 1000) from by omega) (show zFm I0 L0 R0 S from by first | (exact hpre0))
    · skip
      have g9 := i_nle h7
      exact KX 2 _ (by decide) hI (show (2 = 2 ∧ (n.toInt < 0 ∨ 1000 < n.toInt)) ∨ (2 = 6 ∧ 0 ≤ n.toInt ∧ n.toInt ≤ 1000) from by omega) (show zFm I0 L0 R0 S from by first | (exact hpre0))

/-! from 95.o00 -/
/-! the reference under COUNTS (written by wip/tools/gen20s.py) -/
/-! COUNTS, the reference: one goes -/
section D0
variable {aa a b c e : Nat → Nat → Int32} {us us₉ nr kr kd ws at₉ ho wd wi ow ow₉ rt wk wk0 wk₉ wl kp : Nat → Int32} {wm nu ro fo le ra pi y x i : Int32} {n k t s : Nat} {m : Nat → Nat → Int32}
theorem I_md (hI : qI b) (h : qMd b e (b 69 6).toInt) : qI e := by
  have r87 := h.2.1.1 87 (by decide) (by decide) (by decide) (by decide)
  have fl : ∀ n, xAl e n → xAl b n ∧ b 77 n ≠ 0 ∧ e 130 n = b 130 n ∧ e 128 n = b 128 n := fun n hn => by
    have q := (Md_al hI h).mp hn
    have f := (Md_f h q.1.1 q.2).1
    exact ⟨q.1, q.2, f 130 (by decide) (by decide), f 128 (by decide) (by decide)⟩
  refine ⟨fun n hn => ?_, fun n n₉ hn hn₉ hne => ?_, fun p hp hc => ?_, ⟨?_, ?_, ?_, ?_, ?_, ?_⟩, h.2.2.2.2.1, fun n hn k => ?_⟩
  · have f := fl n hn
    have i := hI.1 n f.1
    have c := tn_cast i.1.2
    rw [f.2.2.1, f.2.2.2, h.2.1.2.2, r87, Md_w hI h f.1 f.2.1 (p := (b 130 n).toNatClampNeg) (by omega) (by have := i.2.1.1; omega)]
    exact i
  · have f := fl n hn
    have f₉ := fl n₉ hn₉
    rw [f.2.2.1, f.2.2.2, f₉.2.2.1, f₉.2.2.2]
    exact hI.2.1 n n₉ f.1 f₉.1 hne
  · by_cases z : ∃ x : Nat, (x : Int) < (b 69 6).toInt ∧ qWh b x ∧ (b 130 x).toInt ≤ (p : Int) ∧ (p : Int) < (b 130 x).toInt + (b 128 x).toInt
    · exact (h.2.2.2.1 p).1 z
    · rw [(h.2.2.2.1 p).2 z]
      refine hI.2.2.1 p hp (fun n hn w => ?_)
      by_cases k0 : b 77 n = 0
      · exact z ⟨n, (hI.1 n hn).1.1, ⟨hn, k0⟩, w⟩
      · have al := (Md_al hI h).mpr ⟨hn, k0⟩
        have f := fl n al
        have q := hc n al
        rw [f.2.2.1, f.2.2.2] at q
        exact q w
  · rw [h.2.1.2.2]
    exact hI.2.2.2.1.1
  · rw [h.2.1.2.1]
    exact hI.2.2.2.1.2.1
  · rw [r87]
    exact hI.2.2.2.1.2.2.1
  · rw [r87]
    exact hI.2.2.2.1.2.2.2.1
  · intro n hn
    have f := fl n hn
    rw [f.2.2.1, f.2.2.2, r87]
    exact hI.2.2.2.1.2.2.2.2.1 n f.1
  · rw [r87]
    exact hI.2.2.2.1.2.2.2.2.2
  · exact h.2.2.2.2.2 n hn (fun n₉ w => hI.2.2.2.2.2 n₉ w) k
theorem RB_md (hR : qRB us nr kr kd ws at₉ ho wd wi ow rt wk wl wm nu ro fo le ra pi b) (hI : qI b) (hK : qKB kp us nr b) (hC : qCK kp us rt wl wm kr kd ws wd) (h : qMd b e (b 69 6).toInt) (hu : qUr wk wk₉ kp 16) (hm : zrm us us₉ kp 3100) (ho₉ : zowr ow ow₉ us kp at₉) : qRB us₉ nr kr kd ws at₉ ho wd wi ow₉ rt wk₉ wl wm nu ro fo le ra pi e := by
  obtain ⟨q1, q2, q3, q4, q5, q6, q7, q8⟩ := hR
  have us1 : ∀ s, s < 3100 → us₉ s ≠ 0 → us s ≠ 0 ∧ kp s ≠ 0 ∧ xAl b (nr s).toNatClampNeg ∧ b 77 (nr s).toNatClampNeg ≠ 0 := fun s hs hv => by
    have z := ((hm s hs).1 hs).mp hv
    exact ⟨z.1, z.2, R1_al q1 hs z.1, ((hK.2 s hs z.1).mp z.2).2⟩
  have us2 : ∀ s, s < 3100 → us s ≠ 0 → kp s ≠ 0 → us₉ s ≠ 0 := fun s hs hv hk => ((hm s hs).1 hs).mpr ⟨hv, hk⟩
  have fl : ∀ s, s < 3100 → us₉ s ≠ 0 → ∀ f, 126 ≤ f → f < 1000 → e f (nr s).toNatClampNeg = b f (nr s).toNatClampNeg := fun s hs hv => (Md_f h (us1 s hs hv).2.2.1.1 (us1 s hs hv).2.2.2).1
  have lo := h.2.1.1
  have kU : ∀ x : Int32, qU us x → (x.toInt < 0 ∨ kp x.toNatClampNeg ≠ 0) → qU us₉ x := fun x hx hk => by
    by_cases z : x.toInt < 0
    · exact Or.inl z
    · have u := U_y hx (by omega)
      exact Or.inr ⟨u.1, us2 _ (tn_lt (by omega) u.1) u.2 (hk.elim (fun w => absurd w z) id)⟩
  refine ⟨⟨fun s hs hv => ?_, fun s t hs ht hv hv2 en => q1.2.1 s t hs ht (us1 s hs hv).1 (us1 t ht hv2).1 en, fun n hn ha => ?_⟩, fun s hs hv i hi => ?_, fun k hk => ?_, fun k hk => ?_, ⟨?_, fun k hk => ?_⟩, fun s hs hv => ?_, fun s hs hv => ?_, ?_⟩
  · have u := us1 s hs hv
    have f := fl s hs hv
    rw [f 126 (by decide) (by decide), f 128 (by decide) (by decide), f 130 (by decide) (by decide), f 133 (by decide) (by decide)]
    exact q1.1 s hs u.1
  · have al := (Md_al hI h).mp (show xAl e n from ⟨hn, ha⟩)
    obtain ⟨s, hs, hv, en⟩ := q1.2.2 n hn al.1.2
    refine ⟨s, hs, us2 s hs hv ((hK.2 s hs hv).mpr ?_), en⟩
    rw [en, tn_of hn]
    exact ⟨hn, al.2⟩
  · have u := us1 s hs hv
    have q := q2 s hs u.1 i hi
    have t := q1.1 s hs u.1
    have ib := hI.1 _ u.2.2.1
    have rf : aRef e (nr s).toNatClampNeg (Int32.ofNat i) = aRef b (nr s).toNatClampNeg (Int32.ofNat i) := by
      have ei : (Int32.ofNat i).toInt = (i : Int) := Int32.toInt_ofNat_of_lt (by have := t.2.2.2.2.2.1; omega)
      have b4 := hI.2.2.2.1.2.2.1
      have ep : (b 130 (nr s).toNatClampNeg + 1).toInt = (b 130 (nr s).toNatClampNeg).toInt + 1 := i_p1 (by omega)
      have sz : (b 128 (nr s).toNatClampNeg).toInt = (ws s).toInt + 1 := by
        rw [t.2.2.1]
        exact i_p1 (by have := t.2.2.2.2.2.1; omega)
      have ex : (b 130 (nr s).toNatClampNeg + 1 + Int32.ofNat i).toInt = (b 130 (nr s).toNatClampNeg).toInt + 1 + (i : Int) := by
        rw [i_add (by omega) (by omega)]
        omega
      have cx := tn_cast (x := b 130 (nr s).toNatClampNeg + 1 + Int32.ofNat i) (by omega)
      unfold aRef
      rw [(Md_f h u.2.2.1.1 u.2.2.2).2, fl s hs hv 130 (by decide) (by decide), Md_w hI h u.2.2.1 u.2.2.2 (p := (b 130 (nr s).toNatClampNeg + 1 + Int32.ofNat i).toNatClampNeg) (by omega) (by omega)]
    rw [rf, (Md_f h u.2.2.1.1 u.2.2.2).2]
    exact ⟨kU _ q.1 (hC.2.2 s hs u.1 u.2.1 i hi), q.2⟩
  · have q := q3 k hk
    rw [lo 72 (by decide) (by decide) (by decide) (by decide)]
    exact ⟨kU _ q.1 (hC.1 k (by omega)), q.2⟩
  · have q := q4 k hk
    have g := hu k
    have w := h.2.2.1 k hk
    by_cases z : (wk k).toInt < 0
    · rw [g.2 (by omega)]
      rw [No_n z] at q ⊢
      refine ⟨Or.inl z, ?_⟩
      by_cases z2 : ∃ x : Nat, (x : Int) < (b 69 6).toInt ∧ qWh b x ∧ b 73 k = Int32.ofNat x
      · exact w.1 z2
      · rw [w.2 z2]
        exact q.2
    · have u := U_y q.1 (by omega)
      have hs := tn_lt (by omega) u.1
      rw [No_y (by omega)] at q
      by_cases kz : kp (wk k).toNatClampNeg = 0
      · rw [g.1 ⟨by omega, by omega, kz⟩]
        refine ⟨Or.inl (by decide), ?_⟩
        have al := R1_al q1 hs u.2
        refine w.1 ⟨(nr (wk k).toNatClampNeg).toNatClampNeg, (hI.1 _ al).1.1, ⟨al, ?_⟩, ?_⟩
        · by_cases z3 : b 77 (nr (wk k).toNatClampNeg).toNatClampNeg = 0
          · exact z3
          · exact absurd kz ((hK.2 _ hs u.2).mpr ⟨al.1, z3⟩)
        · rw [q.2, R1_of_nr q1 hs u.2]
      · rw [g.2 (fun z2 => kz z2.2.2), No_y (by omega)]
        refine ⟨Or.inr ⟨u.1, us2 _ hs u.2 kz⟩, ?_⟩
        rw [w.2]
        · exact q.2
        · rintro ⟨x, x1, x2, x3⟩
          rw [q.2] at x3
          have k7 := ((hK.2 _ hs u.2).mp kz).2
          rw [x3, tn_of x2.1.1] at k7
          exact k7 x2.2
  · rw [h.2.1.2.1]
    exact q5.1
  · have q := q5.2 k hk
    rw [lo 74 (by decide) (by decide) (by decide) (by decide)]
    exact ⟨⟨q.1.1, q.1.2.1, us2 _ (tn_lt q.1.1 q.1.2.1) q.1.2.2 ((hC.2.1 k hk).elim (fun z => absurd z (by have := q.1.1; omega)) id)⟩, q.2⟩
  · rw [fl s hs hv 134 (by decide) (by decide)]
    exact q6 s hs (us1 s hs hv).1
  · have u := us1 s hs hv
    have t := q1.1 s hs u.1
    have ib := hI.1 _ u.2.2.1
    have b4 := hI.2.2.2.1.2.2.1
    have ca := tn_cast t.2.2.2.2.2.2
    have pl : (at₉ s).toNatClampNeg < 4600 := by
      have e4 := congrArg Int32.toInt t.2.2.2.1
      omega
    have o := q7 s hs u.1
    rcases ho₉ (at₉ s).toNatClampNeg pl with z | ⟨z1, r, r1, r2, r3, r4⟩
    · rw [z]
      exact o
    · have o2 := q7 r r1 r2
      have e : (at₉ r).toNatClampNeg = (at₉ s).toNatClampNeg := by
        have c2 := tn_cast (q1.1 r r1 r2).2.2.2.2.2.2
        omega
      rw [e, o] at o2
      have e3 := congrArg Int32.toInt o2
      rw [ofN_s hs, ofN_s r1] at e3
      have : s = r := by omega
      rw [this] at u
      exact absurd r3 u.2.1
  · have g := q8
    unfold qR8 at g ⊢
    rw [h.2.1.2.2, lo 87 (by decide) (by decide) (by decide) (by decide)]
    exact g
theorem Md_ne {p q : Int} (h : qMd b c p) (hpq : p ≤ q) (ne : ∀ x : Nat, (x : Int) < q → qWh b x → (x : Int) < p) : qMd b c q := by
  obtain ⟨h1, h2, h3, h4, h6, h7⟩ := h
  refine ⟨fun x hx => ⟨fun w => (h1 x hx).1 ⟨ne x w.1 w.2, w.2⟩, fun w => (h1 x hx).2 (fun w2 => w ⟨by omega, w2.2⟩)⟩, h2, fun k hk => ⟨fun ⟨x, x1, x2, x3⟩ => (h3 k hk).1 ⟨x, ne x x1 x2, x2, x3⟩, fun w => (h3 k hk).2 (fun ⟨x, x1, x2, x3⟩ => w ⟨x, by omega, x2, x3⟩)⟩, fun p => ⟨fun ⟨x, x1, x2, x3⟩ => (h4 p).1 ⟨x, ne x x1 x2, x2, x3⟩, fun w => (h4 p).2 (fun ⟨x, x1, x2, x3⟩ => w ⟨x, by omega, x2, x3⟩)⟩, h6, h7⟩
def zW1 (a : Nat → Nat → Int32) (n : Nat) : Nat → Nat → Int32 := fun c k => if c = 77 then (if k = n then 0 else 1) else a c k
theorem W1_of : zOf a (zW1 a n) := fun _ _ _ _ h3 => (if_neg h3).symm
theorem W1_fo : zOf (zW1 a n) a := fun _ _ _ _ h3 => if_neg h3
theorem W1_md (hI : qI a) (h0 : 0 ≤ y.toInt) (hy : xAl a y.toNatClampNeg) : qMd (zW1 a y.toNatClampNeg) (aRm (zW1 a y.toNatClampNeg) y) (zW1 a y.toNatClampNeg 69 6).toInt := by
  have hI1 : qI (zW1 a y.toNatClampNeg) := qI_of hI W1_of
  have wh : ∀ x, qWh (zW1 a y.toNatClampNeg) x → x = y.toNatClampNeg := fun x h => by
    have h2 : (if x = y.toNatClampNeg then (0 : Int32) else 1) = 0 := h.2
    by_cases z : x = y.toNatClampNeg
    · exact z
    · rw [if_neg z] at h2
      exact absurd h2 (by decide)
  have al1 : xAl (zW1 a y.toNatClampNeg) y.toNatClampNeg := hy
  have hn : qWh (zW1 a y.toNatClampNeg) y.toNatClampNeg := ⟨al1, (show (if y.toNatClampNeg = y.toNatClampNeg then (0 : Int32) else 1) = 0 from if_pos rfl)⟩
  have cy := tn_cast h0
  have i1 := (hI1.1 _ al1).1.1
  have h5 : y.toInt < 512 := by have := hy.1; omega
  have b0 : qMd (zW1 a y.toNatClampNeg) (zW1 a y.toNatClampNeg) y.toInt := Md_ne (Md_0 hI1.2.2.2.2.1) h0 (fun x hx h => by have := wh x h; omega)
  exact Md_ne (Md_y hI1 b0 h0 h5 hn) (by omega) (fun x _ h => by have := wh x h; omega)
theorem I_rm (hI : qI a) (h0 : 0 ≤ y.toInt) (hy : xAl a y.toNatClampNeg) : qI (aRm a y) := qI_of (I_md (qI_of hI W1_of) (W1_md hI h0 hy)) (rm_of W1_fo)
theorem RB_r1 (hR : qRB us nr kr kd ws at₉ ho wd wi ow rt wk wl wm nu ro fo le ra pi a) (hI : qI a) (hs : s < 3100) (hu : us s ≠ 0) (hc : qCK (zmk us s) us rt wl wm kr kd ws wd) (hw : qUn wk wk₉ (Int32.ofNat s) 16) (hm : ∀ t, us₉ t = zmk us s t) (ho₉ : ∀ p, ow₉ p = if p = (at₉ s).toNatClampNeg then -1 else ow p) : qRB us₉ nr kr kd ws at₉ ho wd wi ow₉ rt wk₉ wl wm nu ro fo le ra pi (aRm a (nr s)) := by
  have y0 := (hR.1.1 s hs hu).1
  have a0 := (hR.1.1 s hs hu).2.2.2.2.2.2
  have al := R1_al hR.1 hs hu
  have q4 := hR.2.2.2.1
  refine RB_of (RB_md (kp := zmk us s) (RB_of hR W1_of) (qI_of hI W1_of) ?_ hc (W1_md hI y0.1 al) ?_ ?_ ?_) (rm_of W1_fo)
  · refine ⟨fun t ht h z => h ?_, fun t ht hut => ⟨fun h => ?_, fun h z => ?_⟩⟩
    · show (if t = s then (0 : Int32) else us t) = 0
      split
      · rfl
      · exact z
    · refine ⟨(R1_al hR.1 ht hut).1, ?_⟩
      show (if (nr t).toNatClampNeg = (nr s).toNatClampNeg then (0 : Int32) else 1) ≠ 0
      rw [if_neg (fun e => h (if_pos (hR.1.2.1 t s ht hs hut hu (by rw [← R1_of_nr hR.1 ht hut, ← R1_of_nr hR.1 hs hu, e]))))]
      decide
    · have h2 : (if (nr t).toNatClampNeg = (nr s).toNatClampNeg then (0 : Int32) else 1) ≠ 0 := h.2
      have z2 : (if t = s then (0 : Int32) else us t) = 0 := z
      by_cases ts : t = s
      · rw [ts, if_pos rfl] at h2
        exact h2 rfl
      · rw [if_neg ts] at z2
        exact hut z2
  · intro k
    have g := hw k
    refine ⟨fun w => ?_, fun w => ?_⟩
    · have u := U_y (q4 k (by omega)).1 w.2.1
      have z2 : (if (wk k).toNatClampNeg = s then (0 : Int32) else us (wk k).toNatClampNeg) = 0 := w.2.2
      have e : (wk k).toNatClampNeg = s := by
        by_cases ts : (wk k).toNatClampNeg = s
        · exact ts
        · rw [if_neg ts] at z2
          exact absurd z2 u.2
      rw [g, if_pos ⟨w.1, by rw [← e]; exact (ofN_tn w.2.1).symm⟩]
    · rw [g, if_neg (fun z => w ⟨z.1, ?_, ?_⟩)]
      · rw [z.2, ofN_s hs]
        omega
      · have e : (wk k).toNatClampNeg = s := by
          have c := tn_cast (x := wk k) (by rw [z.2, ofN_s hs]; omega)
          rw [z.2, ofN_s hs] at c
          rw [z.2]
          omega
        rw [e]
        exact if_pos rfl
  · intro t ht
    refine ⟨fun _ => ?_, fun z => absurd ht (by omega)⟩
    rw [hm t]
    constructor
    · intro h
      refine ⟨fun z => h ?_, h⟩
      show (if t = s then (0 : Int32) else us t) = 0
      split
      · rfl
      · exact z
    · intro h
      exact h.2
  · intro p _
    rw [ho₉ p]
    by_cases e : p = (at₉ s).toNatClampNeg
    · rw [if_pos e]
      exact Or.inr ⟨by decide, s, hs, hu, if_pos rfl, by rw [e]; exact (tn_cast a0).symm⟩
    · rw [if_neg e]
      exact Or.inl rfl
end D0

/-! from 95.o01 -/
/-! the reference under COUNTS (written by wip/tools/gen20s.py) -/
/-! COUNTS, the reference: what each counts, and those that go -/
abbrev zLL : Type := List (List Int32)
/-- counts: who refers, what the stack still refers to, and two more -/
def qCt (ct us nr : Nat → Int32) (a : Nat → Nat → Int32) (st : List (List Int32)) (x z : Int32) : Prop := ∀ s, s < 3100 → us s ≠ 0 → ct s = Int32.ofInt (cRf a (nr s).toNatClampNeg + (cOc st (nr s).toNatClampNeg : Int) + (cIs x (nr s).toNatClampNeg : Int) + (cIs z (nr s).toNatClampNeg : Int))
/-- a ROOT has it -/
def qXr (a : Nat → Nat → Int32) (x : Int32) : Prop := x.toInt < 0 ∨ ∃ k, k < 16 ∧ a 72 k = x
def qLf (nr kr kd wd : Nat → Int32) (g : Nat) : Nat → Nat → List Int32
  | 0, _ => []
  | k + 1, i => qNo nr (zrf kr kd wd g i) :: qLf nr kr kd wd g k (i + 1)
def qGs (nr kr kd ws wd gs gw : Nat → Int32) : Nat → List (List Int32)
  | 0 => []
  | n + 1 => qLf nr kr kd wd (gs n).toNatClampNeg ((ws (gs n).toNatClampNeg).toInt - (gw n).toInt).toNat (gw n).toInt.toNat :: qGs nr kr kd ws wd gs gw n
def qGo (us nr kr kd ws wd gs gw : Nat → Int32) (gm : Int32) (st : List (List Int32)) : Prop := 0 ≤ gm.toInt ∧ st = qGs nr kr kd ws wd gs gw gm.toInt.toNat ∧ ∀ j : Nat, (j : Int) < gm.toInt → (0 ≤ (gs j).toInt ∧ (gs j).toInt < 3100) ∧ (0 ≤ (gw j).toInt ∧ (gw j).toInt ≤ (ws (gs j).toNatClampNeg).toInt) ∧ ∀ i : Nat, (gw j).toInt ≤ (i : Int) → (i : Int) < (ws (gs j).toNatClampNeg).toInt → qU us (zrf kr kd wd (gs j).toNatClampNeg i)
section D1
variable {a b d : Nat → Nat → Int32} {us us₉ nr kr kd ws at₉ ho wd wi ow rt wk wl ct ct₉ gs gs₉ gw gw₉ : Nat → Int32} {wm nu ro fo le ra pi x y z gm gm₉ : Int32} {s t k n g : Nat} {st : List (List Int32)} {B : Int}
theorem nr_eq (h1 : qR1 us nr ws at₉ ho a) (hs : s < 3100) (hu : us s ≠ 0) (ht : t < 3100) (hv : us t ≠ 0) : cIs (nr s) (nr t).toNatClampNeg = if t = s then 1 else 0 := by
  by_cases e : t = s
  · rw [if_pos e, e]
    exact cIs_s (h1.1 s hs hu).1.1
  · rw [if_neg e]
    refine cIs_0 (fun w => e ?_)
    rw [R1_of_nr h1 ht hv] at w
    exact h1.2.1 t s ht hs hv hu w.symm
theorem is_m1 (hn : n < 512) : cIs (-1) n = 0 := cIs_n (by decide) hn
theorem nr_lt (h1 : qR1 us nr ws at₉ ho a) (hs : s < 3100) (hu : us s ≠ 0) : (nr s).toNatClampNeg < 512 := (R1_al h1 hs hu).1
/-- one less of the one that is named -/
theorem Ct_dn (h1 : qR1 us nr ws at₉ ho a) (h : qCt ct us nr a st x (nr s)) (hs : s < 3100) (hu : us s ≠ 0) (e : ct₉ = zUp ct s (ct s - 1)) : qCt ct₉ us nr a st x (-1) := by
  intro t ht hv
  have q := h t ht hv
  have l5 := nr_lt h1 ht hv
  rw [nr_eq h1 hs hu ht hv] at q
  rw [e, is_m1 l5]
  show (if t = s then ct s - 1 else ct t) = _
  by_cases w : t = s
  · rw [if_pos w] at q ⊢
    rw [← w, q]
    have e1 : (1 : Int32) = Int32.ofInt 1 := rfl
    rw [e1, ← Int32.ofInt_sub]
    exact congrArg Int32.ofInt (by omega)
  · rw [if_neg w] at q ⊢
    exact q
/-- one more of the one that is named -/
theorem Ct_up (h1 : qR1 us nr ws at₉ ho a) (h : qCt ct us nr a st x (-1)) (hs : s < 3100) (hu : us s ≠ 0) (e : ct₉ = zUp ct s (ct s + 1)) : qCt ct₉ us nr a st x (nr s) := by
  intro t ht hv
  have q := h t ht hv
  have l5 := nr_lt h1 ht hv
  rw [is_m1 l5] at q
  rw [e, nr_eq h1 hs hu ht hv]
  show (if t = s then ct s + 1 else ct t) = _
  by_cases w : t = s
  · rw [if_pos w, if_pos w]
    rw [w] at q
    rw [q, w]
    have e1 : (1 : Int32) = Int32.ofInt 1 := rfl
    rw [e1, ← Int32.ofInt_add]
    exact congrArg Int32.ofInt (by omega)
  · rw [if_neg w, if_neg w]
    exact q
theorem Ct_v (h1 : qR1 us nr ws at₉ ho a) (h : qCt ct us nr a st x (-1)) (hV : cV a st B) (hB : B ≤ 1000000) (hs : s < 3100) (hu : us s ≠ 0) : (ct s).toInt = cRf a (nr s).toNatClampNeg + (cOc st (nr s).toNatClampNeg : Int) + (cIs x (nr s).toNatClampNeg : Int) := by
  have al := R1_al h1 hs hu
  have q := Rf_bd hV hB al
  have l := cIs_le (x := x) (n := (nr s).toNatClampNeg)
  rw [h s hs hu, is_m1 al.1]
  rw [Int32.toInt_ofInt_of_le (by omega) (by omega)]
  omega
theorem Ro_ge (hk : k < 16) (e : a 72 k = Int32.ofNat n) : 1 ≤ cRo a n := by
  have q := cSu_le (f := fun k => cIs (a 72 k) n) 16 hk
  have w : cIs (a 72 k) n = 1 := cIs_1 e
  unfold cRo
  have q2 : cIs (a 72 k) n ≤ cSu (fun k => cIs (a 72 k) n) 16 := q
  omega
theorem Ct_yes (h1 : qR1 us nr ws at₉ ho a) (h : qCt ct us nr a st x (-1)) (hV : cV a st B) (hB : B ≤ 1000000) (hX : qXr a x) (hs : s < 3100) (hu : us s ≠ 0) (hp : 0 < (ct s).toInt) : 0 < cRf a (nr s).toNatClampNeg + (cOc st (nr s).toNatClampNeg : Int) := by
  have al := R1_al h1 hs hu
  rw [Ct_v h1 h hV hB hs hu] at hp
  have l := cIs_le (x := x) (n := (nr s).toNatClampNeg)
  by_cases w : cIs x (nr s).toNatClampNeg = 0
  · rw [w] at hp
    omega
  · have e : x = Int32.ofNat (nr s).toNatClampNeg := Classical.byContradiction (fun z => w (cIs_0 z))
    rcases hX with hX | ⟨k, hk, e2⟩
    · exact absurd (cIs_n hX al.1) w
    · have r := Ro_ge hk (e2.trans e)
      have hd := (hV.2.2.2.1 _ al).1
      unfold cRf
      omega
theorem Ct_no (h1 : qR1 us nr ws at₉ ho a) (h : qCt ct us nr a st x (-1)) (hV : cV a st B) (hB : B ≤ 1000000) (hs : s < 3100) (hu : us s ≠ 0) (hp : ¬ 0 < (ct s).toInt) : ¬ 0 < cRf a (nr s).toNatClampNeg + (cOc st (nr s).toNatClampNeg : Int) := by
  rw [Ct_v h1 h hV hB hs hu] at hp
  omega
/-- nobody refers to it: the others are closed -/
theorem U_ne (h1 : qR1 us nr ws at₉ ho a) (hs : s < 3100) (hu : us s ≠ 0) (u : qU us x) (hn : ¬ qNo nr x = Int32.ofNat (nr s).toNatClampNeg) : x.toInt < 0 ∨ zmk us s x.toNatClampNeg ≠ 0 := by
  by_cases w : x.toInt < 0
  · exact Or.inl w
  · have v := U_y u (by omega)
    refine Or.inr (fun z2 => ?_)
    have z : (if x.toNatClampNeg = s then (0 : Int32) else us x.toNatClampNeg) = 0 := z2
    by_cases e : x.toNatClampNeg = s
    · apply hn
      rw [No_y (by omega), e]
      exact (R1_of_nr h1 hs hu).symm
    · rw [if_neg e] at z
      exact v.2 z
theorem U_mk (u : qU us x) (h : x.toInt < 0 ∨ zmk us s x.toNatClampNeg ≠ 0) : qU (zmk us s) x := by
  by_cases w : x.toInt < 0
  · exact Or.inl w
  · exact Or.inr ⟨(U_y u (by omega)).1, h.elim (fun z => absurd z w) id⟩
theorem wp_sl (hR : qRB us nr kr kd ws at₉ ho wd wi ow rt wk wl wm nu ro fo le ra pi a) (hs : s < 3100) (hu : us s ≠ 0) {i : Nat} (hi : (i : Int) < (ws s).toInt) : qWp a (nr s).toNatClampNeg (Int32.ofNat i) := by
  have t := hR.1.1 s hs hu
  have e : (Int32.ofNat i).toInt = (i : Int) := ofN_s (s := i) (by have := t.2.2.2.2.2.1; omega)
  refine ⟨R1_al hR.1 hs hu, by omega, ?_⟩
  rw [t.2.2.1, i_p1 (by have := t.2.2.2.2.2.1; omega)]
  omega
theorem CK_1 (hR : qRB us nr kr kd ws at₉ ho wd wi ow rt wk wl wm nu ro fo le ra pi a) (hs : s < 3100) (hu : us s ≠ 0) (h1 : cRo a (nr s).toNatClampNeg = 0) (h2 : cWi a (nr s).toNatClampNeg = 0) (h3 : cTh a (nr s).toNatClampNeg = 0) : qCK (zmk us s) us rt wl wm kr kd ws wd ∧ ∀ t, t < 3100 → us t ≠ 0 → ∀ i : Nat, (i : Int) < (ws t).toInt → zcl (zmk us s) kr kd wd t i := by
  obtain ⟨q1, q2, q3, q4, q5, q6, q7, q8⟩ := hR
  have wd1 : ∀ t, t < 3100 → us t ≠ 0 → ∀ i : Nat, (i : Int) < (ws t).toInt → zcl (zmk us s) kr kd wd t i := fun t ht hv i hi => by
    have q := q2 t ht hv i hi
    refine U_ne q1 hs hu q.1 (fun e => ?_)
    exact Th_ne h3 (wp_sl ⟨q1, q2, q3, q4, q5, q6, q7, q8⟩ ht hv hi) (q.2.1.trans e)
  refine ⟨⟨fun k hk => ?_, fun k hk => ?_, fun t ht hv _ i hi => wd1 t ht hv i hi⟩, wd1⟩
  · have q := q3 k (by omega)
    refine U_ne q1 hs hu q.1 (fun e => ?_)
    exact Ro_ne h1 (by omega) (q.2.trans e)
  · have q := q5.2 k hk
    refine U_ne q1 hs hu (Or.inr ⟨q.1.2.1, q.1.2.2⟩) (fun e => ?_)
    rw [No_y q.1.1] at e
    exact Wi_ne h2 (by rw [q5.1]; exact hk) (q.2.trans e)
/-! the stack -/
theorem Gs_cg : ∀ n : Nat, (∀ j, j < n → gs₉ j = gs j ∧ gw₉ j = gw j) → qGs nr kr kd ws wd gs₉ gw₉ n = qGs nr kr kd ws wd gs gw n := by
  intro n
  induction n with
  | zero => intro _; rfl
  | succ n ih =>
    intro h
    show qLf nr kr kd wd (gs₉ n).toNatClampNeg ((ws (gs₉ n).toNatClampNeg).toInt - (gw₉ n).toInt).toNat (gw₉ n).toInt.toNat :: qGs nr kr kd ws wd gs₉ gw₉ n = qLf nr kr kd wd (gs n).toNatClampNeg ((ws (gs n).toNatClampNeg).toInt - (gw n).toInt).toNat (gw n).toInt.toNat :: qGs nr kr kd ws wd gs gw n
    rw [(h n (by omega)).1, (h n (by omega)).2, ih (fun j hj => h j (by omega))]
theorem Lf_m : ∀ (k i j : Nat), i ≤ j → j < i + k → qNo nr (zrf kr kd wd g j) ∈ qLf nr kr kd wd g k i := by
  intro k
  induction k with
  | zero => intro i j h1 h2; omega
  | succ k ih =>
    intro i j h1 h2
    by_cases w : j = i
    · rw [w]
      exact List.mem_cons_self
    · exact List.mem_cons_of_mem _ (ih (i + 1) j (by omega) (by omega))
theorem Gs_m : ∀ (n j i : Nat), j < n → 0 ≤ (gw j).toInt → (gw j).toInt ≤ (i : Int) → (i : Int) < (ws (gs j).toNatClampNeg).toInt → ∃ l, l ∈ qGs nr kr kd ws wd gs gw n ∧ qNo nr (zrf kr kd wd (gs j).toNatClampNeg i) ∈ l := by
  intro n
  induction n with
  | zero => intro j i h; omega
  | succ n ih =>
    intro j i hj h0 h1 h2
    by_cases w : j = n
    · rw [w] at h0 h1 h2 ⊢
      exact ⟨_, List.mem_cons_self, Lf_m _ _ _ (by omega) (by omega)⟩
    · obtain ⟨l, l1, l2⟩ := ih j i (by omega) h0 h1 h2
      exact ⟨l, List.mem_cons_of_mem _ l1, l2⟩
theorem Gk_0 (h : gm.toInt = 0) : qGo us nr kr kd ws wd gs gw gm [] := ⟨by omega, by rw [h]; rfl, fun j hj => by omega⟩
theorem Go_nil (h : qGo us nr kr kd ws wd gs gw gm st) (h0 : ¬ 0 < gm.toInt) : st = [] := by
  have e : gm.toInt = 0 := by have := h.1; omega
  rw [h.2.1, e]
  rfl
theorem Gs_top (h0 : 0 < gm.toInt) : qGs nr kr kd ws wd gs gw gm.toInt.toNat = qLf nr kr kd wd (gs (gm.toInt - 1).toNat).toNatClampNeg ((ws (gs (gm.toInt - 1).toNat).toNatClampNeg).toInt - (gw (gm.toInt - 1).toNat).toInt).toNat (gw (gm.toInt - 1).toNat).toInt.toNat :: qGs nr kr kd ws wd gs gw (gm.toInt - 1).toNat := by
  have e : gm.toInt.toNat = (gm.toInt - 1).toNat + 1 := by omega
  rw [e]
  rfl
theorem Go_pop (h : qGo us nr kr kd ws wd gs gw gm st) (h0 : 0 < gm.toInt) (hk : k = (gm.toInt - 1).toNat) (hi : (gw k).toInt = (ws (gs k).toNatClampNeg).toInt) (e : gm₉.toInt = gm.toInt - 1) : ∃ t, st = [] :: t ∧ qGo us nr kr kd ws wd gs gw gm₉ t := by
  refine ⟨qGs nr kr kd ws wd gs gw (gm.toInt - 1).toNat, ?_, by omega, by rw [e], fun j hj => h.2.2 j (by omega)⟩
  rw [h.2.1, Gs_top h0, ← hk]
  rw [show ((ws (gs k).toNatClampNeg).toInt - (gw k).toInt).toNat = 0 from by omega]
  rfl
theorem Go_adv (h : qGo us nr kr kd ws wd gs gw gm st) (h0 : 0 < gm.toInt) (hk : k = (gm.toInt - 1).toNat) (hi : (gw k).toInt < (ws (gs k).toNatClampNeg).toInt) (e : gw₉ = zUp gw k y) (ey : y.toInt = (gw k).toInt + 1) : ∃ l t, st = (qNo nr (zrf kr kd wd (gs k).toNatClampNeg (gw k).toInt.toNat) :: l) :: t ∧ qGo us nr kr kd ws wd gs gw₉ gm (l :: t) ∧ qU us (zrf kr kd wd (gs k).toNatClampNeg (gw k).toInt.toNat) := by
  have g := h.2.2 k (by omega)
  have ek : gw₉ k = y := by
    rw [e]
    exact if_pos rfl
  have eo : ∀ j, j ≠ k → gw₉ j = gw j := fun j hj => by
    rw [e]
    exact if_neg hj
  refine ⟨qLf nr kr kd wd (gs k).toNatClampNeg ((ws (gs k).toNatClampNeg).toInt - (gw k).toInt - 1).toNat ((gw k).toInt.toNat + 1), qGs nr kr kd ws wd gs gw k, ?_, ⟨h.1, ?_, fun j hj => ?_⟩, g.2.2 _ (by omega) (by omega)⟩
  · rw [h.2.1, Gs_top h0, ← hk]
    rw [show ((ws (gs k).toNatClampNeg).toInt - (gw k).toInt).toNat = ((ws (gs k).toNatClampNeg).toInt - (gw k).toInt - 1).toNat + 1 from by omega]
    rfl
  · rw [Gs_top h0, ← hk, ek, ey, Gs_cg (gs₉ := gs) (gw₉ := gw₉) (gs := gs) (gw := gw) k (fun j hj => ⟨rfl, eo j (by omega)⟩)]
    rw [show ((ws (gs k).toNatClampNeg).toInt - ((gw k).toInt + 1)).toNat = ((ws (gs k).toNatClampNeg).toInt - (gw k).toInt - 1).toNat from by omega, show ((gw k).toInt + 1).toNat = (gw k).toInt.toNat + 1 from by omega]
  · have gj := h.2.2 j hj
    by_cases w : j = k
    · rw [w, ek, ey]
      exact ⟨g.1, by omega, fun i i0 i1 => g.2.2 i (by omega) i1⟩
    · rw [eo j w]
      exact gj
theorem Lf_eq : ∀ (k i : Nat), (∀ j, i ≤ j → j < i + k → aRef a n (Int32.ofNat j) = qNo nr (zrf kr kd wd g j)) → cLf a n k i = qLf nr kr kd wd g k i := by
  intro k
  induction k with
  | zero => intro i _; rfl
  | succ k ih =>
    intro i h
    show aRef a n (Int32.ofNat i) :: cLf a n k (i + 1) = qNo nr (zrf kr kd wd g i) :: qLf nr kr kd wd g k (i + 1)
    rw [h i (by omega) (by omega), ih (i + 1) (fun j h1 h2 => h j (by omega) (by omega))]
theorem Ls_eq (hR : qRB us nr kr kd ws at₉ ho wd wi ow rt wk wl wm nu ro fo le ra pi a) (hs : s < 3100) (hu : us s ≠ 0) : cLs a (nr s).toNatClampNeg 0 = qLf nr kr kd wd s (ws s).toInt.toNat 0 := by
  have t := hR.1.1 s hs hu
  have ws6 := t.2.2.2.2.2.1
  unfold cLs
  rw [t.2.2.1, i_p1 (by omega), show ((ws s).toInt + 1 - 1).toNat - 0 = (ws s).toInt.toNat from by omega]
  exact Lf_eq _ 0 (fun j _ h2 => (hR.2.1 s hs hu j (by omega)).2.1)
theorem Go_psh (hR : qRB us nr kr kd ws at₉ ho wd wi ow rt wk wl wm nu ro fo le ra pi a) (h : qGo us nr kr kd ws wd gs gw gm st) (hs : s < 3100) (hu : us s ≠ 0) (hO : cOc st (nr s).toNatClampNeg = 0) (hc : ∀ t, t < 3100 → us t ≠ 0 → ∀ i : Nat, (i : Int) < (ws t).toInt → zcl (zmk us s) kr kd wd t i) (hm : ∀ t, us₉ t = zmk us s t) (e1 : gs₉ = zUp gs gm.toNatClampNeg y) (ey : y = Int32.ofNat s) (e2 : gw₉ = zUp gw gm.toNatClampNeg 0) (e3 : gm₉.toInt = gm.toInt + 1) : qGo us₉ nr kr kd ws wd gs₉ gw₉ gm₉ (cLs a (nr s).toNatClampNeg 0 :: st) := by
  have eu : us₉ = zmk us s := funext hm
  have cg := tn_cast h.1
  have t := hR.1.1 s hs hu
  have gk : gs₉ gm.toNatClampNeg = y := by
    rw [e1]
    exact if_pos rfl
  have wk0 : gw₉ gm.toNatClampNeg = 0 := by
    rw [e2]
    exact if_pos rfl
  have go : ∀ j, j ≠ gm.toNatClampNeg → gs₉ j = gs j ∧ gw₉ j = gw j := fun j hj => by
    rw [e1, e2]
    exact ⟨if_neg hj, if_neg hj⟩
  have ys : y.toNatClampNeg = s := by
    have c := tn_cast (x := y) (by rw [ey, ofN_s hs]; omega)
    rw [ey, ofN_s hs] at c
    rw [ey]
    omega
  have kt : (gm₉.toInt - 1).toNat = gm.toNatClampNeg := by omega
  refine ⟨by have := h.1; omega, ?_, fun j hj => ?_⟩
  · rw [Gs_top (by have := h.1; omega), kt, gk, wk0, ys, Gs_cg (gs₉ := gs₉) (gw₉ := gw₉) (gs := gs) (gw := gw) _ (fun j hj => go j (by omega)), Ls_eq hR hs hu, h.2.1]
    rw [show ((ws s).toInt - (0 : Int32).toInt).toNat = (ws s).toInt.toNat from by rw [show (0 : Int32).toInt = 0 from rfl, Int.sub_zero], show (0 : Int32).toInt.toNat = 0 from rfl, show gm.toNatClampNeg = gm.toInt.toNat from rfl]
  · rw [eu]
    by_cases w : j = gm.toNatClampNeg
    · rw [w, gk, wk0, ys]
      refine ⟨⟨by rw [ey, ofN_s hs]; omega, by rw [ey, ofN_s hs]; omega⟩, ⟨by decide, by rw [show (0 : Int32).toInt = 0 from rfl]; exact t.2.2.2.2.2.1.1⟩, fun i _ i1 => ?_⟩
      exact U_mk (hR.2.1 s hs hu i i1).1 (hc s hs hu i i1)
    · have g := h.2.2 j (by omega)
      rw [(go j w).1, (go j w).2]
      refine ⟨g.1, g.2.1, fun i i0 i1 => U_mk (g.2.2 i i0 i1) (U_ne hR.1 hs hu (g.2.2 i i0 i1) (fun e => ?_))⟩
      obtain ⟨l, l1, l2⟩ := Gs_m (nr := nr) (kr := kr) (kd := kd) (ws := ws) (wd := wd) (gs := gs) (gw := gw) gm.toInt.toNat j i (by omega) g.2.1.1 i0 i1
      rw [← h.2.1] at l1
      exact Oc_ne st hO l l1 _ l2 e
/-! one falls -/
theorem Fl_p (h1 : qR1 us nr ws at₉ ho a) (h : qCt ct us nr a st x (-1)) (hV : cV a st B) (hB : B ≤ 1000000) (hX : qXr a x) (hs : s < 3100) (hu : us s ≠ 0) (hp : 0 < (ct s).toInt) : cFa a st (nr s) = (a, st) := Fa_p (Ct_yes h1 h hV hB hX hs hu hp)
theorem Fl_g (h1 : qR1 us nr ws at₉ ho a) (h6 : qR6 us nr wi a) (h : qCt ct us nr a st x (-1)) (hV : cV a st B) (hB : B ≤ 1000000) (hs : s < 3100) (hu : us s ≠ 0) (hp : ¬ 0 < (ct s).toInt) (hw : wi s ≠ 0) : cFa a st (nr s) = (aGr a (nr s), st) := Fa_g (Ct_no h1 h hV hB hs hu hp) (by rw [h6 s hs hu]; exact hw)
theorem Fl_r (h1 : qR1 us nr ws at₉ ho a) (h6 : qR6 us nr wi a) (h : qCt ct us nr a st x (-1)) (hV : cV a st B) (hB : B ≤ 1000000) (hs : s < 3100) (hu : us s ≠ 0) (hp : ¬ 0 < (ct s).toInt) (hw : wi s = 0) : cFa a st (nr s) = (aRm a (nr s), cLs a (nr s).toNatClampNeg 0 :: st) := Fa_r (Ct_no h1 h hV hB hs hu hp) (by rw [h6 s hs hu]; exact hw)
theorem Ct_gr (h1 : qR1 us nr ws at₉ ho a) (h : qCt ct us nr a st x (-1)) (h0 : 0 ≤ (a 69 5).toInt) (h5 : (a 69 5).toInt < 512) (hs : s < 3100) (hu : us s ≠ 0) (e : ct₉ = zUp ct s (ct s + 1)) : qCt ct₉ us nr (aGr a (nr s)) st x (-1) := by
  have q := Ct_up h1 h hs hu e
  intro t ht hv
  rw [q t ht hv, Rf_gr h0 h5, is_m1 (nr_lt h1 ht hv)]
  exact congrArg Int32.ofInt (by omega)
theorem Ct_rm (h1 : qR1 us nr ws at₉ ho a) (h : qCt ct us nr a st x (-1)) (hV : cV a st B) (hs : s < 3100) (hu : us s ≠ 0) (hm : ∀ t, us₉ t = zmk us s t) : qCt ct us₉ nr (aRm a (nr s)) (cLs a (nr s).toNatClampNeg 0 :: st) x (-1) := by
  intro t ht hv2
  rw [hm t] at hv2
  have ts : t ≠ s := fun e => hv2 (if_pos e)
  have hv : us t ≠ 0 := fun w => hv2 ((if_neg ts).trans w)
  have ne : (nr t).toNatClampNeg ≠ (nr s).toNatClampNeg := fun e => ts (h1.2.1 t s ht hs hv hu (by rw [← R1_of_nr h1 ht hv, ← R1_of_nr h1 hs hu, e]))
  rw [h t ht hv]
  have f := Fr_rm hV (h1.1 s hs hu).1.1 (R1_al h1 hs hu) ne
  exact congrArg Int32.ofInt (by omega)
theorem Xr_gr (h : qXr a x) : qXr (aGr a y) x := h.imp id (fun ⟨k, h1, h2⟩ => ⟨k, h1, (congrFun (gr_r (by decide) (by decide) (by decide) (by decide)) k).trans h2⟩)
theorem Xr_rm (h : qXr a x) : qXr (aRm a y) x := h.imp id (fun ⟨k, h1, h2⟩ => ⟨k, h1, (rm_co (by decide) (by decide) (by decide) (by decide)).trans h2⟩)
end D1

/-! from 95.o02 -/
/-! the reference under COUNTS (written by wip/tools/gen20s.py) -/
/-! what is left behind one that falls -/
def qFl (us nr kr kd ws at₉ ho wd wi ow rt wk wl : Nat → Int32) (wm nu ro fo le ra pi : Int32) (ct gs gw : Nat → Int32) (gm : Int32) (B : Int) (x im : Int32) (p : (Nat → Nat → Int32) × List (List Int32)) : Prop := qRB us nr kr kd ws at₉ ho wd wi ow rt wk wl wm nu ro fo le ra pi p.1 ∧ qI p.1 ∧ cV p.1 p.2 B ∧ qCt ct us nr p.1 p.2 x (-1) ∧ qGo us nr kr kd ws wd gs gw gm p.2 ∧ qXr p.1 x ∧ p.1 87 8 = im
def qT : List (List Int32) → List (List Int32)
  | (_ :: l) :: t => l :: t
  | s => s
/-- those that go, until L is left -/
def qLL (us nr kr kd ws at₉ ho wd wi ow rt wk wl : Nat → Int32) (wm nu ro fo le ra pi : Int32) (ct gs gw : Nat → Int32) (gm : Int32) (B : Int) (x im : Int32) (L : Nat → Nat → Int32) : Prop := ∃ p, qFl us nr kr kd ws at₉ ho wd wi ow rt wk wl wm nu ro fo le ra pi ct gs gw gm B x im p ∧ ∀ d, cE p d → L = d
section D2
variable {a b d L : Nat → Nat → Int32} {us us₉ nr kr kd ws at₉ ho wd wi wi₉ ow ow₉ rt wk wk₉ wl wl₉ ct ct1 ct2 gs gs₉ gw gw₉ : Nat → Int32} {wm wm₉ nu ro fo le ra pi x y z gm gm₉ im r : Int32} {s t k n g : Nat} {st : List (List Int32)} {B : Int} {p q : (Nat → Nat → Int32) × List (List Int32)}
theorem dn_s (e : ct1 = zUp ct s (ct s - 1)) : ct1 s = ct s - 1 := by
  rw [e]
  exact if_pos rfl
theorem Fl_A (hR : qRB us nr kr kd ws at₉ ho wd wi ow rt wk wl wm nu ro fo le ra pi a) (hI : qI a) (hV : cV a st B) (hB : B ≤ 1000000) (hC : qCt ct us nr a st x (nr s)) (hG : qGo us nr kr kd ws wd gs gw gm st) (hX : qXr a x) (h8 : a 87 8 = im) (hs : s < 3100) (hu : us s ≠ 0) (e : ct1 = zUp ct s (ct s - 1)) (hp : 0 < (ct s - 1).toInt) : qFl us nr kr kd ws at₉ ho wd wi ow rt wk wl wm nu ro fo le ra pi ct1 gs gw gm B x im (cFa a st (nr s)) := by
  have c1 := Ct_dn hR.1 hC hs hu e
  rw [Fl_p hR.1 c1 hV hB hX hs hu (by rw [dn_s e]; exact hp)]
  exact ⟨hR, hI, hV, c1, hG, hX, h8⟩
theorem Fl_B (hR : qRB us nr kr kd ws at₉ ho wd wi ow rt wk wl wm nu ro fo le ra pi a) (hV : cV a st B) (hB : B ≤ 1000000) (hC : qCt ct us nr a st x (nr s)) (hG : qGo us nr kr kd ws wd gs gw gm st) (hX : qXr a x) (h8 : a 87 8 = im) (hs : s < 3100) (hu : us s ≠ 0) (e : ct1 = zUp ct s (ct s - 1)) (hp : ¬ 0 < (ct s - 1).toInt) (hw : wi s ≠ 0) (h5 : wm.toInt < 512) (hR2 : qRB us nr kr kd ws at₉ ho wd wi₉ ow rt wk₉ wl₉ wm₉ nu ro fo le ra pi (aGr a (nr s))) (hI2 : qI (aGr a (nr s))) (e2 : ct2 = zUp ct1 s (ct1 s + 1)) : qFl us nr kr kd ws at₉ ho wd wi₉ ow rt wk₉ wl₉ wm₉ nu ro fo le ra pi ct2 gs gw gm B x im (cFa a st (nr s)) := by
  have c1 := Ct_dn hR.1 hC hs hu e
  have h69 : (a 69 5).toInt < 512 := by
    rw [hR.2.2.2.2.1.1]
    exact h5
  rw [Fl_g hR.1 hR.2.2.2.2.2.1 c1 hV hB hs hu (by rw [dn_s e]; exact hp) hw]
  refine ⟨hR2, hI2, V_gr hV (hR.1.1 s hs hu).1.1 (R1_al hR.1 hs hu), Ct_gr hR.1 c1 hV.2.2.2.2.1.1 h69 hs hu e2, hG, Xr_gr hX, ?_⟩
  show aGr a (nr s) 87 8 = im
  rw [show aGr a (nr s) 87 = a 87 from gr_r (by decide) (by decide) (by decide) (by decide)]
  exact h8
theorem Fl_C (hR : qRB us nr kr kd ws at₉ ho wd wi ow rt wk wl wm nu ro fo le ra pi a) (hI : qI a) (hV : cV a st B) (hB : B ≤ 1000000) (hC : qCt ct us nr a st x (nr s)) (hG : qGo us nr kr kd ws wd gs gw gm st) (hX : qXr a x) (h8 : a 87 8 = im) (hs : s < 3100) (hu : us s ≠ 0) (e : ct1 = zUp ct s (ct s - 1)) (hp : ¬ 0 < (ct s - 1).toInt) (hw : wi s = 0) (hun : qUn wk wk₉ (Int32.ofNat s) 16) (hm : ∀ t, us₉ t = zmk us s t) (ho₉ : ∀ p, ow₉ p = if p = (at₉ s).toNatClampNeg then -1 else ow p) (e1 : gs₉ = zUp gs gm.toNatClampNeg y) (ey : y = Int32.ofNat s) (e2 : gw₉ = zUp gw gm.toNatClampNeg 0) (e3 : gm₉.toInt = gm.toInt + 1) : qFl us₉ nr kr kd ws at₉ ho wd wi ow₉ rt wk₉ wl wm nu ro fo le ra pi ct1 gs₉ gw₉ gm₉ B x im (cFa a st (nr s)) := by
  have c1 := Ct_dn hR.1 hC hs hu e
  have hp1 : ¬ 0 < (ct1 s).toInt := by
    rw [dn_s e]
    exact hp
  have y0 := (hR.1.1 s hs hu).1.1
  have al := R1_al hR.1 hs hu
  have no := Ct_no hR.1 c1 hV hB hs hu hp1
  have z := Rf_z (hV.2.2.2.1 _ al).1 no
  have ck := CK_1 hR hs hu z.1 z.2.1 z.2.2.1
  rw [Fl_r hR.1 hR.2.2.2.2.2.1 c1 hV hB hs hu hp1 hw]
  exact ⟨RB_r1 hR hI hs hu ck.1 hun hm ho₉, I_rm hI y0 al, (V_rm hV y0 al no).1, Ct_rm hR.1 c1 hV hs hu hm, Go_psh hR hG hs hu z.2.2.2.1 ck.2 hm e1 ey e2 e3, Xr_rm hX, (rm_co (by decide) (by decide) (by decide) (by decide)).trans h8⟩
/-- the next word of the last one -/
theorem LA (fl : qFl us nr kr kd ws at₉ ho wd wi ow rt wk wl wm nu ro fo le ra pi ct gs gw gm B x im p) (h0 : 0 < gm.toInt) (hk : k = (gm.toInt - 1).toNat) (hi : (gw k).toInt < (ws (gs k).toNatClampNeg).toInt) (e : gw₉ = zUp gw k y) (ey : y.toInt = (gw k).toInt + 1) (hr : r = zrf kr kd wd (gs k).toNatClampNeg (gw k).toInt.toNat) : qGo us nr kr kd ws wd gs gw₉ gm (qT p.2) ∧ qU us r ∧ cV p.1 (qT p.2) B ∧ qCt ct us nr p.1 (qT p.2) x (qNo nr r) ∧ (0 ≤ r.toInt → cSt p = cFa p.1 (qT p.2) (nr r.toNatClampNeg)) ∧ (r.toInt < 0 → cSt p = (p.1, qT p.2)) := by
  obtain ⟨f1, f2, f3, f4, f5, f6, f7⟩ := fl
  obtain ⟨l, t, e1, e2, e3⟩ := Go_adv f5 h0 hk hi e ey
  rw [← hr] at e1 e3
  have et : qT p.2 = l :: t := by
    rw [e1]
    rfl
  have ep : p = (p.1, (qNo nr r :: l) :: t) := by rw [← e1]
  rw [e1] at f3 f4
  rw [et]
  refine ⟨e2, e3, V_tl f3, fun s hs hu => ?_, fun r0 => ?_, fun r0 => ?_⟩
  · rw [f4 s hs hu, Oc_tl, is_m1 (nr_lt f1.1 hs hu)]
    exact congrArg Int32.ofInt (by omega)
  · have n0 : 0 ≤ (qNo nr r).toInt := by
      have u := U_y e3 r0
      rw [No_y r0]
      exact (f1.1.1 _ (tn_lt r0 u.1) u.2).1.1
    have c : cSt (p.1, (qNo nr r :: l) :: t) = cFa p.1 (l :: t) (qNo nr r) := cSt_y n0
    rw [← ep, No_y r0] at c
    exact c
  · have c : cSt (p.1, (qNo nr r :: l) :: t) = (p.1, l :: t) := cSt_n (by rw [No_n r0]; decide)
    rw [← ep] at c
    exact c
theorem LL_s (fl : qFl us nr kr kd ws at₉ ho wd wi ow rt wk wl wm nu ro fo le ra pi ct gs gw gm B x im q) (hq : cSt p = q) (ce : ∀ d, cE p d → L = d) : qLL us nr kr kd ws at₉ ho wd wi ow rt wk wl wm nu ro fo le ra pi ct gs gw gm B x im L := ⟨q, fl, fun d h => ce d (cE_s (by rw [hq]; exact h))⟩
theorem LL_n (fl : qFl us nr kr kd ws at₉ ho wd wi ow rt wk wl wm nu ro fo le ra pi ct gs gw gm B x im p) (la : qGo us nr kr kd ws wd gs gw₉ gm (qT p.2) ∧ qU us r ∧ cV p.1 (qT p.2) B ∧ qCt ct us nr p.1 (qT p.2) x (qNo nr r) ∧ (0 ≤ r.toInt → cSt p = cFa p.1 (qT p.2) (nr r.toNatClampNeg)) ∧ (r.toInt < 0 → cSt p = (p.1, qT p.2))) (hr : r.toInt < 0) (ce : ∀ d, cE p d → L = d) : qLL us nr kr kd ws at₉ ho wd wi ow rt wk wl wm nu ro fo le ra pi ct gs gw₉ gm B x im L := by
  refine LL_s (q := (p.1, qT p.2)) ⟨fl.1, fl.2.1, la.2.2.1, ?_, la.1, fl.2.2.2.2.2.1, fl.2.2.2.2.2.2⟩ (la.2.2.2.2.2 hr) ce
  have c := la.2.2.2.1
  rw [No_n hr] at c
  exact c
theorem LL_p (fl : qFl us nr kr kd ws at₉ ho wd wi ow rt wk wl wm nu ro fo le ra pi ct gs gw gm B x im p) (h0 : 0 < gm.toInt) (hk : k = (gm.toInt - 1).toNat) (hi : (gw k).toInt = (ws (gs k).toNatClampNeg).toInt) (e : gm₉.toInt = gm.toInt - 1) (ce : ∀ d, cE p d → L = d) : qLL us nr kr kd ws at₉ ho wd wi ow rt wk wl wm nu ro fo le ra pi ct gs gw gm₉ B x im L := by
  obtain ⟨f1, f2, f3, f4, f5, f6, f7⟩ := fl
  obtain ⟨t, e1, e2⟩ := Go_pop f5 h0 hk hi e
  have ep : p = (p.1, [] :: t) := by rw [← e1]
  have c : cSt p = (p.1, t) := by
    rw [ep]
    rfl
  have v := V_st p.2 p.1 f3
  have vv : cV p.1 t B := by
    have ep2 : (p.1, p.2) = p := rfl
    rw [ep2, c] at v
    exact v
  refine LL_s (q := (p.1, t)) ⟨f1, f2, vv, fun s hs hu => ?_, e2, f6, f7⟩ c ce
  rw [f4 s hs hu, e1]
  have o : cOc ([] :: t) (nr s).toNatClampNeg = 0 + cOc t (nr s).toNatClampNeg := rfl
  rw [o, Nat.zero_add]
theorem LL_e (h : qLL us nr kr kd ws at₉ ho wd wi ow rt wk wl wm nu ro fo le ra pi ct gs gw gm B x im L) (h0 : ¬ 0 < gm.toInt) : qRB us nr kr kd ws at₉ ho wd wi ow rt wk wl wm nu ro fo le ra pi L ∧ qI L ∧ cV L [] B ∧ qCt ct us nr L [] x (-1) ∧ qXr L x ∧ L 87 8 = im := by
  obtain ⟨p, ⟨f1, f2, f3, f4, f5, f6, f7⟩, ce⟩ := h
  have e := Go_nil f5 h0
  have ep : p = (p.1, []) := by rw [← e]
  have el : L = p.1 := ce p.1 (by rw [ep]; exact cE_o)
  rw [e] at f3 f4
  rw [el]
  exact ⟨f1, f2, f3, f4, f6, f7⟩
theorem LL_0 (fl : qFl us nr kr kd ws at₉ ho wd wi ow rt wk wl wm nu ro fo le ra pi ct gs gw gm B x im (cFa a [] (nr s))) (hs : s < 3100) (hR : qR1 us₉ nr ws at₉ ho a) (hu : us₉ s ≠ 0) (hL : L = cLe a (nr s)) : qLL us nr kr kd ws at₉ ho wd wi ow rt wk wl wm nu ro fo le ra pi ct gs gw gm B x im L := ⟨_, fl, fun d h => hL.trans (cLe_y (hR.1 s hs hu).1.1 (R1_al hR hs hu) h)⟩
theorem Le_m1 : cLe a (-1) = a := cLe_n (fun w => absurd w.1 (by decide))
end D2
theorem sp_197r4 {X : Nat × (Nat → Int32)} {P : Option ma_V → (Nat → Nat → Int32) → Prop} {T : Nat} {aa : Nat→Nat→Int32} {m : Nat → Nat → Int32} (s : Int32) (hV : zV m) (hpre0 : 0 ≤ s.toInt) (hpre1 : s.toInt ≤ 3099) (hpre2 : T ≤ 512) (hpre3 : (m 94 10).toInt = 4 ∧ (m 94 58).toInt = 0) (r_WI : (m 109) s.toNatClampNeg ≠ 0) (r_USs : (m 99) s.toNatClampNeg ≠ 0) (r_GW : zGW T (m 94 55) (m 109)) (r_RB : qRB (m 99) (m 100) (m 98) (m 101) (m 102) (m 103) (m 107) (m 108) (m 109) (m 111) (m 112) (m 113) (m 114) (m 94 55) (m 94 46) (m 94 11) (m 94 12) (m 94 62) (m 94 17) (m 94 9) aa) (r_QI : qI aa) (KZ : ∀ m₉, zV (zov wr_197 m m₉) → (zGW T (m₉ 94 55) (m₉ 109)) → (zuw (m 113) (m₉ 113)) → (zwx (m 114) (m₉ 114) (m 94 55) s) → ((m₉ 94 55).toInt = (m 94 55).toInt + 1) → (qRB (m 99) (m 100) (m 98) (m 101) (m 102) (m 103) (m 107) (m 108) (m₉ 109) (m 111) (m 112) (m₉ 113) (m₉ 114) (m₉ 94 55) (m 94 46) (m 94 11) (m 94 12) (m 94 62) (m 94 17) (m 94 9) (aGr aa ((m 100) s.toNatClampNeg))) → (qI (aGr aa ((m 100) s.toNatClampNeg))) → ((m₉ 105) = zUp (m 105) s.toNatClampNeg ((m 105) s.toNatClampNeg + 1)) → P none (zov wr_197 m m₉)) : zm X 1 22 197 0 [(0, .inr (.inr (some 94))), (1, .inl s)] m P := by
  have K : ∀ m₉, zF wr_197 m m₉ → zV m₉ → (zGW T (m₉ 94 55) (m₉ 109)) → (zuw (m 113) (m₉ 113)) → (zwx (m 114) (m₉ 114) (m 94 55) s) → ((m₉ 94 55).toInt = (m 94 55).toInt + 1) → (qRB (m₉ 99) (m₉ 100) (m₉ 98) (m₉ 101) (m₉ 102) (m₉ 103) (m₉ 107) (m₉ 108) (m₉ 109) (m₉ 111) (m₉ 112) (m₉ 113) (m₉ 114) (m₉ 94 55) (m₉ 94 46) (m₉ 94 11) (m₉ 94 12) (m₉ 94 62) (m₉ 94 17) (m₉ 94 9) (aGr aa ((m₉ 100) s.toNatClampNeg))) → (qI (aGr aa ((m₉ 100) s.toNatClampNeg))) → ((m₉ 105) = zUp (m 105) s.toNatClampNeg ((m 105) s.toNatClampNeg + 1)) → P none m₉ := by
    intro m₉ hf z q0 q1 q2 q3 q4 q5 q6
    have e := zov_eq hf
    rw [e] at z ⊢
    try rw [e] at q0
    try rw [e] at q1
    try rw [e] at q2
    try rw [e] at q3
    try rw [e] at q4
    try rw [e] at q5
    try rw [e] at q6
    exact KZ m₉ z q0 q1 q2 q3 q4 q5 q6
  refine g_197_0 s ?_
  have f1 : 0 ≤ (m 94 10).toInt ∧ (m 94 10).toInt ≤ 6 := rs_94_10 (m := m) hV
  have f2 : 0 ≤ (m 94 58).toInt ∧ (m 94 58).toInt ≤ 1 := rs_94_58 (m := m) hV
  have b3 := i_bd s
  try have gwr := GW_512 r_GW r_WI (by omega) (by omega) (by omega)
  refine sp_198r (s) hV  (fun m1 hV_m1 p0_m1 p1_m1 => zmv_n ?_)
  have p0_m1 : zuw (m 113) (m1 113) := p0_m1
  have p1_m1 : qUn (m 113) (m1 113) s 16 := p1_m1
  try have gw := GW_room r_GW
  try have gwr := GW_512 r_GW r_WI (by omega) (by omega) (by omega)
  have hg4 : (0 ≤ s ∧ s.toNatClampNeg < 3100) := i_ix (by omega) (by omega)
  refine ⟨hg4, ?_⟩
  have f5 : 0 ≤ (m 94 55).toInt ∧ (m 94 55).toInt ≤ 3100 := rs_94_55 (m := m) hV
  try have gw := GW_room r_GW
  try have gwr := GW_512 r_GW r_WI (by omega) (by omega) (by omega)
  have hg6 : (0 ≤ (m 94 55) ∧ (m 94 55).toNatClampNeg < 3100) := i_ix (by omega) (by omega)
  refine ⟨hg6, ?_⟩
  have li7 : (4 : Int32).toInt = 4 := rfl
  refine zd (fun (h8 : (m 94 10) = (4 : Int32)) => ?_) (fun (h8 : ¬ (m 94 10) = (4 : Int32)) => ?_)
  · skip
    have g9 := i_eq h8
    have hg10 : (0 ≤ s ∧ s.toNatClampNeg < 3100) := i_ix (by omega) (by omega)
    refine ⟨hg10, ?_⟩
    have hg11 : (0 ≤ s ∧ s.toNatClampNeg < 3100) := i_ix (by omega) (by omega)
    refine ⟨hg11, ?_⟩
    try have gwr := GW_512 r_GW r_WI (by omega) (by omega) (by omega)
    have li13 : (0 : Int32).toInt = 0 := rfl
    have hV12 : zV (ma_u (zov wr_198 m m1) 109 s.toNatClampNeg (0 : Int32)) := ua_109 hV_m1 (by omega) (by omega)
    have hV14 : zV (ma_u (ma_u (zov wr_198 m m1) 109 s.toNatClampNeg (0 : Int32)) 114 (m 94 55).toNatClampNeg s) := ua_114 hV12 (by omega) (by omega)
    first | have e16 : ((m 94 55) + (1 : Int32)).toInt = (m 94 55).toInt + (1) := i_addk rfl (by omega) (by omega) | have b17 := i_bd ((m 94 55) + (1 : Int32))
    have hV15 : zV (ma_u (ma_u (ma_u (zov wr_198 m m1) 109 s.toNatClampNeg (0 : Int32)) 114 (m 94 55).toNatClampNeg s) 94 55 ((m 94 55) + (1 : Int32))) := us_94_55 hV14 (by omega) (by omega)
    have hV18 : zV (ma_u (ma_u (ma_u (ma_u (zov wr_198 m m1) 109 s.toNatClampNeg (0 : Int32)) 114 (m 94 55).toNatClampNeg s) 94 55 ((m 94 55) + (1 : Int32))) 105 s.toNatClampNeg ((m 105 s.toNatClampNeg) + (1 : Int32))) := ua_105 hV15
    exact K _ (zF_u (zF_u (zF_u (zF_u (zF_zov zF_rfl ws_198_197) rfl) rfl) rfl) rfl) hV18 (show zGW T ((m 94 55) + (1 : Int32)) ((ma_u m 109 s.toNatClampNeg (0 : Int32)) 109) from by first | (exact GW_take r_GW r_WI (by omega) (by omega)) | (exfalso; omega; done) | (exfalso; contradiction; done)) p0_m1 (show zwx (m 114) ((ma_u m 114 (m 94 55).toNatClampNeg s) 114) (m 94 55) s from by first | (exact ⟨fun k hk => mu_ne (by rw [tn_eq]; omega), mu_self⟩) | (exfalso; omega; done) | (exfalso; contradiction; done)) (show ((m 94 55) + (1 : Int32)).toInt = (m 94 55).toInt + 1 from by omega) (show qRB (m 99) (m 100) (m 98) (m 101) (m 102) (m 103) (m 107) (m 108) ((ma_u m 109 s.toNatClampNeg (0 : Int32)) 109) (m 111) (m 112) (m1 113) ((ma_u m 114 (m 94 55).toNatClampNeg s) 114) ((m 94 55) + (1 : Int32)) (m 94 46) (m 94 11) (m 94 12) (m 94 62) (m 94 17) (m 94 9) (aGr aa ((m 100) s.toNatClampNeg)) from by first | (exact RB_gr r_RB (by omega) (by omega) r_USs p1_m1 (by omega) (by omega)) | (exfalso; omega; done) | (exfalso; contradiction; done)) (show qI (aGr aa ((m 100) s.toNatClampNeg)) from by first | (exact I_gr r_QI (by rw [r_RB.2.2.2.2.1.1]; omega)) | (exfalso; omega; done) | (exfalso; contradiction; done)) (show ((ma_u m 105 s.toNatClampNeg ((m 105 s.toNatClampNeg) + (1 : Int32))) 105) = zUp (m 105) s.toNatClampNeg ((m 105) s.toNatClampNeg + 1) from by first | (exact mu_up) | (exfalso; omega; done) | (exfalso; contradiction; done))
  · skip
    have g19 := i_ne h8
    exfalso; omega
set_option maxHeartbeats 8000000 in
theorem sp_242r4 {X : Nat × (Nat → Int32)} {P : Option ma_V → (Nat → Nat → Int32) → Prop} {T : Nat} {aa : Nat→Nat→Int32} {st : zLL} {x : Int32} {B : Int} {m : Nat → Nat → Int32} (s : Int32) (hV : zV m) (hpre0 : 0 ≤ s.toInt) (hpre1 : s.toInt ≤ 3099) (hpre2 : B ≤ 1000000) (hpre3 : T ≤ 512) (hpre4 : (m 94 10).toInt = 4 ∧ (m 94 58).toInt = 0) (r_GW : zGW T (m 94 55) (m 109)) (r_GU : zGU T (m 94 46) (m 99)) (r_OW : zOw (m 99) (m 103) (m 111)) (r_GO : zgo (m 94 80) (m 99)) (r_GWD : zgw (m 121) (m 120) (m 102) (m 94 80)) (r_USs : (m 99) s.toNatClampNeg ≠ 0) (r_RB : qRB (m 99) (m 100) (m 98) (m 101) (m 102) (m 103) (m 107) (m 108) (m 109) (m 111) (m 112) (m 113) (m 114) (m 94 55) (m 94 46) (m 94 11) (m 94 12) (m 94 62) (m 94 17) (m 94 9) aa) (r_QI : qI aa) (r_MK : aa 87 8 = (m 94 58)) (r_WTS : (m 94 45).toInt = sm (zbU (m 99)) (m 102) 3100) (r_VV : cV aa st B) (r_CT : qCt (m 105) (m 99) (m 100) aa st x ((m 100) s.toNatClampNeg)) (r_STK : qGo (m 99) (m 100) (m 98) (m 101) (m 102) (m 108) (m 120) (m 121) (m 94 80) st) (r_XR : qXr aa x) (KZ : ∀ m₉, zV (zov wr_242 m m₉) → (zGW T (m₉ 94 55) (m₉ 109)) → (zGU T (m 94 46) (m₉ 99)) → (zOw (m₉ 99) (m 103) (m₉ 111)) → (zgo (m₉ 94 80) (m₉ 99)) → (zgw (m₉ 121) (m₉ 120) (m 102) (m₉ 94 80)) → (zlm (m₉ 99) (m₉ 121) (m₉ 94 80) ≤ zlm (m 99) (m 121) (m 94 80)) → ((m₉ 94 45).toInt = sm (zbU (m₉ 99)) (m 102) 3100) → (qFl (m₉ 99) (m 100) (m 98) (m 101) (m 102) (m 103) (m 107) (m 108) (m₉ 109) (m₉ 111) (m 112) (m₉ 113) (m₉ 114) (m₉ 94 55) (m 94 46) (m 94 11) (m 94 12) (m 94 62) (m 94 17) (m 94 9) (m₉ 105) (m₉ 120) (m₉ 121) (m₉ 94 80) B x (m 94 58) (cFa aa st ((m 100) s.toNatClampNeg))) → P none (zov wr_242 m m₉)) : zm X 2 43 242 0 [(0, .inr (.inr (some 94))), (1, .inl s)] m P := by
  have K : ∀ m₉, zF wr_242 m m₉ → zV m₉ → (zGW T (m₉ 94 55) (m₉ 109)) → (zGU T (m₉ 94 46) (m₉ 99)) → (zOw (m₉ 99) (m₉ 103) (m₉ 111)) → (zgo (m₉ 94 80) (m₉ 99)) → (zgw (m₉ 121) (m₉ 120) (m₉ 102) (m₉ 94 80)) → (zlm (m₉ 99) (m₉ 121) (m₉ 94 80) ≤ zlm (m 99) (m 121) (m 94 80)) → ((m₉ 94 45).toInt = sm (zbU (m₉ 99)) (m₉ 102) 3100) → (qFl (m₉ 99) (m₉ 100) (m₉ 98) (m₉ 101) (m₉ 102) (m₉ 103) (m₉ 107) (m₉ 108) (m₉ 109) (m₉ 111) (m₉ 112) (m₉ 113) (m₉ 114) (m₉ 94 55) (m₉ 94 46) (m₉ 94 11) (m₉ 94 12) (m₉ 94 62) (m₉ 94 17) (m₉ 94 9) (m₉ 105) (m₉ 120) (m₉ 121) (m₉ 94 80) B x (m₉ 94 58) (cFa aa st ((m₉ 100) s.toNatClampNeg))) → P none m₉ := by
    intro m₉ hf z q0 q1 q2 q3 q4 q5 q6 q7
    have e := zov_eq hf
    rw [e] at z ⊢
    try rw [e] at q0
    try rw [e] at q1
    try rw [e] at q2
    try rw [e] at q3
    try rw [e] at q4
    try rw [e] at q5
    try rw [e] at q6
    try rw [e] at q7
    exact KZ m₉ z q0 q1 q2 q3 q4 q5 q6 q7
  refine g_242_0 s ?_
  have f1 : 0 ≤ (m 94 10).toInt ∧ (m 94 10).toInt ≤ 6 := rs_94_10 (m := m) hV
  have f2 : 0 ≤ (m 94 58).toInt ∧ (m 94 58).toInt ≤ 1 := rs_94_58 (m := m) hV
  have b3 := i_bd s
  have hg4 : (0 ≤ s ∧ s.toNatClampNeg < 3100) := i_ix (by omega) (by omega)
  refine ⟨hg4, ?_⟩
  have hg5 : (0 ≤ s ∧ s.toNatClampNeg < 3100) := i_ix (by omega) (by omega)
  refine ⟨hg5, ?_⟩
  have hg6 : (0 ≤ s ∧ s.toNatClampNeg < 3100) := i_ix (by omega) (by omega)
  refine ⟨hg6, ?_⟩
  have li7 : (0 : Int32).toInt = 0 := rfl
  have b8 := i_bd (m 105 s.toNatClampNeg)
  first | have b10 := i_bd ((m 105 s.toNatClampNeg) - (1 : Int32)) | have e9 : ((m 105 s.toNatClampNeg) - (1 : Int32)).toInt = (m 105 s.toNatClampNeg).toInt - (1) := i_subk rfl (by omega) (by omega)
  have q11 : ((ma_u m 105 s.toNatClampNeg ((m 105 s.toNatClampNeg) - (1 : Int32))) 105 s.toNatClampNeg).toInt = ((m 105 s.toNatClampNeg) - (1 : Int32)).toInt := congrArg Int32.toInt mu_self
  have b12 := i_bd ((ma_u m 105 s.toNatClampNeg ((m 105 s.toNatClampNeg) - (1 : Int32))) 105 s.toNatClampNeg)
  refine zd (fun (h13 : (0 : Int32) < ((ma_u m 105 s.toNatClampNeg ((m 105 s.toNatClampNeg) - (1 : Int32))) 105 s.toNatClampNeg)) => ?_) (fun (h13 : ¬ (0 : Int32) < ((ma_u m 105 s.toNatClampNeg ((m 105 s.toNatClampNeg) - (1 : Int32))) 105 s.toNatClampNeg)) => ?_)
  · skip
    have g14 := i_lt h13
    have hV15 : zV (ma_u m 105 s.toNatClampNeg ((m 105 s.toNatClampNeg) - (1 : Int32))) := ua_105 hV
    exact K _ (zF_u zF_rfl rfl) hV15 r_GW r_GU r_OW r_GO r_GWD (show zlm (m 99) (m 121) (m 94 80) ≤ zlm (m 99) (m 121) (m 94 80) from by first | (exact Nat.le_refl _) | (exfalso; omega; done) | (exfalso; contradiction; done)) r_WTS (show qFl (m 99) (m 100) (m 98) (m 101) (m 102) (m 103) (m 107) (m 108) (m 109) (m 111) (m 112) (m 113) (m 114) (m 94 55) (m 94 46) (m 94 11) (m 94 12) (m 94 62) (m 94 17) (m 94 9) ((ma_u m 105 s.toNatClampNeg ((m 105 s.toNatClampNeg) - (1 : Int32))) 105) (m 120) (m 121) (m 94 80) B x (m 94 58) (cFa aa st ((m 100) s.toNatClampNeg)) from by first | (exact Fl_A r_RB r_QI r_VV (by omega) r_CT r_STK r_XR r_MK (tn_lt (by omega) (by omega)) r_USs mu_up (by omega)) | (exact absurd (by assumption) r_USs) | (exfalso; omega; done) | (exfalso; contradiction; done))
  · skip
    have g16 := i_nlt h13
    have hg17 : (0 ≤ s ∧ s.toNatClampNeg < 3100) := i_ix (by omega) (by omega)
    refine ⟨hg17, ?_⟩
    first | have f18 : 0 ≤ (m 99 s.toNatClampNeg).toInt ∧ (m 99 s.toNatClampNeg).toInt ≤ 1 := ra_99 (m := m) hV (k := s.toNatClampNeg) (i_ix (n := 3100) (by omega) (by omega)).2 | have b19 := i_bd (m 99 s.toNatClampNeg)
    refine zd (fun (h20 : (m 99 s.toNatClampNeg) = (0 : Int32)) => ?_) (fun (h20 : ¬ (m 99 s.toNatClampNeg) = (0 : Int32)) => ?_)
    · skip
      have g21 := i_eq h20
      have hV22 : zV (ma_u m 105 s.toNatClampNeg ((m 105 s.toNatClampNeg) - (1 : Int32))) := ua_105 hV
      exact K _ (zF_u zF_rfl rfl) hV22 r_GW r_GU r_OW r_GO r_GWD (show zlm (m 99) (m 121) (m 94 80) ≤ zlm (m 99) (m 121) (m 94 80) from by first | (exact Nat.le_refl _) | (exfalso; omega; done) | (exfalso; contradiction; done)) r_WTS (show qFl (m 99) (m 100) (m 98) (m 101) (m 102) (m 103) (m 107) (m 108) (m 109) (m 111) (m 112) (m 113) (m 114) (m 94 55) (m 94 46) (m 94 11) (m 94 12) (m 94 62) (m 94 17) (m 94 9) ((ma_u m 105 s.toNatClampNeg ((m 105 s.toNatClampNeg) - (1 : Int32))) 105) (m 120) (m 121) (m 94 80) B x (m 94 58) (cFa aa st ((m 100) s.toNatClampNeg)) from by first | (exact absurd (by assumption) r_USs) | (exact Fl_A r_RB r_QI r_VV (by omega) r_CT r_STK r_XR r_MK (tn_lt (by omega) (by omega)) r_USs mu_up (by omega)) | (exfalso; omega; done) | (exfalso; contradiction; done))
    · skip
      have g23 := i_ne h20
      have hg24 : (0 ≤ s ∧ s.toNatClampNeg < 3100) := i_ix (by omega) (by omega)
      refine ⟨hg24, ?_⟩
      first | have f25 : 0 ≤ (m 109 s.toNatClampNeg).toInt ∧ (m 109 s.toNatClampNeg).toInt ≤ 1 := ra_109 (m := m) hV (k := s.toNatClampNeg) (i_ix (n := 3100) (by omega) (by omega)).2 | have b26 := i_bd (m 109 s.toNatClampNeg)
      refine zd (fun (h27 : (m 109 s.toNatClampNeg) = (0 : Int32)) => ?_) (fun (h27 : ¬ (m 109 s.toNatClampNeg) = (0 : Int32)) => ?_)
      · skip
        have g28 := i_eq h27
        have hV29 : zV (ma_u m 105 s.toNatClampNeg ((m 105 s.toNatClampNeg) - (1 : Int32))) := ua_105 hV
        refine sp_198r (s) hV29  (fun m1 hV_m1 p0_m1 p1_m1 => zmv_n ?_)
        have p0_m1 : zuw (m 113) (m1 113) := p0_m1
        have p1_m1 : qUn (m 113) (m1 113) s 16 := p1_m1
        have hg30 : (0 ≤ s ∧ s.toNatClampNeg < 3100) := i_ix (by omega) (by omega)
        refine ⟨hg30, ?_⟩
        have hg31 : (0 ≤ s ∧ s.toNatClampNeg < 3100) := i_ix (by omega) (by omega)
        refine ⟨hg31, ?_⟩
        first | have f32 : 0 ≤ (m 103 s.toNatClampNeg).toInt ∧ (m 103 s.toNatClampNeg).toInt ≤ 4599 := ra_103 (m := m) hV (k := s.toNatClampNeg) (i_ix (n := 3100) (by omega) (by omega)).2 | have b33 := i_bd (m 103 s.toNatClampNeg)
        have hg34 : (0 ≤ (m 103 s.toNatClampNeg) ∧ (m 103 s.toNatClampNeg).toNatClampNeg < 4600) := i_ix (by omega) (by omega)
        refine ⟨hg34, ?_⟩
        have hg35 : (0 ≤ s ∧ s.toNatClampNeg < 3100) := i_ix (by omega) (by omega)
        refine ⟨hg35, ?_⟩
        have hg36 : (0 ≤ s ∧ s.toNatClampNeg < 3100) := i_ix (by omega) (by omega)
        refine ⟨hg36, ?_⟩
        have f37 : 0 ≤ (m 94 80).toInt ∧ (m 94 80).toInt ≤ 3100 := rs_94_80 (m := m) hV
        try have gk := go_room r_GO (by assumption) (by omega)
        have hg38 : (0 ≤ (m 94 80) ∧ (m 94 80).toNatClampNeg < 3100) := i_ix (by omega) (by omega)
        refine ⟨hg38, ?_⟩
        try have gk := go_room r_GO (by assumption) (by omega)
        have hg39 : (0 ≤ (m 94 80) ∧ (m 94 80).toNatClampNeg < 3100) := i_ix (by omega) (by omega)
        refine ⟨hg39, ?_⟩
        have hV40 : zV (ma_u (zov wr_198 (ma_u m 105 s.toNatClampNeg ((m 105 s.toNatClampNeg) - (1 : Int32))) m1) 99 s.toNatClampNeg (0 : Int32)) := ua_99 hV_m1 (by omega) (by omega)
        have li42 : (-1 : Int32).toInt = -1 := rfl
        have hV41 : zV (ma_u (ma_u (zov wr_198 (ma_u m 105 s.toNatClampNeg ((m 105 s.toNatClampNeg) - (1 : Int32))) m1) 99 s.toNatClampNeg (0 : Int32)) 111 (m 103 s.toNatClampNeg).toNatClampNeg (-1 : Int32)) := ua_111 hV40 (by omega) (by omega)
        have hV43 : zV (ma_u (ma_u (ma_u (zov wr_198 (ma_u m 105 s.toNatClampNeg ((m 105 s.toNatClampNeg) - (1 : Int32))) m1) 99 s.toNatClampNeg (0 : Int32)) 111 (m 103 s.toNatClampNeg).toNatClampNeg (-1 : Int32)) 94 44 ((m 94 44) - (1 : Int32))) := uf_94_44 hV41
        have hV44 : zV (ma_u (ma_u (ma_u (ma_u (zov wr_198 (ma_u m 105 s.toNatClampNeg ((m 105 s.toNatClampNeg) - (1 : Int32))) m1) 99 s.toNatClampNeg (0 : Int32)) 111 (m 103 s.toNatClampNeg).toNatClampNeg (-1 : Int32)) 94 44 ((m 94 44) - (1 : Int32))) 94 45 ((m 94 45) - ((m 102 s.toNatClampNeg) + (1 : Int32)))) := uf_94_45 hV43
        have hV45 : zV (ma_u (ma_u (ma_u (ma_u (ma_u (zov wr_198 (ma_u m 105 s.toNatClampNeg ((m 105 s.toNatClampNeg) - (1 : Int32))) m1) 99 s.toNatClampNeg (0 : Int32)) 111 (m 103 s.toNatClampNeg).toNatClampNeg (-1 : Int32)) 94 44 ((m 94 44) - (1 : Int32))) 94 45 ((m 94 45) - ((m 102 s.toNatClampNeg) + (1 : Int32)))) 94 49 ((m 94 49) + ((m 102 s.toNatClampNeg) + (1 : Int32)))) := uf_94_49 hV44
        have hV46 : zV (ma_u (ma_u (ma_u (ma_u (ma_u (ma_u (zov wr_198 (ma_u m 105 s.toNatClampNeg ((m 105 s.toNatClampNeg) - (1 : Int32))) m1) 99 s.toNatClampNeg (0 : Int32)) 111 (m 103 s.toNatClampNeg).toNatClampNeg (-1 : Int32)) 94 44 ((m 94 44) - (1 : Int32))) 94 45 ((m 94 45) - ((m 102 s.toNatClampNeg) + (1 : Int32)))) 94 49 ((m 94 49) + ((m 102 s.toNatClampNeg) + (1 : Int32)))) 120 (m 94 80).toNatClampNeg s) := ua_120 hV45 (by omega) (by omega)
        have hV47 : zV (ma_u (ma_u (ma_u (ma_u (ma_u (ma_u (ma_u (zov wr_198 (ma_u m 105 s.toNatClampNeg ((m 105 s.toNatClampNeg) - (1 : Int32))) m1) 99 s.toNatClampNeg (0 : Int32)) 111 (m 103 s.toNatClampNeg).toNatClampNeg (-1 : Int32)) 94 44 ((m 94 44) - (1 : Int32))) 94 45 ((m 94 45) - ((m 102 s.toNatClampNeg) + (1 : Int32)))) 94 49 ((m 94 49) + ((m 102 s.toNatClampNeg) + (1 : Int32)))) 120 (m 94 80).toNatClampNeg s) 121 (m 94 80).toNatClampNeg (0 : Int32)) := ua_121 hV46 (by omega) (by omega)
        first | have e49 : ((m 94 80) + (1 : Int32)).toInt = (m 94 80).toInt + (1) := i_addk rfl (by omega) (by omega) | have b50 := i_bd ((m 94 80) + (1 : Int32))
        have hV48 : zV (ma_u (ma_u (ma_u (ma_u (ma_u (ma_u (ma_u (ma_u (zov wr_198 (ma_u m 105 s.toNatClampNeg ((m 105 s.toNatClampNeg) - (1 : Int32))) m1) 99 s.toNatClampNeg (0 : Int32)) 111 (m 103 s.toNatClampNeg).toNatClampNeg (-1 : Int32)) 94 44 ((m 94 44) - (1 : Int32))) 94 45 ((m 94 45) - ((m 102 s.toNatClampNeg) + (1 : Int32)))) 94 49 ((m 94 49) + ((m 102 s.toNatClampNeg) + (1 : Int32)))) 120 (m 94 80).toNatClampNeg s) 121 (m 94 80).toNatClampNeg (0 : Int32)) 94 80 ((m 94 80) + (1 : Int32))) := us_94_80 hV47 (by omega) (by omega)
        exact K _ (zF_u (zF_u (zF_u (zF_u (zF_u (zF_u (zF_u (zF_u (zF_zov (zF_u zF_rfl rfl) ws_198_242) rfl) rfl) rfl) rfl) rfl) rfl) rfl) rfl) hV48 r_GW (show zGU T (m 94 46) ((ma_u m 99 s.toNatClampNeg (0 : Int32)) 99) from by first | (exact GU_0 r_GU) | (exfalso; omega; done) | (exfalso; contradiction; done)) (show zOw ((ma_u m 99 s.toNatClampNeg (0 : Int32)) 99) (m 103) ((ma_u m 111 (m 103 s.toNatClampNeg).toNatClampNeg (-1 : Int32)) 111) from by first | (exact Ow_rm r_OW (by decide) (tn_cast (by omega)).symm) | (exfalso; omega; done) | (exfalso; contradiction; done)) (show zgo ((m 94 80) + (1 : Int32)) ((ma_u m 99 s.toNatClampNeg (0 : Int32)) 99) from by first | (exact go_push r_GO (by assumption) (by omega) (by omega)) | (exfalso; omega; done) | (exfalso; contradiction; done)) (show zgw ((ma_u m 121 (m 94 80).toNatClampNeg (0 : Int32)) 121) ((ma_u m 120 (m 94 80).toNatClampNeg s) 120) (m 102) ((m 94 80) + (1 : Int32)) from by first | (exact gw_push r_GWD (by omega) (by omega) (by have := ra_102 (m := m) hV (k := s.toNatClampNeg) (by omega); have z : (0 : Int32).toInt = 0 := rfl; omega)) | (exfalso; omega; done) | (exfalso; contradiction; done)) (show zlm ((ma_u m 99 s.toNatClampNeg (0 : Int32)) 99) ((ma_u m 121 (m 94 80).toNatClampNeg (0 : Int32)) 121) ((m 94 80) + (1 : Int32)) ≤ zlm (m 99) (m 121) (m 94 80) from by first | (have zq := lm_push (m := m) (c := 99) (mg := m) (d := 121) (k := s.toNatClampNeg) (gm := m 94 80) (gm₉ := (m 94 80) + (1 : Int32)) (x := (0 : Int32)) (by assumption) (by omega) (by omega) (by omega) (by omega) (by decide); exact zq; done) | (exfalso; omega; done) | (exfalso; contradiction; done)) (show ((m 94 45) - ((m 102 s.toNatClampNeg) + (1 : Int32))).toInt = sm (zbU ((ma_u m 99 s.toNatClampNeg (0 : Int32)) 99)) (m 102) 3100 from by first | (exact WT_rm r_WTS (tn_lt (by omega) (by omega)) (by assumption) (fun t ht => ra_102 hV ht)) | (exfalso; omega; done) | (exfalso; contradiction; done)) (show qFl ((ma_u m 99 s.toNatClampNeg (0 : Int32)) 99) (m 100) (m 98) (m 101) (m 102) (m 103) (m 107) (m 108) (m 109) ((ma_u m 111 (m 103 s.toNatClampNeg).toNatClampNeg (-1 : Int32)) 111) (m 112) (m1 113) (m 114) (m 94 55) (m 94 46) (m 94 11) (m 94 12) (m 94 62) (m 94 17) (m 94 9) ((ma_u m 105 s.toNatClampNeg ((m 105 s.toNatClampNeg) - (1 : Int32))) 105) ((ma_u m 120 (m 94 80).toNatClampNeg s) 120) ((ma_u m 121 (m 94 80).toNatClampNeg (0 : Int32)) 121) ((m 94 80) + (1 : Int32)) B x (m 94 58) (cFa aa st ((m 100) s.toNatClampNeg)) from by first | (exact Fl_C r_RB r_QI r_VV (by omega) r_CT r_STK r_XR r_MK (tn_lt (by omega) (by omega)) r_USs mu_up (by omega) (by assumption) (by rw [ofN_tn (by omega)]; exact p1_m1) (fun t => mu_at t) (fun t => mu_at t) mu_up (ofN_tn (by omega)).symm mu_up (by omega)) | (exfalso; omega; done) | (exfalso; contradiction; done))
      · skip
        have g51 := i_ne h27
        have hV52 : zV (ma_u m 105 s.toNatClampNeg ((m 105 s.toNatClampNeg) - (1 : Int32))) := ua_105 hV
        refine sp_197r4 (s) hV52 (by omega) (by omega) (by omega) (show (m 94 10).toInt = 4 ∧ (m 94 58).toInt = 0 from by omega) (show (m 109) s.toNatClampNeg ≠ 0 from by first | (assumption; done) | (exfalso; omega; done) | (exfalso; contradiction; done)) r_USs r_GW r_RB r_QI (fun m3 hV_m3 p0_m3 p1_m3 p2_m3 p3_m3 p4_m3 p5_m3 p6_m3 => zmv_n ?_)
        have p0_m3 : zGW T (m3 94 55) (m3 109) := p0_m3
        have p1_m3 : zuw (m 113) (m3 113) := p1_m3
        have p2_m3 : zwx (m 114) (m3 114) (m 94 55) s := p2_m3
        have p3_m3 : (m3 94 55).toInt = (m 94 55).toInt + 1 := p3_m3
        have p4_m3 : qRB (m 99) (m 100) (m 98) (m 101) (m 102) (m 103) (m 107) (m 108) (m3 109) (m 111) (m 112) (m3 113) (m3 114) (m3 94 55) (m 94 46) (m 94 11) (m 94 12) (m 94 62) (m 94 17) (m 94 9) (aGr aa ((m 100) s.toNatClampNeg)) := p4_m3
        have p5_m3 : qI (aGr aa ((m 100) s.toNatClampNeg)) := p5_m3
        have p6_m3 : (m3 105) = zUp ((ma_u m 105 s.toNatClampNeg ((m 105 s.toNatClampNeg) - (1 : Int32))) 105) s.toNatClampNeg (((ma_u m 105 s.toNatClampNeg ((m 105 s.toNatClampNeg) - (1 : Int32))) 105) s.toNatClampNeg + 1) := p6_m3
        have f53 : 0 ≤ (m3 94 55).toInt ∧ (m3 94 55).toInt ≤ 3100 := rs_94_55 (m := (zov wr_197 (ma_u m 105 s.toNatClampNeg ((m 105 s.toNatClampNeg) - (1 : Int32))) m3)) hV_m3
        have f54 : 0 ≤ (m 94 55).toInt ∧ (m 94 55).toInt ≤ 3100 := rs_94_55 (m := m) hV
        exact K _ (zF_zov (zF_u zF_rfl rfl) ws_197_242) hV_m3 p0_m3 r_GU r_OW r_GO r_GWD (show zlm (m 99) (m 121) (m 94 80) ≤ zlm (m 99) (m 121) (m 94 80) from by first | (exact Nat.le_refl _) | (exfalso; omega; done) | (exfalso; contradiction; done)) r_WTS (show qFl (m 99) (m 100) (m 98) (m 101) (m 102) (m 103) (m 107) (m 108) (m3 109) (m 111) (m 112) (m3 113) (m3 114) (m3 94 55) (m 94 46) (m 94 11) (m 94 12) (m 94 62) (m 94 17) (m 94 9) (m3 105) (m 120) (m 121) (m 94 80) B x (m 94 58) (cFa aa st ((m 100) s.toNatClampNeg)) from by first | (exact Fl_B r_RB r_VV (by omega) r_CT r_STK r_XR r_MK (tn_lt (by omega) (by omega)) r_USs mu_up (by omega) (by assumption) (GW_512 r_GW (by assumption) (by omega) (by omega) (by omega)) p4_m3 p5_m3 p6_m3) | (exfalso; omega; done) | (exfalso; contradiction; done))

/-! from 95.o03 -/
/-! the reference under COUNTS (written by wip/tools/gen20s.py) -/
set_option maxHeartbeats 8000000 in
theorem lp_241r4_23 {X : Nat × (Nat → Int32)} {P : Option ma_V → (Nat → Nat → Int32) → Prop} {T : Nat} {aa : Nat→Nat→Int32} {x : Int32} {B : Int} {s : Int32} {m0 : Nat → Nat → Int32} (h0 : zV m0) (K : ∀ m₉, zF wr_241 m0 m₉ → zV m₉ → (zGW T (m₉ 94 55) (m₉ 109)) → (zGU T (m₉ 94 46) (m₉ 99)) → (zOw (m₉ 99) (m₉ 103) (m₉ 111)) → ((m₉ 94 45).toInt = sm (zbU (m₉ 99)) (m₉ 102) 3100) → (qRB (m₉ 99) (m₉ 100) (m₉ 98) (m₉ 101) (m₉ 102) (m₉ 103) (m₉ 107) (m₉ 108) (m₉ 109) (m₉ 111) (m₉ 112) (m₉ 113) (m₉ 114) (m₉ 94 55) (m₉ 94 46) (m₉ 94 11) (m₉ 94 12) (m₉ 94 62) (m₉ 94 17) (m₉ 94 9) (cLe aa (qNo (m0 100) s))) → (qI (cLe aa (qNo (m0 100) s))) → ((cLe aa (qNo (m0 100) s)) 87 8 = (m₉ 94 58)) → (cV (cLe aa (qNo (m0 100) s)) [] B) → (qCt (m₉ 105) (m₉ 99) (m₉ 100) (cLe aa (qNo (m0 100) s)) [] x (-1)) → (qXr (cLe aa (qNo (m0 100) s)) x) → P none m₉) : ∀ (n : Nat) (m : Nat → Nat → Int32) , ((zlm (m 99) (m 121) (m 94 80) : Int)).toNat = n → zF wr_241 m0 m → zV m → (B ≤ 1000000) → (T ≤ 512) → (zW (m 94 7) (m 98) (m 101) (m 102) (m 108)) → (zGW T (m 94 55) (m 109)) → (zGU T (m 94 46) (m 99)) → (zOw (m 99) (m 103) (m 111)) → ((m 94 10).toInt = 4 ∧ (m 94 58).toInt = 0) → (zgo (m 94 80) (m 99)) → (zgw (m 121) (m 120) (m 102) (m 94 80)) → ((m 94 45).toInt = sm (zbU (m 99)) (m 102) 3100) → (qLL (m 99) (m 100) (m 98) (m 101) (m 102) (m 103) (m 107) (m 108) (m 109) (m 111) (m 112) (m 113) (m 114) (m 94 55) (m 94 46) (m 94 11) (m 94 12) (m 94 62) (m 94 17) (m 94 9) (m 105) (m 120) (m 121) (m 94 80) B x (m 94 58) (cLe aa (qNo (m0 100) s))) → zm X 3 64 241 23 [(0, .inr (.inr (some 94)))] m P := by
  intro n
  induction n using Nat.strongRecOn with
  | _ n IH =>
    intro m  hmu hF hV hi0 hi1 r_W r_GW r_GU r_OW hi6 r_GO r_GWD r_WTS r_LL
    refine g_241_23  ?_
    have f1 : 0 ≤ (m 94 10).toInt ∧ (m 94 10).toInt ≤ 6 := rs_94_10 (m := m) hV
    have f2 : 0 ≤ (m 94 58).toInt ∧ (m 94 58).toInt ≤ 1 := rs_94_58 (m := m) hV
    obtain ⟨p, fl, ce⟩ := r_LL
    have f3 : 0 ≤ (m 94 80).toInt ∧ (m 94 80).toInt ≤ 3100 := rs_94_80 (m := m) hV
    have li4 : (0 : Int32).toInt = 0 := rfl
    refine zd (fun (h5 : (m 94 80) ≤ (0 : Int32)) => ?_) (fun (h5 : ¬ (m 94 80) ≤ (0 : Int32)) => ?_)
    · skip
      have g6 := i_le h5
      exact K _ hF hV r_GW r_GU r_OW r_WTS (show qRB (m 99) (m 100) (m 98) (m 101) (m 102) (m 103) (m 107) (m 108) (m 109) (m 111) (m 112) (m 113) (m 114) (m 94 55) (m 94 46) (m 94 11) (m 94 12) (m 94 62) (m 94 17) (m 94 9) (cLe aa (qNo (m0 100) s)) from by first | (exact (LL_e ⟨p, fl, ce⟩ (by omega)).1) | (exfalso; omega; done) | (exfalso; contradiction; done)) (show qI (cLe aa (qNo (m0 100) s)) from by first | (exact (LL_e ⟨p, fl, ce⟩ (by omega)).2.1) | (exfalso; omega; done) | (exfalso; contradiction; done)) (show (cLe aa (qNo (m0 100) s)) 87 8 = (m 94 58) from by first | (exact (LL_e ⟨p, fl, ce⟩ (by omega)).2.2.2.2.2) | (exfalso; omega; done) | (exfalso; contradiction; done)) (show cV (cLe aa (qNo (m0 100) s)) [] B from by first | (exact (LL_e ⟨p, fl, ce⟩ (by omega)).2.2.1) | (exfalso; omega; done) | (exfalso; contradiction; done)) (show qCt (m 105) (m 99) (m 100) (cLe aa (qNo (m0 100) s)) [] x (-1) from by first | (exact (LL_e ⟨p, fl, ce⟩ (by omega)).2.2.2.1) | (exfalso; omega; done) | (exfalso; contradiction; done)) (show qXr (cLe aa (qNo (m0 100) s)) x from by first | (exact (LL_e ⟨p, fl, ce⟩ (by omega)).2.2.2.2.1) | (exfalso; omega; done) | (exfalso; contradiction; done))
    · skip
      have g7 := i_nle h5
      first | have e8 : ((m 94 80) - (1 : Int32)).toInt = (m 94 80).toInt - (1) := i_subk rfl (by omega) (by omega) | have b9 := i_bd ((m 94 80) - (1 : Int32))
      have hg10 : (0 ≤ ((m 94 80) - (1 : Int32)) ∧ ((m 94 80) - (1 : Int32)).toNatClampNeg < 3100) := i_ix (by omega) (by omega)
      refine ⟨hg10, ?_⟩
      have hg11 : (0 ≤ ((m 94 80) - (1 : Int32)) ∧ ((m 94 80) - (1 : Int32)).toNatClampNeg < 3100) := i_ix (by omega) (by omega)
      refine ⟨hg11, ?_⟩
      first | have f12 : 0 ≤ (m 120 ((m 94 80) - (1 : Int32)).toNatClampNeg).toInt ∧ (m 120 ((m 94 80) - (1 : Int32)).toNatClampNeg).toInt ≤ 3099 := ra_120 (m := m) hV (k := ((m 94 80) - (1 : Int32)).toNatClampNeg) (i_ix (n := 3100) (by omega) (by omega)).2 | have b13 := i_bd (m 120 ((m 94 80) - (1 : Int32)).toNatClampNeg)
      try have gwd := r_GWD ((m 94 80) - (1 : Int32)).toNatClampNeg (by rw [tn_cast (by omega)]; omega)
      have hg14 : (0 ≤ (m 120 ((m 94 80) - (1 : Int32)).toNatClampNeg) ∧ (m 120 ((m 94 80) - (1 : Int32)).toNatClampNeg).toNatClampNeg < 3100) := i_ix (by omega) (by omega)
      refine ⟨hg14, ?_⟩
      first | have f15 : 0 ≤ (m 121 ((m 94 80) - (1 : Int32)).toNatClampNeg).toInt ∧ (m 121 ((m 94 80) - (1 : Int32)).toNatClampNeg).toInt ≤ 60 := ra_121 (m := m) hV (k := ((m 94 80) - (1 : Int32)).toNatClampNeg) (i_ix (n := 3100) (by omega) (by omega)).2 | have b16 := i_bd (m 121 ((m 94 80) - (1 : Int32)).toNatClampNeg)
      first | have f17 : 0 ≤ (m 102 (m 120 ((m 94 80) - (1 : Int32)).toNatClampNeg).toNatClampNeg).toInt ∧ (m 102 (m 120 ((m 94 80) - (1 : Int32)).toNatClampNeg).toNatClampNeg).toInt ≤ 60 := ra_102 (m := m) hV (k := (m 120 ((m 94 80) - (1 : Int32)).toNatClampNeg).toNatClampNeg) (i_ix (n := 3100) (by omega) (by omega)).2 | have b18 := i_bd (m 102 (m 120 ((m 94 80) - (1 : Int32)).toNatClampNeg).toNatClampNeg)
      refine zd (fun (h19 : (m 121 ((m 94 80) - (1 : Int32)).toNatClampNeg) = (m 102 (m 120 ((m 94 80) - (1 : Int32)).toNatClampNeg).toNatClampNeg)) => ?_) (fun (h19 : ¬ (m 121 ((m 94 80) - (1 : Int32)).toNatClampNeg) = (m 102 (m 120 ((m 94 80) - (1 : Int32)).toNatClampNeg).toNatClampNeg)) => ?_)
      · skip
        have g20 := i_eq h19
        have hV21 : zV (ma_u m 94 80 ((m 94 80) - (1 : Int32))) := us_94_80 hV (by omega) (by omega)
        exact IH ((zlm (m 99) (m 121) ((m 94 80) - (1 : Int32)) : Int)).toNat (by first | (have zq := lm_pop (us := m 99) (gw := m 121) (gm := m 94 80) (gm₉ := (m 94 80) - (1 : Int32)) (by omega) (by omega) (fun j hj => ra_121 hV (by omega)); omega) | (have zq := lm_adv (us := m 99) (m := m) (c := 121) (k := ((m 94 80) - (1 : Int32)).toNatClampNeg) (x := (m 121 ((m 94 80) - (1 : Int32)).toNatClampNeg) + (1 : Int32)) (gm := m 94 80) (by omega) (by rw [tn_cast (by omega)]; omega) (by omega) (by omega); have zm := {ML}; omega) | (have zq := lm_adv (us := m 99) (m := m) (c := 121) (k := ((m 94 80) - (1 : Int32)).toNatClampNeg) (x := (m 121 ((m 94 80) - (1 : Int32)).toNatClampNeg) + (1 : Int32)) (gm := m 94 80) (by omega) (by rw [tn_cast (by omega)]; omega) (by omega) (by omega); omega)) _  rfl (zF_u hF rfl) hV21 (by omega) (by omega) r_W r_GW r_GU r_OW (show (m 94 10).toInt = 4 ∧ (m 94 58).toInt = 0 from by omega) (show zgo ((m 94 80) - (1 : Int32)) (m 99) from by first | (exact go_pop r_GO (by omega)) | (exact go_0 (by decide)) | (exfalso; omega; done) | (exfalso; contradiction; done)) (show zgw (m 121) (m 120) (m 102) ((m 94 80) - (1 : Int32)) from by first | (exact gw_pop r_GWD (by omega)) | (exact gw_0 (by decide)) | (exfalso; omega; done) | (exfalso; contradiction; done)) r_WTS (show qLL (m 99) (m 100) (m 98) (m 101) (m 102) (m 103) (m 107) (m 108) (m 109) (m 111) (m 112) (m 113) (m 114) (m 94 55) (m 94 46) (m 94 11) (m 94 12) (m 94 62) (m 94 17) (m 94 9) (m 105) (m 120) (m 121) ((m 94 80) - (1 : Int32)) B x (m 94 58) (cLe aa (qNo (m0 100) s)) from by first | (exact LL_p fl (k := ((m 94 80) - (1 : Int32)).toNatClampNeg) (by omega) (by rw [tn_eq]; omega) (by omega) (by omega) ce) | (exfalso; omega; done) | (exfalso; contradiction; done))
      · skip
        have g22 := i_ne h19
        have hg23 : (0 ≤ ((m 94 80) - (1 : Int32)) ∧ ((m 94 80) - (1 : Int32)).toNatClampNeg < 3100) := i_ix (by omega) (by omega)
        refine ⟨hg23, ?_⟩
        have hg24 : (0 ≤ ((m 94 80) - (1 : Int32)) ∧ ((m 94 80) - (1 : Int32)).toNatClampNeg < 3100) := i_ix (by omega) (by omega)
        refine ⟨hg24, ?_⟩
        first | have e26 : ((m 121 ((m 94 80) - (1 : Int32)).toNatClampNeg) + (1 : Int32)).toInt = (m 121 ((m 94 80) - (1 : Int32)).toNatClampNeg).toInt + (1) := i_addk rfl (by omega) (by omega) | have b27 := i_bd ((m 121 ((m 94 80) - (1 : Int32)).toNatClampNeg) + (1 : Int32))
        have hV25 : zV (ma_u m 121 ((m 94 80) - (1 : Int32)).toNatClampNeg ((m 121 ((m 94 80) - (1 : Int32)).toNatClampNeg) + (1 : Int32))) := ua_121 hV (by omega) (by omega)
        refine sp_192 ((m 120 ((m 94 80) - (1 : Int32)).toNatClampNeg)) ((m 121 ((m 94 80) - (1 : Int32)).toNatClampNeg)) hV25 (by omega) (by omega) (by omega) (show (m 121 ((m 94 80) - (1 : Int32)).toNatClampNeg).toInt < (m 102 (m 120 ((m 94 80) - (1 : Int32)).toNatClampNeg).toNatClampNeg).toInt from by omega) (fun v2 m1 hV_m1 p0_m1 => zmi_n ?_)
        have p0_m1 : v2 = zrf (m 98) (m 101) (m 108) (m 120 ((m 94 80) - (1 : Int32)).toNatClampNeg).toNatClampNeg (m 121 ((m 94 80) - (1 : Int32)).toNatClampNeg).toNatClampNeg := p0_m1
        try have := W_ref r_W (by omega) (by omega) (by omega) (by omega) p0_m1
        have b28 := i_bd v2
        refine zd (fun (h29 : v2 < (0 : Int32)) => ?_) (fun (h29 : ¬ v2 < (0 : Int32)) => ?_)
        · skip
          have g30 := i_lt h29
          exact IH ((zlm (m 99) ((ma_u m 121 ((m 94 80) - (1 : Int32)).toNatClampNeg ((m 121 ((m 94 80) - (1 : Int32)).toNatClampNeg) + (1 : Int32))) 121) (m 94 80) : Int)).toNat (by first | (have zq := lm_adv (us := m 99) (m := m) (c := 121) (k := ((m 94 80) - (1 : Int32)).toNatClampNeg) (x := (m 121 ((m 94 80) - (1 : Int32)).toNatClampNeg) + (1 : Int32)) (gm := m 94 80) (by omega) (by rw [tn_cast (by omega)]; omega) (by omega) (by omega); omega) | (have zq := lm_pop (us := m 99) (gw := m 121) (gm := m 94 80) (gm₉ := (m 94 80) - (1 : Int32)) (by omega) (by omega) (fun j hj => ra_121 hV (by omega)); omega) | (have zq := lm_adv (us := m 99) (m := m) (c := 121) (k := ((m 94 80) - (1 : Int32)).toNatClampNeg) (x := (m 121 ((m 94 80) - (1 : Int32)).toNatClampNeg) + (1 : Int32)) (gm := m 94 80) (by omega) (by rw [tn_cast (by omega)]; omega) (by omega) (by omega); have zm := {ML}; omega)) _  rfl (zF_zov (zF_u hF rfl) ws_192_241) hV_m1 (by omega) (by omega) r_W r_GW r_GU r_OW (show (m 94 10).toInt = 4 ∧ (m 94 58).toInt = 0 from by omega) r_GO (show zgw ((ma_u m 121 ((m 94 80) - (1 : Int32)).toNatClampNeg ((m 121 ((m 94 80) - (1 : Int32)).toNatClampNeg) + (1 : Int32))) 121) (m 120) (m 102) (m 94 80) from by first | (exact gw_adv r_GWD (by omega)) | (exfalso; omega; done) | (exfalso; contradiction; done)) r_WTS (show qLL (m 99) (m 100) (m 98) (m 101) (m 102) (m 103) (m 107) (m 108) (m 109) (m 111) (m 112) (m 113) (m 114) (m 94 55) (m 94 46) (m 94 11) (m 94 12) (m 94 62) (m 94 17) (m 94 9) (m 105) (m 120) ((ma_u m 121 ((m 94 80) - (1 : Int32)).toNatClampNeg ((m 121 ((m 94 80) - (1 : Int32)).toNatClampNeg) + (1 : Int32))) 121) (m 94 80) B x (m 94 58) (cLe aa (qNo (m0 100) s)) from by first | (have la := LA fl (k := ((m 94 80) - (1 : Int32)).toNatClampNeg) (r := v2) (by omega) (by rw [tn_eq]; omega) (by omega) mu_up (by omega) p0_m1; exact LL_n fl la (by omega) ce; done) | (exfalso; omega; done) | (exfalso; contradiction; done))
        · skip
          have g31 := i_nlt h29
          refine sp_242r4 (aa := p.1) (st := (qT p.2)) (v2) hV_m1 (by omega) (by omega) (by omega) (by omega) (show (m 94 10).toInt = 4 ∧ (m 94 58).toInt = 0 from by omega) r_GW r_GU r_OW r_GO (show zgw ((ma_u m 121 ((m 94 80) - (1 : Int32)).toNatClampNeg ((m 121 ((m 94 80) - (1 : Int32)).toNatClampNeg) + (1 : Int32))) 121) (m 120) (m 102) (m 94 80) from by first | (exact gw_adv r_GWD (by omega)) | (exfalso; omega; done) | (exfalso; contradiction; done)) (show (m 99) v2.toNatClampNeg ≠ 0 from by first | (have la := LA fl (k := ((m 94 80) - (1 : Int32)).toNatClampNeg) (r := v2) (by omega) (by rw [tn_eq]; omega) (by omega) mu_up (by omega) p0_m1; exact (U_y la.2.1 (by omega)).2; done) | (assumption; done) | (exact ws3) | (exfalso; omega; done) | (exfalso; contradiction; done)) (show qRB (m 99) (m 100) (m 98) (m 101) (m 102) (m 103) (m 107) (m 108) (m 109) (m 111) (m 112) (m 113) (m 114) (m 94 55) (m 94 46) (m 94 11) (m 94 12) (m 94 62) (m 94 17) (m 94 9) p.1 from by first | (have la := LA fl (k := ((m 94 80) - (1 : Int32)).toNatClampNeg) (r := v2) (by omega) (by rw [tn_eq]; omega) (by omega) mu_up (by omega) p0_m1; exact fl.1; done) | (exfalso; omega; done) | (exfalso; contradiction; done)) (show qI p.1 from by first | (have la := LA fl (k := ((m 94 80) - (1 : Int32)).toNatClampNeg) (r := v2) (by omega) (by rw [tn_eq]; omega) (by omega) mu_up (by omega) p0_m1; exact fl.2.1; done) | (exfalso; omega; done) | (exfalso; contradiction; done)) (show p.1 87 8 = (m 94 58) from by first | (have la := LA fl (k := ((m 94 80) - (1 : Int32)).toNatClampNeg) (r := v2) (by omega) (by rw [tn_eq]; omega) (by omega) mu_up (by omega) p0_m1; exact fl.2.2.2.2.2.2; done) | (exfalso; omega; done) | (exfalso; contradiction; done)) r_WTS (show cV p.1 (qT p.2) B from by first | (have la := LA fl (k := ((m 94 80) - (1 : Int32)).toNatClampNeg) (r := v2) (by omega) (by rw [tn_eq]; omega) (by omega) mu_up (by omega) p0_m1; exact la.2.2.1; done) | (exfalso; omega; done) | (exfalso; contradiction; done)) (show qCt (m 105) (m 99) (m 100) p.1 (qT p.2) x ((m 100) v2.toNatClampNeg) from by first | (have la := LA fl (k := ((m 94 80) - (1 : Int32)).toNatClampNeg) (r := v2) (by omega) (by rw [tn_eq]; omega) (by omega) mu_up (by omega) p0_m1; have q := la.2.2.2.1; rw [No_y (by omega)] at q; exact q; done) | (exfalso; omega; done) | (exfalso; contradiction; done)) (show qGo (m 99) (m 100) (m 98) (m 101) (m 102) (m 108) (m 120) ((ma_u m 121 ((m 94 80) - (1 : Int32)).toNatClampNeg ((m 121 ((m 94 80) - (1 : Int32)).toNatClampNeg) + (1 : Int32))) 121) (m 94 80) (qT p.2) from by first | (have la := LA fl (k := ((m 94 80) - (1 : Int32)).toNatClampNeg) (r := v2) (by omega) (by rw [tn_eq]; omega) (by omega) mu_up (by omega) p0_m1; exact la.1; done) | (exfalso; omega; done) | (exfalso; contradiction; done)) (show qXr p.1 x from by first | (have la := LA fl (k := ((m 94 80) - (1 : Int32)).toNatClampNeg) (r := v2) (by omega) (by rw [tn_eq]; omega) (by omega) mu_up (by omega) p0_m1; exact fl.2.2.2.2.2.1; done) | (exfalso; omega; done) | (exfalso; contradiction; done)) (fun m3 hV_m3 p0_m3 p1_m3 p2_m3 p3_m3 p4_m3 p5_m3 p6_m3 p7_m3 => zmv_n ?_)
          have p0_m3 : zGW T (m3 94 55) (m3 109) := p0_m3
          have p1_m3 : zGU T (m 94 46) (m3 99) := p1_m3
          have p2_m3 : zOw (m3 99) (m 103) (m3 111) := p2_m3
          have p3_m3 : zgo (m3 94 80) (m3 99) := p3_m3
          have p4_m3 : zgw (m3 121) (m3 120) (m 102) (m3 94 80) := p4_m3
          have p5_m3 : zlm (m3 99) (m3 121) (m3 94 80) ≤ zlm (m 99) ((ma_u m 121 ((m 94 80) - (1 : Int32)).toNatClampNeg ((m 121 ((m 94 80) - (1 : Int32)).toNatClampNeg) + (1 : Int32))) 121) (m 94 80) := p5_m3
          have p6_m3 : (m3 94 45).toInt = sm (zbU (m3 99)) (m 102) 3100 := p6_m3
          have p7_m3 : qFl (m3 99) (m 100) (m 98) (m 101) (m 102) (m 103) (m 107) (m 108) (m3 109) (m3 111) (m 112) (m3 113) (m3 114) (m3 94 55) (m 94 46) (m 94 11) (m 94 12) (m 94 62) (m 94 17) (m 94 9) (m3 105) (m3 120) (m3 121) (m3 94 80) B x (m 94 58) (cFa p.1 (qT p.2) ((m 100) v2.toNatClampNeg)) := p7_m3
          exact IH ((zlm (m3 99) (m3 121) (m3 94 80) : Int)).toNat (by first | (have zq := lm_adv (us := m 99) (m := m) (c := 121) (k := ((m 94 80) - (1 : Int32)).toNatClampNeg) (x := (m 121 ((m 94 80) - (1 : Int32)).toNatClampNeg) + (1 : Int32)) (gm := m 94 80) (by omega) (by rw [tn_cast (by omega)]; omega) (by omega) (by omega); have zm := p5_m3; omega) | (have zq := lm_pop (us := m 99) (gw := m 121) (gm := m 94 80) (gm₉ := (m 94 80) - (1 : Int32)) (by omega) (by omega) (fun j hj => ra_121 hV (by omega)); omega) | (have zq := lm_adv (us := m 99) (m := m) (c := 121) (k := ((m 94 80) - (1 : Int32)).toNatClampNeg) (x := (m 121 ((m 94 80) - (1 : Int32)).toNatClampNeg) + (1 : Int32)) (gm := m 94 80) (by omega) (by rw [tn_cast (by omega)]; omega) (by omega) (by omega); omega)) _  rfl (zF_zov (zF_zov (zF_u hF rfl) ws_192_241) ws_242_241) hV_m3 (by omega) (by omega) r_W p0_m3 p1_m3 p2_m3 (show (m 94 10).toInt = 4 ∧ (m 94 58).toInt = 0 from by omega) p3_m3 p4_m3 p6_m3 (show qLL (m3 99) (m 100) (m 98) (m 101) (m 102) (m 103) (m 107) (m 108) (m3 109) (m3 111) (m 112) (m3 113) (m3 114) (m3 94 55) (m 94 46) (m 94 11) (m 94 12) (m 94 62) (m 94 17) (m 94 9) (m3 105) (m3 120) (m3 121) (m3 94 80) B x (m 94 58) (cLe aa (qNo (m0 100) s)) from by first | (have la := LA fl (k := ((m 94 80) - (1 : Int32)).toNatClampNeg) (r := v2) (by omega) (by rw [tn_eq]; omega) (by omega) mu_up (by omega) p0_m1; exact LL_s p7_m3 (la.2.2.2.2.1 (by omega)) ce; done) | (exfalso; omega; done) | (exfalso; contradiction; done))
set_option maxHeartbeats 8000000 in
theorem sp_241r4 {X : Nat × (Nat → Int32)} {P : Option ma_V → (Nat → Nat → Int32) → Prop} {T : Nat} {aa : Nat→Nat→Int32} {x : Int32} {B : Int} {m : Nat → Nat → Int32} (s : Int32) (hV : zV m) (hpre0 : -1 ≤ s.toInt) (hpre1 : s.toInt ≤ 3099) (hpre2 : B ≤ 1000000) (hpre3 : T ≤ 512) (hpre4 : (m 94 10).toInt = 4 ∧ (m 94 58).toInt = 0) (r_W : zW (m 94 7) (m 98) (m 101) (m 102) (m 108)) (r_GW : zGW T (m 94 55) (m 109)) (r_GU : zGU T (m 94 46) (m 99)) (r_OW : zOw (m 99) (m 103) (m 111)) (r_RB : qRB (m 99) (m 100) (m 98) (m 101) (m 102) (m 103) (m 107) (m 108) (m 109) (m 111) (m 112) (m 113) (m 114) (m 94 55) (m 94 46) (m 94 11) (m 94 12) (m 94 62) (m 94 17) (m 94 9) aa) (r_QI : qI aa) (r_MK : aa 87 8 = (m 94 58)) (r_WTS : (m 94 45).toInt = sm (zbU (m 99)) (m 102) 3100) (r_VV : cV aa [] B) (r_CT : qCt (m 105) (m 99) (m 100) aa [] x (qNo (m 100) s)) (r_US : qU (m 99) s) (r_XR : qXr aa x) (KZ : ∀ m₉, zV (zov wr_241 m m₉) → (zGW T (m₉ 94 55) (m₉ 109)) → (zGU T (m 94 46) (m₉ 99)) → (zOw (m₉ 99) (m 103) (m₉ 111)) → ((m₉ 94 45).toInt = sm (zbU (m₉ 99)) (m 102) 3100) → (qRB (m₉ 99) (m 100) (m 98) (m 101) (m 102) (m 103) (m 107) (m 108) (m₉ 109) (m₉ 111) (m 112) (m₉ 113) (m₉ 114) (m₉ 94 55) (m 94 46) (m 94 11) (m 94 12) (m 94 62) (m 94 17) (m 94 9) (cLe aa (qNo (m 100) s))) → (qI (cLe aa (qNo (m 100) s))) → ((cLe aa (qNo (m 100) s)) 87 8 = (m 94 58)) → (cV (cLe aa (qNo (m 100) s)) [] B) → (qCt (m₉ 105) (m₉ 99) (m 100) (cLe aa (qNo (m 100) s)) [] x (-1)) → (qXr (cLe aa (qNo (m 100) s)) x) → P none (zov wr_241 m m₉)) : zm X 3 64 241 0 [(0, .inr (.inr (some 94))), (1, .inl s)] m P := by
  have K : ∀ m₉, zF wr_241 m m₉ → zV m₉ → (zGW T (m₉ 94 55) (m₉ 109)) → (zGU T (m₉ 94 46) (m₉ 99)) → (zOw (m₉ 99) (m₉ 103) (m₉ 111)) → ((m₉ 94 45).toInt = sm (zbU (m₉ 99)) (m₉ 102) 3100) → (qRB (m₉ 99) (m₉ 100) (m₉ 98) (m₉ 101) (m₉ 102) (m₉ 103) (m₉ 107) (m₉ 108) (m₉ 109) (m₉ 111) (m₉ 112) (m₉ 113) (m₉ 114) (m₉ 94 55) (m₉ 94 46) (m₉ 94 11) (m₉ 94 12) (m₉ 94 62) (m₉ 94 17) (m₉ 94 9) (cLe aa (qNo (m 100) s))) → (qI (cLe aa (qNo (m 100) s))) → ((cLe aa (qNo (m 100) s)) 87 8 = (m₉ 94 58)) → (cV (cLe aa (qNo (m 100) s)) [] B) → (qCt (m₉ 105) (m₉ 99) (m₉ 100) (cLe aa (qNo (m 100) s)) [] x (-1)) → (qXr (cLe aa (qNo (m 100) s)) x) → P none m₉ := by
    intro m₉ hf z q0 q1 q2 q3 q4 q5 q6 q7 q8 q9
    have e := zov_eq hf
    rw [e] at z ⊢
    try rw [e] at q0
    try rw [e] at q1
    try rw [e] at q2
    try rw [e] at q3
    try rw [e] at q4
    skip
    try rw [e] at q6
    skip
    try rw [e] at q8
    skip
    exact KZ m₉ z q0 q1 q2 q3 q4 q5 q6 q7 q8 q9
  refine g_241_0 s ?_
  have f1 : 0 ≤ (m 94 10).toInt ∧ (m 94 10).toInt ≤ 6 := rs_94_10 (m := m) hV
  have f2 : 0 ≤ (m 94 58).toInt ∧ (m 94 58).toInt ≤ 1 := rs_94_58 (m := m) hV
  have b3 := i_bd s
  have li4 : (0 : Int32).toInt = 0 := rfl
  refine zd (fun (h5 : s < (0 : Int32)) => ?_) (fun (h5 : ¬ s < (0 : Int32)) => ?_)
  · skip
    have g6 := i_lt h5
    exact K _ zF_rfl hV r_GW r_GU r_OW r_WTS (show qRB (m 99) (m 100) (m 98) (m 101) (m 102) (m 103) (m 107) (m 108) (m 109) (m 111) (m 112) (m 113) (m 114) (m 94 55) (m 94 46) (m 94 11) (m 94 12) (m 94 62) (m 94 17) (m 94 9) (cLe aa (qNo (m 100) s)) from by first | (rw [No_n (by omega), Le_m1]; exact r_RB; done) | (exfalso; omega; done) | (exfalso; contradiction; done)) (show qI (cLe aa (qNo (m 100) s)) from by first | (rw [No_n (by omega), Le_m1]; exact r_QI; done) | (exfalso; omega; done) | (exfalso; contradiction; done)) (show (cLe aa (qNo (m 100) s)) 87 8 = (m 94 58) from by first | (rw [No_n (by omega), Le_m1]; exact r_MK; done) | (exfalso; omega; done) | (exfalso; contradiction; done)) (show cV (cLe aa (qNo (m 100) s)) [] B from by first | (rw [No_n (by omega), Le_m1]; exact r_VV; done) | (exfalso; omega; done) | (exfalso; contradiction; done)) (show qCt (m 105) (m 99) (m 100) (cLe aa (qNo (m 100) s)) [] x (-1) from by first | (have q := r_CT; rw [No_n (by omega)] at q; rw [No_n (by omega), Le_m1]; exact q; done) | (exfalso; omega; done) | (exfalso; contradiction; done)) (show qXr (cLe aa (qNo (m 100) s)) x from by first | (rw [No_n (by omega), Le_m1]; exact r_XR; done) | (exfalso; omega; done) | (exfalso; contradiction; done))
  · skip
    have g7 := i_nlt h5
    have li8 : (4 : Int32).toInt = 4 := rfl
    refine zd (fun (h9 : (m 94 10) = (4 : Int32)) => ?_) (fun (h9 : ¬ (m 94 10) = (4 : Int32)) => ?_)
    · skip
      have g10 := i_eq h9
      have hV11 : zV (ma_u m 94 80 (0 : Int32)) := us_94_80 hV (by omega) (by omega)
      refine sp_242r4 (aa := aa) (st := []) (s) hV11 (by omega) (by omega) (by omega) (by omega) (show (m 94 10).toInt = 4 ∧ (m 94 58).toInt = 0 from by omega) r_GW r_GU r_OW (show zgo (0 : Int32) (m 99) from by first | (exact go_0 (by decide)) | (exfalso; omega; done) | (exfalso; contradiction; done)) (show zgw (m 121) (m 120) (m 102) (0 : Int32) from by first | (exact gw_0 (by decide)) | (exfalso; omega; done) | (exfalso; contradiction; done)) (show (m 99) s.toNatClampNeg ≠ 0 from by first | (exact (U_y r_US (by omega)).2) | (assumption; done) | (exact ws3) | (exfalso; omega; done) | (exfalso; contradiction; done)) r_RB r_QI r_MK r_WTS r_VV (show qCt (m 105) (m 99) (m 100) aa [] x ((m 100) s.toNatClampNeg) from by first | (have q := r_CT; rw [No_y (by omega)] at q; exact q; done) | (exfalso; omega; done) | (exfalso; contradiction; done)) (show qGo (m 99) (m 100) (m 98) (m 101) (m 102) (m 108) (m 120) (m 121) (0 : Int32) [] from by first | (exact Gk_0 (by decide)) | (exfalso; omega; done) | (exfalso; contradiction; done)) r_XR (fun m1 hV_m1 p0_m1 p1_m1 p2_m1 p3_m1 p4_m1 p5_m1 p6_m1 p7_m1 => zmv_n ?_)
      have p0_m1 : zGW T (m1 94 55) (m1 109) := p0_m1
      have p1_m1 : zGU T (m 94 46) (m1 99) := p1_m1
      have p2_m1 : zOw (m1 99) (m 103) (m1 111) := p2_m1
      have p3_m1 : zgo (m1 94 80) (m1 99) := p3_m1
      have p4_m1 : zgw (m1 121) (m1 120) (m 102) (m1 94 80) := p4_m1
      have p5_m1 : zlm (m1 99) (m1 121) (m1 94 80) ≤ zlm (m 99) (m 121) (0 : Int32) := p5_m1
      have p6_m1 : (m1 94 45).toInt = sm (zbU (m1 99)) (m 102) 3100 := p6_m1
      have p7_m1 : qFl (m1 99) (m 100) (m 98) (m 101) (m 102) (m 103) (m 107) (m 108) (m1 109) (m1 111) (m 112) (m1 113) (m1 114) (m1 94 55) (m 94 46) (m 94 11) (m 94 12) (m 94 62) (m 94 17) (m 94 9) (m1 105) (m1 120) (m1 121) (m1 94 80) B x (m 94 58) (cFa aa [] ((m 100) s.toNatClampNeg)) := p7_m1
      exact lp_241r4_23 (s := s) hV K _ _  rfl (zF_zov (zF_u zF_rfl rfl) ws_242_241) hV_m1 (by omega) (by omega) r_W p0_m1 p1_m1 p2_m1 (show (m 94 10).toInt = 4 ∧ (m 94 58).toInt = 0 from by omega) p3_m1 p4_m1 p6_m1 (show qLL (m1 99) (m 100) (m 98) (m 101) (m 102) (m 103) (m 107) (m 108) (m1 109) (m1 111) (m 112) (m1 113) (m1 114) (m1 94 55) (m 94 46) (m 94 11) (m 94 12) (m 94 62) (m 94 17) (m 94 9) (m1 105) (m1 120) (m1 121) (m1 94 80) B x (m 94 58) (cLe aa (qNo (m 100) s)) from by first | (exact LL_0 p7_m1 (tn_lt (by omega) (by omega)) r_RB.1 (U_y r_US (by omega)).2 (by rw [No_y (by omega)])) | (exfalso; omega; done) | (exfalso; contradiction; done))
    · skip
      have g12 := i_ne h9
      exfalso; omega
theorem sp_240r4 {X : Nat × (Nat → Int32)} {P : Option ma_V → (Nat → Nat → Int32) → Prop} {m : Nat → Nat → Int32} (wa : Int32) (is : Int32) (hV : zV m) (hpre0 : (m 94 10).toInt = 4 ∧ (m 94 58).toInt = 0) (KZ : ∀ m₉, zV (zov wr_240 m m₉) → P none (zov wr_240 m m₉)) : zm X 1 21 240 0 [(0, .inr (.inr (some 94))), (1, .inl wa), (2, .inl is)] m P := by
  have K : ∀ m₉, zF wr_240 m m₉ → zV m₉ → P none m₉ := by
    intro m₉ hf z 
    have e := zov_eq hf
    rw [e] at z ⊢
    exact KZ m₉ z 
  refine g_240_0 wa is ?_
  have f1 : 0 ≤ (m 94 10).toInt ∧ (m 94 10).toInt ≤ 6 := rs_94_10 (m := m) hV
  have f2 : 0 ≤ (m 94 58).toInt ∧ (m 94 58).toInt ≤ 1 := rs_94_58 (m := m) hV
  have li3 : (5 : Int32).toInt = 5 := rfl
  refine zd (fun (h4 : (m 94 10) = (5 : Int32)) => ?_) (fun (h4 : ¬ (m 94 10) = (5 : Int32)) => ?_)
  · skip
    have g5 := i_eq h4
    exfalso; omega
  · skip
    have g6 := i_ne h4
    exact K _ zF_rfl hV 

/-! from 95.o04 -/
/-! the reference under COUNTS (written by wip/tools/gen20s.py) -/
/-! COUNTS, the reference: the calls -/
noncomputable def kRt (a : Nat → Nat → Int32) (i y : Int32) : Nat → Nat → Int32 := cLe (aR0 a i y) (a 72 i.toNatClampNeg)
noncomputable def kRo (a : Nat → Nat → Int32) (i o : Int32) : Nat → Nat → Int32 := qIf (zSl i ∧ (o = -1 ∨ zRq a o)) (kRt a i o) a
noncomputable def kLi (a : Nat → Nat → Int32) (o i t : Int32) : Nat → Nat → Int32 := qIf (zRq a o ∧ (t = -1 ∨ zRq a t) ∧ zHw a o i ∧ zIr a o i) (cLe (aL0 a o.toNatClampNeg i t) (aRef a o.toNatClampNeg i)) a
noncomputable def kHo (a : Nat → Nat → Int32) (o b : Int32) : Nat → Nat → Int32 := qIf (zRq a o ∧ (¬ b = 0 ∨ ¬ a 133 o.toNatClampNeg = 0)) (cLe (ma_u a 133 o.toNatClampNeg (a 133 o.toNatClampNeg + (if b = 0 then -1 else 1))) o) a
noncomputable def kGr (a : Nat → Nat → Int32) (r : Int32) : Nat → Nat → Int32 := qIf (zSl r) (qIf (aNm a (aTy a) = -1) (aTw a) (kRt (aTw a) r (aTy a))) a
noncomputable def kSg (a : Nat → Nat → Int32) (i r : Int32) : Nat → Nat → Int32 := qIf (zSl i ∧ zSl r ∧ aNm a (a 73 i.toNatClampNeg) ≠ -1) (kRt a r (a 73 i.toNatClampNeg)) a
section D3
variable {a b : Nat → Nat → Int32} {us nr kr kd ws ws₉ at₉ at2 ho ho₉ wd wi ow rt wk wl ct ct₉ : Nat → Int32} {wm nu ro fo le ra pi x y z i r s v o t d : Int32} {n k : Nat} {st : List (List Int32)} {B : Int}
theorem C_ofV (hV : cV a [] B) : cC a [] (fun n => Int32.ofInt (cRf a n)) B := C0_mk hV.1 hV.2.1 hV.2.2.2.1 hV.2.2.2.2.1 (fun _ _ => rfl)
theorem Ct_K (h1 : qR1 us nr ws₉ at2 ho₉ b) (hC : cC b [] (fun n => Int32.ofInt (cRf a n)) B) (h : qCt ct us nr a [] (-1) (-1)) : qCt ct us nr b [] (-1) (-1) := fun s hs hu => by
  have k := (C0_un hC).2.2.2.2 _ (R1_al h1 hs hu)
  have l5 := (R1_al h1 hs hu).1
  have z : ∀ q : Int, q + ((cOc [] (nr s).toNatClampNeg : Nat) : Int) + ((0 : Nat) : Int) + ((0 : Nat) : Int) = q := fun q => by
    have e : cOc [] (nr s).toNatClampNeg = 0 := rfl
    rw [e]
    omega
  rw [h s hs hu, is_m1 l5, z, z]
  exact k
theorem Ct_sw (h : qCt ct us nr a st x z) : qCt ct us nr a st z x := fun s hs hu => by
  rw [h s hs hu]
  exact congrArg Int32.ofInt (by omega)
theorem V_rt4 (hV : cV a [] B) (h1 : qR1 us nr ws at₉ ho a) (u : qU us s) (hk : k < 16) : cV (ma_u a 72 k (qNo nr s)) [] B := by
  have c := C_rt (y := qNo nr s) (K₉ := fun n => Int32.ofInt (cRf a n) + Int32.ofNat (cIs (qNo nr s) n) - Int32.ofNat (cIs (a 72 k) n)) (C_ofV hV) hk (fun _ _ => rfl)
  rw [Nm_no h1 u] at c
  exact V_0 c
theorem Ct_mo (h1 : qR1 us nr ws at₉ ho a) (h : qCt ct us nr a [] x (-1)) (u : qU us s) (e : (0 ≤ s.toInt → ct₉ = zUp ct s.toNatClampNeg (ct s.toNatClampNeg + 1)) ∧ (s.toInt < 0 → ct₉ = ct)) : qCt ct₉ us nr a [] x (qNo nr s) := by
  by_cases w : s.toInt < 0
  · rw [No_n w, e.2 w]
    exact h
  · have v := U_y u (by omega)
    rw [No_y (by omega)]
    exact Ct_up h1 h (tn_lt (by omega) v.1) v.2 (e.1 (by omega))
theorem Ct_rt (h1 : qR1 us nr ws at₉ ho a) (h : qCt ct us nr a [] x (-1)) (u : qU us s) (hk : k < 16) (ew : a 72 k = z) (e : (0 ≤ s.toInt → ct₉ = zUp ct s.toNatClampNeg (ct s.toNatClampNeg + 1)) ∧ (s.toInt < 0 → ct₉ = ct)) : qCt ct₉ us nr (ma_u a 72 k (qNo nr s)) [] x z := by
  have q := Ct_mo h1 h u e
  intro t ht hv
  have r := Rf_rt (a := a) (k := k) (x := qNo nr s) (n := (nr t).toNatClampNeg) hk
  rw [q t ht hv, ← ew]
  exact congrArg Int32.ofInt (by omega)
theorem Xr_rt (h : x.toInt < 0 ∨ x = y) (hk : k < 16) : qXr (ma_u a 72 k y) x := h.imp id (fun e => ⟨k, hk, xu_s.trans e.symm⟩)
theorem Xr_m1 : qXr a (-1) := Or.inl (by decide)
theorem Rt_k (hR : qRB us nr kr kd ws at₉ ho wd wi ow rt wk wl wm nu ro fo le ra pi a) (u : qU us s) (hi : 0 ≤ i.toInt) (hi2 : i.toInt ≤ 15) : kRt a i (qNo nr s) = cLe (ma_u a 72 i.toNatClampNeg (qNo nr s)) (qNo nr (rt i.toNatClampNeg)) := by
  have c := tn_cast hi
  unfold kRt aR0
  rw [Nm_no hR.1 u, (hR.2.2.1 i.toNatClampNeg (by omega)).2]
/-- one that counts still is left -/
theorem Le_pos (h0 : 0 ≤ y.toInt) (al : xAl a y.toNatClampNeg) (h : 0 < cRf a y.toNatClampNeg) : cLe a y = a := by
  refine cLe_y h0 al ?_
  have e : cOc ([] : List (List Int32)) y.toNatClampNeg = 0 := rfl
  rw [Fa_p (by rw [e]; omega)]
  exact cE_o
theorem Rf_ge (hV : cV a [] B) (al : xAl a n) : (cRo a n : Int) + (cWi a n : Int) + (a 133 n).toInt ≤ cRf a n ∧ 0 ≤ (a 133 n).toInt := by
  have hd := (hV.2.2.2.1 n al).1
  unfold cRf
  omega
theorem Le_rt (hV : cV a [] B) (h0 : 0 ≤ y.toInt) (al : xAl a y.toNatClampNeg) (hX : qXr a y) : cLe a y = a := by
  refine Le_pos h0 al ?_
  rcases hX with w | ⟨k, hk, e⟩
  · exact absurd h0 (by omega)
  · have r := Ro_ge hk (e.trans (ofN_tn h0).symm)
    have g := Rf_ge hV al
    omega
theorem kRo_y (hi : 0 ≤ i.toInt) (h2 : i.toInt ≤ 15) (h : qAs us nr a o s) : kRo a i o = kRt a i (qNo nr s) := by
  rw [As_o h]
  exact qIf_y ⟨⟨hi, h2⟩, As_c h⟩
theorem kSg_y (hR : qRB us nr kr kd ws at₉ ho wd wi ow rt wk wl wm nu ro fo le ra pi a) (hi : 0 ≤ i.toInt) (hi2 : i.toInt ≤ 15) (hr : 0 ≤ r.toInt) (hr2 : r.toInt ≤ 15) (h0 : 0 ≤ (wk i.toNatClampNeg).toInt) : kSg a i r = kRt a r (qNo nr (wk i.toNatClampNeg)) := by
  have c := tn_cast hi
  have q := hR.2.2.2.1 i.toNatClampNeg (by omega)
  have u := U_y q.1 h0
  have t := hR.1.1 _ (tn_lt h0 u.1) u.2
  rw [← q.2]
  refine qIf_y ⟨⟨hi, hi2⟩, ⟨hr, hr2⟩, ?_⟩
  rw [q.2, Nm_no hR.1 q.1, No_y h0]
  intro w
  have := t.1.1
  rw [w] at this
  exact absurd this (by decide)
theorem kSg_n (hR : qRB us nr kr kd ws at₉ ho wd wi ow rt wk wl wm nu ro fo le ra pi a) (hi : 0 ≤ i.toInt) (hi2 : i.toInt ≤ 15) (h0 : (wk i.toNatClampNeg).toInt < 0) : kSg a i r = a := by
  have c := tn_cast hi
  have q := hR.2.2.2.1 i.toNatClampNeg (by omega)
  refine qIf_n (fun w => w.2.2 ?_)
  rw [q.2, Nm_no hR.1 q.1, No_n h0]
theorem kSg_x (h : (i.toInt < 0 ∨ 16 ≤ i.toInt) ∨ (r.toInt < 0 ∨ 16 ≤ r.toInt)) : kSg a i r = a := qIf_n (fun w => by
  have w1 := w.1.1
  have w2 := w.1.2
  have w3 := w.2.1.1
  have w4 := w.2.1.2
  omega)
theorem kGr_0 (hR : qRB us nr kr kd ws at₉ ho wd wi ow rt wk wl wm nu ro fo le ra pi a) (h : wm = 0) : kGr a r = a := by
  have w5 := hR.2.2.2.2.1.1
  have e : ¬ 0 < (a 69 5).toInt := by
    rw [w5, h]
    decide
  have t : aTy a = -1 := if_neg e
  have w : aTw a = a := if_neg e
  unfold kGr
  by_cases z : zSl r
  · rw [qIf_y z, qIf_y (by rw [t]; exact if_neg (fun w => absurd w.1 (by decide))), w]
  · rw [qIf_n z]
theorem kGr_y (hR : qRB us nr kr kd ws at₉ ho wd wi ow rt wk wl wm nu ro fo le ra pi a) (h : 0 < wm.toInt) (hr : 0 ≤ r.toInt) (hr2 : r.toInt ≤ 15) : kGr a r = kRt (aTw a) r (qNo nr (wl 0)) := by
  have w5 := hR.2.2.2.2.1
  have t := Tw_r (a := a) (by rw [w5.1]; exact h)
  have p := w5.2 0 (by omega)
  have hs := tn_lt p.1.1 p.1.2.1
  have q := hR.1.1 _ hs p.1.2.2
  have ty : aTy a = qNo nr (wl 0) := by
    rw [t.2.2.2.2.2, p.2, No_y p.1.1]
  unfold kGr
  rw [qIf_y ⟨hr, hr2⟩, ty, qIf_n]
  rw [Nm_no hR.1 (Or.inr ⟨p.1.2.1, p.1.2.2⟩), No_y p.1.1]
  intro w
  have := q.1.1
  rw [w] at this
  exact absurd this (by decide)
/-- a wish is taken: it counts still -/
theorem V_tw4 (hV : cV a [] B) : cV (aTw a) [] B := V_0 (C_tw (K₉ := fun n => Int32.ofInt (cRf a n) - (if 0 < (a 69 5).toInt then Int32.ofNat (cIs (a 74 0) n) else 0)) (C_ofV hV) (fun _ _ => rfl)).1
theorem Ct_tw (hR : qRB us nr kr kd ws at₉ ho wd wi ow rt wk wl wm nu ro fo le ra pi a) (h : qCt ct us nr a [] (-1) (-1)) (hw : 0 < wm.toInt) (h5 : wm.toInt ≤ 512) (e : s = wl 0) : qCt ct us nr (aTw a) [] (qNo nr s) (-1) := by
  have w5 := hR.2.2.2.2.1
  have p := w5.2 0 (by omega)
  intro t ht hv
  have r := Rf_tw (a := a) (n := (nr t).toNatClampNeg) (by rw [w5.1]; exact hw) (by rw [w5.1]; exact h5)
  rw [p.2, ← e, ← No_y (nr := nr) (x := s) (by rw [e]; exact p.1.1)] at r
  rw [h t ht hv, is_m1 (nr_lt hR.1 ht hv)]
  exact congrArg Int32.ofInt (by omega)
/-- holds -/
theorem kHo_y (hR : qRB us nr kr kd ws at₉ ho wd wi ow rt wk wl wm nu ro fo le ra pi a) (h : qRe us nr a o v) (hv : 0 ≤ v.toInt) (hb : ¬ y = 0 ∨ ¬ ho v.toNatClampNeg = 0) (e : x = ho v.toNatClampNeg + (if y = 0 then -1 else 1)) : kHo a o y = cLe (ma_u a 133 (nr v.toNatClampNeg).toNatClampNeg x) (nr v.toNatClampNeg) := by
  have q := Re_y h hv
  have t := (hR.1.1 _ (tn_lt hv (by omega)) q.2.1).2.2.2.2.1
  rw [q.2.2.1] at t
  rw [q.2.2.1, e, ← t]
  rw [← t] at hb
  exact qIf_y ⟨q.2.2.2, hb⟩
theorem kHo_x (hR : qRB us nr kr kd ws at₉ ho wd wi ow rt wk wl wm nu ro fo le ra pi a) (h : qRe us nr a o v) (hv : 0 ≤ v.toInt) (h0 : y = 0) (h1 : ho v.toNatClampNeg = 0) : kHo a o y = a := by
  have q := Re_y h hv
  have t := (hR.1.1 _ (tn_lt hv (by omega)) q.2.1).2.2.2.2.1
  rw [q.2.2.1] at t
  exact qIf_n (fun w => w.2.elim (fun w2 => w2 h0) (fun w2 => w2 (by rw [t]; exact h1)))
theorem V_ho4 (hV : cV a [] B) (al : xAl a n) (hB : B + 1 ≤ 1000000) (hd : d = 1 ∨ (d = -1 ∧ a 133 n ≠ 0)) : cV (ma_u a 133 n (a 133 n + d)) [] (B + 1) := V_0 (C_hx (K₉ := fun m => Int32.ofInt (cRf a m) + (if m = n then d else 0)) (C_ofV hV) al hB hd (fun _ => rfl))
theorem ho_d (hV : cV a [] B) (al : xAl a n) (hB : B + 1 ≤ 1000000) (hd : d = 1 ∨ (d = -1 ∧ a 133 n ≠ 0)) : (a 133 n + d).toInt = (a 133 n).toInt + d.toInt ∧ 0 ≤ (a 133 n + d).toInt := by
  have h := hV.2.2.2.1 n al
  have h2 := (V_ho4 hV al hB hd).2.2.2.1 n (by
    unfold xAl
    rw [un (n := 126) (by decide)]
    exact al)
  rw [mu_self] at h2
  refine ⟨?_, h2.1⟩
  rcases hd with e | e
  · rw [e, show (1 : Int32).toInt = 1 from rfl]
    exact i_p1 (by omega)
  · rw [e.1, show (-1 : Int32).toInt = -1 from rfl]
    have nz : (a 133 n).toInt ≠ 0 := fun w => e.2 (Int32.toInt_inj.mp w)
    exact i_add (x := a 133 n) (y := -1) (by rw [show (-1 : Int32).toInt = -1 from rfl]; omega) (by rw [show (-1 : Int32).toInt = -1 from rfl]; omega)
theorem Ct_h1 (h1 : qR1 us nr ws at₉ ho a) (hV : cV a [] B) (hB : B + 1 ≤ 1000000) (h : qCt ct us nr a [] (-1) (-1)) (h0 : 0 ≤ s.toInt) (h3 : s.toInt ≤ 3099) (hu : us s.toNatClampNeg ≠ 0) (e : ct₉ = zUp ct s.toNatClampNeg (ct s.toNatClampNeg + 1)) : qCt ct₉ us nr (ma_u a 133 (nr s.toNatClampNeg).toNatClampNeg (a 133 (nr s.toNatClampNeg).toNatClampNeg + 1)) [] (-1) (-1) := by
  have hs := tn_lt h0 (by omega)
  have q := Ct_up h1 h hs hu e
  have hd := ho_d hV (R1_al h1 hs hu) hB (Or.inl rfl)
  have d1 : (1 : Int32).toInt = 1 := rfl
  intro t ht hv
  have r := Rf_ho (a := a) (k := (nr s.toNatClampNeg).toNatClampNeg) (x := a 133 (nr s.toNatClampNeg).toNatClampNeg + 1) (n := (nr t).toNatClampNeg)
  have w := nr_eq h1 hs hu ht hv
  rw [q t ht hv, r, is_m1 (nr_lt h1 ht hv), w]
  by_cases z : t = s.toNatClampNeg
  · rw [if_pos z, if_pos (by rw [z])]
    exact congrArg Int32.ofInt (by omega)
  · rw [if_neg z, if_neg (fun e => z (h1.2.1 t _ ht hs hv hu (by rw [← R1_of_nr h1 ht hv, ← R1_of_nr h1 hs hu, e])))]
    exact congrArg Int32.ofInt (by omega)
theorem Ct_h0 (h1 : qR1 us nr ws at₉ ho a) (hV : cV a [] B) (hB : B + 1 ≤ 1000000) (h : qCt ct us nr a [] (-1) (-1)) (h0 : 0 ≤ s.toInt) (h3 : s.toInt ≤ 3099) (hu : us s.toNatClampNeg ≠ 0) (hh : a 133 (nr s.toNatClampNeg).toNatClampNeg ≠ 0) : qCt ct us nr (ma_u a 133 (nr s.toNatClampNeg).toNatClampNeg (a 133 (nr s.toNatClampNeg).toNatClampNeg + -1)) [] (-1) (qNo nr s) := by
  have hs := tn_lt h0 (by omega)
  have hd := ho_d hV (R1_al h1 hs hu) hB (Or.inr ⟨rfl, hh⟩)
  have d1 : (-1 : Int32).toInt = -1 := rfl
  intro t ht hv
  have r := Rf_ho (a := a) (k := (nr s.toNatClampNeg).toNatClampNeg) (x := a 133 (nr s.toNatClampNeg).toNatClampNeg + -1) (n := (nr t).toNatClampNeg)
  have w := nr_eq h1 hs hu ht hv
  rw [h t ht hv, r, is_m1 (nr_lt h1 ht hv), No_y h0, w]
  by_cases z : t = s.toNatClampNeg
  · rw [if_pos z, if_pos (by rw [z])]
    exact congrArg Int32.ofInt (by omega)
  · rw [if_neg z, if_neg (fun e => z (h1.2.1 t _ ht hs hv hu (by rw [← R1_of_nr h1 ht hv, ← R1_of_nr h1 hs hu, e])))]
    exact congrArg Int32.ofInt (by omega)
theorem Le_ho (hV : cV a [] B) (h0 : 0 ≤ y.toInt) (al : xAl a y.toNatClampNeg) (h : 0 < (a 133 y.toNatClampNeg).toInt) : cLe a y = a := by
  refine Le_pos h0 al ?_
  have g := Rf_ge hV al
  omega
/-- link -/
theorem kLi_y (hR : qRB us nr kr kd ws at₉ ho wd wi ow rt wk wl wm nu ro fo le ra pi a) (h : qRe us nr a o v) (hv : 0 ≤ v.toInt) (h0 : 0 ≤ i.toInt) (h1 : i.toInt < (ws v.toNatClampNeg).toInt) (hk : kd v.toNatClampNeg = 16 ∨ (kd v.toNatClampNeg < 16 ∧ ((kr (kd v.toNatClampNeg).toNatClampNeg >>> (i &&& 31)) &&& 1) = 1)) (ht : qAs us nr a t s) : kLi a o i t = cLe (aCi a o.toNatClampNeg i (qNo nr s)) (aRef a o.toNatClampNeg i) := by
  have q := Re_y h hv
  rw [← As_m hR.1 ht]
  exact qIf_y ⟨q.2.2.2, As_c ht, (Hw_y hR h hv).mpr ⟨h0, h1⟩, (Ir_y hR h hv h0 h1).mpr hk⟩
theorem kTh_n {q : Int32} (h : qTh a o t q) (hq : q.toInt = 0) : kLi a o i t = a := qIf_n (fun w => h.elim (fun z => by have := z.1; omega) (fun z => z.2 ⟨w.1, w.2.1⟩))
theorem kLi_h (hR : qRB us nr kr kd ws at₉ ho wd wi ow rt wk wl wm nu ro fo le ra pi a) (h : qRe us nr a o v) (hv : 0 ≤ v.toInt) (hi : i.toInt < 0 ∨ (ws v.toNatClampNeg).toInt ≤ i.toInt) : kLi a o i t = a := qIf_n (fun w => by
  have w2 := (Hw_y hR h hv).mp w.2.2.1
  omega)
theorem kLi_i (hR : qRB us nr kr kd ws at₉ ho wd wi ow rt wk wl wm nu ro fo le ra pi a) (h : qRe us nr a o v) (hv : 0 ≤ v.toInt) (h0 : 0 ≤ i.toInt) (h1 : i.toInt < (ws v.toNatClampNeg).toInt) (hk : ¬ kd v.toNatClampNeg = 16) (hk2 : ¬ (kd v.toNatClampNeg < 16 ∧ ((kr (kd v.toNatClampNeg).toNatClampNeg >>> (i &&& 31)) &&& 1) = 1)) : kLi a o i t = a := qIf_n (fun w => ((Ir_y hR h hv h0 h1).mp w.2.2.2).elim hk hk2)
theorem V_li4 (hV : cV a [] B) (h1 : qR1 us nr ws at₉ ho a) (W : qWp a n i) (hb : a (1000 + n) i.toNatClampNeg ≠ 0) (u : qU us s) : cV (aCi a n i (qNo nr s)) [] B := by
  have c := C_li (y := qNo nr s) (K₉ := fun m => Int32.ofInt (cRf a m) + Int32.ofNat (cIs (qNo nr s) m) - Int32.ofNat (cIs (aRef a n i) m)) (C_ofV hV) W hb (fun _ _ => rfl)
  rw [Nm_no h1 u] at c
  exact V_0 c
/-- put, weak, wish -/
theorem Cu_4 (hV : cV a [] B) (hn : n = 73 ∨ n = 134) : cC (ma_u a n k x) [] (fun n => Int32.ofInt (cRf a n)) B := C_u (by omega) (by omega) (C_ofV hV)
theorem Cp_4 (hV : cV a [] B) (W : qWp a n i) (hb : a (1000 + n) i.toNatClampNeg = 0) : cC (aCi a n i x) [] (fun n => Int32.ofInt (cRf a n)) B := C_pu (C_ofV hV) W hb
theorem Le_rt2 (hV : cV b [] B) (h1 : qR1 us nr ws at₉ ho b) (u : qU us s) (h0 : 0 ≤ s.toInt) (hX : qXr b (qNo nr s)) : cLe b (qNo nr s) = b := by
  have w := U_y u h0
  have hs := tn_lt h0 w.1
  rw [No_y h0] at hX ⊢
  exact Le_rt hV (h1.1 _ hs w.2).1.1 (R1_al h1 hs w.2) hX
theorem V_up (h : cV a st B) : cV a st (B + 1) := by
  obtain ⟨v1, v2, v3, v4, v5, v6⟩ := h
  refine ⟨v1, v2, v3, fun n hn => ?_, v5, v6⟩
  have q := v4 n hn
  exact ⟨q.1, by omega⟩
theorem Ho_on (hR : qRB us nr kr kd ws at₉ ho wd wi ow rt wk wl wm nu ro fo le ra pi a) (hV : cV a [] B) (hB : B + 1 ≤ 1000000) (hC : qCt ct us nr a [] (-1) (-1)) (h0 : 0 ≤ s.toInt) (h3 : s.toInt ≤ 3099) (hu : us s.toNatClampNeg ≠ 0) (e : ct₉ = zUp ct s.toNatClampNeg (ct s.toNatClampNeg + 1)) : cLe (ma_u a 133 (nr s.toNatClampNeg).toNatClampNeg (ho s.toNatClampNeg + 1)) (nr s.toNatClampNeg) = ma_u a 133 (nr s.toNatClampNeg).toNatClampNeg (ho s.toNatClampNeg + 1) ∧ cV (ma_u a 133 (nr s.toNatClampNeg).toNatClampNeg (ho s.toNatClampNeg + 1)) [] (B + 1) ∧ qCt ct₉ us nr (ma_u a 133 (nr s.toNatClampNeg).toNatClampNeg (ho s.toNatClampNeg + 1)) [] (-1) (-1) := by
  have hs := tn_lt h0 (by omega)
  have al := R1_al hR.1 hs hu
  have ea := (hR.1.1 _ hs hu).2.2.2.2.1
  have v := V_ho4 hV al hB (Or.inl rfl)
  have c := Ct_h1 hR.1 hV hB hC h0 h3 hu e
  have hd := ho_d hV al hB (Or.inl rfl)
  have d1 : (1 : Int32).toInt = 1 := rfl
  have h9 := (hV.2.2.2.1 _ al).1
  have al2 : xAl (ma_u a 133 (nr s.toNatClampNeg).toNatClampNeg (a 133 (nr s.toNatClampNeg).toNatClampNeg + 1)) (nr s.toNatClampNeg).toNatClampNeg := by
    unfold xAl
    rw [un (n := 126) (by decide)]
    exact al
  have l := Le_ho v (hR.1.1 _ hs hu).1.1 al2 (by rw [mu_self]; omega)
  rw [ea] at v c l
  exact ⟨l, v, c⟩
theorem Ho_of (hR : qRB us nr kr kd ws at₉ ho wd wi ow rt wk wl wm nu ro fo le ra pi a) (hV : cV a [] B) (hB : B + 1 ≤ 1000000) (hC : qCt ct us nr a [] (-1) (-1)) (h0 : 0 ≤ s.toInt) (h3 : s.toInt ≤ 3099) (hu : us s.toNatClampNeg ≠ 0) (hh : ho s.toNatClampNeg ≠ 0) : cV (ma_u a 133 (nr s.toNatClampNeg).toNatClampNeg (ho s.toNatClampNeg + -1)) [] (B + 1) ∧ qCt ct us nr (ma_u a 133 (nr s.toNatClampNeg).toNatClampNeg (ho s.toNatClampNeg + -1)) [] (-1) (qNo nr s) := by
  have hs := tn_lt h0 (by omega)
  have al := R1_al hR.1 hs hu
  have ea := (hR.1.1 _ hs hu).2.2.2.2.1
  rw [← ea] at hh ⊢
  exact ⟨V_ho4 hV al hB (Or.inr ⟨rfl, hh⟩), Ct_h0 hR.1 hV hB hC h0 h3 hu hh⟩
end D3
set_option maxHeartbeats 8000000 in
theorem sp_238r4 {X : Nat × (Nat → Int32)} {P : Option ma_V → (Nat → Nat → Int32) → Prop} {T : Nat} {aa : Nat→Nat→Int32} {x : Int32} {B : Int} {m : Nat → Nat → Int32} (r1 : Int32) (s : Int32) (hV : zV m) (hpre0 : 0 ≤ r1.toInt) (hpre1 : r1.toInt ≤ 15) (hpre2 : -1 ≤ s.toInt) (hpre3 : s.toInt ≤ 3099) (hpre4 : B ≤ 1000000) (hpre5 : T ≤ 512) (hpre6 : (m 94 10).toInt = 4 ∧ (m 94 58).toInt = 0) (r_W : zW (m 94 7) (m 98) (m 101) (m 102) (m 108)) (r_GW : zGW T (m 94 55) (m 109)) (r_GU : zGU T (m 94 46) (m 99)) (r_OW : zOw (m 99) (m 103) (m 111)) (r_RB : qRB (m 99) (m 100) (m 98) (m 101) (m 102) (m 103) (m 107) (m 108) (m 109) (m 111) (m 112) (m 113) (m 114) (m 94 55) (m 94 46) (m 94 11) (m 94 12) (m 94 62) (m 94 17) (m 94 9) aa) (r_QI : qI aa) (r_MK : aa 87 8 = (m 94 58)) (r_WTS : (m 94 45).toInt = sm (zbU (m 99)) (m 102) 3100) (r_VV : cV aa [] B) (r_CT : qCt (m 105) (m 99) (m 100) aa [] x (-1)) (r_US : qU (m 99) s) (r_XS : x.toInt < 0 ∨ x = qNo (m 100) s) (KZ : ∀ m₉, zV (zov wr_238 m m₉) → (zGW T (m₉ 94 55) (m₉ 109)) → (zGU T (m 94 46) (m₉ 99)) → (zOw (m₉ 99) (m 103) (m₉ 111)) → ((m₉ 94 45).toInt = sm (zbU (m₉ 99)) (m 102) 3100) → (qRB (m₉ 99) (m 100) (m 98) (m 101) (m 102) (m 103) (m 107) (m 108) (m₉ 109) (m₉ 111) (m₉ 112) (m₉ 113) (m₉ 114) (m₉ 94 55) (m 94 46) (m 94 11) (m 94 12) (m 94 62) (m 94 17) (m 94 9) (kRt aa r1 (qNo (m 100) s))) → (qI (kRt aa r1 (qNo (m 100) s))) → ((kRt aa r1 (qNo (m 100) s)) 87 8 = (m 94 58)) → (cV (kRt aa r1 (qNo (m 100) s)) [] B) → (qCt (m₉ 105) (m₉ 99) (m 100) (kRt aa r1 (qNo (m 100) s)) [] x (-1)) → (qXr (kRt aa r1 (qNo (m 100) s)) x) → ((m₉ 112) r1.toNatClampNeg = s) → P none (zov wr_238 m m₉)) : zm X 4 88 238 0 [(0, .inr (.inr (some 94))), (1, .inl r1), (2, .inl s)] m P := by
  have K : ∀ m₉, zF wr_238 m m₉ → zV m₉ → (zGW T (m₉ 94 55) (m₉ 109)) → (zGU T (m₉ 94 46) (m₉ 99)) → (zOw (m₉ 99) (m₉ 103) (m₉ 111)) → ((m₉ 94 45).toInt = sm (zbU (m₉ 99)) (m₉ 102) 3100) → (qRB (m₉ 99) (m₉ 100) (m₉ 98) (m₉ 101) (m₉ 102) (m₉ 103) (m₉ 107) (m₉ 108) (m₉ 109) (m₉ 111) (m₉ 112) (m₉ 113) (m₉ 114) (m₉ 94 55) (m₉ 94 46) (m₉ 94 11) (m₉ 94 12) (m₉ 94 62) (m₉ 94 17) (m₉ 94 9) (kRt aa r1 (qNo (m 100) s))) → (qI (kRt aa r1 (qNo (m 100) s))) → ((kRt aa r1 (qNo (m 100) s)) 87 8 = (m₉ 94 58)) → (cV (kRt aa r1 (qNo (m 100) s)) [] B) → (qCt (m₉ 105) (m₉ 99) (m₉ 100) (kRt aa r1 (qNo (m 100) s)) [] x (-1)) → (qXr (kRt aa r1 (qNo (m 100) s)) x) → ((m₉ 112) r1.toNatClampNeg = s) → P none m₉ := by
    intro m₉ hf z q0 q1 q2 q3 q4 q5 q6 q7 q8 q9 q10
    have e := zov_eq hf
    rw [e] at z ⊢
    try rw [e] at q0
    try rw [e] at q1
    try rw [e] at q2
    try rw [e] at q3
    try rw [e] at q4
    try rw [e] at q5
    try rw [e] at q6
    try rw [e] at q7
    try rw [e] at q8
    try rw [e] at q9
    try rw [e] at q10
    exact KZ m₉ z q0 q1 q2 q3 q4 q5 q6 q7 q8 q9 q10
  refine g_238_0 r1 s ?_
  have f1 : 0 ≤ (m 94 10).toInt ∧ (m 94 10).toInt ≤ 6 := rs_94_10 (m := m) hV
  have f2 : 0 ≤ (m 94 58).toInt ∧ (m 94 58).toInt ≤ 1 := rs_94_58 (m := m) hV
  have b3 := i_bd r1
  have hg4 : (0 ≤ r1 ∧ r1.toNatClampNeg < 16) := i_ix (by omega) (by omega)
  refine ⟨hg4, ?_⟩
  have b5 := i_bd s
  have li6 : (0 : Int32).toInt = 0 := rfl
  refine zd (fun (h7 : s < (0 : Int32)) => ?_) (fun (h7 : ¬ s < (0 : Int32)) => ?_)
  · skip
    have g8 := i_lt h7
    have hg9 : (0 ≤ r1 ∧ r1.toNatClampNeg < 16) := i_ix (by omega) (by omega)
    refine ⟨hg9, ?_⟩
    first | have f10 : -1 ≤ (m 112 r1.toNatClampNeg).toInt ∧ (m 112 r1.toNatClampNeg).toInt ≤ 3099 := ra_112 (m := m) hV (k := r1.toNatClampNeg) (i_ix (n := 16) (by omega) (by omega)).2 | have b11 := i_bd (m 112 r1.toNatClampNeg)
    have hV12 : zV (ma_u m 112 r1.toNatClampNeg s) := ua_112 hV (by omega) (by omega)
    refine sp_240r4 ((m 112 r1.toNatClampNeg)) (s) hV12 (show (m 94 10).toInt = 4 ∧ (m 94 58).toInt = 0 from by omega) (fun m1 hV_m1  => zmv_n ?_)
    refine sp_241r4 (aa := (ma_u aa 72 r1.toNatClampNeg (qNo (m 100) s))) ((m 112 r1.toNatClampNeg)) hV_m1 (by omega) (by omega) (by omega) (by omega) (show (m 94 10).toInt = 4 ∧ (m 94 58).toInt = 0 from by omega) r_W r_GW r_GU r_OW (show qRB (m 99) (m 100) (m 98) (m 101) (m 102) (m 103) (m 107) (m 108) (m 109) (m 111) ((ma_u m 112 r1.toNatClampNeg s) 112) (m 113) (m 114) (m 94 55) (m 94 46) (m 94 11) (m 94 12) (m 94 62) (m 94 17) (m 94 9) (ma_u aa 72 r1.toNatClampNeg (qNo (m 100) s)) from by first | (exact RB_rt r_RB r_US) | (exfalso; omega; done) | (exfalso; contradiction; done)) (show qI (ma_u aa 72 r1.toNatClampNeg (qNo (m 100) s)) from by first | (exact I_u r_QI (Or.inl rfl)) | (exfalso; omega; done) | (exfalso; contradiction; done)) (show (ma_u aa 72 r1.toNatClampNeg (qNo (m 100) s)) 87 8 = (m 94 58) from by first | (rw [un (by decide)]; exact r_MK; done) | (exfalso; omega; done) | (exfalso; contradiction; done)) r_WTS (show cV (ma_u aa 72 r1.toNatClampNeg (qNo (m 100) s)) [] B from by first | (exact V_rt4 r_VV r_RB.1 r_US (by omega)) | (exfalso; omega; done) | (exfalso; contradiction; done)) (show qCt (m 105) (m 99) (m 100) (ma_u aa 72 r1.toNatClampNeg (qNo (m 100) s)) [] x (qNo (m 100) (m 112 r1.toNatClampNeg)) from by first | (exact Ct_rt r_RB.1 r_CT r_US (by omega) (r_RB.2.2.1 r1.toNatClampNeg (by omega)).2 ⟨fun _ => mu_up, fun w => absurd w (by omega)⟩) | (exact Ct_rt r_RB.1 r_CT r_US (by omega) (r_RB.2.2.1 r1.toNatClampNeg (by omega)).2 ⟨fun w => absurd w (by omega), fun _ => rfl⟩) | (exfalso; omega; done) | (exfalso; contradiction; done)) (show qU (m 99) (m 112 r1.toNatClampNeg) from by first | (exact (r_RB.2.2.1 r1.toNatClampNeg (by omega)).1) | (assumption; done) | (exact ow5.1) | (exact ow3.1) | (exfalso; omega; done) | (exfalso; contradiction; done)) (show qXr (ma_u aa 72 r1.toNatClampNeg (qNo (m 100) s)) x from by first | (exact Xr_rt r_XS (by omega)) | (exfalso; omega; done) | (exfalso; contradiction; done)) (fun m3 hV_m3 p0_m3 p1_m3 p2_m3 p3_m3 p4_m3 p5_m3 p6_m3 p7_m3 p8_m3 p9_m3 => zmv_n ?_)
    have p0_m3 : zGW T (m3 94 55) (m3 109) := p0_m3
    have p1_m3 : zGU T (m 94 46) (m3 99) := p1_m3
    have p2_m3 : zOw (m3 99) (m 103) (m3 111) := p2_m3
    have p3_m3 : (m3 94 45).toInt = sm (zbU (m3 99)) (m 102) 3100 := p3_m3
    have p4_m3 : qRB (m3 99) (m 100) (m 98) (m 101) (m 102) (m 103) (m 107) (m 108) (m3 109) (m3 111) ((ma_u m 112 r1.toNatClampNeg s) 112) (m3 113) (m3 114) (m3 94 55) (m 94 46) (m 94 11) (m 94 12) (m 94 62) (m 94 17) (m 94 9) (cLe (ma_u aa 72 r1.toNatClampNeg (qNo (m 100) s)) (qNo (m 100) (m 112 r1.toNatClampNeg))) := p4_m3
    have p5_m3 : qI (cLe (ma_u aa 72 r1.toNatClampNeg (qNo (m 100) s)) (qNo (m 100) (m 112 r1.toNatClampNeg))) := p5_m3
    have p6_m3 : (cLe (ma_u aa 72 r1.toNatClampNeg (qNo (m 100) s)) (qNo (m 100) (m 112 r1.toNatClampNeg))) 87 8 = (m 94 58) := p6_m3
    have p7_m3 : cV (cLe (ma_u aa 72 r1.toNatClampNeg (qNo (m 100) s)) (qNo (m 100) (m 112 r1.toNatClampNeg))) [] B := p7_m3
    have p8_m3 : qCt (m3 105) (m3 99) (m 100) (cLe (ma_u aa 72 r1.toNatClampNeg (qNo (m 100) s)) (qNo (m 100) (m 112 r1.toNatClampNeg))) [] x (-1) := p8_m3
    have p9_m3 : qXr (cLe (ma_u aa 72 r1.toNatClampNeg (qNo (m 100) s)) (qNo (m 100) (m 112 r1.toNatClampNeg))) x := p9_m3
    exact K _ (zF_zov (zF_zov (zF_u zF_rfl rfl) ws_240_238) ws_241_238) hV_m3 p0_m3 p1_m3 p2_m3 p3_m3 (show qRB (m3 99) (m 100) (m 98) (m 101) (m 102) (m 103) (m 107) (m 108) (m3 109) (m3 111) ((ma_u m 112 r1.toNatClampNeg s) 112) (m3 113) (m3 114) (m3 94 55) (m 94 46) (m 94 11) (m 94 12) (m 94 62) (m 94 17) (m 94 9) (kRt aa r1 (qNo (m 100) s)) from by first | (rw [(Rt_k r_RB r_US (by omega) (by omega))]; exact p4_m3; done) | (exfalso; omega; done) | (exfalso; contradiction; done)) (show qI (kRt aa r1 (qNo (m 100) s)) from by first | (rw [(Rt_k r_RB r_US (by omega) (by omega))]; exact p5_m3; done) | (exfalso; omega; done) | (exfalso; contradiction; done)) (show (kRt aa r1 (qNo (m 100) s)) 87 8 = (m 94 58) from by first | (rw [(Rt_k r_RB r_US (by omega) (by omega))]; exact p6_m3; done) | (exfalso; omega; done) | (exfalso; contradiction; done)) (show cV (kRt aa r1 (qNo (m 100) s)) [] B from by first | (rw [(Rt_k r_RB r_US (by omega) (by omega))]; exact p7_m3; done) | (exfalso; omega; done) | (exfalso; contradiction; done)) (show qCt (m3 105) (m3 99) (m 100) (kRt aa r1 (qNo (m 100) s)) [] x (-1) from by first | (rw [(Rt_k r_RB r_US (by omega) (by omega))]; exact p8_m3; done) | (exfalso; omega; done) | (exfalso; contradiction; done)) (show qXr (kRt aa r1 (qNo (m 100) s)) x from by first | (rw [(Rt_k r_RB r_US (by omega) (by omega))]; exact p9_m3; done) | (exfalso; omega; done) | (exfalso; contradiction; done)) (show ((ma_u m 112 r1.toNatClampNeg s) 112) r1.toNatClampNeg = s from by first | (exact mu_self) | (exfalso; omega; done) | (exfalso; contradiction; done))
  · skip
    have g13 := i_nlt h7
    have li14 : (4 : Int32).toInt = 4 := rfl
    refine zd (fun (h15 : (m 94 10) = (4 : Int32)) => ?_) (fun (h15 : ¬ (m 94 10) = (4 : Int32)) => ?_)
    · skip
      have g16 := i_eq h15
      have hg17 : (0 ≤ s ∧ s.toNatClampNeg < 3100) := i_ix (by omega) (by omega)
      refine ⟨hg17, ?_⟩
      have hg18 : (0 ≤ s ∧ s.toNatClampNeg < 3100) := i_ix (by omega) (by omega)
      refine ⟨hg18, ?_⟩
      have hg19 : (0 ≤ r1 ∧ r1.toNatClampNeg < 16) := i_ix (by omega) (by omega)
      refine ⟨hg19, ?_⟩
      first | have f20 : -1 ≤ (m 112 r1.toNatClampNeg).toInt ∧ (m 112 r1.toNatClampNeg).toInt ≤ 3099 := ra_112 (m := m) hV (k := r1.toNatClampNeg) (i_ix (n := 16) (by omega) (by omega)).2 | have b21 := i_bd (m 112 r1.toNatClampNeg)
      have hV22 : zV (ma_u m 105 s.toNatClampNeg ((m 105 s.toNatClampNeg) + (1 : Int32))) := ua_105 hV
      have hV23 : zV (ma_u (ma_u m 105 s.toNatClampNeg ((m 105 s.toNatClampNeg) + (1 : Int32))) 112 r1.toNatClampNeg s) := ua_112 hV22 (by omega) (by omega)
      refine sp_240r4 ((m 112 r1.toNatClampNeg)) (s) hV23 (show (m 94 10).toInt = 4 ∧ (m 94 58).toInt = 0 from by omega) (fun m9 hV_m9  => zmv_n ?_)
      refine sp_241r4 (aa := (ma_u aa 72 r1.toNatClampNeg (qNo (m 100) s))) ((m 112 r1.toNatClampNeg)) hV_m9 (by omega) (by omega) (by omega) (by omega) (show (m 94 10).toInt = 4 ∧ (m 94 58).toInt = 0 from by omega) r_W r_GW r_GU r_OW (show qRB (m 99) (m 100) (m 98) (m 101) (m 102) (m 103) (m 107) (m 108) (m 109) (m 111) ((ma_u m 112 r1.toNatClampNeg s) 112) (m 113) (m 114) (m 94 55) (m 94 46) (m 94 11) (m 94 12) (m 94 62) (m 94 17) (m 94 9) (ma_u aa 72 r1.toNatClampNeg (qNo (m 100) s)) from by first | (exact RB_rt r_RB r_US) | (exfalso; omega; done) | (exfalso; contradiction; done)) (show qI (ma_u aa 72 r1.toNatClampNeg (qNo (m 100) s)) from by first | (exact I_u r_QI (Or.inl rfl)) | (exfalso; omega; done) | (exfalso; contradiction; done)) (show (ma_u aa 72 r1.toNatClampNeg (qNo (m 100) s)) 87 8 = (m 94 58) from by first | (rw [un (by decide)]; exact r_MK; done) | (exfalso; omega; done) | (exfalso; contradiction; done)) r_WTS (show cV (ma_u aa 72 r1.toNatClampNeg (qNo (m 100) s)) [] B from by first | (exact V_rt4 r_VV r_RB.1 r_US (by omega)) | (exfalso; omega; done) | (exfalso; contradiction; done)) (show qCt ((ma_u m 105 s.toNatClampNeg ((m 105 s.toNatClampNeg) + (1 : Int32))) 105) (m 99) (m 100) (ma_u aa 72 r1.toNatClampNeg (qNo (m 100) s)) [] x (qNo (m 100) (m 112 r1.toNatClampNeg)) from by first | (exact Ct_rt r_RB.1 r_CT r_US (by omega) (r_RB.2.2.1 r1.toNatClampNeg (by omega)).2 ⟨fun _ => mu_up, fun w => absurd w (by omega)⟩) | (exact Ct_rt r_RB.1 r_CT r_US (by omega) (r_RB.2.2.1 r1.toNatClampNeg (by omega)).2 ⟨fun w => absurd w (by omega), fun _ => rfl⟩) | (exfalso; omega; done) | (exfalso; contradiction; done)) (show qU (m 99) (m 112 r1.toNatClampNeg) from by first | (exact (r_RB.2.2.1 r1.toNatClampNeg (by omega)).1) | (assumption; done) | (exact ow5.1) | (exact ow3.1) | (exfalso; omega; done) | (exfalso; contradiction; done)) (show qXr (ma_u aa 72 r1.toNatClampNeg (qNo (m 100) s)) x from by first | (exact Xr_rt r_XS (by omega)) | (exfalso; omega; done) | (exfalso; contradiction; done)) (fun m11 hV_m11 p0_m11 p1_m11 p2_m11 p3_m11 p4_m11 p5_m11 p6_m11 p7_m11 p8_m11 p9_m11 => zmv_n ?_)
      have p0_m11 : zGW T (m11 94 55) (m11 109) := p0_m11
      have p1_m11 : zGU T (m 94 46) (m11 99) := p1_m11
      have p2_m11 : zOw (m11 99) (m 103) (m11 111) := p2_m11
      have p3_m11 : (m11 94 45).toInt = sm (zbU (m11 99)) (m 102) 3100 := p3_m11
      have p4_m11 : qRB (m11 99) (m 100) (m 98) (m 101) (m 102) (m 103) (m 107) (m 108) (m11 109) (m11 111) ((ma_u m 112 r1.toNatClampNeg s) 112) (m11 113) (m11 114) (m11 94 55) (m 94 46) (m 94 11) (m 94 12) (m 94 62) (m 94 17) (m 94 9) (cLe (ma_u aa 72 r1.toNatClampNeg (qNo (m 100) s)) (qNo (m 100) (m 112 r1.toNatClampNeg))) := p4_m11
      have p5_m11 : qI (cLe (ma_u aa 72 r1.toNatClampNeg (qNo (m 100) s)) (qNo (m 100) (m 112 r1.toNatClampNeg))) := p5_m11
      have p6_m11 : (cLe (ma_u aa 72 r1.toNatClampNeg (qNo (m 100) s)) (qNo (m 100) (m 112 r1.toNatClampNeg))) 87 8 = (m 94 58) := p6_m11
      have p7_m11 : cV (cLe (ma_u aa 72 r1.toNatClampNeg (qNo (m 100) s)) (qNo (m 100) (m 112 r1.toNatClampNeg))) [] B := p7_m11
      have p8_m11 : qCt (m11 105) (m11 99) (m 100) (cLe (ma_u aa 72 r1.toNatClampNeg (qNo (m 100) s)) (qNo (m 100) (m 112 r1.toNatClampNeg))) [] x (-1) := p8_m11
      have p9_m11 : qXr (cLe (ma_u aa 72 r1.toNatClampNeg (qNo (m 100) s)) (qNo (m 100) (m 112 r1.toNatClampNeg))) x := p9_m11
      exact K _ (zF_zov (zF_zov (zF_u (zF_u zF_rfl rfl) rfl) ws_240_238) ws_241_238) hV_m11 p0_m11 p1_m11 p2_m11 p3_m11 (show qRB (m11 99) (m 100) (m 98) (m 101) (m 102) (m 103) (m 107) (m 108) (m11 109) (m11 111) ((ma_u m 112 r1.toNatClampNeg s) 112) (m11 113) (m11 114) (m11 94 55) (m 94 46) (m 94 11) (m 94 12) (m 94 62) (m 94 17) (m 94 9) (kRt aa r1 (qNo (m 100) s)) from by first | (rw [(Rt_k r_RB r_US (by omega) (by omega))]; exact p4_m11; done) | (exfalso; omega; done) | (exfalso; contradiction; done)) (show qI (kRt aa r1 (qNo (m 100) s)) from by first | (rw [(Rt_k r_RB r_US (by omega) (by omega))]; exact p5_m11; done) | (exfalso; omega; done) | (exfalso; contradiction; done)) (show (kRt aa r1 (qNo (m 100) s)) 87 8 = (m 94 58) from by first | (rw [(Rt_k r_RB r_US (by omega) (by omega))]; exact p6_m11; done) | (exfalso; omega; done) | (exfalso; contradiction; done)) (show cV (kRt aa r1 (qNo (m 100) s)) [] B from by first | (rw [(Rt_k r_RB r_US (by omega) (by omega))]; exact p7_m11; done) | (exfalso; omega; done) | (exfalso; contradiction; done)) (show qCt (m11 105) (m11 99) (m 100) (kRt aa r1 (qNo (m 100) s)) [] x (-1) from by first | (rw [(Rt_k r_RB r_US (by omega) (by omega))]; exact p8_m11; done) | (exfalso; omega; done) | (exfalso; contradiction; done)) (show qXr (kRt aa r1 (qNo (m 100) s)) x from by first | (rw [(Rt_k r_RB r_US (by omega) (by omega))]; exact p9_m11; done) | (exfalso; omega; done) | (exfalso; contradiction; done)) (show ((ma_u m 112 r1.toNatClampNeg s) 112) r1.toNatClampNeg = s from by first | (exact mu_self) | (exfalso; omega; done) | (exfalso; contradiction; done))
    · skip
      have g24 := i_ne h15
      exfalso; omega

/-! from 95.o05 -/
/-! the reference under COUNTS (written by wip/tools/gen20s.py) -/
set_option maxHeartbeats 8000000 in
theorem sp_244r4 {X : Nat × (Nat → Int32)} {P : Option ma_V → (Nat → Nat → Int32) → Prop} {T : Nat} {aa : Nat→Nat→Int32} {B : Int} {m : Nat → Nat → Int32} (ob : Int32) (ix : Int32) (va : Int32) (hV : zV m) (hpre0 : T ≤ 512) (hpre1 : B ≤ 1000000) (r_W : zW (m 94 7) (m 98) (m 101) (m 102) (m 108)) (r_GW : zGW T (m 94 55) (m 109)) (r_GU : zGU T (m 94 46) (m 99)) (r_OW : zOw (m 99) (m 103) (m 111)) (r_GG : zGG (m 94 58) (m 94 56) (m 94 57) (m 106)) (hpre7 : (m 94 10).toInt = 4 ∧ (m 94 58).toInt = 0) (hpre8 : (m 94 8).toInt = 1) (r_RB : qRB (m 99) (m 100) (m 98) (m 101) (m 102) (m 103) (m 107) (m 108) (m 109) (m 111) (m 112) (m 113) (m 114) (m 94 55) (m 94 46) (m 94 11) (m 94 12) (m 94 62) (m 94 17) (m 94 9) aa) (r_QI : qI aa) (r_MK : aa 87 8 = (m 94 58)) (r_WTS : (m 94 45).toInt = sm (zbU (m 99)) (m 102) 3100) (r_VV : cV aa [] B) (r_CT : qCt (m 105) (m 99) (m 100) aa [] (-1) (-1)) (KZ : ∀ v m₉, zV (zov wr_244 m m₉) → (zW (m 94 7) (m 98) (m 101) (m 102) (m₉ 108)) → (zGW T (m 94 55) (m 109)) → (zGU T (m 94 46) (m 99)) → (zOw (m 99) (m 103) (m 111)) → (zGG (m 94 58) (m 94 56) (m 94 57) (m 106)) → ((m 94 45).toInt = sm (zbU (m 99)) (m 102) 3100) → (qRB (m 99) (m 100) (m 98) (m 101) (m 102) (m 103) (m 107) (m₉ 108) (m 109) (m 111) (m 112) (m 113) (m 114) (m 94 55) (m 94 46) (m 94 11) (m 94 12) (m 94 62) (m 94 17) (m 94 9) (xPu aa ob ix va)) → (qI (xPu aa ob ix va)) → ((xPu aa ob ix va) 87 8 = (m 94 58)) → (cV (xPu aa ob ix va) [] B) → (qCt (m 105) (m 99) (m 100) (xPu aa ob ix va) [] (-1) (-1)) → P (some (.inl v)) (zov wr_244 m m₉)) : zm X 5 109 244 0 [(0, .inr (.inr (some 94))), (1, .inl ob), (2, .inl ix), (3, .inl va)] m P := by
  have K : ∀ v m₉, zF wr_244 m m₉ → zV m₉ → (zW (m₉ 94 7) (m₉ 98) (m₉ 101) (m₉ 102) (m₉ 108)) → (zGW T (m₉ 94 55) (m₉ 109)) → (zGU T (m₉ 94 46) (m₉ 99)) → (zOw (m₉ 99) (m₉ 103) (m₉ 111)) → (zGG (m₉ 94 58) (m₉ 94 56) (m₉ 94 57) (m₉ 106)) → ((m₉ 94 45).toInt = sm (zbU (m₉ 99)) (m₉ 102) 3100) → (qRB (m₉ 99) (m₉ 100) (m₉ 98) (m₉ 101) (m₉ 102) (m₉ 103) (m₉ 107) (m₉ 108) (m₉ 109) (m₉ 111) (m₉ 112) (m₉ 113) (m₉ 114) (m₉ 94 55) (m₉ 94 46) (m₉ 94 11) (m₉ 94 12) (m₉ 94 62) (m₉ 94 17) (m₉ 94 9) (xPu aa ob ix va)) → (qI (xPu aa ob ix va)) → ((xPu aa ob ix va) 87 8 = (m₉ 94 58)) → (cV (xPu aa ob ix va) [] B) → (qCt (m₉ 105) (m₉ 99) (m₉ 100) (xPu aa ob ix va) [] (-1) (-1)) → P (some (.inl v)) m₉ := by
    intro v m₉ hf z q0 q1 q2 q3 q4 q5 q6 q7 q8 q9 q10
    have e := zov_eq hf
    rw [e] at z ⊢
    try rw [e] at q0
    try rw [e] at q1
    try rw [e] at q2
    try rw [e] at q3
    try rw [e] at q4
    try rw [e] at q5
    try rw [e] at q6
    try rw [e] at q7
    try rw [e] at q8
    try rw [e] at q9
    try rw [e] at q10
    exact KZ v m₉ z q0 q1 q2 q3 q4 q5 q6 q7 q8 q9 q10
  refine g_244_0 ob ix va ?_
  have f1 : 0 ≤ (m 94 10).toInt ∧ (m 94 10).toInt ≤ 6 := rs_94_10 (m := m) hV
  have f2 : 0 ≤ (m 94 58).toInt ∧ (m 94 58).toInt ≤ 1 := rs_94_58 (m := m) hV
  have f3 : 0 ≤ (m 94 8).toInt ∧ (m 94 8).toInt ≤ 1 := rs_94_8 (m := m) hV
  have li4 : (0 : Int32).toInt = 0 := rfl
  refine zd (fun (h5 : (m 94 8) = (0 : Int32)) => ?_) (fun (h5 : ¬ (m 94 8) = (0 : Int32)) => ?_)
  · skip
    have g6 := i_eq h5
    exfalso; omega
  · skip
    have g7 := i_ne h5
    have b8 := i_bd ob
    have hV9 : zV (ma_u m 94 0 (0 : Int32)) := uf_94_0 hV
    refine sp_245r (aa := aa) (ob) hV9 r_W r_RB r_QI (fun v2 m1 hV_m1 p0_m1 p1_m1 p2_m1 => zmi_n ?_)
    have p0_m1 : -1 ≤ v2.toInt ∧ v2.toInt ≤ 3099 := p0_m1
    have p1_m1 : v2.toInt < 0 ∨ (m 99) v2.toNatClampNeg ≠ 0 := p1_m1
    have p2_m1 : qRe (m 99) (m 100) aa ob v2 := p2_m1
    have b10 := i_bd v2
    refine zd (fun (h11 : (0 : Int32) ≤ v2) => ?_) (fun (h11 : ¬ (0 : Int32) ≤ v2) => ?_)
    · skip
      have g12 := i_le h11
      have b13 := i_bd ix
      refine zd (fun (h14 : ix < (0 : Int32)) => ?_) (fun (h14 : ¬ ix < (0 : Int32)) => ?_)
      · skip
        have g15 := i_lt h14
        have hV16 : zV (ma_u (zov wr_245 (ma_u m 94 0 (0 : Int32)) m1) 94 0 (3 : Int32)) := uf_94_0 hV_m1
        exact K ((0 : Int32)) _ (zF_u (zF_zov (zF_u zF_rfl rfl) ws_245_244) rfl) hV16 r_W r_GW r_GU r_OW r_GG r_WTS (show qRB (m 99) (m 100) (m 98) (m 101) (m 102) (m 103) (m 107) (m 108) (m 109) (m 111) (m 112) (m 113) (m 114) (m 94 55) (m 94 46) (m 94 11) (m 94 12) (m 94 62) (m 94 17) (m 94 9) (xPu aa ob ix va) from by first | (unfold xPu; rw [qIf_n (show ¬ (zRq aa ob ∧ zHw aa ob ix ∧ ¬ zIr aa ob ix) from fun w => Re_n p2_m1 (by omega) w.1)]; exact r_RB; done) | (unfold xPu; rw [qIf_n (show ¬ (zRq aa ob ∧ zHw aa ob ix ∧ ¬ zIr aa ob ix) from fun w => by have w2 := (Hw_y r_RB p2_m1 (by omega)).mp w.2.1; omega)]; exact r_RB; done) | (unfold xPu; rw [qIf_n (show ¬ (zRq aa ob ∧ zHw aa ob ix ∧ ¬ zIr aa ob ix) from fun w => w.2.2 ((Ir_y r_RB p2_m1 (by omega) (by omega) (by omega)).mpr (Or.inl (by assumption))))]; exact r_RB; done) | (unfold xPu; rw [qIf_n (show ¬ (zRq aa ob ∧ zHw aa ob ix ∧ ¬ zIr aa ob ix) from fun w => w.2.2 ((Ir_y r_RB p2_m1 (by omega) (by omega) (by omega)).mpr (Or.inr ⟨Int32.lt_iff_toInt_lt.mpr (by omega), by assumption⟩)))]; exact r_RB; done) | (exfalso; omega; done) | (exfalso; contradiction; done)) (show qI (xPu aa ob ix va) from by first | (unfold xPu; rw [qIf_n (show ¬ (zRq aa ob ∧ zHw aa ob ix ∧ ¬ zIr aa ob ix) from fun w => Re_n p2_m1 (by omega) w.1)]; exact r_QI; done) | (unfold xPu; rw [qIf_n (show ¬ (zRq aa ob ∧ zHw aa ob ix ∧ ¬ zIr aa ob ix) from fun w => by have w2 := (Hw_y r_RB p2_m1 (by omega)).mp w.2.1; omega)]; exact r_QI; done) | (unfold xPu; rw [qIf_n (show ¬ (zRq aa ob ∧ zHw aa ob ix ∧ ¬ zIr aa ob ix) from fun w => w.2.2 ((Ir_y r_RB p2_m1 (by omega) (by omega) (by omega)).mpr (Or.inl (by assumption))))]; exact r_QI; done) | (unfold xPu; rw [qIf_n (show ¬ (zRq aa ob ∧ zHw aa ob ix ∧ ¬ zIr aa ob ix) from fun w => w.2.2 ((Ir_y r_RB p2_m1 (by omega) (by omega) (by omega)).mpr (Or.inr ⟨Int32.lt_iff_toInt_lt.mpr (by omega), by assumption⟩)))]; exact r_QI; done) | (exfalso; omega; done) | (exfalso; contradiction; done)) (show (xPu aa ob ix va) 87 8 = (m 94 58) from by first | (unfold xPu; rw [qIf_n (show ¬ (zRq aa ob ∧ zHw aa ob ix ∧ ¬ zIr aa ob ix) from fun w => Re_n p2_m1 (by omega) w.1)]; exact r_MK; done) | (unfold xPu; rw [qIf_n (show ¬ (zRq aa ob ∧ zHw aa ob ix ∧ ¬ zIr aa ob ix) from fun w => by have w2 := (Hw_y r_RB p2_m1 (by omega)).mp w.2.1; omega)]; exact r_MK; done) | (unfold xPu; rw [qIf_n (show ¬ (zRq aa ob ∧ zHw aa ob ix ∧ ¬ zIr aa ob ix) from fun w => w.2.2 ((Ir_y r_RB p2_m1 (by omega) (by omega) (by omega)).mpr (Or.inl (by assumption))))]; exact r_MK; done) | (unfold xPu; rw [qIf_n (show ¬ (zRq aa ob ∧ zHw aa ob ix ∧ ¬ zIr aa ob ix) from fun w => w.2.2 ((Ir_y r_RB p2_m1 (by omega) (by omega) (by omega)).mpr (Or.inr ⟨Int32.lt_iff_toInt_lt.mpr (by omega), by assumption⟩)))]; exact r_MK; done) | (exfalso; omega; done) | (exfalso; contradiction; done)) (show cV (xPu aa ob ix va) [] B from by first | (unfold xPu; rw [qIf_n (show ¬ (zRq aa ob ∧ zHw aa ob ix ∧ ¬ zIr aa ob ix) from fun w => Re_n p2_m1 (by omega) w.1)]; exact r_VV; done) | (unfold xPu; rw [qIf_n (show ¬ (zRq aa ob ∧ zHw aa ob ix ∧ ¬ zIr aa ob ix) from fun w => by have w2 := (Hw_y r_RB p2_m1 (by omega)).mp w.2.1; omega)]; exact r_VV; done) | (unfold xPu; rw [qIf_n (show ¬ (zRq aa ob ∧ zHw aa ob ix ∧ ¬ zIr aa ob ix) from fun w => w.2.2 ((Ir_y r_RB p2_m1 (by omega) (by omega) (by omega)).mpr (Or.inl (by assumption))))]; exact r_VV; done) | (unfold xPu; rw [qIf_n (show ¬ (zRq aa ob ∧ zHw aa ob ix ∧ ¬ zIr aa ob ix) from fun w => w.2.2 ((Ir_y r_RB p2_m1 (by omega) (by omega) (by omega)).mpr (Or.inr ⟨Int32.lt_iff_toInt_lt.mpr (by omega), by assumption⟩)))]; exact r_VV; done) | (exfalso; omega; done) | (exfalso; contradiction; done)) (show qCt (m 105) (m 99) (m 100) (xPu aa ob ix va) [] (-1) (-1) from by first | (unfold xPu; rw [qIf_n (show ¬ (zRq aa ob ∧ zHw aa ob ix ∧ ¬ zIr aa ob ix) from fun w => Re_n p2_m1 (by omega) w.1)]; exact r_CT; done) | (unfold xPu; rw [qIf_n (show ¬ (zRq aa ob ∧ zHw aa ob ix ∧ ¬ zIr aa ob ix) from fun w => by have w2 := (Hw_y r_RB p2_m1 (by omega)).mp w.2.1; omega)]; exact r_CT; done) | (unfold xPu; rw [qIf_n (show ¬ (zRq aa ob ∧ zHw aa ob ix ∧ ¬ zIr aa ob ix) from fun w => w.2.2 ((Ir_y r_RB p2_m1 (by omega) (by omega) (by omega)).mpr (Or.inl (by assumption))))]; exact r_CT; done) | (unfold xPu; rw [qIf_n (show ¬ (zRq aa ob ∧ zHw aa ob ix ∧ ¬ zIr aa ob ix) from fun w => w.2.2 ((Ir_y r_RB p2_m1 (by omega) (by omega) (by omega)).mpr (Or.inr ⟨Int32.lt_iff_toInt_lt.mpr (by omega), by assumption⟩)))]; exact r_CT; done) | (exfalso; omega; done) | (exfalso; contradiction; done))
      · skip
        have g17 := i_nlt h14
        have hg18 : (0 ≤ v2 ∧ v2.toNatClampNeg < 3100) := i_ix (by omega) (by omega)
        refine ⟨hg18, ?_⟩
        first | have f19 : 0 ≤ (m 102 v2.toNatClampNeg).toInt ∧ (m 102 v2.toNatClampNeg).toInt ≤ 60 := ra_102 (m := m) hV (k := v2.toNatClampNeg) (i_ix (n := 3100) (by omega) (by omega)).2 | have b20 := i_bd (m 102 v2.toNatClampNeg)
        refine zd (fun (h21 : ix < (m 102 v2.toNatClampNeg)) => ?_) (fun (h21 : ¬ ix < (m 102 v2.toNatClampNeg)) => ?_)
        · skip
          have g22 := i_lt h21
          have hg23 : (0 ≤ v2 ∧ v2.toNatClampNeg < 3100) := i_ix (by omega) (by omega)
          refine ⟨hg23, ?_⟩
          first | have f24 : 0 ≤ (m 101 v2.toNatClampNeg).toInt ∧ (m 101 v2.toNatClampNeg).toInt ≤ 17 := ra_101 (m := m) hV (k := v2.toNatClampNeg) (i_ix (n := 3100) (by omega) (by omega)).2 | have b25 := i_bd (m 101 v2.toNatClampNeg)
          have li26 : (16 : Int32).toInt = 16 := rfl
          refine zd (fun (h27 : (m 101 v2.toNatClampNeg) = (16 : Int32)) => ?_) (fun (h27 : ¬ (m 101 v2.toNatClampNeg) = (16 : Int32)) => ?_)
          · skip
            have g28 := i_eq h27
            have hV29 : zV (ma_u (zov wr_245 (ma_u m 94 0 (0 : Int32)) m1) 94 0 (4 : Int32)) := uf_94_0 hV_m1
            exact K ((0 : Int32)) _ (zF_u (zF_zov (zF_u zF_rfl rfl) ws_245_244) rfl) hV29 r_W r_GW r_GU r_OW r_GG r_WTS (show qRB (m 99) (m 100) (m 98) (m 101) (m 102) (m 103) (m 107) (m 108) (m 109) (m 111) (m 112) (m 113) (m 114) (m 94 55) (m 94 46) (m 94 11) (m 94 12) (m 94 62) (m 94 17) (m 94 9) (xPu aa ob ix va) from by first | (unfold xPu; rw [qIf_n (show ¬ (zRq aa ob ∧ zHw aa ob ix ∧ ¬ zIr aa ob ix) from fun w => Re_n p2_m1 (by omega) w.1)]; exact r_RB; done) | (unfold xPu; rw [qIf_n (show ¬ (zRq aa ob ∧ zHw aa ob ix ∧ ¬ zIr aa ob ix) from fun w => by have w2 := (Hw_y r_RB p2_m1 (by omega)).mp w.2.1; omega)]; exact r_RB; done) | (unfold xPu; rw [qIf_n (show ¬ (zRq aa ob ∧ zHw aa ob ix ∧ ¬ zIr aa ob ix) from fun w => w.2.2 ((Ir_y r_RB p2_m1 (by omega) (by omega) (by omega)).mpr (Or.inl (by assumption))))]; exact r_RB; done) | (unfold xPu; rw [qIf_n (show ¬ (zRq aa ob ∧ zHw aa ob ix ∧ ¬ zIr aa ob ix) from fun w => w.2.2 ((Ir_y r_RB p2_m1 (by omega) (by omega) (by omega)).mpr (Or.inr ⟨Int32.lt_iff_toInt_lt.mpr (by omega), by assumption⟩)))]; exact r_RB; done) | (exfalso; omega; done) | (exfalso; contradiction; done)) (show qI (xPu aa ob ix va) from by first | (unfold xPu; rw [qIf_n (show ¬ (zRq aa ob ∧ zHw aa ob ix ∧ ¬ zIr aa ob ix) from fun w => Re_n p2_m1 (by omega) w.1)]; exact r_QI; done) | (unfold xPu; rw [qIf_n (show ¬ (zRq aa ob ∧ zHw aa ob ix ∧ ¬ zIr aa ob ix) from fun w => by have w2 := (Hw_y r_RB p2_m1 (by omega)).mp w.2.1; omega)]; exact r_QI; done) | (unfold xPu; rw [qIf_n (show ¬ (zRq aa ob ∧ zHw aa ob ix ∧ ¬ zIr aa ob ix) from fun w => w.2.2 ((Ir_y r_RB p2_m1 (by omega) (by omega) (by omega)).mpr (Or.inl (by assumption))))]; exact r_QI; done) | (unfold xPu; rw [qIf_n (show ¬ (zRq aa ob ∧ zHw aa ob ix ∧ ¬ zIr aa ob ix) from fun w => w.2.2 ((Ir_y r_RB p2_m1 (by omega) (by omega) (by omega)).mpr (Or.inr ⟨Int32.lt_iff_toInt_lt.mpr (by omega), by assumption⟩)))]; exact r_QI; done) | (exfalso; omega; done) | (exfalso; contradiction; done)) (show (xPu aa ob ix va) 87 8 = (m 94 58) from by first | (unfold xPu; rw [qIf_n (show ¬ (zRq aa ob ∧ zHw aa ob ix ∧ ¬ zIr aa ob ix) from fun w => Re_n p2_m1 (by omega) w.1)]; exact r_MK; done) | (unfold xPu; rw [qIf_n (show ¬ (zRq aa ob ∧ zHw aa ob ix ∧ ¬ zIr aa ob ix) from fun w => by have w2 := (Hw_y r_RB p2_m1 (by omega)).mp w.2.1; omega)]; exact r_MK; done) | (unfold xPu; rw [qIf_n (show ¬ (zRq aa ob ∧ zHw aa ob ix ∧ ¬ zIr aa ob ix) from fun w => w.2.2 ((Ir_y r_RB p2_m1 (by omega) (by omega) (by omega)).mpr (Or.inl (by assumption))))]; exact r_MK; done) | (unfold xPu; rw [qIf_n (show ¬ (zRq aa ob ∧ zHw aa ob ix ∧ ¬ zIr aa ob ix) from fun w => w.2.2 ((Ir_y r_RB p2_m1 (by omega) (by omega) (by omega)).mpr (Or.inr ⟨Int32.lt_iff_toInt_lt.mpr (by omega), by assumption⟩)))]; exact r_MK; done) | (exfalso; omega; done) | (exfalso; contradiction; done)) (show cV (xPu aa ob ix va) [] B from by first | (unfold xPu; rw [qIf_n (show ¬ (zRq aa ob ∧ zHw aa ob ix ∧ ¬ zIr aa ob ix) from fun w => Re_n p2_m1 (by omega) w.1)]; exact r_VV; done) | (unfold xPu; rw [qIf_n (show ¬ (zRq aa ob ∧ zHw aa ob ix ∧ ¬ zIr aa ob ix) from fun w => by have w2 := (Hw_y r_RB p2_m1 (by omega)).mp w.2.1; omega)]; exact r_VV; done) | (unfold xPu; rw [qIf_n (show ¬ (zRq aa ob ∧ zHw aa ob ix ∧ ¬ zIr aa ob ix) from fun w => w.2.2 ((Ir_y r_RB p2_m1 (by omega) (by omega) (by omega)).mpr (Or.inl (by assumption))))]; exact r_VV; done) | (unfold xPu; rw [qIf_n (show ¬ (zRq aa ob ∧ zHw aa ob ix ∧ ¬ zIr aa ob ix) from fun w => w.2.2 ((Ir_y r_RB p2_m1 (by omega) (by omega) (by omega)).mpr (Or.inr ⟨Int32.lt_iff_toInt_lt.mpr (by omega), by assumption⟩)))]; exact r_VV; done) | (exfalso; omega; done) | (exfalso; contradiction; done)) (show qCt (m 105) (m 99) (m 100) (xPu aa ob ix va) [] (-1) (-1) from by first | (unfold xPu; rw [qIf_n (show ¬ (zRq aa ob ∧ zHw aa ob ix ∧ ¬ zIr aa ob ix) from fun w => Re_n p2_m1 (by omega) w.1)]; exact r_CT; done) | (unfold xPu; rw [qIf_n (show ¬ (zRq aa ob ∧ zHw aa ob ix ∧ ¬ zIr aa ob ix) from fun w => by have w2 := (Hw_y r_RB p2_m1 (by omega)).mp w.2.1; omega)]; exact r_CT; done) | (unfold xPu; rw [qIf_n (show ¬ (zRq aa ob ∧ zHw aa ob ix ∧ ¬ zIr aa ob ix) from fun w => w.2.2 ((Ir_y r_RB p2_m1 (by omega) (by omega) (by omega)).mpr (Or.inl (by assumption))))]; exact r_CT; done) | (unfold xPu; rw [qIf_n (show ¬ (zRq aa ob ∧ zHw aa ob ix ∧ ¬ zIr aa ob ix) from fun w => w.2.2 ((Ir_y r_RB p2_m1 (by omega) (by omega) (by omega)).mpr (Or.inr ⟨Int32.lt_iff_toInt_lt.mpr (by omega), by assumption⟩)))]; exact r_CT; done) | (exfalso; omega; done) | (exfalso; contradiction; done))
          · skip
            have g30 := i_ne h27
            have hg31 : (0 ≤ v2 ∧ v2.toNatClampNeg < 3100) := i_ix (by omega) (by omega)
            refine ⟨hg31, ?_⟩
            refine zd (fun (h32 : (16 : Int32) ≤ (m 101 v2.toNatClampNeg)) => ?_) (fun (h32 : ¬ (16 : Int32) ≤ (m 101 v2.toNatClampNeg)) => ?_)
            · skip
              have g33 := i_le h32
              have li34 : (60 : Int32).toInt = 60 := rfl
              first | have e35 : (v2 * (60 : Int32)).toInt = v2.toInt * 60 := i_mulk rfl (by omega) (by omega) | have b36 := i_bd (v2 * (60 : Int32))
              first | have e37 : ((v2 * (60 : Int32)) + ix).toInt = (v2 * (60 : Int32)).toInt + ix.toInt := i_add (by omega) (by omega) | have b38 := i_bd ((v2 * (60 : Int32)) + ix)
              have hg39 : (0 ≤ ((v2 * (60 : Int32)) + ix) ∧ ((v2 * (60 : Int32)) + ix).toNatClampNeg < 186000) := i_ix (by omega) (by omega)
              refine ⟨hg39, ?_⟩
              have hg40 : (0 ≤ ((v2 * (60 : Int32)) + ix) ∧ ((v2 * (60 : Int32)) + ix).toNatClampNeg < 186000) := i_ix (by omega) (by omega)
              refine ⟨hg40, ?_⟩
              have hV41 : zV (ma_u (zov wr_245 (ma_u m 94 0 (0 : Int32)) m1) 94 0 (0 : Int32)) := uf_94_0 hV_m1
              have hV42 : zV (ma_u (ma_u (zov wr_245 (ma_u m 94 0 (0 : Int32)) m1) 94 0 (0 : Int32)) 108 ((v2 * (60 : Int32)) + ix).toNatClampNeg va) := ua_108 hV41
              have b43 := i_bd (m 108 ((v2 * (60 : Int32)) + ix).toNatClampNeg)
              exact K ((m 108 ((v2 * (60 : Int32)) + ix).toNatClampNeg)) _ (zF_u (zF_u (zF_zov (zF_u zF_rfl rfl) ws_245_244) rfl) rfl) hV42 (show zW (m 94 7) (m 98) (m 101) (m 102) ((ma_u m 108 ((v2 * (60 : Int32)) + ix).toNatClampNeg va) 108) from by first | (exact W_same r_W (by omega) (fun s2 i2 hs2 hi2 => zrf_put (by omega) (by omega) (by omega) (by omega) (by assumption) (fun z => by first | exact absurd (Int32.lt_iff_toInt_lt.mp z.1) (by omega) | exact absurd z.2 (by assumption)) s2 i2 (by have := (ra_102 hV hs2).2; omega))) | (exfalso; omega; done) | (exfalso; contradiction; done)) r_GW r_GU r_OW r_GG r_WTS (show qRB (m 99) (m 100) (m 98) (m 101) (m 102) (m 103) (m 107) ((ma_u m 108 ((v2 * (60 : Int32)) + ix).toNatClampNeg va) 108) (m 109) (m 111) (m 112) (m 113) (m 114) (m 94 55) (m 94 46) (m 94 11) (m 94 12) (m 94 62) (m 94 17) (m 94 9) (xPu aa ob ix va) from by first | (unfold xPu; rw [qIf_y (show zRq aa ob ∧ zHw aa ob ix ∧ ¬ zIr aa ob ix from ⟨(Re_y p2_m1 (by omega)).2.2.2, (Hw_y r_RB p2_m1 (by omega)).mpr ⟨by omega, by omega⟩, fun w => ((Ir_y r_RB p2_m1 (by omega) (by omega) (by omega)).mp w).elim (fun z => absurd z (by assumption)) (fun z => by first | exact absurd (Int32.lt_iff_toInt_lt.mp z.1) (by omega) | exact absurd z.2 (by assumption))⟩)]; exact (RB_pu (x := va) r_RB r_QI (s := v2) (by omega) (by omega) (Re_y p2_m1 (by omega)).2.1 (i := ix) (by omega) (by omega) (by assumption) (fun z => by first | exact absurd (Int32.lt_iff_toInt_lt.mp z.1) (by omega) | exact absurd z.2 (by assumption)) (Re_y p2_m1 (by omega)).2.2.1).1; done) | (exfalso; omega; done) | (exfalso; contradiction; done)) (show qI (xPu aa ob ix va) from by first | (unfold xPu; rw [qIf_y (show zRq aa ob ∧ zHw aa ob ix ∧ ¬ zIr aa ob ix from ⟨(Re_y p2_m1 (by omega)).2.2.2, (Hw_y r_RB p2_m1 (by omega)).mpr ⟨by omega, by omega⟩, fun w => ((Ir_y r_RB p2_m1 (by omega) (by omega) (by omega)).mp w).elim (fun z => absurd z (by assumption)) (fun z => by first | exact absurd (Int32.lt_iff_toInt_lt.mp z.1) (by omega) | exact absurd z.2 (by assumption))⟩)]; have pw := (RB_pu (x := va) r_RB r_QI (s := v2) (by omega) (by omega) (Re_y p2_m1 (by omega)).2.1 (i := ix) (by omega) (by omega) (by assumption) (fun z => by first | exact absurd (Int32.lt_iff_toInt_lt.mp z.1) (by omega) | exact absurd z.2 (by assumption)) (Re_y p2_m1 (by omega)).2.2.1); rw [Ci_eq r_QI pw.2.2]; exact I_w r_QI pw.2.2; done) | (exfalso; omega; done) | (exfalso; contradiction; done)) (show (xPu aa ob ix va) 87 8 = (m 94 58) from by first | (unfold xPu; rw [qIf_y (show zRq aa ob ∧ zHw aa ob ix ∧ ¬ zIr aa ob ix from ⟨(Re_y p2_m1 (by omega)).2.2.2, (Hw_y r_RB p2_m1 (by omega)).mpr ⟨by omega, by omega⟩, fun w => ((Ir_y r_RB p2_m1 (by omega) (by omega) (by omega)).mp w).elim (fun z => absurd z (by assumption)) (fun z => by first | exact absurd (Int32.lt_iff_toInt_lt.mp z.1) (by omega) | exact absurd z.2 (by assumption))⟩)]; have pw := (RB_pu (x := va) r_RB r_QI (s := v2) (by omega) (by omega) (Re_y p2_m1 (by omega)).2.1 (i := ix) (by omega) (by omega) (by assumption) (fun z => by first | exact absurd (Int32.lt_iff_toInt_lt.mp z.1) (by omega) | exact absurd z.2 (by assumption)) (Re_y p2_m1 (by omega)).2.2.1); rw [Ci_eq r_QI pw.2.2, un (by decide)]; exact r_MK; done) | (exfalso; omega; done) | (exfalso; contradiction; done)) (show cV (xPu aa ob ix va) [] B from by first | (unfold xPu; rw [qIf_y (show zRq aa ob ∧ zHw aa ob ix ∧ ¬ zIr aa ob ix from ⟨(Re_y p2_m1 (by omega)).2.2.2, (Hw_y r_RB p2_m1 (by omega)).mpr ⟨by omega, by omega⟩, fun w => ((Ir_y r_RB p2_m1 (by omega) (by omega) (by omega)).mp w).elim (fun z => absurd z (by assumption)) (fun z => by first | exact absurd (Int32.lt_iff_toInt_lt.mp z.1) (by omega) | exact absurd z.2 (by assumption))⟩)]; have pw := (RB_pu (x := va) r_RB r_QI (s := v2) (by omega) (by omega) (Re_y p2_m1 (by omega)).2.1 (i := ix) (by omega) (by omega) (by assumption) (fun z => by first | exact absurd (Int32.lt_iff_toInt_lt.mp z.1) (by omega) | exact absurd z.2 (by assumption)) (Re_y p2_m1 (by omega)).2.2.1); exact V_0 (Cp_4 r_VV pw.2.2 pw.2.1); done) | (exfalso; omega; done) | (exfalso; contradiction; done)) (show qCt (m 105) (m 99) (m 100) (xPu aa ob ix va) [] (-1) (-1) from by first | (unfold xPu; rw [qIf_y (show zRq aa ob ∧ zHw aa ob ix ∧ ¬ zIr aa ob ix from ⟨(Re_y p2_m1 (by omega)).2.2.2, (Hw_y r_RB p2_m1 (by omega)).mpr ⟨by omega, by omega⟩, fun w => ((Ir_y r_RB p2_m1 (by omega) (by omega) (by omega)).mp w).elim (fun z => absurd z (by assumption)) (fun z => by first | exact absurd (Int32.lt_iff_toInt_lt.mp z.1) (by omega) | exact absurd z.2 (by assumption))⟩)]; have pw := (RB_pu (x := va) r_RB r_QI (s := v2) (by omega) (by omega) (Re_y p2_m1 (by omega)).2.1 (i := ix) (by omega) (by omega) (by assumption) (fun z => by first | exact absurd (Int32.lt_iff_toInt_lt.mp z.1) (by omega) | exact absurd z.2 (by assumption)) (Re_y p2_m1 (by omega)).2.2.1); exact Ct_K pw.1.1 (Cp_4 r_VV pw.2.2 pw.2.1) r_CT; done) | (exfalso; omega; done) | (exfalso; contradiction; done))
            · skip
              have g44 := i_nle h32
              have hg45 : (0 ≤ v2 ∧ v2.toNatClampNeg < 3100) := i_ix (by omega) (by omega)
              refine ⟨hg45, ?_⟩
              have hg46 : (0 ≤ (m 101 v2.toNatClampNeg) ∧ (m 101 v2.toNatClampNeg).toNatClampNeg < 16) := i_ix (by omega) (by omega)
              refine ⟨hg46, ?_⟩
              have b47 := i_bd (((m 98 (m 101 v2.toNatClampNeg).toNatClampNeg) >>> (ix &&& 31)) &&& (1 : Int32))
              have li48 : (1 : Int32).toInt = 1 := rfl
              refine zd (fun (h49 : (((m 98 (m 101 v2.toNatClampNeg).toNatClampNeg) >>> (ix &&& 31)) &&& (1 : Int32)) = (1 : Int32)) => ?_) (fun (h49 : ¬ (((m 98 (m 101 v2.toNatClampNeg).toNatClampNeg) >>> (ix &&& 31)) &&& (1 : Int32)) = (1 : Int32)) => ?_)
              · skip
                have g50 := i_eq h49
                have hV51 : zV (ma_u (zov wr_245 (ma_u m 94 0 (0 : Int32)) m1) 94 0 (4 : Int32)) := uf_94_0 hV_m1
                exact K ((0 : Int32)) _ (zF_u (zF_zov (zF_u zF_rfl rfl) ws_245_244) rfl) hV51 r_W r_GW r_GU r_OW r_GG r_WTS (show qRB (m 99) (m 100) (m 98) (m 101) (m 102) (m 103) (m 107) (m 108) (m 109) (m 111) (m 112) (m 113) (m 114) (m 94 55) (m 94 46) (m 94 11) (m 94 12) (m 94 62) (m 94 17) (m 94 9) (xPu aa ob ix va) from by first | (unfold xPu; rw [qIf_n (show ¬ (zRq aa ob ∧ zHw aa ob ix ∧ ¬ zIr aa ob ix) from fun w => Re_n p2_m1 (by omega) w.1)]; exact r_RB; done) | (unfold xPu; rw [qIf_n (show ¬ (zRq aa ob ∧ zHw aa ob ix ∧ ¬ zIr aa ob ix) from fun w => by have w2 := (Hw_y r_RB p2_m1 (by omega)).mp w.2.1; omega)]; exact r_RB; done) | (unfold xPu; rw [qIf_n (show ¬ (zRq aa ob ∧ zHw aa ob ix ∧ ¬ zIr aa ob ix) from fun w => w.2.2 ((Ir_y r_RB p2_m1 (by omega) (by omega) (by omega)).mpr (Or.inl (by assumption))))]; exact r_RB; done) | (unfold xPu; rw [qIf_n (show ¬ (zRq aa ob ∧ zHw aa ob ix ∧ ¬ zIr aa ob ix) from fun w => w.2.2 ((Ir_y r_RB p2_m1 (by omega) (by omega) (by omega)).mpr (Or.inr ⟨Int32.lt_iff_toInt_lt.mpr (by omega), by assumption⟩)))]; exact r_RB; done) | (exfalso; omega; done) | (exfalso; contradiction; done)) (show qI (xPu aa ob ix va) from by first | (unfold xPu; rw [qIf_n (show ¬ (zRq aa ob ∧ zHw aa ob ix ∧ ¬ zIr aa ob ix) from fun w => Re_n p2_m1 (by omega) w.1)]; exact r_QI; done) | (unfold xPu; rw [qIf_n (show ¬ (zRq aa ob ∧ zHw aa ob ix ∧ ¬ zIr aa ob ix) from fun w => by have w2 := (Hw_y r_RB p2_m1 (by omega)).mp w.2.1; omega)]; exact r_QI; done) | (unfold xPu; rw [qIf_n (show ¬ (zRq aa ob ∧ zHw aa ob ix ∧ ¬ zIr aa ob ix) from fun w => w.2.2 ((Ir_y r_RB p2_m1 (by omega) (by omega) (by omega)).mpr (Or.inl (by assumption))))]; exact r_QI; done) | (unfold xPu; rw [qIf_n (show ¬ (zRq aa ob ∧ zHw aa ob ix ∧ ¬ zIr aa ob ix) from fun w => w.2.2 ((Ir_y r_RB p2_m1 (by omega) (by omega) (by omega)).mpr (Or.inr ⟨Int32.lt_iff_toInt_lt.mpr (by omega), by assumption⟩)))]; exact r_QI; done) | (exfalso; omega; done) | (exfalso; contradiction; done)) (show (xPu aa ob ix va) 87 8 = (m 94 58) from by first | (unfold xPu; rw [qIf_n (show ¬ (zRq aa ob ∧ zHw aa ob ix ∧ ¬ zIr aa ob ix) from fun w => Re_n p2_m1 (by omega) w.1)]; exact r_MK; done) | (unfold xPu; rw [qIf_n (show ¬ (zRq aa ob ∧ zHw aa ob ix ∧ ¬ zIr aa ob ix) from fun w => by have w2 := (Hw_y r_RB p2_m1 (by omega)).mp w.2.1; omega)]; exact r_MK; done) | (unfold xPu; rw [qIf_n (show ¬ (zRq aa ob ∧ zHw aa ob ix ∧ ¬ zIr aa ob ix) from fun w => w.2.2 ((Ir_y r_RB p2_m1 (by omega) (by omega) (by omega)).mpr (Or.inl (by assumption))))]; exact r_MK; done) | (unfold xPu; rw [qIf_n (show ¬ (zRq aa ob ∧ zHw aa ob ix ∧ ¬ zIr aa ob ix) from fun w => w.2.2 ((Ir_y r_RB p2_m1 (by omega) (by omega) (by omega)).mpr (Or.inr ⟨Int32.lt_iff_toInt_lt.mpr (by omega), by assumption⟩)))]; exact r_MK; done) | (exfalso; omega; done) | (exfalso; contradiction; done)) (show cV (xPu aa ob ix va) [] B from by first | (unfold xPu; rw [qIf_n (show ¬ (zRq aa ob ∧ zHw aa ob ix ∧ ¬ zIr aa ob ix) from fun w => Re_n p2_m1 (by omega) w.1)]; exact r_VV; done) | (unfold xPu; rw [qIf_n (show ¬ (zRq aa ob ∧ zHw aa ob ix ∧ ¬ zIr aa ob ix) from fun w => by have w2 := (Hw_y r_RB p2_m1 (by omega)).mp w.2.1; omega)]; exact r_VV; done) | (unfold xPu; rw [qIf_n (show ¬ (zRq aa ob ∧ zHw aa ob ix ∧ ¬ zIr aa ob ix) from fun w => w.2.2 ((Ir_y r_RB p2_m1 (by omega) (by omega) (by omega)).mpr (Or.inl (by assumption))))]; exact r_VV; done) | (unfold xPu; rw [qIf_n (show ¬ (zRq aa ob ∧ zHw aa ob ix ∧ ¬ zIr aa ob ix) from fun w => w.2.2 ((Ir_y r_RB p2_m1 (by omega) (by omega) (by omega)).mpr (Or.inr ⟨Int32.lt_iff_toInt_lt.mpr (by omega), by assumption⟩)))]; exact r_VV; done) | (exfalso; omega; done) | (exfalso; contradiction; done)) (show qCt (m 105) (m 99) (m 100) (xPu aa ob ix va) [] (-1) (-1) from by first | (unfold xPu; rw [qIf_n (show ¬ (zRq aa ob ∧ zHw aa ob ix ∧ ¬ zIr aa ob ix) from fun w => Re_n p2_m1 (by omega) w.1)]; exact r_CT; done) | (unfold xPu; rw [qIf_n (show ¬ (zRq aa ob ∧ zHw aa ob ix ∧ ¬ zIr aa ob ix) from fun w => by have w2 := (Hw_y r_RB p2_m1 (by omega)).mp w.2.1; omega)]; exact r_CT; done) | (unfold xPu; rw [qIf_n (show ¬ (zRq aa ob ∧ zHw aa ob ix ∧ ¬ zIr aa ob ix) from fun w => w.2.2 ((Ir_y r_RB p2_m1 (by omega) (by omega) (by omega)).mpr (Or.inl (by assumption))))]; exact r_CT; done) | (unfold xPu; rw [qIf_n (show ¬ (zRq aa ob ∧ zHw aa ob ix ∧ ¬ zIr aa ob ix) from fun w => w.2.2 ((Ir_y r_RB p2_m1 (by omega) (by omega) (by omega)).mpr (Or.inr ⟨Int32.lt_iff_toInt_lt.mpr (by omega), by assumption⟩)))]; exact r_CT; done) | (exfalso; omega; done) | (exfalso; contradiction; done))
              · skip
                have g52 := i_ne h49
                have li53 : (60 : Int32).toInt = 60 := rfl
                first | have e54 : (v2 * (60 : Int32)).toInt = v2.toInt * 60 := i_mulk rfl (by omega) (by omega) | have b55 := i_bd (v2 * (60 : Int32))
                first | have e56 : ((v2 * (60 : Int32)) + ix).toInt = (v2 * (60 : Int32)).toInt + ix.toInt := i_add (by omega) (by omega) | have b57 := i_bd ((v2 * (60 : Int32)) + ix)
                have hg58 : (0 ≤ ((v2 * (60 : Int32)) + ix) ∧ ((v2 * (60 : Int32)) + ix).toNatClampNeg < 186000) := i_ix (by omega) (by omega)
                refine ⟨hg58, ?_⟩
                have hg59 : (0 ≤ ((v2 * (60 : Int32)) + ix) ∧ ((v2 * (60 : Int32)) + ix).toNatClampNeg < 186000) := i_ix (by omega) (by omega)
                refine ⟨hg59, ?_⟩
                have hV60 : zV (ma_u (zov wr_245 (ma_u m 94 0 (0 : Int32)) m1) 94 0 (0 : Int32)) := uf_94_0 hV_m1
                have hV61 : zV (ma_u (ma_u (zov wr_245 (ma_u m 94 0 (0 : Int32)) m1) 94 0 (0 : Int32)) 108 ((v2 * (60 : Int32)) + ix).toNatClampNeg va) := ua_108 hV60
                have b62 := i_bd (m 108 ((v2 * (60 : Int32)) + ix).toNatClampNeg)
                exact K ((m 108 ((v2 * (60 : Int32)) + ix).toNatClampNeg)) _ (zF_u (zF_u (zF_zov (zF_u zF_rfl rfl) ws_245_244) rfl) rfl) hV61 (show zW (m 94 7) (m 98) (m 101) (m 102) ((ma_u m 108 ((v2 * (60 : Int32)) + ix).toNatClampNeg va) 108) from by first | (exact W_same r_W (by omega) (fun s2 i2 hs2 hi2 => zrf_put (by omega) (by omega) (by omega) (by omega) (by assumption) (fun z => by first | exact absurd (Int32.lt_iff_toInt_lt.mp z.1) (by omega) | exact absurd z.2 (by assumption)) s2 i2 (by have := (ra_102 hV hs2).2; omega))) | (exfalso; omega; done) | (exfalso; contradiction; done)) r_GW r_GU r_OW r_GG r_WTS (show qRB (m 99) (m 100) (m 98) (m 101) (m 102) (m 103) (m 107) ((ma_u m 108 ((v2 * (60 : Int32)) + ix).toNatClampNeg va) 108) (m 109) (m 111) (m 112) (m 113) (m 114) (m 94 55) (m 94 46) (m 94 11) (m 94 12) (m 94 62) (m 94 17) (m 94 9) (xPu aa ob ix va) from by first | (unfold xPu; rw [qIf_y (show zRq aa ob ∧ zHw aa ob ix ∧ ¬ zIr aa ob ix from ⟨(Re_y p2_m1 (by omega)).2.2.2, (Hw_y r_RB p2_m1 (by omega)).mpr ⟨by omega, by omega⟩, fun w => ((Ir_y r_RB p2_m1 (by omega) (by omega) (by omega)).mp w).elim (fun z => absurd z (by assumption)) (fun z => by first | exact absurd (Int32.lt_iff_toInt_lt.mp z.1) (by omega) | exact absurd z.2 (by assumption))⟩)]; exact (RB_pu (x := va) r_RB r_QI (s := v2) (by omega) (by omega) (Re_y p2_m1 (by omega)).2.1 (i := ix) (by omega) (by omega) (by assumption) (fun z => by first | exact absurd (Int32.lt_iff_toInt_lt.mp z.1) (by omega) | exact absurd z.2 (by assumption)) (Re_y p2_m1 (by omega)).2.2.1).1; done) | (exfalso; omega; done) | (exfalso; contradiction; done)) (show qI (xPu aa ob ix va) from by first | (unfold xPu; rw [qIf_y (show zRq aa ob ∧ zHw aa ob ix ∧ ¬ zIr aa ob ix from ⟨(Re_y p2_m1 (by omega)).2.2.2, (Hw_y r_RB p2_m1 (by omega)).mpr ⟨by omega, by omega⟩, fun w => ((Ir_y r_RB p2_m1 (by omega) (by omega) (by omega)).mp w).elim (fun z => absurd z (by assumption)) (fun z => by first | exact absurd (Int32.lt_iff_toInt_lt.mp z.1) (by omega) | exact absurd z.2 (by assumption))⟩)]; have pw := (RB_pu (x := va) r_RB r_QI (s := v2) (by omega) (by omega) (Re_y p2_m1 (by omega)).2.1 (i := ix) (by omega) (by omega) (by assumption) (fun z => by first | exact absurd (Int32.lt_iff_toInt_lt.mp z.1) (by omega) | exact absurd z.2 (by assumption)) (Re_y p2_m1 (by omega)).2.2.1); rw [Ci_eq r_QI pw.2.2]; exact I_w r_QI pw.2.2; done) | (exfalso; omega; done) | (exfalso; contradiction; done)) (show (xPu aa ob ix va) 87 8 = (m 94 58) from by first | (unfold xPu; rw [qIf_y (show zRq aa ob ∧ zHw aa ob ix ∧ ¬ zIr aa ob ix from ⟨(Re_y p2_m1 (by omega)).2.2.2, (Hw_y r_RB p2_m1 (by omega)).mpr ⟨by omega, by omega⟩, fun w => ((Ir_y r_RB p2_m1 (by omega) (by omega) (by omega)).mp w).elim (fun z => absurd z (by assumption)) (fun z => by first | exact absurd (Int32.lt_iff_toInt_lt.mp z.1) (by omega) | exact absurd z.2 (by assumption))⟩)]; have pw := (RB_pu (x := va) r_RB r_QI (s := v2) (by omega) (by omega) (Re_y p2_m1 (by omega)).2.1 (i := ix) (by omega) (by omega) (by assumption) (fun z => by first | exact absurd (Int32.lt_iff_toInt_lt.mp z.1) (by omega) | exact absurd z.2 (by assumption)) (Re_y p2_m1 (by omega)).2.2.1); rw [Ci_eq r_QI pw.2.2, un (by decide)]; exact r_MK; done) | (exfalso; omega; done) | (exfalso; contradiction; done)) (show cV (xPu aa ob ix va) [] B from by first | (unfold xPu; rw [qIf_y (show zRq aa ob ∧ zHw aa ob ix ∧ ¬ zIr aa ob ix from ⟨(Re_y p2_m1 (by omega)).2.2.2, (Hw_y r_RB p2_m1 (by omega)).mpr ⟨by omega, by omega⟩, fun w => ((Ir_y r_RB p2_m1 (by omega) (by omega) (by omega)).mp w).elim (fun z => absurd z (by assumption)) (fun z => by first | exact absurd (Int32.lt_iff_toInt_lt.mp z.1) (by omega) | exact absurd z.2 (by assumption))⟩)]; have pw := (RB_pu (x := va) r_RB r_QI (s := v2) (by omega) (by omega) (Re_y p2_m1 (by omega)).2.1 (i := ix) (by omega) (by omega) (by assumption) (fun z => by first | exact absurd (Int32.lt_iff_toInt_lt.mp z.1) (by omega) | exact absurd z.2 (by assumption)) (Re_y p2_m1 (by omega)).2.2.1); exact V_0 (Cp_4 r_VV pw.2.2 pw.2.1); done) | (exfalso; omega; done) | (exfalso; contradiction; done)) (show qCt (m 105) (m 99) (m 100) (xPu aa ob ix va) [] (-1) (-1) from by first | (unfold xPu; rw [qIf_y (show zRq aa ob ∧ zHw aa ob ix ∧ ¬ zIr aa ob ix from ⟨(Re_y p2_m1 (by omega)).2.2.2, (Hw_y r_RB p2_m1 (by omega)).mpr ⟨by omega, by omega⟩, fun w => ((Ir_y r_RB p2_m1 (by omega) (by omega) (by omega)).mp w).elim (fun z => absurd z (by assumption)) (fun z => by first | exact absurd (Int32.lt_iff_toInt_lt.mp z.1) (by omega) | exact absurd z.2 (by assumption))⟩)]; have pw := (RB_pu (x := va) r_RB r_QI (s := v2) (by omega) (by omega) (Re_y p2_m1 (by omega)).2.1 (i := ix) (by omega) (by omega) (by assumption) (fun z => by first | exact absurd (Int32.lt_iff_toInt_lt.mp z.1) (by omega) | exact absurd z.2 (by assumption)) (Re_y p2_m1 (by omega)).2.2.1); exact Ct_K pw.1.1 (Cp_4 r_VV pw.2.2 pw.2.1) r_CT; done) | (exfalso; omega; done) | (exfalso; contradiction; done))
        · skip
          have g63 := i_nlt h21
          have hV64 : zV (ma_u (zov wr_245 (ma_u m 94 0 (0 : Int32)) m1) 94 0 (3 : Int32)) := uf_94_0 hV_m1
          exact K ((0 : Int32)) _ (zF_u (zF_zov (zF_u zF_rfl rfl) ws_245_244) rfl) hV64 r_W r_GW r_GU r_OW r_GG r_WTS (show qRB (m 99) (m 100) (m 98) (m 101) (m 102) (m 103) (m 107) (m 108) (m 109) (m 111) (m 112) (m 113) (m 114) (m 94 55) (m 94 46) (m 94 11) (m 94 12) (m 94 62) (m 94 17) (m 94 9) (xPu aa ob ix va) from by first | (unfold xPu; rw [qIf_n (show ¬ (zRq aa ob ∧ zHw aa ob ix ∧ ¬ zIr aa ob ix) from fun w => Re_n p2_m1 (by omega) w.1)]; exact r_RB; done) | (unfold xPu; rw [qIf_n (show ¬ (zRq aa ob ∧ zHw aa ob ix ∧ ¬ zIr aa ob ix) from fun w => by have w2 := (Hw_y r_RB p2_m1 (by omega)).mp w.2.1; omega)]; exact r_RB; done) | (unfold xPu; rw [qIf_n (show ¬ (zRq aa ob ∧ zHw aa ob ix ∧ ¬ zIr aa ob ix) from fun w => w.2.2 ((Ir_y r_RB p2_m1 (by omega) (by omega) (by omega)).mpr (Or.inl (by assumption))))]; exact r_RB; done) | (unfold xPu; rw [qIf_n (show ¬ (zRq aa ob ∧ zHw aa ob ix ∧ ¬ zIr aa ob ix) from fun w => w.2.2 ((Ir_y r_RB p2_m1 (by omega) (by omega) (by omega)).mpr (Or.inr ⟨Int32.lt_iff_toInt_lt.mpr (by omega), by assumption⟩)))]; exact r_RB; done) | (exfalso; omega; done) | (exfalso; contradiction; done)) (show qI (xPu aa ob ix va) from by first | (unfold xPu; rw [qIf_n (show ¬ (zRq aa ob ∧ zHw aa ob ix ∧ ¬ zIr aa ob ix) from fun w => Re_n p2_m1 (by omega) w.1)]; exact r_QI; done) | (unfold xPu; rw [qIf_n (show ¬ (zRq aa ob ∧ zHw aa ob ix ∧ ¬ zIr aa ob ix) from fun w => by have w2 := (Hw_y r_RB p2_m1 (by omega)).mp w.2.1; omega)]; exact r_QI; done) | (unfold xPu; rw [qIf_n (show ¬ (zRq aa ob ∧ zHw aa ob ix ∧ ¬ zIr aa ob ix) from fun w => w.2.2 ((Ir_y r_RB p2_m1 (by omega) (by omega) (by omega)).mpr (Or.inl (by assumption))))]; exact r_QI; done) | (unfold xPu; rw [qIf_n (show ¬ (zRq aa ob ∧ zHw aa ob ix ∧ ¬ zIr aa ob ix) from fun w => w.2.2 ((Ir_y r_RB p2_m1 (by omega) (by omega) (by omega)).mpr (Or.inr ⟨Int32.lt_iff_toInt_lt.mpr (by omega), by assumption⟩)))]; exact r_QI; done) | (exfalso; omega; done) | (exfalso; contradiction; done)) (show (xPu aa ob ix va) 87 8 = (m 94 58) from by first | (unfold xPu; rw [qIf_n (show ¬ (zRq aa ob ∧ zHw aa ob ix ∧ ¬ zIr aa ob ix) from fun w => Re_n p2_m1 (by omega) w.1)]; exact r_MK; done) | (unfold xPu; rw [qIf_n (show ¬ (zRq aa ob ∧ zHw aa ob ix ∧ ¬ zIr aa ob ix) from fun w => by have w2 := (Hw_y r_RB p2_m1 (by omega)).mp w.2.1; omega)]; exact r_MK; done) | (unfold xPu; rw [qIf_n (show ¬ (zRq aa ob ∧ zHw aa ob ix ∧ ¬ zIr aa ob ix) from fun w => w.2.2 ((Ir_y r_RB p2_m1 (by omega) (by omega) (by omega)).mpr (Or.inl (by assumption))))]; exact r_MK; done) | (unfold xPu; rw [qIf_n (show ¬ (zRq aa ob ∧ zHw aa ob ix ∧ ¬ zIr aa ob ix) from fun w => w.2.2 ((Ir_y r_RB p2_m1 (by omega) (by omega) (by omega)).mpr (Or.inr ⟨Int32.lt_iff_toInt_lt.mpr (by omega), by assumption⟩)))]; exact r_MK; done) | (exfalso; omega; done) | (exfalso; contradiction; done)) (show cV (xPu aa ob ix va) [] B from by first | (unfold xPu; rw [qIf_n (show ¬ (zRq aa ob ∧ zHw aa ob ix ∧ ¬ zIr aa ob ix) from fun w => Re_n p2_m1 (by omega) w.1)]; exact r_VV; done) | (unfold xPu; rw [qIf_n (show ¬ (zRq aa ob ∧ zHw aa ob ix ∧ ¬ zIr aa ob ix) from fun w => by have w2 := (Hw_y r_RB p2_m1 (by omega)).mp w.2.1; omega)]; exact r_VV; done) | (unfold xPu; rw [qIf_n (show ¬ (zRq aa ob ∧ zHw aa ob ix ∧ ¬ zIr aa ob ix) from fun w => w.2.2 ((Ir_y r_RB p2_m1 (by omega) (by omega) (by omega)).mpr (Or.inl (by assumption))))]; exact r_VV; done) | (unfold xPu; rw [qIf_n (show ¬ (zRq aa ob ∧ zHw aa ob ix ∧ ¬ zIr aa ob ix) from fun w => w.2.2 ((Ir_y r_RB p2_m1 (by omega) (by omega) (by omega)).mpr (Or.inr ⟨Int32.lt_iff_toInt_lt.mpr (by omega), by assumption⟩)))]; exact r_VV; done) | (exfalso; omega; done) | (exfalso; contradiction; done)) (show qCt (m 105) (m 99) (m 100) (xPu aa ob ix va) [] (-1) (-1) from by first | (unfold xPu; rw [qIf_n (show ¬ (zRq aa ob ∧ zHw aa ob ix ∧ ¬ zIr aa ob ix) from fun w => Re_n p2_m1 (by omega) w.1)]; exact r_CT; done) | (unfold xPu; rw [qIf_n (show ¬ (zRq aa ob ∧ zHw aa ob ix ∧ ¬ zIr aa ob ix) from fun w => by have w2 := (Hw_y r_RB p2_m1 (by omega)).mp w.2.1; omega)]; exact r_CT; done) | (unfold xPu; rw [qIf_n (show ¬ (zRq aa ob ∧ zHw aa ob ix ∧ ¬ zIr aa ob ix) from fun w => w.2.2 ((Ir_y r_RB p2_m1 (by omega) (by omega) (by omega)).mpr (Or.inl (by assumption))))]; exact r_CT; done) | (unfold xPu; rw [qIf_n (show ¬ (zRq aa ob ∧ zHw aa ob ix ∧ ¬ zIr aa ob ix) from fun w => w.2.2 ((Ir_y r_RB p2_m1 (by omega) (by omega) (by omega)).mpr (Or.inr ⟨Int32.lt_iff_toInt_lt.mpr (by omega), by assumption⟩)))]; exact r_CT; done) | (exfalso; omega; done) | (exfalso; contradiction; done))
    · skip
      have g65 := i_nle h11
      have hV66 : zV (ma_u (zov wr_245 (ma_u m 94 0 (0 : Int32)) m1) 94 0 (2 : Int32)) := uf_94_0 hV_m1
      exact K ((0 : Int32)) _ (zF_u (zF_zov (zF_u zF_rfl rfl) ws_245_244) rfl) hV66 r_W r_GW r_GU r_OW r_GG r_WTS (show qRB (m 99) (m 100) (m 98) (m 101) (m 102) (m 103) (m 107) (m 108) (m 109) (m 111) (m 112) (m 113) (m 114) (m 94 55) (m 94 46) (m 94 11) (m 94 12) (m 94 62) (m 94 17) (m 94 9) (xPu aa ob ix va) from by first | (unfold xPu; rw [qIf_n (show ¬ (zRq aa ob ∧ zHw aa ob ix ∧ ¬ zIr aa ob ix) from fun w => Re_n p2_m1 (by omega) w.1)]; exact r_RB; done) | (unfold xPu; rw [qIf_n (show ¬ (zRq aa ob ∧ zHw aa ob ix ∧ ¬ zIr aa ob ix) from fun w => by have w2 := (Hw_y r_RB p2_m1 (by omega)).mp w.2.1; omega)]; exact r_RB; done) | (unfold xPu; rw [qIf_n (show ¬ (zRq aa ob ∧ zHw aa ob ix ∧ ¬ zIr aa ob ix) from fun w => w.2.2 ((Ir_y r_RB p2_m1 (by omega) (by omega) (by omega)).mpr (Or.inl (by assumption))))]; exact r_RB; done) | (unfold xPu; rw [qIf_n (show ¬ (zRq aa ob ∧ zHw aa ob ix ∧ ¬ zIr aa ob ix) from fun w => w.2.2 ((Ir_y r_RB p2_m1 (by omega) (by omega) (by omega)).mpr (Or.inr ⟨Int32.lt_iff_toInt_lt.mpr (by omega), by assumption⟩)))]; exact r_RB; done) | (exfalso; omega; done) | (exfalso; contradiction; done)) (show qI (xPu aa ob ix va) from by first | (unfold xPu; rw [qIf_n (show ¬ (zRq aa ob ∧ zHw aa ob ix ∧ ¬ zIr aa ob ix) from fun w => Re_n p2_m1 (by omega) w.1)]; exact r_QI; done) | (unfold xPu; rw [qIf_n (show ¬ (zRq aa ob ∧ zHw aa ob ix ∧ ¬ zIr aa ob ix) from fun w => by have w2 := (Hw_y r_RB p2_m1 (by omega)).mp w.2.1; omega)]; exact r_QI; done) | (unfold xPu; rw [qIf_n (show ¬ (zRq aa ob ∧ zHw aa ob ix ∧ ¬ zIr aa ob ix) from fun w => w.2.2 ((Ir_y r_RB p2_m1 (by omega) (by omega) (by omega)).mpr (Or.inl (by assumption))))]; exact r_QI; done) | (unfold xPu; rw [qIf_n (show ¬ (zRq aa ob ∧ zHw aa ob ix ∧ ¬ zIr aa ob ix) from fun w => w.2.2 ((Ir_y r_RB p2_m1 (by omega) (by omega) (by omega)).mpr (Or.inr ⟨Int32.lt_iff_toInt_lt.mpr (by omega), by assumption⟩)))]; exact r_QI; done) | (exfalso; omega; done) | (exfalso; contradiction; done)) (show (xPu aa ob ix va) 87 8 = (m 94 58) from by first | (unfold xPu; rw [qIf_n (show ¬ (zRq aa ob ∧ zHw aa ob ix ∧ ¬ zIr aa ob ix) from fun w => Re_n p2_m1 (by omega) w.1)]; exact r_MK; done) | (unfold xPu; rw [qIf_n (show ¬ (zRq aa ob ∧ zHw aa ob ix ∧ ¬ zIr aa ob ix) from fun w => by have w2 := (Hw_y r_RB p2_m1 (by omega)).mp w.2.1; omega)]; exact r_MK; done) | (unfold xPu; rw [qIf_n (show ¬ (zRq aa ob ∧ zHw aa ob ix ∧ ¬ zIr aa ob ix) from fun w => w.2.2 ((Ir_y r_RB p2_m1 (by omega) (by omega) (by omega)).mpr (Or.inl (by assumption))))]; exact r_MK; done) | (unfold xPu; rw [qIf_n (show ¬ (zRq aa ob ∧ zHw aa ob ix ∧ ¬ zIr aa ob ix) from fun w => w.2.2 ((Ir_y r_RB p2_m1 (by omega) (by omega) (by omega)).mpr (Or.inr ⟨Int32.lt_iff_toInt_lt.mpr (by omega), by assumption⟩)))]; exact r_MK; done) | (exfalso; omega; done) | (exfalso; contradiction; done)) (show cV (xPu aa ob ix va) [] B from by first | (unfold xPu; rw [qIf_n (show ¬ (zRq aa ob ∧ zHw aa ob ix ∧ ¬ zIr aa ob ix) from fun w => Re_n p2_m1 (by omega) w.1)]; exact r_VV; done) | (unfold xPu; rw [qIf_n (show ¬ (zRq aa ob ∧ zHw aa ob ix ∧ ¬ zIr aa ob ix) from fun w => by have w2 := (Hw_y r_RB p2_m1 (by omega)).mp w.2.1; omega)]; exact r_VV; done) | (unfold xPu; rw [qIf_n (show ¬ (zRq aa ob ∧ zHw aa ob ix ∧ ¬ zIr aa ob ix) from fun w => w.2.2 ((Ir_y r_RB p2_m1 (by omega) (by omega) (by omega)).mpr (Or.inl (by assumption))))]; exact r_VV; done) | (unfold xPu; rw [qIf_n (show ¬ (zRq aa ob ∧ zHw aa ob ix ∧ ¬ zIr aa ob ix) from fun w => w.2.2 ((Ir_y r_RB p2_m1 (by omega) (by omega) (by omega)).mpr (Or.inr ⟨Int32.lt_iff_toInt_lt.mpr (by omega), by assumption⟩)))]; exact r_VV; done) | (exfalso; omega; done) | (exfalso; contradiction; done)) (show qCt (m 105) (m 99) (m 100) (xPu aa ob ix va) [] (-1) (-1) from by first | (unfold xPu; rw [qIf_n (show ¬ (zRq aa ob ∧ zHw aa ob ix ∧ ¬ zIr aa ob ix) from fun w => Re_n p2_m1 (by omega) w.1)]; exact r_CT; done) | (unfold xPu; rw [qIf_n (show ¬ (zRq aa ob ∧ zHw aa ob ix ∧ ¬ zIr aa ob ix) from fun w => by have w2 := (Hw_y r_RB p2_m1 (by omega)).mp w.2.1; omega)]; exact r_CT; done) | (unfold xPu; rw [qIf_n (show ¬ (zRq aa ob ∧ zHw aa ob ix ∧ ¬ zIr aa ob ix) from fun w => w.2.2 ((Ir_y r_RB p2_m1 (by omega) (by omega) (by omega)).mpr (Or.inl (by assumption))))]; exact r_CT; done) | (unfold xPu; rw [qIf_n (show ¬ (zRq aa ob ∧ zHw aa ob ix ∧ ¬ zIr aa ob ix) from fun w => w.2.2 ((Ir_y r_RB p2_m1 (by omega) (by omega) (by omega)).mpr (Or.inr ⟨Int32.lt_iff_toInt_lt.mpr (by omega), by assumption⟩)))]; exact r_CT; done) | (exfalso; omega; done) | (exfalso; contradiction; done))

