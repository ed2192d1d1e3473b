/-! from 95.m21 -/
/-! COUNTS, the class (written by wip/tools/gen20k.py) -/
theorem g_87_69_sk_0 {X : Nat × (Nat → Int32)} {d w : Nat} {S : ma_S} {Q : Option ma_V ⊕ Nat → ma_S → Prop} (t : Nat) (hd : 1 ≤ d) (hw : 25 ≤ w) (hS : zT S) (h : ma_wp X (d - 1) (w - 22) 85 0 [(0, .inr (.inr (some 69))), (1, .inr (.inr (some t)))] [] S (zv (fun S1 => zT S1 ∧ (ma_wp X d w 87 7 [(0, .inr (.inr (some 69))), (1, .inr (.inr (some t))), (2, .inl (0 : Int32))] [] S1 Q)) (fun x S9 => Q (.inr x) S9))) : ma_wp X d w 87 0 [(0, .inr (.inr (some 69))), (1, .inr (.inr (some t)))] [] S Q := by
  refine zw_push hm_87 dX7_remove_0 (v := .inr (.inr (some 69))) rfl ?_
  refine zw_push hm_87 dX7_remove_1 (v := .inr (.inr (some t))) rfl ?_
  refine zw_cv hm_87 dX7_remove_2 v_7_104_7 hm_85 [.inr (.inr (some t))] [] rfl (zT_rt hS s_69 rfl) ⟨by omega, by omega⟩ rfl (zw_mono h (zv_go ?_ ?_))
  · intro S1 hv
    obtain ⟨hS1, h⟩ := hv
    refine zw_push hm_87 dX7_remove_5 (v := .inl (0 : Int32)) rfl ?_
    refine zw_sto hm_87 dX7_remove_6 [(2, .inl (0 : Int32)), (0, .inr (.inr (some 69))), (1, .inr (.inr (some t)))] rfl rfl rfl ?_
    exact zw_sub (ma_nd_of (ks := [0, 1, 2]) rfl (by decide)) (ma_nd_of (ks := [2, 0, 1]) rfl (by decide)) (ma_le_cons rfl (ma_le_cons rfl (ma_le_cons rfl (ma_le_nil _)))) h
  · intro x S9 hx
    exact ⟨by decide, hx⟩
theorem g_87_69_sk_7 {X : Nat × (Nat → Int32)} {d w : Nat} {S : ma_S} {Q : Option ma_V ⊕ Nat → ma_S → Prop} (l1 : Nat) (l2 : Int32) (hd : 1 ≤ d) (hw : 25 ≤ w) (hS : zT S) (h : (126 ≤ l1 ∧ l1 < mN S) ∧ (if ((mI S l1 2) - (1 : Int32)) ≤ l2 then ((126 ≤ l1 ∧ l1 < mN S) ∧ ((126 ≤ l1 ∧ l1 < mN S) ∧ ((126 ≤ l1 ∧ l1 < mN S) ∧ (ma_wp X (d - 1) (w - 23) 88 0 [(0, .inr (.inr (some 69))), (1, .inl (mI S l1 4)), (2, .inl ((mI S l1 4) + (mI S l1 2)))] [] S (zv (fun S1 => zT S1 ∧ ((126 ≤ l1 ∧ l1 < mN S1) ∧ (if (512 : Int32) ≤ (mI S1 l1 0) then ((126 ≤ l1 ∧ l1 < mN (ma_put S1 69 7 (.inl ((mI S1 69 7) - (1 : Int32))))) ∧ ((126 ≤ l1 ∧ l1 < mN (ma_put (ma_put S1 69 7 (.inl ((mI S1 69 7) - (1 : Int32)))) 69 8 (.inl ((mI S1 69 8) - (mI (ma_put S1 69 7 (.inl ((mI S1 69 7) - (1 : Int32)))) l1 2))))) ∧ (Q (.inl none) (ma_put (ma_put (ma_put S1 69 7 (.inl ((mI S1 69 7) - (1 : Int32)))) 69 8 (.inl ((mI S1 69 8) - (mI (ma_put S1 69 7 (.inl ((mI S1 69 7) - (1 : Int32)))) l1 2)))) 69 11 (.inl ((mI S1 69 11) + (mI (ma_put (ma_put S1 69 7 (.inl ((mI S1 69 7) - (1 : Int32)))) 69 8 (.inl ((mI S1 69 8) - (mI (ma_put S1 69 7 (.inl ((mI S1 69 7) - (1 : Int32)))) l1 2)))) l1 2))))))) else ((126 ≤ l1 ∧ l1 < mN S1) ∧ ((0 ≤ (mI S1 l1 0) ∧ (mI S1 l1 0).toNatClampNeg < 512) ∧ ((126 ≤ l1 ∧ l1 < mN (ma_put (ma_put S1 70 (mI S1 l1 0).toNatClampNeg (.inr (.inr none))) 69 7 (.inl ((mI S1 69 7) - (1 : Int32))))) ∧ ((126 ≤ l1 ∧ l1 < mN (ma_put (ma_put (ma_put S1 70 (mI S1 l1 0).toNatClampNeg (.inr (.inr none))) 69 7 (.inl ((mI S1 69 7) - (1 : Int32)))) 69 8 (.inl ((mI S1 69 8) - (mI (ma_put (ma_put S1 70 (mI S1 l1 0).toNatClampNeg (.inr (.inr none))) 69 7 (.inl ((mI S1 69 7) - (1 : Int32)))) l1 2))))) ∧ (Q (.inl none) (ma_put (ma_put (ma_put (ma_put S1 70 (mI S1 l1 0).toNatClampNeg (.inr (.inr none))) 69 7 (.inl ((mI S1 69 7) - (1 : Int32)))) 69 8 (.inl ((mI S1 69 8) - (mI (ma_put (ma_put S1 70 (mI S1 l1 0).toNatClampNeg (.inr (.inr none))) 69 7 (.inl ((mI S1 69 7) - (1 : Int32)))) l1 2)))) 69 11 (.inl ((mI S1 69 11) + (mI (ma_put (ma_put (ma_put S1 70 (mI S1 l1 0).toNatClampNeg (.inr (.inr none))) 69 7 (.inl ((mI S1 69 7) - (1 : Int32)))) 69 8 (.inl ((mI S1 69 8) - (mI (ma_put (ma_put S1 70 (mI S1 l1 0).toNatClampNeg (.inr (.inr none))) 69 7 (.inl ((mI S1 69 7) - (1 : Int32)))) l1 2)))) l1 2)))))))))))) (fun x S9 => Q (.inr x) S9)))))) else (ma_wp X (d - 1) (w - 25) 82 0 [(0, .inr (.inr (some 69))), (1, .inr (.inr (some l1))), (2, .inl l2)] [] S (zo (fun v4 S3 => zT S3 ∧ ((v4 = none → ma_wp X d w 87 7 [(0, .inr (.inr (some 69))), (1, .inr (.inr (some l1))), (2, .inl (l2 + (1 : Int32)))] [] S3 Q) ∧ (∀ c5, v4 = some c5 → (126 ≤ c5 ∧ c5 < mN S3) ∧ ((126 ≤ c5 ∧ c5 < mN S3) ∧ (ma_wp X d w 87 7 [(0, .inr (.inr (some 69))), (1, .inr (.inr (some l1))), (2, .inl (l2 + (1 : Int32)))] [] (ma_put S3 c5 6 (.inl ((mI S3 c5 6) - (1 : Int32)))) Q))))) (fun x S9 => Q (.inr x) S9))))) : ma_wp X d w 87 7 [(0, .inr (.inr (some 69))), (1, .inr (.inr (some l1))), (2, .inl l2)] [] S Q := by
  refine zw_push hm_87 dX7_remove_7 (v := .inl l2) rfl ?_
  refine zw_push hm_87 dX7_remove_8 (v := .inr (.inr (some l1))) rfl ?_
  obtain ⟨hg, h⟩ := h
  refine zw_gf hm_87 dX7_remove_9 (v := .inl (mI S l1 2)) (zT_tis hS hg) (zT_tt hS hg) rfl f_7_64_9 rfl ?_
  refine zw_push hm_87 dX7_remove_12 (v := .inl (1 : Int32)) rfl ?_
  refine zw_stk hm_87 dX7_remove_13 (st₉ := [.inl ((mI S l1 2) - (1 : Int32)), .inl l2]) rfl rfl ?_
  refine zw_if2 hm_87 dX7_remove_14 (t := 44) rfl zc2_ge ?_ ?_
  · intro hc
    rw [if_pos hc] at h
    refine zw_push hm_87 dX7_remove_44 (v := .inr (.inr (some 69))) rfl ?_
    refine zw_push hm_87 dX7_remove_45 (v := .inr (.inr (some l1))) rfl ?_
    obtain ⟨hg, h⟩ := h
    refine zw_gf hm_87 dX7_remove_46 (v := .inl (mI S l1 4)) (zT_tis hS hg) (zT_tt hS hg) rfl f_7_61_9 rfl ?_
    refine zw_push hm_87 dX7_remove_49 (v := .inr (.inr (some l1))) rfl ?_
    obtain ⟨hg, h⟩ := h
    refine zw_gf hm_87 dX7_remove_50 (v := .inl (mI S l1 4)) (zT_tis hS hg) (zT_tt hS hg) rfl f_7_61_9 rfl ?_
    refine zw_push hm_87 dX7_remove_53 (v := .inr (.inr (some l1))) rfl ?_
    obtain ⟨hg, h⟩ := h
    refine zw_gf hm_87 dX7_remove_54 (v := .inl (mI S l1 2)) (zT_tis hS hg) (zT_tt hS hg) rfl f_7_64_9 rfl ?_
    refine zw_stk hm_87 dX7_remove_57 (st₉ := [.inl ((mI S l1 4) + (mI S l1 2)), .inl (mI S l1 4), .inr (.inr (some 69))]) rfl rfl ?_
    refine zw_cv hm_87 dX7_remove_58 v_7_112_7 hm_88 [.inl ((mI S l1 4) + (mI S l1 2)), .inl (mI S l1 4)] [] rfl (zT_rt hS s_69 rfl) ⟨by omega, by omega⟩ rfl (zw_mono h (zv_go ?_ ?_))
    · intro S1 hv
      obtain ⟨hS1, h⟩ := hv
      refine zw_push hm_87 dX7_remove_61 (v := .inr (.inr (some l1))) rfl ?_
      obtain ⟨hg, h⟩ := h
      refine zw_gf hm_87 dX7_remove_62 (v := .inl (mI S1 l1 0)) (zT_tis hS1 hg) (zT_tt hS1 hg) rfl f_7_67_9 rfl ?_
      refine zw_push hm_87 dX7_remove_65 (v := .inl (512 : Int32)) rfl ?_
      refine zw_if2 hm_87 dX7_remove_68 (t := 81) rfl zc2_ge ?_ ?_
      · intro hc
        rw [if_pos hc] at h
        refine zw_push hm_87 dX7_remove_81 (v := .inr (.inr (some 69))) rfl ?_
        refine zw_stk hm_87 dX7_remove_82 (st₉ := [.inr (.inr (some 69)), .inr (.inr (some 69))]) rfl rfl ?_
        refine zw_gf hm_87 dX7_remove_83 (v := .inl (mI S1 69 7)) (zT_is hS1 s_69) (zT_t hS1 s_69) rfl f_7_43_7 rfl ?_
        refine zw_push hm_87 dX7_remove_86 (v := .inl (1 : Int32)) rfl ?_
        refine zw_stk hm_87 dX7_remove_87 (st₉ := [.inl ((mI S1 69 7) - (1 : Int32)), .inr (.inr (some 69))]) rfl rfl ?_
        refine zw_pf hm_87 dX7_remove_88 (zT_is hS1 s_69) (zT_t hS1 s_69) p_7_43_7 zk_int ?_
        refine zw_push hm_87 dX7_remove_91 (v := .inr (.inr (some 69))) rfl ?_
        refine zw_stk hm_87 dX7_remove_92 (st₉ := [.inr (.inr (some 69)), .inr (.inr (some 69))]) rfl rfl ?_
        refine zw_gf hm_87 dX7_remove_93 (v := .inl (mI S1 69 8)) (zT_is (zT_pi hS1) s_69) (zT_t (zT_pi hS1) s_69) rfl f_7_46_7 rfl ?_
        refine zw_push hm_87 dX7_remove_96 (v := .inr (.inr (some l1))) rfl ?_
        obtain ⟨hg, h⟩ := h
        refine zw_gf hm_87 dX7_remove_97 (v := .inl (mI (ma_put S1 69 7 (.inl ((mI S1 69 7) - (1 : Int32)))) l1 2)) (zT_tis (zT_pi hS1) hg) (zT_tt (zT_pi hS1) hg) rfl f_7_64_9 rfl ?_
        refine zw_stk hm_87 dX7_remove_100 (st₉ := [.inl ((mI S1 69 8) - (mI (ma_put S1 69 7 (.inl ((mI S1 69 7) - (1 : Int32)))) l1 2)), .inr (.inr (some 69))]) rfl rfl ?_
        refine zw_pf hm_87 dX7_remove_101 (zT_is (zT_pi hS1) s_69) (zT_t (zT_pi hS1) s_69) p_7_46_7 zk_int ?_
        refine zw_push hm_87 dX7_remove_104 (v := .inr (.inr (some 69))) rfl ?_
        refine zw_stk hm_87 dX7_remove_105 (st₉ := [.inr (.inr (some 69)), .inr (.inr (some 69))]) rfl rfl ?_
        refine zw_gf hm_87 dX7_remove_106 (v := .inl (mI S1 69 11)) (zT_is (zT_pi (zT_pi hS1)) s_69) (zT_t (zT_pi (zT_pi hS1)) s_69) rfl f_7_55_7 rfl ?_
        refine zw_push hm_87 dX7_remove_109 (v := .inr (.inr (some l1))) rfl ?_
        obtain ⟨hg, h⟩ := h
        refine zw_gf hm_87 dX7_remove_110 (v := .inl (mI (ma_put (ma_put S1 69 7 (.inl ((mI S1 69 7) - (1 : Int32)))) 69 8 (.inl ((mI S1 69 8) - (mI (ma_put S1 69 7 (.inl ((mI S1 69 7) - (1 : Int32)))) l1 2)))) l1 2)) (zT_tis (zT_pi (zT_pi hS1)) hg) (zT_tt (zT_pi (zT_pi hS1)) hg) rfl f_7_64_9 rfl ?_
        refine zw_stk hm_87 dX7_remove_113 (st₉ := [.inl ((mI S1 69 11) + (mI (ma_put (ma_put S1 69 7 (.inl ((mI S1 69 7) - (1 : Int32)))) 69 8 (.inl ((mI S1 69 8) - (mI (ma_put S1 69 7 (.inl ((mI S1 69 7) - (1 : Int32)))) l1 2)))) l1 2)), .inr (.inr (some 69))]) rfl rfl ?_
        refine zw_pf hm_87 dX7_remove_114 (zT_is (zT_pi (zT_pi hS1)) s_69) (zT_t (zT_pi (zT_pi hS1)) s_69) p_7_55_7 zk_int ?_
        exact zw_vret hm_87 dX7_remove_117 h
      · intro hc
        rw [if_neg hc] at h
        refine zw_push hm_87 dX7_remove_71 (v := .inr (.inr (some 69))) rfl ?_
        refine zw_gf hm_87 dX7_remove_72 (v := .inr (.inr (some 70))) (zT_is hS1 s_69) (zT_t hS1 s_69) rfl f_7_11_7 (zT_f hS1 r_69_0) ?_
        refine zw_push hm_87 dX7_remove_75 (v := .inr (.inr (some l1))) rfl ?_
        obtain ⟨hg, h⟩ := h
        refine zw_gf hm_87 dX7_remove_76 (v := .inl (mI S1 l1 0)) (zT_tis hS1 hg) (zT_tt hS1 hg) rfl f_7_67_9 rfl ?_
        refine zw_push hm_87 dX7_remove_79 (v := .inr (.inr none)) rfl ?_
        obtain ⟨hg, h⟩ := h
        refine zw_aas hm_87 dX7_remove_80 (zT_is hS1 s_70) (zT_h hS1 s_70) rfl hg (fun _ z => by cases z) ?_
        refine zw_push hm_87 dX7_remove_81 (v := .inr (.inr (some 69))) rfl ?_
        refine zw_stk hm_87 dX7_remove_82 (st₉ := [.inr (.inr (some 69)), .inr (.inr (some 69))]) rfl rfl ?_
        refine zw_gf hm_87 dX7_remove_83 (v := .inl (mI S1 69 7)) (zT_is (zT_pr hS1 (zfi_row (by decide +kernel))) s_69) (zT_t (zT_pr hS1 (zfi_row (by decide +kernel))) s_69) rfl f_7_43_7 rfl ?_
        refine zw_push hm_87 dX7_remove_86 (v := .inl (1 : Int32)) rfl ?_
        refine zw_stk hm_87 dX7_remove_87 (st₉ := [.inl ((mI S1 69 7) - (1 : Int32)), .inr (.inr (some 69))]) rfl rfl ?_
        refine zw_pf hm_87 dX7_remove_88 (zT_is (zT_pr hS1 (zfi_row (by decide +kernel))) s_69) (zT_t (zT_pr hS1 (zfi_row (by decide +kernel))) s_69) p_7_43_7 zk_int ?_
        refine zw_push hm_87 dX7_remove_91 (v := .inr (.inr (some 69))) rfl ?_
        refine zw_stk hm_87 dX7_remove_92 (st₉ := [.inr (.inr (some 69)), .inr (.inr (some 69))]) rfl rfl ?_
        refine zw_gf hm_87 dX7_remove_93 (v := .inl (mI S1 69 8)) (zT_is (zT_pi (zT_pr hS1 (zfi_row (by decide +kernel)))) s_69) (zT_t (zT_pi (zT_pr hS1 (zfi_row (by decide +kernel)))) s_69) rfl f_7_46_7 rfl ?_
        refine zw_push hm_87 dX7_remove_96 (v := .inr (.inr (some l1))) rfl ?_
        obtain ⟨hg, h⟩ := h
        refine zw_gf hm_87 dX7_remove_97 (v := .inl (mI (ma_put (ma_put S1 70 (mI S1 l1 0).toNatClampNeg (.inr (.inr none))) 69 7 (.inl ((mI S1 69 7) - (1 : Int32)))) l1 2)) (zT_tis (zT_pi (zT_pr hS1 (zfi_row (by decide +kernel)))) hg) (zT_tt (zT_pi (zT_pr hS1 (zfi_row (by decide +kernel)))) hg) rfl f_7_64_9 rfl ?_
        refine zw_stk hm_87 dX7_remove_100 (st₉ := [.inl ((mI S1 69 8) - (mI (ma_put (ma_put S1 70 (mI S1 l1 0).toNatClampNeg (.inr (.inr none))) 69 7 (.inl ((mI S1 69 7) - (1 : Int32)))) l1 2)), .inr (.inr (some 69))]) rfl rfl ?_
        refine zw_pf hm_87 dX7_remove_101 (zT_is (zT_pi (zT_pr hS1 (zfi_row (by decide +kernel)))) s_69) (zT_t (zT_pi (zT_pr hS1 (zfi_row (by decide +kernel)))) s_69) p_7_46_7 zk_int ?_
        refine zw_push hm_87 dX7_remove_104 (v := .inr (.inr (some 69))) rfl ?_
        refine zw_stk hm_87 dX7_remove_105 (st₉ := [.inr (.inr (some 69)), .inr (.inr (some 69))]) rfl rfl ?_
        refine zw_gf hm_87 dX7_remove_106 (v := .inl (mI S1 69 11)) (zT_is (zT_pi (zT_pi (zT_pr hS1 (zfi_row (by decide +kernel))))) s_69) (zT_t (zT_pi (zT_pi (zT_pr hS1 (zfi_row (by decide +kernel))))) s_69) rfl f_7_55_7 rfl ?_
        refine zw_push hm_87 dX7_remove_109 (v := .inr (.inr (some l1))) rfl ?_
        obtain ⟨hg, h⟩ := h
        refine zw_gf hm_87 dX7_remove_110 (v := .inl (mI (ma_put (ma_put (ma_put S1 70 (mI S1 l1 0).toNatClampNeg (.inr (.inr none))) 69 7 (.inl ((mI S1 69 7) - (1 : Int32)))) 69 8 (.inl ((mI S1 69 8) - (mI (ma_put (ma_put S1 70 (mI S1 l1 0).toNatClampNeg (.inr (.inr none))) 69 7 (.inl ((mI S1 69 7) - (1 : Int32)))) l1 2)))) l1 2)) (zT_tis (zT_pi (zT_pi (zT_pr hS1 (zfi_row (by decide +kernel))))) hg) (zT_tt (zT_pi (zT_pi (zT_pr hS1 (zfi_row (by decide +kernel))))) hg) rfl f_7_64_9 rfl ?_
        refine zw_stk hm_87 dX7_remove_113 (st₉ := [.inl ((mI S1 69 11) + (mI (ma_put (ma_put (ma_put S1 70 (mI S1 l1 0).toNatClampNeg (.inr (.inr none))) 69 7 (.inl ((mI S1 69 7) - (1 : Int32)))) 69 8 (.inl ((mI S1 69 8) - (mI (ma_put (ma_put S1 70 (mI S1 l1 0).toNatClampNeg (.inr (.inr none))) 69 7 (.inl ((mI S1 69 7) - (1 : Int32)))) l1 2)))) l1 2)), .inr (.inr (some 69))]) rfl rfl ?_
        refine zw_pf hm_87 dX7_remove_114 (zT_is (zT_pi (zT_pi (zT_pr hS1 (zfi_row (by decide +kernel))))) s_69) (zT_t (zT_pi (zT_pi (zT_pr hS1 (zfi_row (by decide +kernel))))) s_69) p_7_55_7 zk_int ?_
        exact zw_vret hm_87 dX7_remove_117 h
    · intro x S9 hx
      exact ⟨by decide, hx⟩
  · intro hc
    rw [if_neg hc] at h
    refine zw_push hm_87 dX7_remove_17 (v := .inr (.inr (some 69))) rfl ?_
    refine zw_push hm_87 dX7_remove_18 (v := .inr (.inr (some l1))) rfl ?_
    refine zw_push hm_87 dX7_remove_19 (v := .inl l2) rfl ?_
    refine zw_cv hm_87 dX7_remove_20 v_7_78_7 hm_82 [.inl l2, .inr (.inr (some l1))] [] rfl (zT_rt hS s_69 rfl) ⟨by omega, by omega⟩ rfl (zw_mono h (zo_go ?_ ?_))
    · intro v4 S3 hv
      obtain ⟨hS3, h⟩ := hv
      refine zw_sto hm_87 dX7_remove_23 [(3, .inr (.inr v4)), (0, .inr (.inr (some 69))), (1, .inr (.inr (some l1))), (2, .inl l2)] rfl rfl rfl ?_
      refine zw_push hm_87 dX7_remove_24 (v := .inr (.inr v4)) rfl ?_
      refine zw_ifnull hm_87 dX7_remove_25 (t := 38) rfl ?_ ?_
      · intro hc
        have h := h.1 hc
        (try rw [hc])
        show ma_wp X d w 87 38 [(3, .inr (.inr none)), (0, .inr (.inr (some 69))), (1, .inr (.inr (some l1))), (2, .inl l2)] [] S3 _
        refine zw_sto hm_87 dX7_remove_38 [(2, .inl (l2 + (1 : Int32))), (3, .inr (.inr none)), (0, .inr (.inr (some 69))), (1, .inr (.inr (some l1)))] rfl rfl rfl ?_
        refine zw_goto hm_87 dX7_remove_41 (t := 7) rfl ?_
        exact zw_sub (ma_nd_of (ks := [0, 1, 2]) rfl (by decide)) (ma_nd_of (ks := [2, 3, 0, 1]) rfl (by decide)) (ma_le_cons rfl (ma_le_cons rfl (ma_le_cons rfl (ma_le_nil _)))) h
      · intro c5 hc
        have h := h.2 c5 hc
        (try rw [hc])
        show ma_wp X d w 87 28 [(3, .inr (.inr (some c5))), (0, .inr (.inr (some 69))), (1, .inr (.inr (some l1))), (2, .inl l2)] [] S3 _
        refine zw_push hm_87 dX7_remove_28 (v := .inr (.inr (some c5))) rfl ?_
        refine zw_stk hm_87 dX7_remove_29 (st₉ := [.inr (.inr (some c5)), .inr (.inr (some c5))]) rfl rfl ?_
        obtain ⟨hg, h⟩ := h
        refine zw_gf hm_87 dX7_remove_30 (v := .inl (mI S3 c5 6)) (zT_tis hS3 hg) (zT_tt hS3 hg) rfl f_7_98_9 rfl ?_
        refine zw_push hm_87 dX7_remove_33 (v := .inl (1 : Int32)) rfl ?_
        refine zw_stk hm_87 dX7_remove_34 (st₉ := [.inl ((mI S3 c5 6) - (1 : Int32)), .inr (.inr (some c5))]) rfl rfl ?_
        obtain ⟨hg, h⟩ := h
        refine zw_pf hm_87 dX7_remove_35 (zT_tis hS3 hg) (zT_tt hS3 hg) p_7_98_9 zk_int ?_
        refine zw_sto hm_87 dX7_remove_38 [(2, .inl (l2 + (1 : Int32))), (3, .inr (.inr (some c5))), (0, .inr (.inr (some 69))), (1, .inr (.inr (some l1)))] rfl rfl rfl ?_
        refine zw_goto hm_87 dX7_remove_41 (t := 7) rfl ?_
        exact zw_sub (ma_nd_of (ks := [0, 1, 2]) rfl (by decide)) (ma_nd_of (ks := [2, 3, 0, 1]) rfl (by decide)) (ma_le_cons rfl (ma_le_cons rfl (ma_le_cons rfl (ma_le_nil _)))) h
    · intro x S9 hx
      exact ⟨by decide, hx⟩
theorem lp_87_69_sk_7 {X : Nat × (Nat → Int32)} {d w : Nat} {f : Nat → Nat → Int32} {r : Nat → Nat → Option Nat} {C Z N : Nat} {Q : Option ma_V ⊕ Nat → ma_S → Prop} {ab : Nat→Nat→Int32} {R : zRT} {W : Nat} {kk : Nat→Int32} {y : Int32} {n0 : Nat→Nat→Int32} (hd : 1 ≤ d) (hw : 25 ≤ w) (K : ∀ S₉, zI f r C Z N S₉ → (xB S₉ (zRu R y.toNatClampNeg none)) → (aS W S₉ = aRm ab y) → (∀ n, xAl ab n → n ≠ y.toNatClampNeg → kC S₉ n = kk n - Int32.ofNat (cOb ab y.toNatClampNeg n)) → (zN0 S₉ = n0) → Q (.inl none) S₉) : ∀ (n : Nat) (S : ma_S) (l1 : Nat) (l2 : Int32), (61 - l2.toInt).toNat = n → zI f r C Z N S → (126 ≤ l1 ∧ l1 < N) → (0 ≤ l2.toInt) → (l2.toInt ≤ 60) → (xB S R) → (xW W) → (zTa R y = some l1) → (aS W S = zUw ab y 16) → (l2.toInt ≤ (ab 128 y.toNatClampNeg).toInt - 1) → (∀ n, xAl ab n → kC S n = kk n - Int32.ofNat (cSu (fun i => cIs (aRef ab y.toNatClampNeg (Int32.ofNat i)) n) l2.toInt.toNat)) → (zN0 S = n0) → ma_wp X d w 87 7 [(0, .inr (.inr (some 69))), (1, .inr (.inr (some l1))), (2, .inl l2)] [] S Q := by
  intro n
  induction n using Nat.strongRecOn with
  | _ n IH =>
    intro S l1 l2 hmu hI th_l1 hi0 hi1 hi2 hi3 hi4 hi5 hi6 hi7 hi8
    refine g_87_69_sk_7 l1 l2 (by omega) (by omega) (zG_T hI) ?_
    refine ⟨zG_n hI th_l1, ?_⟩
    have f1 := zG_th hI th_l1
    first | have e2 : ((mI S l1 2) - (1 : Int32)).toInt = (mI S l1 2).toInt - (1) := i_subk rfl (by omega) (by omega) | have b3 := i_bd ((mI S l1 2) - (1 : Int32))
    have b4 := i_bd l2
    refine zd (fun h5 => ?_) (fun h5 => ?_)
    · skip
      have g6 := i_le h5
      refine ⟨zG_n hI th_l1, ?_⟩
      refine ⟨zG_n hI th_l1, ?_⟩
      refine ⟨zG_n hI th_l1, ?_⟩
      have f7 := zG_th hI th_l1
      first | have e8 : ((mI S l1 4) + (mI S l1 2)).toInt = (mI S l1 4).toInt + (mI S l1 2).toInt := i_add (by omega) (by omega) | have b9 := i_bd ((mI S l1 4) + (mI S l1 2))
      refine sp_88_69_sk (ab := (aS W S)) (R := R) (W := W) (kk := (kC S)) (n0 := n0) ((mI S l1 4)) (((mI S l1 4) + (mI S l1 2))) (by omega) (by omega) hI (show xB S R from by first | (exact (xC_o (W := 75) hi2).2)) (show aS W S = (aS W S) from by first | (exact rfl)) (show xW W from by first | (exact hi3) | (exact xW88) | (exact xW75)) (by omega) (show kC S = (kC S) from by first | (exact rfl)) (show zN0 S = n0 from by first | (exact hi8)) (fun S1 hI_S1 rp0_S1 rp1_S1 rp2_S1 rp3_S1 => zv_n ⟨zG_T hI_S1, ?_⟩)
      have rp0_S1 : xB S1 R := rp0_S1
      have rp1_S1 : aS W S1 = zFr (aS W S) (mI S l1 4).toInt (zMin ((mI S l1 4) + (mI S l1 2)).toInt) := rp1_S1
      have rp2_S1 : kC S1 = (kC S) := rp2_S1
      have rp3_S1 : zN0 S1 = n0 := rp3_S1
      refine ⟨zG_n hI_S1 th_l1, ?_⟩
      have li10 : (512 : Int32).toInt = 512 := rfl
      have f11 := zG_th hI_S1 th_l1
      refine zd (fun h12 => ?_) (fun h12 => ?_)
      · skip
        have g13 := i_le h12
        have hI14 : zI f r C Z N (ma_put S1 69 7 (.inl ((mI S1 69 7) - (1 : Int32)))) := zG_fr hI_S1 rfl (by decide) (by decide) (by decide) trivial
        refine ⟨zG_n hI14 th_l1, ?_⟩
        have hI15 : zI f r C Z N (ma_put (ma_put S1 69 7 (.inl ((mI S1 69 7) - (1 : Int32)))) 69 8 (.inl ((mI S1 69 8) - (mI (ma_put S1 69 7 (.inl ((mI S1 69 7) - (1 : Int32)))) l1 2)))) := zG_fr hI14 rfl (by decide) (by decide) (by decide) trivial
        refine ⟨zG_n hI15 th_l1, ?_⟩
        have hI16 : zI f r C Z N (ma_put (ma_put (ma_put S1 69 7 (.inl ((mI S1 69 7) - (1 : Int32)))) 69 8 (.inl ((mI S1 69 8) - (mI (ma_put S1 69 7 (.inl ((mI S1 69 7) - (1 : Int32)))) l1 2)))) 69 11 (.inl ((mI S1 69 11) + (mI (ma_put (ma_put S1 69 7 (.inl ((mI S1 69 7) - (1 : Int32)))) 69 8 (.inl ((mI S1 69 8) - (mI (ma_put S1 69 7 (.inl ((mI S1 69 7) - (1 : Int32)))) l1 2)))) l1 2)))) := zG_fr hI15 rfl (by decide) (by decide) (by decide) trivial
        exact K _ hI16 (show xB (ma_put (ma_put (ma_put S1 69 7 (.inl ((mI S1 69 7) - (1 : Int32)))) 69 8 (.inl ((mI S1 69 8) - (mI (ma_put S1 69 7 (.inl ((mI S1 69 7) - (1 : Int32)))) l1 2)))) 69 11 (.inl ((mI S1 69 11) + (mI (ma_put (ma_put S1 69 7 (.inl ((mI S1 69 7) - (1 : Int32)))) 69 8 (.inl ((mI S1 69 8) - (mI (ma_put S1 69 7 (.inl ((mI S1 69 7) - (1 : Int32)))) l1 2)))) l1 2)))) (zRu R y.toNatClampNeg none) from by first | (exfalso; omega) | (have ty := xB_th (W := W) rp0_S1 hi4; rw [← ty.2.2.1]; exact (xC_p (c := 69) (k := 11) (x := ((mI S1 69 11) + (mI (ma_put (ma_put S1 69 7 (.inl ((mI S1 69 7) - (1 : Int32)))) 69 8 (.inl ((mI S1 69 8) - (mI (ma_put S1 69 7 (.inl ((mI S1 69 7) - (1 : Int32)))) l1 2)))) l1 2))) (xC_p (c := 69) (k := 8) (x := ((mI S1 69 8) - (mI (ma_put S1 69 7 (.inl ((mI S1 69 7) - (1 : Int32)))) l1 2))) (xC_n (c := 69) (k := 7) (x := ((mI S1 69 7) - (1 : Int32))) (xC_o (W := W) rp0_S1) (zir_W hi3 rfl (by decide))) 69 hi3 rfl (zcw_s (by decide))) 69 hi3 rfl (zcw_s (by decide))).2)) (show aS W (ma_put (ma_put (ma_put S1 69 7 (.inl ((mI S1 69 7) - (1 : Int32)))) 69 8 (.inl ((mI S1 69 8) - (mI (ma_put S1 69 7 (.inl ((mI S1 69 7) - (1 : Int32)))) l1 2)))) 69 11 (.inl ((mI S1 69 11) + (mI (ma_put (ma_put S1 69 7 (.inl ((mI S1 69 7) - (1 : Int32)))) 69 8 (.inl ((mI S1 69 8) - (mI (ma_put S1 69 7 (.inl ((mI S1 69 7) - (1 : Int32)))) l1 2)))) l1 2)))) = aRm ab y from by first | (exfalso; omega) | (have t0 := xB_th (W := W) hi2 hi4; have t2 := xB_th (W := W) rp0_S1 hi4; have f4 : mI S l1 4 = ab 130 y.toNatClampNeg := t0.2.2.2.2.2.1.trans (by rw [hi5]; exact zUw_o (by decide)); have f2 : mI S l1 2 = ab 128 y.toNatClampNeg := t0.2.2.2.2.1.trans (by rw [hi5]; exact zUw_o (by decide)); have g2 : mI S1 l1 2 = ab 128 y.toNatClampNeg := t2.2.2.2.2.1.trans (by rw [rp1_S1, zFr_o (by decide), hi5, zUw_o (by decide)]); have g8 : mI S1 69 8 = ab 69 8 := (aS_I (W := W) (S := S1) (c := 69) (c₉ := 69) (k := 8) rfl (zcw_s (by decide))).symm.trans (by rw [rp1_S1, zFr_o (by decide), hi5, zUw_o (by decide)]); have g11 : mI S1 69 11 = ab 69 11 := (aS_I (W := W) (S := S1) (c := 69) (c₉ := 69) (k := 11) rfl (zcw_s (by decide))).symm.trans (by rw [rp1_S1, zFr_o (by decide), hi5, zUw_o (by decide)]); refine (xC_p (c := 69) (k := 11) (x := ((mI S1 69 11) + (mI (ma_put (ma_put S1 69 7 (.inl ((mI S1 69 7) - (1 : Int32)))) 69 8 (.inl ((mI S1 69 8) - (mI (ma_put S1 69 7 (.inl ((mI S1 69 7) - (1 : Int32)))) l1 2)))) l1 2))) (xC_p (c := 69) (k := 8) (x := ((mI S1 69 8) - (mI (ma_put S1 69 7 (.inl ((mI S1 69 7) - (1 : Int32)))) l1 2))) (xC_n (c := 69) (k := 7) (x := ((mI S1 69 7) - (1 : Int32))) (xC_o (W := W) rp0_S1) (zir_W hi3 rfl (by decide))) 69 hi3 rfl (zcw_s (by decide))) 69 hi3 rfl (zcw_s (by decide))).1.trans ?_; (try simp only [zp_e (c₉ := 69) th_l1.1 (by decide)]); rw [rp1_S1, hi5, f4, f2, g2, g8, g11, t2.2.2.1]; rfl)) (show ∀ n, xAl ab n → n ≠ y.toNatClampNeg → kC (ma_put (ma_put (ma_put S1 69 7 (.inl ((mI S1 69 7) - (1 : Int32)))) 69 8 (.inl ((mI S1 69 8) - (mI (ma_put S1 69 7 (.inl ((mI S1 69 7) - (1 : Int32)))) l1 2)))) 69 11 (.inl ((mI S1 69 11) + (mI (ma_put (ma_put S1 69 7 (.inl ((mI S1 69 7) - (1 : Int32)))) 69 8 (.inl ((mI S1 69 8) - (mI (ma_put S1 69 7 (.inl ((mI S1 69 7) - (1 : Int32)))) l1 2)))) l1 2)))) n = kk n - Int32.ofNat (cOb ab y.toNatClampNeg n) from by first | (exfalso; omega) | (intro n hn hne; have t0 := xB_th (W := W) hi2 hi4; have f2 : mI S l1 2 = ab 128 y.toNatClampNeg := t0.2.2.2.2.1.trans (by rw [hi5]; exact zUw_o (by decide)); have f2i := congrArg Int32.toInt f2; have rn := (xB_th (W := W) rp0_S1 hi4).2.2.1; refine (congrFun (xK_p (c := 69) (k := 11) (x := ((mI S1 69 11) + (mI (ma_put (ma_put S1 69 7 (.inl ((mI S1 69 7) - (1 : Int32)))) 69 8 (.inl ((mI S1 69 8) - (mI (ma_put S1 69 7 (.inl ((mI S1 69 7) - (1 : Int32)))) l1 2)))) l1 2))) (xK_p (c := 69) (k := 8) (x := ((mI S1 69 8) - (mI (ma_put S1 69 7 (.inl ((mI S1 69 7) - (1 : Int32)))) l1 2))) (xK_n (c := 69) (k := 7) (x := ((mI S1 69 7) - (1 : Int32))) (xK_o (W := W) rp0_S1 rp2_S1) (zir_W hi3 rfl (by decide))) 69 hi3 rfl (zcw_s (by decide))) 69 hi3 rfl (zcw_s (by decide))).2 n).trans ?_; rw [rn]; refine (if_neg hne).trans ((hi7 n hn).trans ?_); unfold cOb; rw [show l2.toInt.toNat = ((ab 128 y.toNatClampNeg).toInt - 1).toNat from (by have ls := hi6; omega)])) (show zN0 (ma_put (ma_put (ma_put S1 69 7 (.inl ((mI S1 69 7) - (1 : Int32)))) 69 8 (.inl ((mI S1 69 8) - (mI (ma_put S1 69 7 (.inl ((mI S1 69 7) - (1 : Int32)))) l1 2)))) 69 11 (.inl ((mI S1 69 11) + (mI (ma_put (ma_put S1 69 7 (.inl ((mI S1 69 7) - (1 : Int32)))) 69 8 (.inl ((mI S1 69 8) - (mI (ma_put S1 69 7 (.inl ((mI S1 69 7) - (1 : Int32)))) l1 2)))) l1 2)))) = n0 from by first | (exact ((n0_p (c := 69) (by decide)).trans ((n0_p (c := 69) (by decide)).trans ((n0_p (c := 69) (by decide)).trans rp3_S1)))))
      · skip
        have g17 := i_nle h12
        refine ⟨zG_n hI_S1 th_l1, ?_⟩
        refine ⟨i_ix (by omega) (by omega), ?_⟩
        have hI18 : zI f r C Z N (ma_put S1 70 (mI S1 l1 0).toNatClampNeg (.inr (.inr none))) := zG_rf hI_S1 (by decide) (by decide +kernel) (fun _ z => by cases z)
        have hI19 : zI f r C Z N (ma_put (ma_put S1 70 (mI S1 l1 0).toNatClampNeg (.inr (.inr none))) 69 7 (.inl ((mI S1 69 7) - (1 : Int32)))) := zG_fr hI18 rfl (by decide) (by decide) (by decide) trivial
        refine ⟨zG_n hI19 th_l1, ?_⟩
        have hI20 : zI f r C Z N (ma_put (ma_put (ma_put S1 70 (mI S1 l1 0).toNatClampNeg (.inr (.inr none))) 69 7 (.inl ((mI S1 69 7) - (1 : Int32)))) 69 8 (.inl ((mI S1 69 8) - (mI (ma_put (ma_put S1 70 (mI S1 l1 0).toNatClampNeg (.inr (.inr none))) 69 7 (.inl ((mI S1 69 7) - (1 : Int32)))) l1 2)))) := zG_fr hI19 rfl (by decide) (by decide) (by decide) trivial
        refine ⟨zG_n hI20 th_l1, ?_⟩
        have hI21 : zI f r C Z N (ma_put (ma_put (ma_put (ma_put S1 70 (mI S1 l1 0).toNatClampNeg (.inr (.inr none))) 69 7 (.inl ((mI S1 69 7) - (1 : Int32)))) 69 8 (.inl ((mI S1 69 8) - (mI (ma_put (ma_put S1 70 (mI S1 l1 0).toNatClampNeg (.inr (.inr none))) 69 7 (.inl ((mI S1 69 7) - (1 : Int32)))) l1 2)))) 69 11 (.inl ((mI S1 69 11) + (mI (ma_put (ma_put (ma_put S1 70 (mI S1 l1 0).toNatClampNeg (.inr (.inr none))) 69 7 (.inl ((mI S1 69 7) - (1 : Int32)))) 69 8 (.inl ((mI S1 69 8) - (mI (ma_put (ma_put S1 70 (mI S1 l1 0).toNatClampNeg (.inr (.inr none))) 69 7 (.inl ((mI S1 69 7) - (1 : Int32)))) l1 2)))) l1 2)))) := zG_fr hI20 rfl (by decide) (by decide) (by decide) trivial
        exact K _ hI21 (show xB (ma_put (ma_put (ma_put (ma_put S1 70 (mI S1 l1 0).toNatClampNeg (.inr (.inr none))) 69 7 (.inl ((mI S1 69 7) - (1 : Int32)))) 69 8 (.inl ((mI S1 69 8) - (mI (ma_put (ma_put S1 70 (mI S1 l1 0).toNatClampNeg (.inr (.inr none))) 69 7 (.inl ((mI S1 69 7) - (1 : Int32)))) l1 2)))) 69 11 (.inl ((mI S1 69 11) + (mI (ma_put (ma_put (ma_put S1 70 (mI S1 l1 0).toNatClampNeg (.inr (.inr none))) 69 7 (.inl ((mI S1 69 7) - (1 : Int32)))) 69 8 (.inl ((mI S1 69 8) - (mI (ma_put (ma_put S1 70 (mI S1 l1 0).toNatClampNeg (.inr (.inr none))) 69 7 (.inl ((mI S1 69 7) - (1 : Int32)))) l1 2)))) l1 2)))) (zRu R y.toNatClampNeg none) from by first | (exfalso; omega) | (have ty := xB_th (W := W) rp0_S1 hi4; rw [← ty.2.2.1]; exact (xC_p (c := 69) (k := 11) (x := ((mI S1 69 11) + (mI (ma_put (ma_put (ma_put S1 70 (mI S1 l1 0).toNatClampNeg (.inr (.inr none))) 69 7 (.inl ((mI S1 69 7) - (1 : Int32)))) 69 8 (.inl ((mI S1 69 8) - (mI (ma_put (ma_put S1 70 (mI S1 l1 0).toNatClampNeg (.inr (.inr none))) 69 7 (.inl ((mI S1 69 7) - (1 : Int32)))) l1 2)))) l1 2))) (xC_p (c := 69) (k := 8) (x := ((mI S1 69 8) - (mI (ma_put (ma_put S1 70 (mI S1 l1 0).toNatClampNeg (.inr (.inr none))) 69 7 (.inl ((mI S1 69 7) - (1 : Int32)))) l1 2))) (xC_n (c := 69) (k := 7) (x := ((mI S1 69 7) - (1 : Int32))) (xC_0 (xC_o (W := W) rp0_S1) (n := (mI S1 l1 0).toNatClampNeg)) (zir_W hi3 rfl (by decide))) 69 hi3 rfl (zcw_s (by decide))) 69 hi3 rfl (zcw_s (by decide))).2)) (show aS W (ma_put (ma_put (ma_put (ma_put S1 70 (mI S1 l1 0).toNatClampNeg (.inr (.inr none))) 69 7 (.inl ((mI S1 69 7) - (1 : Int32)))) 69 8 (.inl ((mI S1 69 8) - (mI (ma_put (ma_put S1 70 (mI S1 l1 0).toNatClampNeg (.inr (.inr none))) 69 7 (.inl ((mI S1 69 7) - (1 : Int32)))) l1 2)))) 69 11 (.inl ((mI S1 69 11) + (mI (ma_put (ma_put (ma_put S1 70 (mI S1 l1 0).toNatClampNeg (.inr (.inr none))) 69 7 (.inl ((mI S1 69 7) - (1 : Int32)))) 69 8 (.inl ((mI S1 69 8) - (mI (ma_put (ma_put S1 70 (mI S1 l1 0).toNatClampNeg (.inr (.inr none))) 69 7 (.inl ((mI S1 69 7) - (1 : Int32)))) l1 2)))) l1 2)))) = aRm ab y from by first | (exfalso; omega) | (have t0 := xB_th (W := W) hi2 hi4; have t2 := xB_th (W := W) rp0_S1 hi4; have f4 : mI S l1 4 = ab 130 y.toNatClampNeg := t0.2.2.2.2.2.1.trans (by rw [hi5]; exact zUw_o (by decide)); have f2 : mI S l1 2 = ab 128 y.toNatClampNeg := t0.2.2.2.2.1.trans (by rw [hi5]; exact zUw_o (by decide)); have g2 : mI S1 l1 2 = ab 128 y.toNatClampNeg := t2.2.2.2.2.1.trans (by rw [rp1_S1, zFr_o (by decide), hi5, zUw_o (by decide)]); have g8 : mI S1 69 8 = ab 69 8 := (aS_I (W := W) (S := S1) (c := 69) (c₉ := 69) (k := 8) rfl (zcw_s (by decide))).symm.trans (by rw [rp1_S1, zFr_o (by decide), hi5, zUw_o (by decide)]); have g11 : mI S1 69 11 = ab 69 11 := (aS_I (W := W) (S := S1) (c := 69) (c₉ := 69) (k := 11) rfl (zcw_s (by decide))).symm.trans (by rw [rp1_S1, zFr_o (by decide), hi5, zUw_o (by decide)]); refine (xC_p (c := 69) (k := 11) (x := ((mI S1 69 11) + (mI (ma_put (ma_put (ma_put S1 70 (mI S1 l1 0).toNatClampNeg (.inr (.inr none))) 69 7 (.inl ((mI S1 69 7) - (1 : Int32)))) 69 8 (.inl ((mI S1 69 8) - (mI (ma_put (ma_put S1 70 (mI S1 l1 0).toNatClampNeg (.inr (.inr none))) 69 7 (.inl ((mI S1 69 7) - (1 : Int32)))) l1 2)))) l1 2))) (xC_p (c := 69) (k := 8) (x := ((mI S1 69 8) - (mI (ma_put (ma_put S1 70 (mI S1 l1 0).toNatClampNeg (.inr (.inr none))) 69 7 (.inl ((mI S1 69 7) - (1 : Int32)))) l1 2))) (xC_n (c := 69) (k := 7) (x := ((mI S1 69 7) - (1 : Int32))) (xC_0 (xC_o (W := W) rp0_S1) (n := (mI S1 l1 0).toNatClampNeg)) (zir_W hi3 rfl (by decide))) 69 hi3 rfl (zcw_s (by decide))) 69 hi3 rfl (zcw_s (by decide))).1.trans ?_; (try simp only [zp_e (c₉ := 69) th_l1.1 (by decide), zp_e (c₉ := 70) th_l1.1 (by decide), zp_r]); rw [rp1_S1, hi5, f4, f2, g2, g8, g11, t2.2.2.1]; rfl)) (show ∀ n, xAl ab n → n ≠ y.toNatClampNeg → kC (ma_put (ma_put (ma_put (ma_put S1 70 (mI S1 l1 0).toNatClampNeg (.inr (.inr none))) 69 7 (.inl ((mI S1 69 7) - (1 : Int32)))) 69 8 (.inl ((mI S1 69 8) - (mI (ma_put (ma_put S1 70 (mI S1 l1 0).toNatClampNeg (.inr (.inr none))) 69 7 (.inl ((mI S1 69 7) - (1 : Int32)))) l1 2)))) 69 11 (.inl ((mI S1 69 11) + (mI (ma_put (ma_put (ma_put S1 70 (mI S1 l1 0).toNatClampNeg (.inr (.inr none))) 69 7 (.inl ((mI S1 69 7) - (1 : Int32)))) 69 8 (.inl ((mI S1 69 8) - (mI (ma_put (ma_put S1 70 (mI S1 l1 0).toNatClampNeg (.inr (.inr none))) 69 7 (.inl ((mI S1 69 7) - (1 : Int32)))) l1 2)))) l1 2)))) n = kk n - Int32.ofNat (cOb ab y.toNatClampNeg n) from by first | (exfalso; omega) | (intro n hn hne; have t0 := xB_th (W := W) hi2 hi4; have f2 : mI S l1 2 = ab 128 y.toNatClampNeg := t0.2.2.2.2.1.trans (by rw [hi5]; exact zUw_o (by decide)); have f2i := congrArg Int32.toInt f2; have rn := (xB_th (W := W) rp0_S1 hi4).2.2.1; refine (congrFun (xK_p (c := 69) (k := 11) (x := ((mI S1 69 11) + (mI (ma_put (ma_put (ma_put S1 70 (mI S1 l1 0).toNatClampNeg (.inr (.inr none))) 69 7 (.inl ((mI S1 69 7) - (1 : Int32)))) 69 8 (.inl ((mI S1 69 8) - (mI (ma_put (ma_put S1 70 (mI S1 l1 0).toNatClampNeg (.inr (.inr none))) 69 7 (.inl ((mI S1 69 7) - (1 : Int32)))) l1 2)))) l1 2))) (xK_p (c := 69) (k := 8) (x := ((mI S1 69 8) - (mI (ma_put (ma_put S1 70 (mI S1 l1 0).toNatClampNeg (.inr (.inr none))) 69 7 (.inl ((mI S1 69 7) - (1 : Int32)))) l1 2))) (xK_n (c := 69) (k := 7) (x := ((mI S1 69 7) - (1 : Int32))) (xK_0 (xK_o (W := W) rp0_S1 rp2_S1) (n := (mI S1 l1 0).toNatClampNeg)) (zir_W hi3 rfl (by decide))) 69 hi3 rfl (zcw_s (by decide))) 69 hi3 rfl (zcw_s (by decide))).2 n).trans ?_; rw [rn]; refine (if_neg hne).trans ((hi7 n hn).trans ?_); unfold cOb; rw [show l2.toInt.toNat = ((ab 128 y.toNatClampNeg).toInt - 1).toNat from (by have ls := hi6; omega)])) (show zN0 (ma_put (ma_put (ma_put (ma_put S1 70 (mI S1 l1 0).toNatClampNeg (.inr (.inr none))) 69 7 (.inl ((mI S1 69 7) - (1 : Int32)))) 69 8 (.inl ((mI S1 69 8) - (mI (ma_put (ma_put S1 70 (mI S1 l1 0).toNatClampNeg (.inr (.inr none))) 69 7 (.inl ((mI S1 69 7) - (1 : Int32)))) l1 2)))) 69 11 (.inl ((mI S1 69 11) + (mI (ma_put (ma_put (ma_put S1 70 (mI S1 l1 0).toNatClampNeg (.inr (.inr none))) 69 7 (.inl ((mI S1 69 7) - (1 : Int32)))) 69 8 (.inl ((mI S1 69 8) - (mI (ma_put (ma_put S1 70 (mI S1 l1 0).toNatClampNeg (.inr (.inr none))) 69 7 (.inl ((mI S1 69 7) - (1 : Int32)))) l1 2)))) l1 2)))) = n0 from by first | (exact ((n0_p (c := 69) (by decide)).trans ((n0_p (c := 69) (by decide)).trans ((n0_p (c := 69) (by decide)).trans (n0_r.trans rp3_S1))))))
    · skip
      have g22 := i_nle h5
      refine sp_82_69_s (R := R) (W := W) (y := y) l1 (l2) (by omega) (by omega) hI th_l1 (show xB S R from by first | (exact (xC_o (W := 75) hi2).2)) (show zTa R y = some l1 from by first | (exact hi4)) (by omega) (fun v4 S3 eS_S3 hq_v4 rp0_S3 => zo_n ⟨(by rw [eS_S3]; exact zG_T hI), ?_⟩)
      replace eS_S3 := eS_S3.symm; subst eS_S3
      have rp0_S3 : v4 = zTa R (aRef (aS W S) y.toNatClampNeg l2) := rp0_S3
      refine ⟨fun hc => ?_, fun c5 hc => ?_⟩
      · skip
        have rn_c5 : zTa R (aRef (aS W S) y.toNatClampNeg l2) = none := rp0_S3.symm.trans hc
        first | have e23 : (l2 + (1 : Int32)).toInt = l2.toInt + (1) := i_addk rfl (by omega) (by omega) | have b24 := i_bd (l2 + (1 : Int32))
        exact IH _ (by omega) _ l1 ((l2 + (1 : Int32))) rfl hI th_l1 (by omega) (by omega) (show xB S R from by first | (exact (xC_o (W := 75) hi2).2)) (show xW W from by first | (exact hi3) | (exact xW88) | (exact xW75)) (show zTa R y = some l1 from by first | (exact hi4)) (show aS W S = zUw ab y 16 from by first | (exact hi5)) (show ((l2 + (1 : Int32))).toInt ≤ (ab 128 y.toNatClampNeg).toInt - 1 from by first | (have t0 := xB_th (W := W) hi2 hi4; have f2 : mI S l1 2 = ab 128 y.toNatClampNeg := t0.2.2.2.2.1.trans (by rw [hi5]; exact zUw_o (by decide)); have f2i := congrArg Int32.toInt f2; omega)) (show ∀ n, xAl ab n → kC S n = kk n - Int32.ofNat (cSu (fun i => cIs (aRef ab y.toNatClampNeg (Int32.ofNat i)) n) ((l2 + (1 : Int32))).toInt.toNat) from by first | (intro n hn; have rfe : aRef (aS W S) y.toNatClampNeg l2 = aRef ab y.toNatClampNeg (Int32.ofNat l2.toInt.toNat) := (by rw [hi5, uw_ref, ofN_k (by omega)]); have hn2 : xAl (aS W S) n := (by rw [hi5, uw_al]; exact hn); refine (hi7 n hn).trans ?_; rw [← Su_1 (f := (fun i => cIs (aRef ab y.toNatClampNeg (Int32.ofNat i)) n)) (by omega) (by omega)]; show _ = _ - Int32.ofNat (cIs (aRef ab y.toNatClampNeg (Int32.ofNat l2.toInt.toNat)) n); rw [← rfe, is_no hi2 rn_c5 hn2]; exact (Int32.sub_zero _).symm)) (show zN0 S = n0 from by first | (exact hi8))
      · skip
        have th_c5 := hq_v4 c5 hc
        have rg_c5 : zTa R (aRef (aS W S) y.toNatClampNeg l2) = some c5 := rp0_S3.symm.trans hc
        subst hc
        refine ⟨zG_n hI th_c5, ?_⟩
        refine ⟨zG_n hI th_c5, ?_⟩
        have hI25 : zI f r C Z N (ma_put S c5 6 (.inl ((mI S c5 6) - (1 : Int32)))) := zG_tf hI th_c5.1 zI_t (by decide) (by decide) trivial (by decide) (by decide) (by decide)
        first | have e26 : (l2 + (1 : Int32)).toInt = l2.toInt + (1) := i_addk rfl (by omega) (by omega) | have b27 := i_bd (l2 + (1 : Int32))
        exact IH _ (by omega) _ l1 ((l2 + (1 : Int32))) rfl hI25 th_l1 (by omega) (by omega) (show xB (ma_put S c5 6 (.inl ((mI S c5 6) - (1 : Int32)))) R from by first | (exact (xC_6 (k := 6) (x := ((mI S c5 6) - (1 : Int32))) (xC_o (W := 75) hi2) xW75 th_c5.1 rfl (by decide)).2)) (show xW W from by first | (exact hi3) | (exact xW88) | (exact xW75)) (show zTa R y = some l1 from by first | (exact hi4)) (show aS W (ma_put S c5 6 (.inl ((mI S c5 6) - (1 : Int32)))) = zUw ab y 16 from by first | (exact (xC_6 (k := 6) (x := ((mI S c5 6) - (1 : Int32))) (xC_o (W := W) hi2) hi3 th_c5.1 rfl (by decide)).1.trans hi5)) (show ((l2 + (1 : Int32))).toInt ≤ (ab 128 y.toNatClampNeg).toInt - 1 from by first | (have t0 := xB_th (W := W) hi2 hi4; have f2 : mI S l1 2 = ab 128 y.toNatClampNeg := t0.2.2.2.2.1.trans (by rw [hi5]; exact zUw_o (by decide)); have f2i := congrArg Int32.toInt f2; omega)) (show ∀ n, xAl ab n → kC (ma_put S c5 6 (.inl ((mI S c5 6) - (1 : Int32)))) n = kk n - Int32.ofNat (cSu (fun i => cIs (aRef ab y.toNatClampNeg (Int32.ofNat i)) n) ((l2 + (1 : Int32))).toInt.toNat) from by first | (intro n hn; have rfe : aRef (aS W S) y.toNatClampNeg l2 = aRef ab y.toNatClampNeg (Int32.ofNat l2.toInt.toNat) := (by rw [hi5, uw_ref, ofN_k (by omega)]); have hn2 : xAl (aS W S) n := (by rw [hi5, uw_al]; exact hn); refine (congrFun (xK_6 (x := ((mI S c5 6) - (1 : Int32))) (xK_o (W := W) hi2 rfl) hi3 rg_c5 th_c5.1).2 n).trans ?_; have k60 := xK_y (xK_o (W := W) hi2 rfl) rg_c5; rw [k60, KU_2 (zTa_p rg_c5).1 hn.1, hi7 n hn, ← Su_1 (f := (fun i => cIs (aRef ab y.toNatClampNeg (Int32.ofNat i)) n)) (by omega) (by omega), rfe])) (show zN0 (ma_put S c5 6 (.inl ((mI S c5 6) - (1 : Int32)))) = n0 from by first | (exact ((n0_t (k := 6) (by decide)).trans hi8)))
theorem sp_87_69_sk {X : Nat × (Nat → Int32)} {d w : Nat} {f : Nat → Nat → Int32} {r : Nat → Nat → Option Nat} {C Z N : Nat} {Q : Option ma_V ⊕ Nat → ma_S → Prop} {ab : Nat→Nat→Int32} {R : zRT} {W : Nat} {kk : Nat→Int32} {y : Int32} {n0 : Nat→Nat→Int32} {S : ma_S} (t : Nat) (hd : 1 ≤ d) (hw : 25 ≤ w) (hI : zI f r C Z N S) (th_t : 126 ≤ t ∧ t < N) (hpre0 : xB S R) (hpre1 : aS W S = ab) (hpre2 : xW W) (hpre3 : zTa R y = some t) (hpre4 : kC S = kk) (hpre5 : zN0 S = n0) (K : ∀ S₉, zI f r C Z N S₉ → (xB S₉ (zRu R y.toNatClampNeg none)) → (aS W S₉ = aRm ab y) → (∀ n, xAl ab n → n ≠ y.toNatClampNeg → kC S₉ n = kk n - Int32.ofNat (cOb ab y.toNatClampNeg n)) → (zN0 S₉ = n0) → Q (.inl none) S₉) : ma_wp X d w 87 0 [(0, .inr (.inr (some 69))), (1, .inr (.inr (some t)))] [] S Q := by
  refine g_87_69_sk_0 t (by omega) (by omega) (zG_T hI) ?_
  refine sp_85_69_sk (ab := (aS W S)) (R := R) (W := W) (y := y) (kk := (kC S)) (n0 := n0) t (by omega) (by omega) hI th_t (show xB S R from by first | (exact (xC_o (W := 75) hpre0).2)) (show aS W S = (aS W S) from by first | (exact rfl)) (show xW W from by first | (exact hpre2) | (exact xW88) | (exact xW75)) (show zTa R y = some t from by first | (exact hpre3)) (show kC S = (kC S) from by first | (exact rfl)) (show zN0 S = n0 from by first | (exact hpre5)) (fun S1 hI_S1 rp0_S1 rp1_S1 rp2_S1 rp3_S1 => zv_n ⟨zG_T hI_S1, ?_⟩)
  have rp0_S1 : xB S1 R := rp0_S1
  have rp1_S1 : aS W S1 = zUw (aS W S) y 16 := rp1_S1
  have rp2_S1 : kC S1 = (kC S) := rp2_S1
  have rp3_S1 : zN0 S1 = n0 := rp3_S1
  have li1 : (0 : Int32).toInt = 0 := rfl
  exact lp_87_69_sk_7 (by omega) (by omega) K _ _ t ((0 : Int32)) rfl hI_S1 th_t (by omega) (by omega) (show xB S1 R from by first | (exact (xC_o (W := 75) rp0_S1).2)) (show xW W from by first | (exact hpre2) | (exact xW88) | (exact xW75)) (show zTa R y = some t from by first | (exact hpre3)) (show aS W S1 = zUw ab y 16 from by first | (rw [rp1_S1, hpre1])) (show ((0 : Int32)).toInt ≤ (ab 128 y.toNatClampNeg).toInt - 1 from by first | (have t0 := xB_th (W := W) hpre0 hpre3; have f2 := congrArg Int32.toInt t0.2.2.2.2.1; rw [hpre1] at f2; have th := zG_th hI th_t; have z0 : (0 : Int32).toInt = 0 := rfl; omega)) (show ∀ n, xAl ab n → kC S1 n = kk n - Int32.ofNat (cSu (fun i => cIs (aRef ab y.toNatClampNeg (Int32.ofNat i)) n) ((0 : Int32)).toInt.toNat) from by first | (intro n hn; rw [rp2_S1, hpre4]; exact (Int32.sub_zero _).symm)) (show zN0 S1 = n0 from by first | (exact rp3_S1))

