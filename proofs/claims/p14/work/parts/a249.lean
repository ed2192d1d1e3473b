/-! from 95.s15 -/
/-! REGIONS, the class (written by wip/tools/gen15z.py) -/
theorem g_47_91_sz_0 {X : Nat × (Nat → Int32)} {d w : Nat} {S : ma_S} {Q : Option ma_V ⊕ Nat → ma_S → Prop}  (hd : 2 ≤ d) (hw : 89 ≤ w) (hS : zT S) (h : ma_wp X d w 47 2 [(0, .inr (.inr (some 91))), (1, .inl (0 : Int32))] [] S Q) : ma_wp X d w 47 0 [(0, .inr (.inr (some 91)))] [] S Q := by
  refine zw_push hm_47 dX4_chooseLeaving_0 (v := .inl (0 : Int32)) rfl ?_
  refine zw_sto hm_47 dX4_chooseLeaving_1 [(1, .inl (0 : Int32)), (0, .inr (.inr (some 91)))] rfl rfl rfl ?_
  exact zw_sub (ma_nd_of (ks := [0, 1]) rfl (by decide)) (ma_nd_of (ks := [1, 0]) rfl (by decide)) (ma_le_cons rfl (ma_le_cons rfl (ma_le_nil _))) h
theorem g_47_91_sz_2 {X : Nat × (Nat → Int32)} {d w : Nat} {S : ma_S} {Q : Option ma_V ⊕ Nat → ma_S → Prop} (l1 : Int32) (hd : 2 ≤ d) (hw : 89 ≤ w) (hS : zT S) (h : if (93 : Int32) ≤ l1 then (ma_wp X d w 47 52 [(0, .inr (.inr (some 91))), (1, .inl (0 : Int32))] [] S Q) else (if l1 = (mI S 91 5) then ((0 ≤ l1 ∧ l1.toNatClampNeg < 93) ∧ (ma_wp X d w 47 2 [(0, .inr (.inr (some 91))), (1, .inl (l1 + (1 : Int32)))] [] (ma_put S 93 l1.toNatClampNeg (.inl (0 : Int32))) Q)) else ((0 ≤ l1 ∧ l1.toNatClampNeg < 93) ∧ (if ((mI S 93 l1.toNatClampNeg) * (100 : Int32)) ≤ ((mI S 91 4) * (mI S 91 2)) then (ma_wp X d w 47 2 [(0, .inr (.inr (some 91))), (1, .inl (l1 + (1 : Int32)))] [] S Q) else ((0 ≤ l1 ∧ l1.toNatClampNeg < 93) ∧ (ma_wp X d w 47 2 [(0, .inr (.inr (some 91))), (1, .inl (l1 + (1 : Int32)))] [] (ma_put S 93 l1.toNatClampNeg (.inl (0 : Int32))) Q)))))) : ma_wp X d w 47 2 [(0, .inr (.inr (some 91))), (1, .inl l1)] [] S Q := by
  refine zw_push hm_47 dX4_chooseLeaving_2 (v := .inl l1) rfl ?_
  refine zw_push hm_47 dX4_chooseLeaving_3 (v := .inl (93 : Int32)) rfl ?_
  refine zw_if2 hm_47 dX4_chooseLeaving_5 (t := 50) rfl zc2_ge ?_ ?_
  · intro hc
    rw [if_pos hc] at h
    refine zw_push hm_47 dX4_chooseLeaving_50 (v := .inl (0 : Int32)) rfl ?_
    refine zw_sto hm_47 dX4_chooseLeaving_51 [(1, .inl (0 : Int32)), (0, .inr (.inr (some 91)))] rfl rfl rfl ?_
    exact zw_sub (ma_nd_of (ks := [0, 1]) rfl (by decide)) (ma_nd_of (ks := [1, 0]) rfl (by decide)) (ma_le_cons rfl (ma_le_cons rfl (ma_le_nil _))) h
  · intro hc
    rw [if_neg hc] at h
    refine zw_push hm_47 dX4_chooseLeaving_8 (v := .inl l1) rfl ?_
    refine zw_push hm_47 dX4_chooseLeaving_9 (v := .inr (.inr (some 91))) rfl ?_
    refine zw_gf hm_47 dX4_chooseLeaving_10 (v := .inl (mI S 91 5)) (zT_is hS s_91) (zT_t hS s_91) rfl f_4_34_4 rfl ?_
    refine zw_if2 hm_47 dX4_chooseLeaving_13 (t := 37) rfl zc2_eq ?_ ?_
    · intro hc
      rw [if_pos hc] at h
      refine zw_push hm_47 dX4_chooseLeaving_37 (v := .inr (.inr (some 91))) rfl ?_
      refine zw_gf hm_47 dX4_chooseLeaving_38 (v := .inr (.inr (some 93))) (zT_is hS s_91) (zT_t hS s_91) rfl f_4_15_4 (zT_f hS r_91_8) ?_
      refine zw_push hm_47 dX4_chooseLeaving_41 (v := .inl l1) rfl ?_
      refine zw_push hm_47 dX4_chooseLeaving_42 (v := .inl (0 : Int32)) rfl ?_
      obtain ⟨hg, h⟩ := h
      refine zw_ias hm_47 dX4_chooseLeaving_43 (zT_is hS s_93) (zT_h hS s_93) rfl hg ?_
      refine zw_sto hm_47 dX4_chooseLeaving_44 [(1, .inl (l1 + (1 : Int32))), (0, .inr (.inr (some 91)))] rfl rfl rfl ?_
      refine zw_goto hm_47 dX4_chooseLeaving_47 (t := 2) rfl ?_
      exact zw_sub (ma_nd_of (ks := [0, 1]) rfl (by decide)) (ma_nd_of (ks := [1, 0]) rfl (by decide)) (ma_le_cons rfl (ma_le_cons rfl (ma_le_nil _))) h
    · intro hc
      rw [if_neg hc] at h
      refine zw_push hm_47 dX4_chooseLeaving_16 (v := .inr (.inr (some 91))) rfl ?_
      refine zw_gf hm_47 dX4_chooseLeaving_17 (v := .inr (.inr (some 93))) (zT_is hS s_91) (zT_t hS s_91) rfl f_4_15_4 (zT_f hS r_91_8) ?_
      refine zw_push hm_47 dX4_chooseLeaving_20 (v := .inl l1) rfl ?_
      obtain ⟨hg, h⟩ := h
      refine zw_ia hm_47 dX4_chooseLeaving_21 (zT_is hS s_93) (zT_h hS s_93) rfl hg ?_
      show ma_wp X d w 47 22 [(0, .inr (.inr (some 91))), (1, .inl l1)] [.inl (mI S 93 l1.toNatClampNeg)] S _
      refine zw_push hm_47 dX4_chooseLeaving_22 (v := .inl (100 : Int32)) rfl ?_
      refine zw_stk hm_47 dX4_chooseLeaving_24 (st₉ := [.inl ((mI S 93 l1.toNatClampNeg) * (100 : Int32))]) rfl rfl ?_
      refine zw_push hm_47 dX4_chooseLeaving_25 (v := .inr (.inr (some 91))) rfl ?_
      refine zw_gf hm_47 dX4_chooseLeaving_26 (v := .inl (mI S 91 4)) (zT_is hS s_91) (zT_t hS s_91) rfl f_4_31_4 rfl ?_
      refine zw_push hm_47 dX4_chooseLeaving_29 (v := .inr (.inr (some 91))) rfl ?_
      refine zw_gf hm_47 dX4_chooseLeaving_30 (v := .inl (mI S 91 2)) (zT_is hS s_91) (zT_t hS s_91) rfl f_4_18_4 rfl ?_
      refine zw_stk hm_47 dX4_chooseLeaving_33 (st₉ := [.inl ((mI S 91 4) * (mI S 91 2)), .inl ((mI S 93 l1.toNatClampNeg) * (100 : Int32))]) rfl rfl ?_
      refine zw_if2 hm_47 dX4_chooseLeaving_34 (t := 44) rfl zc2_le ?_ ?_
      · intro hc
        rw [if_pos hc] at h
        refine zw_sto hm_47 dX4_chooseLeaving_44 [(1, .inl (l1 + (1 : Int32))), (0, .inr (.inr (some 91)))] rfl rfl rfl ?_
        refine zw_goto hm_47 dX4_chooseLeaving_47 (t := 2) rfl ?_
        exact zw_sub (ma_nd_of (ks := [0, 1]) rfl (by decide)) (ma_nd_of (ks := [1, 0]) rfl (by decide)) (ma_le_cons rfl (ma_le_cons rfl (ma_le_nil _))) h
      · intro hc
        rw [if_neg hc] at h
        refine zw_push hm_47 dX4_chooseLeaving_37 (v := .inr (.inr (some 91))) rfl ?_
        refine zw_gf hm_47 dX4_chooseLeaving_38 (v := .inr (.inr (some 93))) (zT_is hS s_91) (zT_t hS s_91) rfl f_4_15_4 (zT_f hS r_91_8) ?_
        refine zw_push hm_47 dX4_chooseLeaving_41 (v := .inl l1) rfl ?_
        refine zw_push hm_47 dX4_chooseLeaving_42 (v := .inl (0 : Int32)) rfl ?_
        obtain ⟨hg, h⟩ := h
        refine zw_ias hm_47 dX4_chooseLeaving_43 (zT_is hS s_93) (zT_h hS s_93) rfl hg ?_
        refine zw_sto hm_47 dX4_chooseLeaving_44 [(1, .inl (l1 + (1 : Int32))), (0, .inr (.inr (some 91)))] rfl rfl rfl ?_
        refine zw_goto hm_47 dX4_chooseLeaving_47 (t := 2) rfl ?_
        exact zw_sub (ma_nd_of (ks := [0, 1]) rfl (by decide)) (ma_nd_of (ks := [1, 0]) rfl (by decide)) (ma_le_cons rfl (ma_le_cons rfl (ma_le_nil _))) h
theorem g_47_91_sz_52 {X : Nat × (Nat → Int32)} {d w : Nat} {S : ma_S} {Q : Option ma_V ⊕ Nat → ma_S → Prop} (l1 : Int32) (hd : 2 ≤ d) (hw : 89 ≤ w) (hS : zT S) (h : if (mI S 69 6) ≤ l1 then (Q (.inl none) S) else (if l1 < 0 then (ma_wp X d w 47 52 [(0, .inr (.inr (some 91))), (1, .inl (l1 + (1 : Int32)))] [] S Q) else (if (512 : Int32) ≤ l1 then (ma_wp X d w 47 52 [(0, .inr (.inr (some 91))), (1, .inl (l1 + (1 : Int32)))] [] S Q) else ((0 ≤ l1 ∧ l1.toNatClampNeg < 512) ∧ (((mR S 70 l1.toNatClampNeg) = none → ma_wp X d w 47 52 [(0, .inr (.inr (some 91))), (1, .inl (l1 + (1 : Int32)))] [] S Q) ∧ (∀ c1, (mR S 70 l1.toNatClampNeg) = some c1 → (126 ≤ c1 ∧ c1 < mN S) ∧ (if (mI S c1 7) ≤ 0 then (ma_wp X d w 47 52 [(0, .inr (.inr (some 91))), (1, .inl (l1 + (1 : Int32)))] [] S Q) else (if (mI S 91 2) ≤ 0 then (ma_wp X d w 47 52 [(0, .inr (.inr (some 91))), (1, .inl (l1 + (1 : Int32)))] [] (ma_put S 93 0 (.inl (0 : Int32))) Q) else ((126 ≤ c1 ∧ c1 < mN S) ∧ ((mI S 91 2) ≠ 0 ∧ ((0 ≤ (if (92 : Int32) < ((mI S c1 4) / (mI S 91 2)) then (92 : Int32) else ((mI S c1 4) / (mI S 91 2))) ∧ (if (92 : Int32) < ((mI S c1 4) / (mI S 91 2)) then (92 : Int32) else ((mI S c1 4) / (mI S 91 2))).toNatClampNeg < 93) ∧ (ma_wp X d w 47 52 [(0, .inr (.inr (some 91))), (1, .inl (l1 + (1 : Int32)))] [] (ma_put S 93 (if (92 : Int32) < ((mI S c1 4) / (mI S 91 2)) then (92 : Int32) else ((mI S c1 4) / (mI S 91 2))).toNatClampNeg (.inl (0 : Int32))) Q)))))))))))) : ma_wp X d w 47 52 [(0, .inr (.inr (some 91))), (1, .inl l1)] [] S Q := by
  refine zw_push hm_47 dX4_chooseLeaving_52 (v := .inl l1) rfl ?_
  refine zw_push hm_47 dX4_chooseLeaving_53 (v := .inr (.inr (some 91))) rfl ?_
  refine zw_gf hm_47 dX4_chooseLeaving_54 (v := .inr (.inr (some 69))) (zT_is hS s_91) (zT_t hS s_91) rfl f_4_100_4 (zT_f hS r_91_0) ?_
  refine zw_gf hm_47 dX4_chooseLeaving_57 (v := .inl (mI S 69 6)) (zT_is hS s_69) (zT_t hS s_69) rfl f_4_104_7 rfl ?_
  refine zw_if2 hm_47 dX4_chooseLeaving_60 (t := 100) rfl zc2_ge ?_ ?_
  · intro hc
    rw [if_pos hc] at h
    exact zw_vret hm_47 dX4_chooseLeaving_100 h
  · intro hc
    rw [if_neg hc] at h
    refine zw_push hm_47 dX4_chooseLeaving_63 (v := .inr (.inr (some 91))) rfl ?_
    refine zw_gf hm_47 dX4_chooseLeaving_64 (v := .inr (.inr (some 69))) (zT_is hS s_91) (zT_t hS s_91) rfl f_4_100_4 (zT_f hS r_91_0) ?_
    refine zw_push hm_47 dX4_chooseLeaving_67 (v := .inl l1) rfl ?_
    refine zw_cv hm_47 dX4_chooseLeaving_68 v_4_109_7 hm_81 [.inl l1] [] rfl (zT_rt hS s_69 rfl) ⟨by omega, by omega⟩ rfl ?_
    show ma_wp X (d - 1) (w - 21) 81 0 [(0, .inr (.inr (some 69))), (1, .inl l1)] [] S _
    refine zw_push hm_81 dX7_thingAt_0 (v := .inl l1) rfl ?_
    refine zw_if0 hm_81 dX7_thingAt_1 (t := 20) rfl zc0_lt ?_ ?_
    · intro hc
      rw [if_pos hc] at h
      refine zw_push hm_81 dX7_thingAt_20 (v := .inr (.inr none)) rfl ?_
      refine zw_aret hm_81 dX7_thingAt_21 ?_
      show ma_wp X d w 47 71 [(0, .inr (.inr (some 91))), (1, .inl l1)] [.inr (.inr none)] S _
      refine zw_sto hm_47 dX4_chooseLeaving_71 [(2, .inr (.inr none)), (0, .inr (.inr (some 91))), (1, .inl l1)] rfl rfl rfl ?_
      refine zw_push hm_47 dX4_chooseLeaving_72 (v := .inr (.inr none)) rfl ?_
      refine zw_ifnull hm_47 dX4_chooseLeaving_73 (t := 94) rfl (fun _ => ?_) (fun _ z => by cases z)
      refine zw_sto hm_47 dX4_chooseLeaving_94 [(1, .inl (l1 + (1 : Int32))), (2, .inr (.inr none)), (0, .inr (.inr (some 91)))] rfl rfl rfl ?_
      refine zw_goto hm_47 dX4_chooseLeaving_97 (t := 52) rfl ?_
      exact zw_sub (ma_nd_of (ks := [0, 1]) rfl (by decide)) (ma_nd_of (ks := [1, 2, 0]) rfl (by decide)) (ma_le_cons rfl (ma_le_cons rfl (ma_le_nil _))) h
    · intro hc
      rw [if_neg hc] at h
      refine zw_push hm_81 dX7_thingAt_4 (v := .inl l1) rfl ?_
      refine zw_push hm_81 dX7_thingAt_5 (v := .inl (512 : Int32)) rfl ?_
      refine zw_if2 hm_81 dX7_thingAt_8 (t := 20) rfl zc2_ge ?_ ?_
      · intro hc
        rw [if_pos hc] at h
        refine zw_push hm_81 dX7_thingAt_20 (v := .inr (.inr none)) rfl ?_
        refine zw_aret hm_81 dX7_thingAt_21 ?_
        show ma_wp X d w 47 71 [(0, .inr (.inr (some 91))), (1, .inl l1)] [.inr (.inr none)] S _
        refine zw_sto hm_47 dX4_chooseLeaving_71 [(2, .inr (.inr none)), (0, .inr (.inr (some 91))), (1, .inl l1)] rfl rfl rfl ?_
        refine zw_push hm_47 dX4_chooseLeaving_72 (v := .inr (.inr none)) rfl ?_
        refine zw_ifnull hm_47 dX4_chooseLeaving_73 (t := 94) rfl (fun _ => ?_) (fun _ z => by cases z)
        refine zw_sto hm_47 dX4_chooseLeaving_94 [(1, .inl (l1 + (1 : Int32))), (2, .inr (.inr none)), (0, .inr (.inr (some 91)))] rfl rfl rfl ?_
        refine zw_goto hm_47 dX4_chooseLeaving_97 (t := 52) rfl ?_
        exact zw_sub (ma_nd_of (ks := [0, 1]) rfl (by decide)) (ma_nd_of (ks := [1, 2, 0]) rfl (by decide)) (ma_le_cons rfl (ma_le_cons rfl (ma_le_nil _))) h
      · intro hc
        rw [if_neg hc] at h
        refine zw_push hm_81 dX7_thingAt_11 (v := .inr (.inr (some 69))) rfl ?_
        refine zw_gf hm_81 dX7_thingAt_12 (v := .inr (.inr (some 70))) (zT_is hS s_69) (zT_t hS s_69) rfl f_7_11_7 (zT_f hS r_69_0) ?_
        refine zw_push hm_81 dX7_thingAt_15 (v := .inl l1) rfl ?_
        obtain ⟨hg, h⟩ := h
        refine zw_aa hm_81 dX7_thingAt_16 (zT_is hS s_70) (zT_h hS s_70) rfl rfl hg rfl ?_
        show ma_wp X (d - 1) (w - 21) 81 17 [(0, .inr (.inr (some 69))), (1, .inl l1)] [.inr (.inr (mR S 70 l1.toNatClampNeg))] S _
        refine zw_goto hm_81 dX7_thingAt_17 (t := 21) rfl ?_
        refine zw_aret hm_81 dX7_thingAt_21 ?_
        show ma_wp X d w 47 71 [(0, .inr (.inr (some 91))), (1, .inl l1)] [.inr (.inr (mR S 70 l1.toNatClampNeg))] S _
        refine zw_sto hm_47 dX4_chooseLeaving_71 [(2, .inr (.inr (mR S 70 l1.toNatClampNeg))), (0, .inr (.inr (some 91))), (1, .inl l1)] rfl rfl rfl ?_
        refine zw_push hm_47 dX4_chooseLeaving_72 (v := .inr (.inr (mR S 70 l1.toNatClampNeg))) rfl ?_
        refine zw_ifnull hm_47 dX4_chooseLeaving_73 (t := 94) rfl ?_ ?_
        · intro hc
          have h := h.1 hc
          (try rw [hc])
          show ma_wp X d w 47 94 [(2, .inr (.inr none)), (0, .inr (.inr (some 91))), (1, .inl l1)] [] S _
          refine zw_sto hm_47 dX4_chooseLeaving_94 [(1, .inl (l1 + (1 : Int32))), (2, .inr (.inr none)), (0, .inr (.inr (some 91)))] rfl rfl rfl ?_
          refine zw_goto hm_47 dX4_chooseLeaving_97 (t := 52) rfl ?_
          exact zw_sub (ma_nd_of (ks := [0, 1]) rfl (by decide)) (ma_nd_of (ks := [1, 2, 0]) rfl (by decide)) (ma_le_cons rfl (ma_le_cons rfl (ma_le_nil _))) h
        · intro c1 hc
          have h := h.2 c1 hc
          (try rw [hc])
          show ma_wp X d w 47 76 [(2, .inr (.inr (some c1))), (0, .inr (.inr (some 91))), (1, .inl l1)] [] S _
          refine zw_push hm_47 dX4_chooseLeaving_76 (v := .inr (.inr (some c1))) rfl ?_
          obtain ⟨hg, h⟩ := h
          refine zw_gf hm_47 dX4_chooseLeaving_77 (v := .inl (mI S c1 7)) (zT_tis hS hg) (zT_tt hS hg) rfl f_4_117_9 rfl ?_
          refine zw_if0 hm_47 dX4_chooseLeaving_80 (t := 94) rfl zc0_le ?_ ?_
          · intro hc
            rw [if_pos hc] at h
            refine zw_sto hm_47 dX4_chooseLeaving_94 [(1, .inl (l1 + (1 : Int32))), (2, .inr (.inr (some c1))), (0, .inr (.inr (some 91)))] rfl rfl rfl ?_
            refine zw_goto hm_47 dX4_chooseLeaving_97 (t := 52) rfl ?_
            exact zw_sub (ma_nd_of (ks := [0, 1]) rfl (by decide)) (ma_nd_of (ks := [1, 2, 0]) rfl (by decide)) (ma_le_cons rfl (ma_le_cons rfl (ma_le_nil _))) h
          · intro hc
            rw [if_neg hc] at h
            refine zw_push hm_47 dX4_chooseLeaving_83 (v := .inr (.inr (some 91))) rfl ?_
            refine zw_gf hm_47 dX4_chooseLeaving_84 (v := .inr (.inr (some 93))) (zT_is hS s_91) (zT_t hS s_91) rfl f_4_15_4 (zT_f hS r_91_8) ?_
            refine zw_push hm_47 dX4_chooseLeaving_87 (v := .inr (.inr (some 91))) rfl ?_
            refine zw_push hm_47 dX4_chooseLeaving_88 (v := .inr (.inr (some c1))) rfl ?_
            refine zw_cv hm_47 dX4_chooseLeaving_89 v_4_113_4 hm_45 [.inr (.inr (some c1))] [.inr (.inr (some 93))] rfl (zT_rt hS s_91 rfl) ⟨by omega, by omega⟩ rfl ?_
            show ma_wp X (d - 1) (w - 21) 45 0 [(0, .inr (.inr (some 91))), (1, .inr (.inr (some c1)))] [] S _
            refine zw_push hm_45 dX4_regionOf_0 (v := .inr (.inr (some 91))) rfl ?_
            refine zw_gf hm_45 dX4_regionOf_1 (v := .inl (mI S 91 2)) (zT_is hS s_91) (zT_t hS s_91) rfl f_4_18_4 rfl ?_
            refine zw_if0 hm_45 dX4_regionOf_4 (t := 24) rfl zc0_le ?_ ?_
            · intro hc
              rw [if_pos hc] at h
              refine zw_push hm_45 dX4_regionOf_24 (v := .inl (0 : Int32)) rfl ?_
              refine zw_iret hm_45 dX4_regionOf_25 ?_
              show ma_wp X d w 47 92 [(2, .inr (.inr (some c1))), (0, .inr (.inr (some 91))), (1, .inl l1)] [.inl (0 : Int32), .inr (.inr (some 93))] S _
              refine zw_push hm_47 dX4_chooseLeaving_92 (v := .inl (0 : Int32)) rfl ?_
              refine zw_ias hm_47 dX4_chooseLeaving_93 (zT_is hS s_93) (zT_h hS s_93) rfl ⟨by decide, by decide⟩ ?_
              refine zw_sto hm_47 dX4_chooseLeaving_94 [(1, .inl (l1 + (1 : Int32))), (2, .inr (.inr (some c1))), (0, .inr (.inr (some 91)))] rfl rfl rfl ?_
              refine zw_goto hm_47 dX4_chooseLeaving_97 (t := 52) rfl ?_
              exact zw_sub (ma_nd_of (ks := [0, 1]) rfl (by decide)) (ma_nd_of (ks := [1, 2, 0]) rfl (by decide)) (ma_le_cons rfl (ma_le_cons rfl (ma_le_nil _))) h
            · intro hc
              rw [if_neg hc] at h
              refine zw_push hm_45 dX4_regionOf_7 (v := .inr (.inr (some c1))) rfl ?_
              obtain ⟨hg, h⟩ := h
              refine zw_gf hm_45 dX4_regionOf_8 (v := .inl (mI S c1 4)) (zT_tis hS hg) (zT_tt hS hg) rfl f_4_97_9 rfl ?_
              refine zw_push hm_45 dX4_regionOf_11 (v := .inr (.inr (some 91))) rfl ?_
              refine zw_gf hm_45 dX4_regionOf_12 (v := .inl (mI S 91 2)) (zT_is hS s_91) (zT_t hS s_91) rfl f_4_18_4 rfl ?_
              obtain ⟨hg, h⟩ := h
              refine zw_stk hm_45 dX4_regionOf_15 (st₉ := [.inl ((mI S c1 4) / (mI S 91 2))]) rfl (if_neg hg) ?_
              refine zw_push hm_45 dX4_regionOf_16 (v := .inl (92 : Int32)) rfl ?_
              refine zw_min hm_45 dX4_regionOf_18 pr_4_22 (by omega) (by show 0 + 13 ≤ (w - 21); omega) (fun _ _ _ _ z => by cases z) ?_
              refine zw_goto hm_45 dX4_regionOf_21 (t := 25) rfl ?_
              refine zw_iret hm_45 dX4_regionOf_25 ?_
              show ma_wp X d w 47 92 [(2, .inr (.inr (some c1))), (0, .inr (.inr (some 91))), (1, .inl l1)] [.inl (if (92 : Int32) < ((mI S c1 4) / (mI S 91 2)) then (92 : Int32) else ((mI S c1 4) / (mI S 91 2))), .inr (.inr (some 93))] S _
              refine zw_push hm_47 dX4_chooseLeaving_92 (v := .inl (0 : Int32)) rfl ?_
              obtain ⟨hg, h⟩ := h
              refine zw_ias hm_47 dX4_chooseLeaving_93 (zT_is hS s_93) (zT_h hS s_93) rfl hg ?_
              refine zw_sto hm_47 dX4_chooseLeaving_94 [(1, .inl (l1 + (1 : Int32))), (2, .inr (.inr (some c1))), (0, .inr (.inr (some 91)))] rfl rfl rfl ?_
              refine zw_goto hm_47 dX4_chooseLeaving_97 (t := 52) rfl ?_
              exact zw_sub (ma_nd_of (ks := [0, 1]) rfl (by decide)) (ma_nd_of (ks := [1, 2, 0]) rfl (by decide)) (ma_le_cons rfl (ma_le_cons rfl (ma_le_nil _))) h
theorem lp_47_91_sz_52 {X : Nat × (Nat → Int32)} {d w : Nat} {f : Nat → Nat → Int32} {r : Nat → Nat → Option Nat} {C Z N : Nat} {Q : Option ma_V ⊕ Nat → ma_S → Prop} {ab : Nat→Nat→Int32} (hd : 2 ≤ d) (hw : 89 ≤ w) (K : ∀ S₉, zL91 f r C Z N S₉ → (xB S₉ (mR S₉ 70)) → (aZ S₉ = rCb (rCa ab 93) 512) → Q (.inl none) S₉) : ∀ (n : Nat) (S : ma_S) (l1 : Int32), (512 - l1.toInt).toNat = n → zL91 f r C Z N S → (0 ≤ l1.toInt) → (l1.toInt ≤ 512) → (xB S (mR S 70)) → ((0 ≤ (ab 87 5).toInt ∧ (ab 87 5).toInt ≤ 100) ∧ (1 ≤ (ab 87 3).toInt ∧ (ab 87 3).toInt ≤ 256) ∧ (∀ n, xAl ab n → (ab 130 n).toInt / (ab 87 3).toInt < 93) ∧ qI ab) → (aZ S = rCb (rCa ab 93) l1.toNatClampNeg) → ma_wp X d w 47 52 [(0, .inr (.inr (some 91))), (1, .inl l1)] [] S Q := by
  intro n
  induction n using Nat.strongRecOn with
  | _ n IH =>
    intro S l1 hmu hI  hi0 hi1 hi2 hi3 hi4
    refine g_47_91_sz_52 l1 (by omega) (by omega) (zG_T hI) ?_
    have f1 := zG_s hI (0) (512) (c := 69) (k := 6) (by decide)
    have b2 := i_bd l1
    refine zd (fun h3 => ?_) (fun h3 => ?_)
    · skip
      have g4 := i_le h3
      exact K _ hI (show xB S (mR S 70) from by first | (exact xB_x (xC_o (W := 75) hi2).2)) (show aZ S = rCb (rCa ab 93) 512 from by first | (rw [hi4]; have r6 := congrArg Int32.toInt (show rCa ab 93 69 6 = mI S 69 6 from ((Cb_r hi4 (by decide) (by decide) (by decide)).symm.trans (aS_I rfl rfl))); have tc := tn_cast (x := l1) (by omega); exact (Cb_g (Ca_I hi3.2.2.2) _ _ (by omega) (by omega) (by omega)).symm))
    · skip
      have g5 := i_nle h3
      have li6 : (0 : Int32).toInt = 0 := rfl
      refine zd (fun h7 => ?_) (fun h7 => ?_)
      · skip
        have g8 := i_lt h7
        first | have e9 : (l1 + (1 : Int32)).toInt = l1.toInt + (1) := i_addk rfl (by omega) (by omega) | have b10 := i_bd (l1 + (1 : Int32))
        exact IH _ (by omega) _ ((l1 + (1 : Int32))) rfl hI (by omega) (by omega) (show xB S (mR S 70) from by first | (exact xB_x (xC_o (W := 75) hi2).2)) (show (0 ≤ (ab 87 5).toInt ∧ (ab 87 5).toInt ≤ 100) ∧ (1 ≤ (ab 87 3).toInt ∧ (ab 87 3).toInt ≤ 256) ∧ (∀ n, xAl ab n → (ab 130 n).toInt / (ab 87 3).toInt < 93) ∧ qI ab from by first | (exact hi3)) (show aZ S = rCb (rCa ab 93) ((l1 + (1 : Int32))).toNatClampNeg from by first | (exfalso; omega))
      · skip
        have g11 := i_nlt h7
        have li12 : (512 : Int32).toInt = 512 := rfl
        refine zd (fun h13 => ?_) (fun h13 => ?_)
        · skip
          have g14 := i_le h13
          first | have e15 : (l1 + (1 : Int32)).toInt = l1.toInt + (1) := i_addk rfl (by omega) (by omega) | have b16 := i_bd (l1 + (1 : Int32))
          exact IH _ (by omega) _ ((l1 + (1 : Int32))) rfl hI (by omega) (by omega) (show xB S (mR S 70) from by first | (exact xB_x (xC_o (W := 75) hi2).2)) (show (0 ≤ (ab 87 5).toInt ∧ (ab 87 5).toInt ≤ 100) ∧ (1 ≤ (ab 87 3).toInt ∧ (ab 87 3).toInt ≤ 256) ∧ (∀ n, xAl ab n → (ab 130 n).toInt / (ab 87 3).toInt < 93) ∧ qI ab from by first | (exact hi3)) (show aZ S = rCb (rCa ab 93) ((l1 + (1 : Int32))).toNatClampNeg from by first | (exfalso; omega))
        · skip
          have g17 := i_nle h13
          refine ⟨i_ix (by omega) (by omega), ?_⟩
          refine ⟨fun hc => ?_, fun c1 hc => ?_⟩
          · skip
            have rn_c1 : zTa (mR S 70) l1 = none := (ta_rd (y := l1) hi2 (by omega) (by omega)).symm.trans hc
            first | have e18 : (l1 + (1 : Int32)).toInt = l1.toInt + (1) := i_addk rfl (by omega) (by omega) | have b19 := i_bd (l1 + (1 : Int32))
            exact IH _ (by omega) _ ((l1 + (1 : Int32))) rfl hI (by omega) (by omega) (show xB S (mR S 70) from by first | (exact xB_x (xC_o (W := 75) hi2).2)) (show (0 ≤ (ab 87 5).toInt ∧ (ab 87 5).toInt ≤ 100) ∧ (1 ≤ (ab 87 3).toInt ∧ (ab 87 3).toInt ≤ 256) ∧ (∀ n, xAl ab n → (ab 130 n).toInt / (ab 87 3).toInt < 93) ∧ qI ab from by first | (exact hi3)) (show aZ S = rCb (rCa ab 93) ((l1 + (1 : Int32))).toNatClampNeg from by first | (exact Cb_no hi4 hi2 rn_c1 (by omega) (by omega) (by omega)))
          · skip
            have th_c1 := (fun _ z => zG_70 hI (c := 70) (by decide) z) c1 hc
            have rg_c1 : zTa (mR S 70) l1 = some c1 := (ta_rd (y := l1) hi2 (by omega) (by omega)).symm.trans hc
            refine ⟨zG_n hI th_c1, ?_⟩
            have b20 := i_bd (mI S c1 7)
            refine zd (fun h21 => ?_) (fun h21 => ?_)
            · skip
              have g22 := i_le h21
              first | have e23 : (l1 + (1 : Int32)).toInt = l1.toInt + (1) := i_addk rfl (by omega) (by omega) | have b24 := i_bd (l1 + (1 : Int32))
              exact IH _ (by omega) _ ((l1 + (1 : Int32))) rfl hI (by omega) (by omega) (show xB S (mR S 70) from by first | (exact xB_x (xC_o (W := 75) hi2).2)) (show (0 ≤ (ab 87 5).toInt ∧ (ab 87 5).toInt ≤ 100) ∧ (1 ≤ (ab 87 3).toInt ∧ (ab 87 3).toInt ≤ 256) ∧ (∀ n, xAl ab n → (ab 130 n).toInt / (ab 87 3).toInt < 93) ∧ qI ab from by first | (exact hi3)) (show aZ S = rCb (rCa ab 93) ((l1 + (1 : Int32))).toNatClampNeg from by first | (exact Cb_n0 hi4 hi2 rg_c1 (by omega) (by omega)) | (exfalso; omega))
            · skip
              have g25 := i_nle h21
              have f26 := zG_s hI (0) (1500) (c := 91) (k := 2) (by decide)
              refine zd (fun h27 => ?_) (fun h27 => ?_)
              · skip
                have g28 := i_le h27
                have hI29 : zL91 f r C Z N (ma_put S 93 0 (.inl (0 : Int32))) := zG_fr hI rfl (by decide) (by decide) (by decide) trivial
                first | have e30 : (l1 + (1 : Int32)).toInt = l1.toInt + (1) := i_addk rfl (by omega) (by omega) | have b31 := i_bd (l1 + (1 : Int32))
                exact IH _ (by omega) _ ((l1 + (1 : Int32))) rfl hI29 (by omega) (by omega) (show xB (ma_put S 93 0 (.inl (0 : Int32))) (mR (ma_put S 93 0 (.inl (0 : Int32))) 70) from by first | (exact xB_x (xC_n (c := 93) (k := 0) (x := (0 : Int32)) (xC_o (W := 75) hi2) ⟨by decide, Or.inl ⟨rfl, rfl⟩⟩).2)) (show (0 ≤ (ab 87 5).toInt ∧ (ab 87 5).toInt ≤ 100) ∧ (1 ≤ (ab 87 3).toInt ∧ (ab 87 3).toInt ≤ 256) ∧ (∀ n, xAl ab n → (ab 130 n).toInt / (ab 87 3).toInt < 93) ∧ qI ab from by first | (exact hi3)) (show aZ (ma_put S 93 0 (.inl (0 : Int32))) = rCb (rCa ab 93) ((l1 + (1 : Int32))).toNatClampNeg from by first | (rw [((Z_p9 (c := 93) (n := 0) (x := (0 : Int32)) (xC_o (W := 75) hi2).2 (by decide)).trans (congrArg (fun q => ma_u q 93 0 (0 : Int32)) (show aZ S = aZ S from rfl)))]; exact Cb_go hi4 (Ca_hv hi3) (Ca_I hi3.2.2.2) (Ca_1 hi3.2.1.1) hi2 rg_c1 (by omega) (by omega)) | (exfalso; have e3 := congrArg Int32.toInt (show mI S 91 2 = ab 87 3 from (congrFun (congrFun hi4 87) 3).trans ((Cb_o (by decide) _).trans (Ca_o (by decide)))); have r3 := hi3.2.1; omega))
              · skip
                have g32 := i_nle h27
                refine ⟨zG_n hI th_c1, ?_⟩
                refine ⟨i_nz (by omega), ?_⟩
                have f33 := zG_th hI th_c1
                first | have f34 := i_div (x := (mI S c1 4)) (y := (mI S 91 2)) (by omega) (by omega) | have b35 := i_bd ((mI S c1 4) / (mI S 91 2))
                have li36 : (92 : Int32).toInt = 92 := rfl
                have f37 := i_min ((mI S c1 4) / (mI S 91 2)) (92 : Int32)
                refine ⟨i_ix (by omega) (by omega), ?_⟩
                have hI38 : zL91 f r C Z N (ma_put S 93 (if (92 : Int32) < ((mI S c1 4) / (mI S 91 2)) then (92 : Int32) else ((mI S c1 4) / (mI S 91 2))).toNatClampNeg (.inl (0 : Int32))) := zG_fa hI rfl (by decide) (by decide) (by decide) trivial
                first | have e39 : (l1 + (1 : Int32)).toInt = l1.toInt + (1) := i_addk rfl (by omega) (by omega) | have b40 := i_bd (l1 + (1 : Int32))
                exact IH _ (by omega) _ ((l1 + (1 : Int32))) rfl hI38 (by omega) (by omega) (show xB (ma_put S 93 (if (92 : Int32) < ((mI S c1 4) / (mI S 91 2)) then (92 : Int32) else ((mI S c1 4) / (mI S 91 2))).toNatClampNeg (.inl (0 : Int32))) (mR (ma_put S 93 (if (92 : Int32) < ((mI S c1 4) / (mI S 91 2)) then (92 : Int32) else ((mI S c1 4) / (mI S 91 2))).toNatClampNeg (.inl (0 : Int32))) 70) from by first | (exact xB_x (xC_n (c := 93) (k := (if (92 : Int32) < ((mI S c1 4) / (mI S 91 2)) then (92 : Int32) else ((mI S c1 4) / (mI S 91 2))).toNatClampNeg) (x := (0 : Int32)) (xC_o (W := 75) hi2) ⟨by decide, Or.inl ⟨rfl, rfl⟩⟩).2)) (show (0 ≤ (ab 87 5).toInt ∧ (ab 87 5).toInt ≤ 100) ∧ (1 ≤ (ab 87 3).toInt ∧ (ab 87 3).toInt ≤ 256) ∧ (∀ n, xAl ab n → (ab 130 n).toInt / (ab 87 3).toInt < 93) ∧ qI ab from by first | (exact hi3)) (show aZ (ma_put S 93 (if (92 : Int32) < ((mI S c1 4) / (mI S 91 2)) then (92 : Int32) else ((mI S c1 4) / (mI S 91 2))).toNatClampNeg (.inl (0 : Int32))) = rCb (rCa ab 93) ((l1 + (1 : Int32))).toNatClampNeg from by first | (rw [((Z_p9 (c := 93) (n := (if (92 : Int32) < ((mI S c1 4) / (mI S 91 2)) then (92 : Int32) else ((mI S c1 4) / (mI S 91 2))).toNatClampNeg) (x := (0 : Int32)) (xC_o (W := 75) hi2).2 (by decide)).trans (congrArg (fun q => ma_u q 93 (if (92 : Int32) < ((mI S c1 4) / (mI S 91 2)) then (92 : Int32) else ((mI S c1 4) / (mI S 91 2))).toNatClampNeg (0 : Int32)) (show aZ S = aZ S from rfl)))]; exact Cb_go hi4 (Ca_hv hi3) (Ca_I hi3.2.2.2) (Ca_1 hi3.2.1.1) hi2 rg_c1 (by omega) (by omega)) | (exfalso; have e3 := congrArg Int32.toInt (show mI S 91 2 = ab 87 3 from (congrFun (congrFun hi4 87) 3).trans ((Cb_o (by decide) _).trans (Ca_o (by decide)))); have r3 := hi3.2.1; omega))
theorem lp_47_91_sz_2 {X : Nat × (Nat → Int32)} {d w : Nat} {f : Nat → Nat → Int32} {r : Nat → Nat → Option Nat} {C Z N : Nat} {Q : Option ma_V ⊕ Nat → ma_S → Prop} {ab : Nat→Nat→Int32} (hd : 2 ≤ d) (hw : 89 ≤ w) (K : ∀ S₉, zL91 f r C Z N S₉ → (xB S₉ (mR S₉ 70)) → (aZ S₉ = rCb (rCa ab 93) 512) → Q (.inl none) S₉) : ∀ (n : Nat) (S : ma_S) (l1 : Int32), (93 - l1.toInt).toNat = n → zL91 f r C Z N S → (0 ≤ l1.toInt) → (l1.toInt ≤ 93) → (xB S (mR S 70)) → (qLb ab) → ((0 ≤ (ab 87 5).toInt ∧ (ab 87 5).toInt ≤ 100) ∧ (1 ≤ (ab 87 3).toInt ∧ (ab 87 3).toInt ≤ 256) ∧ (∀ n, xAl ab n → (ab 130 n).toInt / (ab 87 3).toInt < 93) ∧ qI ab) → (aZ S = rCa ab l1.toNatClampNeg) → ma_wp X d w 47 2 [(0, .inr (.inr (some 91))), (1, .inl l1)] [] S Q := by
  intro n
  induction n using Nat.strongRecOn with
  | _ n IH =>
    intro S l1 hmu hI  hi0 hi1 hi2 hi3 hi4 hi5
    refine g_47_91_sz_2 l1 (by omega) (by omega) (zG_T hI) ?_
    have li1 : (93 : Int32).toInt = 93 := rfl
    have b2 := i_bd l1
    refine zd (fun h3 => ?_) (fun h3 => ?_)
    · skip
      have g4 := i_le h3
      have li5 : (0 : Int32).toInt = 0 := rfl
      exact lp_47_91_sz_52 (by omega) (by omega) K _ _ ((0 : Int32)) rfl hI (by omega) (by omega) (show xB S (mR S 70) from by first | (exact xB_x (xC_o (W := 75) hi2).2)) (show (0 ≤ (ab 87 5).toInt ∧ (ab 87 5).toInt ≤ 100) ∧ (1 ≤ (ab 87 3).toInt ∧ (ab 87 3).toInt ≤ 256) ∧ (∀ n, xAl ab n → (ab 130 n).toInt / (ab 87 3).toInt < 93) ∧ qI ab from by first | (exact hi4)) (show aZ S = rCb (rCa ab 93) ((0 : Int32)).toNatClampNeg from by first | (rw [hi5, show l1.toNatClampNeg = 93 from by have := tn_cast (x := l1) (by omega); omega]; rfl))
    · skip
      have g6 := i_nle h3
      have f7 := zG_s hI (0) (92) (c := 91) (k := 5) (by decide)
      refine zd (fun h8 => ?_) (fun h8 => ?_)
      · skip
        have g9 := i_eq h8
        refine ⟨i_ix (by omega) (by omega), ?_⟩
        have hI10 : zL91 f r C Z N (ma_put S 93 l1.toNatClampNeg (.inl (0 : Int32))) := zG_fa hI rfl (by decide) (by decide) (by decide) trivial
        first | have e11 : (l1 + (1 : Int32)).toInt = l1.toInt + (1) := i_addk rfl (by omega) (by omega) | have b12 := i_bd (l1 + (1 : Int32))
        exact IH _ (by omega) _ ((l1 + (1 : Int32))) rfl hI10 (by omega) (by omega) (show xB (ma_put S 93 l1.toNatClampNeg (.inl (0 : Int32))) (mR (ma_put S 93 l1.toNatClampNeg (.inl (0 : Int32))) 70) from by first | (exact xB_x (xC_n (c := 93) (k := l1.toNatClampNeg) (x := (0 : Int32)) (xC_o (W := 75) hi2) ⟨by decide, Or.inl ⟨rfl, rfl⟩⟩).2)) (show qLb ab from by first | (exact hi3)) (show (0 ≤ (ab 87 5).toInt ∧ (ab 87 5).toInt ≤ 100) ∧ (1 ≤ (ab 87 3).toInt ∧ (ab 87 3).toInt ≤ 256) ∧ (∀ n, xAl ab n → (ab 130 n).toInt / (ab 87 3).toInt < 93) ∧ qI ab from by first | (exact hi4)) (show aZ (ma_put S 93 l1.toNatClampNeg (.inl (0 : Int32))) = rCa ab ((l1 + (1 : Int32))).toNatClampNeg from by first | (have e5 := congrArg Int32.toInt (show ab 87 5 = mI S 91 4 from (Ca_7 hi5).symm); have e3 := congrArg Int32.toInt (show ab 87 3 = mI S 91 2 from (Ca_7 hi5).symm); have hs := hi4.1; have hs2 := hi4.2.1; rw [((Z_p9 (c := 93) (n := l1.toNatClampNeg) (x := (0 : Int32)) (xC_o (W := 75) hi2).2 (by decide)).trans (congrArg (fun q => ma_u q 93 l1.toNatClampNeg (0 : Int32)) (show aZ S = aZ S from rfl)))]; exact Ca_go hi5 hi3 (by omega) (by omega) (by omega) (by omega) (Or.inl (by omega)) (by omega)) | (have e5 := congrArg Int32.toInt (show ab 87 5 = mI S 91 4 from (Ca_7 hi5).symm); have e3 := congrArg Int32.toInt (show ab 87 3 = mI S 91 2 from (Ca_7 hi5).symm); have hs := hi4.1; have hs2 := hi4.2.1; rw [((Z_p9 (c := 93) (n := l1.toNatClampNeg) (x := (0 : Int32)) (xC_o (W := 75) hi2).2 (by decide)).trans (congrArg (fun q => ma_u q 93 l1.toNatClampNeg (0 : Int32)) (show aZ S = aZ S from rfl)))]; exact Ca_go hi5 hi3 (by omega) (by omega) (by omega) (by omega) (Or.inr (by omega)) (by omega)))
      · skip
        have g13 := i_ne h8
        refine ⟨i_ix (by omega) (by omega), ?_⟩
        have b14 := i_bd (mI S 93 l1.toNatClampNeg)
        have li15 : (100 : Int32).toInt = 100 := rfl
        first | have e16 : ((mI S 93 l1.toNatClampNeg) * (100 : Int32)).toInt = (mI S 93 l1.toNatClampNeg).toInt * 100 := i_mulk rfl (by omega) (by omega) | have b17 := i_bd ((mI S 93 l1.toNatClampNeg) * (100 : Int32))
        have b18 := i_bd (mI S 91 4)
        have f19 := zG_s hI (0) (1500) (c := 91) (k := 2) (by decide)
        first | have f20 := i_muln (x := (mI S 91 4)) (y := (mI S 91 2)) (by omega) (by omega) (by omega) (by omega) | have b21 := i_bd ((mI S 91 4) * (mI S 91 2))
        refine zd (fun h22 => ?_) (fun h22 => ?_)
        · skip
          have g23 := i_le h22
          first | have e24 : (l1 + (1 : Int32)).toInt = l1.toInt + (1) := i_addk rfl (by omega) (by omega) | have b25 := i_bd (l1 + (1 : Int32))
          exact IH _ (by omega) _ ((l1 + (1 : Int32))) rfl hI (by omega) (by omega) (show xB S (mR S 70) from by first | (exact xB_x (xC_o (W := 75) hi2).2)) (show qLb ab from by first | (exact hi3)) (show (0 ≤ (ab 87 5).toInt ∧ (ab 87 5).toInt ≤ 100) ∧ (1 ≤ (ab 87 3).toInt ∧ (ab 87 3).toInt ≤ 256) ∧ (∀ n, xAl ab n → (ab 130 n).toInt / (ab 87 3).toInt < 93) ∧ qI ab from by first | (exact hi4)) (show aZ S = rCa ab ((l1 + (1 : Int32))).toNatClampNeg from by first | (have e5 := congrArg Int32.toInt (show ab 87 5 = mI S 91 4 from (Ca_7 hi5).symm); have e3 := congrArg Int32.toInt (show ab 87 3 = mI S 91 2 from (Ca_7 hi5).symm); have hs := hi4.1; have hs2 := hi4.2.1; exact Ca_no hi5 hi3 (by omega) (by omega) (by omega) (by omega) (by omega) (by omega)))
        · skip
          have g26 := i_nle h22
          refine ⟨i_ix (by omega) (by omega), ?_⟩
          have hI27 : zL91 f r C Z N (ma_put S 93 l1.toNatClampNeg (.inl (0 : Int32))) := zG_fa hI rfl (by decide) (by decide) (by decide) trivial
          first | have e28 : (l1 + (1 : Int32)).toInt = l1.toInt + (1) := i_addk rfl (by omega) (by omega) | have b29 := i_bd (l1 + (1 : Int32))
          exact IH _ (by omega) _ ((l1 + (1 : Int32))) rfl hI27 (by omega) (by omega) (show xB (ma_put S 93 l1.toNatClampNeg (.inl (0 : Int32))) (mR (ma_put S 93 l1.toNatClampNeg (.inl (0 : Int32))) 70) from by first | (exact xB_x (xC_n (c := 93) (k := l1.toNatClampNeg) (x := (0 : Int32)) (xC_o (W := 75) hi2) ⟨by decide, Or.inl ⟨rfl, rfl⟩⟩).2)) (show qLb ab from by first | (exact hi3)) (show (0 ≤ (ab 87 5).toInt ∧ (ab 87 5).toInt ≤ 100) ∧ (1 ≤ (ab 87 3).toInt ∧ (ab 87 3).toInt ≤ 256) ∧ (∀ n, xAl ab n → (ab 130 n).toInt / (ab 87 3).toInt < 93) ∧ qI ab from by first | (exact hi4)) (show aZ (ma_put S 93 l1.toNatClampNeg (.inl (0 : Int32))) = rCa ab ((l1 + (1 : Int32))).toNatClampNeg from by first | (have e5 := congrArg Int32.toInt (show ab 87 5 = mI S 91 4 from (Ca_7 hi5).symm); have e3 := congrArg Int32.toInt (show ab 87 3 = mI S 91 2 from (Ca_7 hi5).symm); have hs := hi4.1; have hs2 := hi4.2.1; rw [((Z_p9 (c := 93) (n := l1.toNatClampNeg) (x := (0 : Int32)) (xC_o (W := 75) hi2).2 (by decide)).trans (congrArg (fun q => ma_u q 93 l1.toNatClampNeg (0 : Int32)) (show aZ S = aZ S from rfl)))]; exact Ca_go hi5 hi3 (by omega) (by omega) (by omega) (by omega) (Or.inl (by omega)) (by omega)) | (have e5 := congrArg Int32.toInt (show ab 87 5 = mI S 91 4 from (Ca_7 hi5).symm); have e3 := congrArg Int32.toInt (show ab 87 3 = mI S 91 2 from (Ca_7 hi5).symm); have hs := hi4.1; have hs2 := hi4.2.1; rw [((Z_p9 (c := 93) (n := l1.toNatClampNeg) (x := (0 : Int32)) (xC_o (W := 75) hi2).2 (by decide)).trans (congrArg (fun q => ma_u q 93 l1.toNatClampNeg (0 : Int32)) (show aZ S = aZ S from rfl)))]; exact Ca_go hi5 hi3 (by omega) (by omega) (by omega) (by omega) (Or.inr (by omega)) (by omega)))
theorem sp_47_91_sz {X : Nat × (Nat → Int32)} {d w : Nat} {f : Nat → Nat → Int32} {r : Nat → Nat → Option Nat} {C Z N : Nat} {Q : Option ma_V ⊕ Nat → ma_S → Prop} {ab : Nat→Nat→Int32} {S : ma_S}  (hd : 2 ≤ d) (hw : 89 ≤ w) (hI : zL91 f r C Z N S) (hpre0 : xB S (mR S 70)) (hpre1 : aZ S = ab) (hpre2 : qLb ab) (hpre3 : (0 ≤ (ab 87 5).toInt ∧ (ab 87 5).toInt ≤ 100) ∧ (1 ≤ (ab 87 3).toInt ∧ (ab 87 3).toInt ≤ 256) ∧ (∀ n, xAl ab n → (ab 130 n).toInt / (ab 87 3).toInt < 93) ∧ qI ab) (K : ∀ S₉, zL91 f r C Z N S₉ → (xB S₉ (mR S₉ 70)) → (aZ S₉ = rCb (rCa ab 93) 512) → Q (.inl none) S₉) : ma_wp X d w 47 0 [(0, .inr (.inr (some 91)))] [] S Q := by
  refine g_47_91_sz_0  (by omega) (by omega) (zG_T hI) ?_
  have li1 : (0 : Int32).toInt = 0 := rfl
  exact lp_47_91_sz_2 (by omega) (by omega) K _ _ ((0 : Int32)) rfl hI (by omega) (by omega) (show xB S (mR S 70) from by first | (exact xB_x (xC_o (W := 75) hpre0).2)) (show qLb ab from by first | (exact hpre2)) (show (0 ≤ (ab 87 5).toInt ∧ (ab 87 5).toInt ≤ 100) ∧ (1 ≤ (ab 87 3).toInt ∧ (ab 87 3).toInt ≤ 256) ∧ (∀ n, xAl ab n → (ab 130 n).toInt / (ab 87 3).toInt < 93) ∧ qI ab from by first | (exact hpre3)) (show aZ S = rCa ab ((0 : Int32)).toNatClampNeg from by first | (rw [hpre1]; exact Ca_0.symm))

/-! from 95.s16 -/
/-! REGIONS, the class (written by wip/tools/gen15z.py) -/
theorem g_48_91_sz_0 {X : Nat × (Nat → Int32)} {d w : Nat} {S : ma_S} {Q : Option ma_V ⊕ Nat → ma_S → Prop}  (hd : 0 ≤ d) (hw : 0 ≤ w) (hS : zT S) (h : ma_wp X d w 48 4 [(0, .inr (.inr (some 91))), (1, .inl (-1 : Int32)), (2, .inl (0 : Int32))] [] S Q) : ma_wp X d w 48 0 [(0, .inr (.inr (some 91)))] [] S Q := by
  refine zw_push hm_48 dX4_fewestLeaving_0 (v := .inl (-1 : Int32)) rfl ?_
  refine zw_sto hm_48 dX4_fewestLeaving_1 [(1, .inl (-1 : Int32)), (0, .inr (.inr (some 91)))] rfl rfl rfl ?_
  refine zw_push hm_48 dX4_fewestLeaving_2 (v := .inl (0 : Int32)) rfl ?_
  refine zw_sto hm_48 dX4_fewestLeaving_3 [(2, .inl (0 : Int32)), (1, .inl (-1 : Int32)), (0, .inr (.inr (some 91)))] rfl rfl rfl ?_
  exact zw_sub (ma_nd_of (ks := [0, 1, 2]) rfl (by decide)) (ma_nd_of (ks := [2, 1, 0]) rfl (by decide)) (ma_le_cons rfl (ma_le_cons rfl (ma_le_cons rfl (ma_le_nil _)))) h
theorem g_48_91_sz_4 {X : Nat × (Nat → Int32)} {d w : Nat} {S : ma_S} {Q : Option ma_V ⊕ Nat → ma_S → Prop} (l1 : Int32) (l2 : Int32) (hd : 0 ≤ d) (hw : 0 ≤ w) (hS : zT S) (h : if (93 : Int32) ≤ l2 then (Q (.inl (some (.inl l1))) S) else ((0 ≤ l2 ∧ l2.toNatClampNeg < 93) ∧ (if (mI S 93 l2.toNatClampNeg) ≤ 0 then (ma_wp X d w 48 4 [(0, .inr (.inr (some 91))), (1, .inl l1), (2, .inl (l2 + (1 : Int32)))] [] S Q) else (if l1 = (-1 : Int32) then (ma_wp X d w 48 4 [(0, .inr (.inr (some 91))), (1, .inl l2), (2, .inl (l2 + (1 : Int32)))] [] S Q) else ((0 ≤ l2 ∧ l2.toNatClampNeg < 93) ∧ ((0 ≤ l1 ∧ l1.toNatClampNeg < 93) ∧ (if (mI S 93 l1.toNatClampNeg) ≤ (mI S 93 l2.toNatClampNeg) then (ma_wp X d w 48 4 [(0, .inr (.inr (some 91))), (1, .inl l1), (2, .inl (l2 + (1 : Int32)))] [] S Q) else (ma_wp X d w 48 4 [(0, .inr (.inr (some 91))), (1, .inl l2), (2, .inl (l2 + (1 : Int32)))] [] S Q)))))))) : ma_wp X d w 48 4 [(0, .inr (.inr (some 91))), (1, .inl l1), (2, .inl l2)] [] S Q := by
  refine zw_push hm_48 dX4_fewestLeaving_4 (v := .inl l2) rfl ?_
  refine zw_push hm_48 dX4_fewestLeaving_5 (v := .inl (93 : Int32)) rfl ?_
  refine zw_if2 hm_48 dX4_fewestLeaving_7 (t := 47) rfl zc2_ge ?_ ?_
  · intro hc
    rw [if_pos hc] at h
    refine zw_push hm_48 dX4_fewestLeaving_47 (v := .inl l1) rfl ?_
    exact zw_iret hm_48 dX4_fewestLeaving_48 h
  · intro hc
    rw [if_neg hc] at h
    refine zw_push hm_48 dX4_fewestLeaving_10 (v := .inr (.inr (some 91))) rfl ?_
    refine zw_gf hm_48 dX4_fewestLeaving_11 (v := .inr (.inr (some 93))) (zT_is hS s_91) (zT_t hS s_91) rfl f_4_15_4 (zT_f hS r_91_8) ?_
    refine zw_push hm_48 dX4_fewestLeaving_14 (v := .inl l2) rfl ?_
    obtain ⟨hg, h⟩ := h
    refine zw_ia hm_48 dX4_fewestLeaving_15 (zT_is hS s_93) (zT_h hS s_93) rfl hg ?_
    show ma_wp X d w 48 16 [(0, .inr (.inr (some 91))), (1, .inl l1), (2, .inl l2)] [.inl (mI S 93 l2.toNatClampNeg)] S _
    refine zw_if0 hm_48 dX4_fewestLeaving_16 (t := 41) rfl zc0_le ?_ ?_
    · intro hc
      rw [if_pos hc] at h
      refine zw_sto hm_48 dX4_fewestLeaving_41 [(2, .inl (l2 + (1 : Int32))), (0, .inr (.inr (some 91))), (1, .inl l1)] rfl rfl rfl ?_
      refine zw_goto hm_48 dX4_fewestLeaving_44 (t := 4) rfl ?_
      exact zw_sub (ma_nd_of (ks := [0, 1, 2]) rfl (by decide)) (ma_nd_of (ks := [2, 0, 1]) rfl (by decide)) (ma_le_cons rfl (ma_le_cons rfl (ma_le_cons rfl (ma_le_nil _)))) h
    · intro hc
      rw [if_neg hc] at h
      refine zw_push hm_48 dX4_fewestLeaving_19 (v := .inl l1) rfl ?_
      refine zw_push hm_48 dX4_fewestLeaving_20 (v := .inl (-1 : Int32)) rfl ?_
      refine zw_if2 hm_48 dX4_fewestLeaving_21 (t := 39) rfl zc2_eq ?_ ?_
      · intro hc
        rw [if_pos hc] at h
        refine zw_push hm_48 dX4_fewestLeaving_39 (v := .inl l2) rfl ?_
        refine zw_sto hm_48 dX4_fewestLeaving_40 [(1, .inl l2), (0, .inr (.inr (some 91))), (2, .inl l2)] rfl rfl rfl ?_
        refine zw_sto hm_48 dX4_fewestLeaving_41 [(2, .inl (l2 + (1 : Int32))), (1, .inl l2), (0, .inr (.inr (some 91)))] rfl rfl rfl ?_
        refine zw_goto hm_48 dX4_fewestLeaving_44 (t := 4) rfl ?_
        exact zw_sub (ma_nd_of (ks := [0, 1, 2]) rfl (by decide)) (ma_nd_of (ks := [2, 1, 0]) rfl (by decide)) (ma_le_cons rfl (ma_le_cons rfl (ma_le_cons rfl (ma_le_nil _)))) h
      · intro hc
        rw [if_neg hc] at h
        refine zw_push hm_48 dX4_fewestLeaving_24 (v := .inr (.inr (some 91))) rfl ?_
        refine zw_gf hm_48 dX4_fewestLeaving_25 (v := .inr (.inr (some 93))) (zT_is hS s_91) (zT_t hS s_91) rfl f_4_15_4 (zT_f hS r_91_8) ?_
        refine zw_push hm_48 dX4_fewestLeaving_28 (v := .inl l2) rfl ?_
        obtain ⟨hg, h⟩ := h
        refine zw_ia hm_48 dX4_fewestLeaving_29 (zT_is hS s_93) (zT_h hS s_93) rfl hg ?_
        show ma_wp X d w 48 30 [(0, .inr (.inr (some 91))), (1, .inl l1), (2, .inl l2)] [.inl (mI S 93 l2.toNatClampNeg)] S _
        refine zw_push hm_48 dX4_fewestLeaving_30 (v := .inr (.inr (some 91))) rfl ?_
        refine zw_gf hm_48 dX4_fewestLeaving_31 (v := .inr (.inr (some 93))) (zT_is hS s_91) (zT_t hS s_91) rfl f_4_15_4 (zT_f hS r_91_8) ?_
        refine zw_push hm_48 dX4_fewestLeaving_34 (v := .inl l1) rfl ?_
        obtain ⟨hg, h⟩ := h
        refine zw_ia hm_48 dX4_fewestLeaving_35 (zT_is hS s_93) (zT_h hS s_93) rfl hg ?_
        show ma_wp X d w 48 36 [(0, .inr (.inr (some 91))), (1, .inl l1), (2, .inl l2)] [.inl (mI S 93 l1.toNatClampNeg), .inl (mI S 93 l2.toNatClampNeg)] S _
        refine zw_if2 hm_48 dX4_fewestLeaving_36 (t := 41) rfl zc2_ge ?_ ?_
        · intro hc
          rw [if_pos hc] at h
          refine zw_sto hm_48 dX4_fewestLeaving_41 [(2, .inl (l2 + (1 : Int32))), (0, .inr (.inr (some 91))), (1, .inl l1)] rfl rfl rfl ?_
          refine zw_goto hm_48 dX4_fewestLeaving_44 (t := 4) rfl ?_
          exact zw_sub (ma_nd_of (ks := [0, 1, 2]) rfl (by decide)) (ma_nd_of (ks := [2, 0, 1]) rfl (by decide)) (ma_le_cons rfl (ma_le_cons rfl (ma_le_cons rfl (ma_le_nil _)))) h
        · intro hc
          rw [if_neg hc] at h
          refine zw_push hm_48 dX4_fewestLeaving_39 (v := .inl l2) rfl ?_
          refine zw_sto hm_48 dX4_fewestLeaving_40 [(1, .inl l2), (0, .inr (.inr (some 91))), (2, .inl l2)] rfl rfl rfl ?_
          refine zw_sto hm_48 dX4_fewestLeaving_41 [(2, .inl (l2 + (1 : Int32))), (1, .inl l2), (0, .inr (.inr (some 91)))] rfl rfl rfl ?_
          refine zw_goto hm_48 dX4_fewestLeaving_44 (t := 4) rfl ?_
          exact zw_sub (ma_nd_of (ks := [0, 1, 2]) rfl (by decide)) (ma_nd_of (ks := [2, 1, 0]) rfl (by decide)) (ma_le_cons rfl (ma_le_cons rfl (ma_le_cons rfl (ma_le_nil _)))) h
theorem lp_48_91_sz_4 {X : Nat × (Nat → Int32)} {d w : Nat} {f : Nat → Nat → Int32} {r : Nat → Nat → Option Nat} {C Z N : Nat} {Q : Option ma_V ⊕ Nat → ma_S → Prop} {S : ma_S} (hd : 0 ≤ d) (hw : 0 ≤ w) (K : ∀ v S₉, S₉ = S → (-1 ≤ v.toInt ∧ v.toInt ≤ 92) → (v.toInt = rFw (aZ S)) → Q (.inl (some (.inl v))) S₉) : ∀ (n : Nat) (l1 : Int32) (l2 : Int32), (93 - l2.toInt).toNat = n → zL91 f r C Z N S → (0 ≤ l2.toInt) → (l2.toInt ≤ 93) → (-1 ≤ l1.toInt) → (l1.toInt ≤ 92) → (l1.toInt = rFg (fun k => (aZ S 93 k).toInt) l2.toNatClampNeg) → ma_wp X d w 48 4 [(0, .inr (.inr (some 91))), (1, .inl l1), (2, .inl l2)] [] S Q := by
  intro n
  induction n using Nat.strongRecOn with
  | _ n IH =>
    intro l1 l2 hmu hI  hi0 hi1 hi2 hi3 hi4
    refine g_48_91_sz_4 l1 l2 (by omega) (by omega) (zG_T hI) ?_
    have li1 : (93 : Int32).toInt = 93 := rfl
    have b2 := i_bd l2
    refine zd (fun h3 => ?_) (fun h3 => ?_)
    · skip
      have g4 := i_le h3
      have b5 := i_bd l1
      exact K (l1) _ rfl (by omega) (show l1.toInt = rFw (aZ S) from by first | (have q := hi4; rw [show l2.toNatClampNeg = 93 from by have := tn_cast (x := l2) (by omega); omega] at q; exact q))
    · skip
      have g6 := i_nle h3
      refine ⟨i_ix (by omega) (by omega), ?_⟩
      have b7 := i_bd (mI S 93 l2.toNatClampNeg)
      have li8 : (0 : Int32).toInt = 0 := rfl
      refine zd (fun h9 => ?_) (fun h9 => ?_)
      · skip
        have g10 := i_le h9
        have b11 := i_bd l1
        first | have e12 : (l2 + (1 : Int32)).toInt = l2.toInt + (1) := i_addk rfl (by omega) (by omega) | have b13 := i_bd (l2 + (1 : Int32))
        exact IH _ (by omega) (l1) ((l2 + (1 : Int32))) rfl hI (by omega) (by omega) (by omega) (by omega) (show (l1).toInt = rFg (fun k => (aZ S 93 k).toInt) ((l2 + (1 : Int32))).toNatClampNeg from by first | (exact Fw_s hi4 (by omega) (by omega) (Or.inr ⟨by omega, rfl⟩)) | (exact Fw_s hi4 (by omega) (by omega) (Or.inl ⟨by omega, by omega, rfl⟩)))
      · skip
        have g14 := i_nle h9
        have b15 := i_bd l1
        have li16 : (-1 : Int32).toInt = -1 := rfl
        refine zd (fun h17 => ?_) (fun h17 => ?_)
        · skip
          have g18 := i_eq h17
          first | have e19 : (l2 + (1 : Int32)).toInt = l2.toInt + (1) := i_addk rfl (by omega) (by omega) | have b20 := i_bd (l2 + (1 : Int32))
          exact IH _ (by omega) (l2) ((l2 + (1 : Int32))) rfl hI (by omega) (by omega) (by omega) (by omega) (show (l2).toInt = rFg (fun k => (aZ S 93 k).toInt) ((l2 + (1 : Int32))).toNatClampNeg from by first | (exact Fw_s hi4 (by omega) (by omega) (Or.inr ⟨by omega, rfl⟩)) | (exact Fw_s hi4 (by omega) (by omega) (Or.inl ⟨by omega, by omega, rfl⟩)))
        · skip
          have g21 := i_ne h17
          refine ⟨i_ix (by omega) (by omega), ?_⟩
          refine ⟨i_ix (by omega) (by omega), ?_⟩
          have b22 := i_bd (mI S 93 l1.toNatClampNeg)
          refine zd (fun h23 => ?_) (fun h23 => ?_)
          · skip
            have g24 := i_le h23
            first | have e25 : (l2 + (1 : Int32)).toInt = l2.toInt + (1) := i_addk rfl (by omega) (by omega) | have b26 := i_bd (l2 + (1 : Int32))
            exact IH _ (by omega) (l1) ((l2 + (1 : Int32))) rfl hI (by omega) (by omega) (by omega) (by omega) (show (l1).toInt = rFg (fun k => (aZ S 93 k).toInt) ((l2 + (1 : Int32))).toNatClampNeg from by first | (exact Fw_s hi4 (by omega) (by omega) (Or.inr ⟨by omega, rfl⟩)) | (exact Fw_s hi4 (by omega) (by omega) (Or.inl ⟨by omega, by omega, rfl⟩)))
          · skip
            have g27 := i_nle h23
            first | have e28 : (l2 + (1 : Int32)).toInt = l2.toInt + (1) := i_addk rfl (by omega) (by omega) | have b29 := i_bd (l2 + (1 : Int32))
            exact IH _ (by omega) (l2) ((l2 + (1 : Int32))) rfl hI (by omega) (by omega) (by omega) (by omega) (show (l2).toInt = rFg (fun k => (aZ S 93 k).toInt) ((l2 + (1 : Int32))).toNatClampNeg from by first | (exact Fw_s hi4 (by omega) (by omega) (Or.inr ⟨by omega, rfl⟩)) | (exact Fw_s hi4 (by omega) (by omega) (Or.inl ⟨by omega, by omega, rfl⟩)))
theorem sp_48_91_sz {X : Nat × (Nat → Int32)} {d w : Nat} {f : Nat → Nat → Int32} {r : Nat → Nat → Option Nat} {C Z N : Nat} {Q : Option ma_V ⊕ Nat → ma_S → Prop} {S : ma_S}  (hd : 0 ≤ d) (hw : 0 ≤ w) (hI : zL91 f r C Z N S)  (K : ∀ v S₉, S₉ = S → (-1 ≤ v.toInt ∧ v.toInt ≤ 92) → (v.toInt = rFw (aZ S)) → Q (.inl (some (.inl v))) S₉) : ma_wp X d w 48 0 [(0, .inr (.inr (some 91)))] [] S Q := by
  refine g_48_91_sz_0  (by omega) (by omega) (zG_T hI) ?_
  have li1 : (-1 : Int32).toInt = -1 := rfl
  have li2 : (0 : Int32).toInt = 0 := rfl
  exact lp_48_91_sz_4 (by omega) (by omega) K _ ((-1 : Int32)) ((0 : Int32)) rfl hI (by omega) (by omega) (by omega) (by omega) (show ((-1 : Int32)).toInt = rFg (fun k => (aZ S 93 k).toInt) ((0 : Int32)).toNatClampNeg from by first | (exact rfl))

