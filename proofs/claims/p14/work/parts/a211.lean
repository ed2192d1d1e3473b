/-! from 95.q19 -/
/-! the moving collectors, the class (written by wip/tools/gen15.py) -/
theorem g_263_80_s_0 {X : Nat × (Nat → Int32)} {d w : Nat} {S : ma_S} {Q : Option ma_V ⊕ Nat → ma_S → Prop} (lm : Int32) (hd : 2 ≤ d) (hw : 92 ≤ w) (hS : zT S) (h : ma_wp X d w 263 4 [(0, .inr (.inr (some 80))), (1, .inl lm), (2, .inl (0 : Int32)), (3, .inl (0 : Int32))] [] S Q) : ma_wp X d w 263 0 [(0, .inr (.inr (some 80))), (1, .inl lm)] [] S Q := by
  refine zw_push hm_263 dX1_slideDown_0 (v := .inl (0 : Int32)) rfl ?_
  refine zw_sto hm_263 dX1_slideDown_1 [(2, .inl (0 : Int32)), (0, .inr (.inr (some 80))), (1, .inl lm)] rfl rfl rfl ?_
  refine zw_push hm_263 dX1_slideDown_2 (v := .inl (0 : Int32)) rfl ?_
  refine zw_sto hm_263 dX1_slideDown_3 [(3, .inl (0 : Int32)), (2, .inl (0 : Int32)), (0, .inr (.inr (some 80))), (1, .inl lm)] rfl rfl rfl ?_
  exact zw_sub (ma_nd_of (ks := [0, 1, 2, 3]) rfl (by decide)) (ma_nd_of (ks := [3, 2, 0, 1]) rfl (by decide)) (ma_le_cons rfl (ma_le_cons rfl (ma_le_cons rfl (ma_le_cons rfl (ma_le_nil _))))) h
theorem g_263_80_s_4 {X : Nat × (Nat → Int32)} {d w : Nat} {S : ma_S} {Q : Option ma_V ⊕ Nat → ma_S → Prop} (l1 : Int32) (l2 : Int32) (l3 : Int32) (hd : 2 ≤ d) (hw : 114 ≤ w) (hS : zT S) (h : if l1 ≤ l3 then (Q (.inl (some (.inl l2))) S) else (if l3 < 0 then (ma_wp X d w 263 4 [(0, .inr (.inr (some 80))), (1, .inl l1), (2, .inl l2), (3, .inl (l3 + (1 : Int32)))] [] S Q) else (if (4500 : Int32) ≤ l3 then (ma_wp X d w 263 4 [(0, .inr (.inr (some 80))), (1, .inl l1), (2, .inl l2), (3, .inl (l3 + (1 : Int32)))] [] S Q) else ((0 ≤ l3 ∧ l3.toNatClampNeg < 4500) ∧ (if (mI S 71 l3.toNatClampNeg) < 0 then (ma_wp X d w 263 4 [(0, .inr (.inr (some 80))), (1, .inl l1), (2, .inl l2), (3, .inl (l3 + (1 : Int32)))] [] S Q) else (if (512 : Int32) ≤ (mI S 71 l3.toNatClampNeg) then (ma_wp X d w 263 4 [(0, .inr (.inr (some 80))), (1, .inl l1), (2, .inl l2), (3, .inl (l3 + (1 : Int32)))] [] S Q) else ((0 ≤ (mI S 71 l3.toNatClampNeg) ∧ (mI S 71 l3.toNatClampNeg).toNatClampNeg < 512) ∧ (((mR S 70 (mI S 71 l3.toNatClampNeg).toNatClampNeg) = none → ma_wp X d w 263 4 [(0, .inr (.inr (some 80))), (1, .inl l1), (2, .inl l2), (3, .inl (l3 + (1 : Int32)))] [] S Q) ∧ (∀ c1, (mR S 70 (mI S 71 l3.toNatClampNeg).toNatClampNeg) = some c1 → (126 ≤ c1 ∧ c1 < mN S) ∧ ((126 ≤ c1 ∧ c1 < mN S) ∧ (if (mI S c1 7) = 0 then (ma_wp X (d - 1) (w - 24) 90 0 [(0, .inr (.inr (some 69))), (1, .inr (.inr (some c1))), (2, .inl l2)] [] S (zv (fun S2 => zT S2 ∧ ((126 ≤ c1 ∧ c1 < mN S2) ∧ ((126 ≤ c1 ∧ c1 < mN S2) ∧ (ma_wp X d w 263 4 [(0, .inr (.inr (some 80))), (1, .inl l1), (2, .inl ((mI S2 c1 4) + (mI S2 c1 2))), (3, .inl (l3 + (mI S c1 2)))] [] S2 Q)))) (fun x S9 => Q (.inr x) S9))) else ((126 ≤ c1 ∧ c1 < mN S) ∧ ((126 ≤ c1 ∧ c1 < mN S) ∧ (ma_wp X d w 263 4 [(0, .inr (.inr (some 80))), (1, .inl l1), (2, .inl ((mI S c1 4) + (mI S c1 2))), (3, .inl (l3 + (mI S c1 2)))] [] S Q)))))))))))))) : ma_wp X d w 263 4 [(0, .inr (.inr (some 80))), (1, .inl l1), (2, .inl l2), (3, .inl l3)] [] S Q := by
  refine zw_push hm_263 dX1_slideDown_4 (v := .inl l3) rfl ?_
  refine zw_push hm_263 dX1_slideDown_5 (v := .inl l1) rfl ?_
  refine zw_if2 hm_263 dX1_slideDown_6 (t := 71) rfl zc2_ge ?_ ?_
  · intro hc
    rw [if_pos hc] at h
    refine zw_push hm_263 dX1_slideDown_71 (v := .inl l2) rfl ?_
    exact zw_iret hm_263 dX1_slideDown_72 h
  · intro hc
    rw [if_neg hc] at h
    refine zw_push hm_263 dX1_slideDown_9 (v := .inr (.inr (some 80))) rfl ?_
    refine zw_gf hm_263 dX1_slideDown_10 (v := .inr (.inr (some 69))) (zT_is hS s_80) (zT_t hS s_80) rfl f_13_9_5 (zT_f hS r_80_0) ?_
    refine zw_push hm_263 dX1_slideDown_13 (v := .inl l3) rfl ?_
    refine zw_cv hm_263 dX1_slideDown_14 v_13_34_7 hm_89 [.inl l3] [] rfl (zT_rt hS s_69 rfl) ⟨by omega, by omega⟩ rfl ?_
    show ma_wp X (d - 1) (w - 22) 89 0 [(0, .inr (.inr (some 69))), (1, .inl l3)] [] S _
    refine zw_push hm_89 dX7_thingFrom_0 (v := .inl l3) rfl ?_
    refine zw_if0 hm_89 dX7_thingFrom_1 (t := 20) rfl zc0_lt ?_ ?_
    · intro hc
      rw [if_pos hc] at h
      refine zw_push hm_89 dX7_thingFrom_20 (v := .inl (-1 : Int32)) rfl ?_
      refine zw_sto hm_89 dX7_thingFrom_21 [(2, .inl (-1 : Int32)), (0, .inr (.inr (some 69))), (1, .inl l3)] rfl rfl rfl ?_
      refine zw_push hm_89 dX7_thingFrom_22 (v := .inl (-1 : Int32)) rfl ?_
      refine zw_if0 hm_89 dX7_thingFrom_23 (t := 42) rfl zc0_lt (fun _ => ?_) (fun hc => absurd (by decide) hc)
      refine zw_push hm_89 dX7_thingFrom_42 (v := .inr (.inr none)) rfl ?_
      refine zw_aret hm_89 dX7_thingFrom_43 ?_
      show ma_wp X d w 263 17 [(0, .inr (.inr (some 80))), (1, .inl l1), (2, .inl l2), (3, .inl l3)] [.inr (.inr none)] S _
      refine zw_sto hm_263 dX1_slideDown_17 [(4, .inr (.inr none)), (0, .inr (.inr (some 80))), (1, .inl l1), (2, .inl l2), (3, .inl l3)] rfl rfl rfl ?_
      refine zw_push hm_263 dX1_slideDown_19 (v := .inr (.inr none)) rfl ?_
      refine zw_ifnonnull hm_263 dX1_slideDown_21 (t := 30) rfl (fun _ => ?_) (fun _ z => by cases z)
      refine zw_sto hm_263 dX1_slideDown_24 [(3, .inl (l3 + (1 : Int32))), (4, .inr (.inr none)), (0, .inr (.inr (some 80))), (1, .inl l1), (2, .inl l2)] rfl rfl rfl ?_
      refine zw_goto hm_263 dX1_slideDown_27 (t := 68) rfl ?_
      refine zw_goto hm_263 dX1_slideDown_68 (t := 4) rfl ?_
      exact zw_sub (ma_nd_of (ks := [0, 1, 2, 3]) rfl (by decide)) (ma_nd_of (ks := [3, 4, 0, 1, 2]) rfl (by decide)) (ma_le_cons rfl (ma_le_cons rfl (ma_le_cons rfl (ma_le_cons rfl (ma_le_nil _))))) h
    · intro hc
      rw [if_neg hc] at h
      refine zw_push hm_89 dX7_thingFrom_4 (v := .inl l3) rfl ?_
      refine zw_push hm_89 dX7_thingFrom_5 (v := .inl (4500 : Int32)) rfl ?_
      refine zw_if2 hm_89 dX7_thingFrom_8 (t := 20) rfl zc2_ge ?_ ?_
      · intro hc
        rw [if_pos hc] at h
        refine zw_push hm_89 dX7_thingFrom_20 (v := .inl (-1 : Int32)) rfl ?_
        refine zw_sto hm_89 dX7_thingFrom_21 [(2, .inl (-1 : Int32)), (0, .inr (.inr (some 69))), (1, .inl l3)] rfl rfl rfl ?_
        refine zw_push hm_89 dX7_thingFrom_22 (v := .inl (-1 : Int32)) rfl ?_
        refine zw_if0 hm_89 dX7_thingFrom_23 (t := 42) rfl zc0_lt (fun _ => ?_) (fun hc => absurd (by decide) hc)
        refine zw_push hm_89 dX7_thingFrom_42 (v := .inr (.inr none)) rfl ?_
        refine zw_aret hm_89 dX7_thingFrom_43 ?_
        show ma_wp X d w 263 17 [(0, .inr (.inr (some 80))), (1, .inl l1), (2, .inl l2), (3, .inl l3)] [.inr (.inr none)] S _
        refine zw_sto hm_263 dX1_slideDown_17 [(4, .inr (.inr none)), (0, .inr (.inr (some 80))), (1, .inl l1), (2, .inl l2), (3, .inl l3)] rfl rfl rfl ?_
        refine zw_push hm_263 dX1_slideDown_19 (v := .inr (.inr none)) rfl ?_
        refine zw_ifnonnull hm_263 dX1_slideDown_21 (t := 30) rfl (fun _ => ?_) (fun _ z => by cases z)
        refine zw_sto hm_263 dX1_slideDown_24 [(3, .inl (l3 + (1 : Int32))), (4, .inr (.inr none)), (0, .inr (.inr (some 80))), (1, .inl l1), (2, .inl l2)] rfl rfl rfl ?_
        refine zw_goto hm_263 dX1_slideDown_27 (t := 68) rfl ?_
        refine zw_goto hm_263 dX1_slideDown_68 (t := 4) rfl ?_
        exact zw_sub (ma_nd_of (ks := [0, 1, 2, 3]) rfl (by decide)) (ma_nd_of (ks := [3, 4, 0, 1, 2]) rfl (by decide)) (ma_le_cons rfl (ma_le_cons rfl (ma_le_cons rfl (ma_le_cons rfl (ma_le_nil _))))) h
      · intro hc
        rw [if_neg hc] at h
        refine zw_push hm_89 dX7_thingFrom_11 (v := .inr (.inr (some 69))) rfl ?_
        refine zw_gf hm_89 dX7_thingFrom_12 (v := .inr (.inr (some 71))) (zT_is hS s_69) (zT_t hS s_69) rfl f_7_17_7 (zT_f hS r_69_1) ?_
        refine zw_push hm_89 dX7_thingFrom_15 (v := .inl l3) rfl ?_
        obtain ⟨hg, h⟩ := h
        refine zw_ia hm_89 dX7_thingFrom_16 (zT_is hS s_71) (zT_h hS s_71) rfl hg ?_
        show ma_wp X (d - 1) (w - 22) 89 17 [(0, .inr (.inr (some 69))), (1, .inl l3)] [.inl (mI S 71 l3.toNatClampNeg)] S _
        refine zw_goto hm_89 dX7_thingFrom_17 (t := 21) rfl ?_
        refine zw_sto hm_89 dX7_thingFrom_21 [(2, .inl (mI S 71 l3.toNatClampNeg)), (0, .inr (.inr (some 69))), (1, .inl l3)] rfl rfl rfl ?_
        refine zw_push hm_89 dX7_thingFrom_22 (v := .inl (mI S 71 l3.toNatClampNeg)) rfl ?_
        refine zw_if0 hm_89 dX7_thingFrom_23 (t := 42) rfl zc0_lt ?_ ?_
        · intro hc
          rw [if_pos hc] at h
          refine zw_push hm_89 dX7_thingFrom_42 (v := .inr (.inr none)) rfl ?_
          refine zw_aret hm_89 dX7_thingFrom_43 ?_
          show ma_wp X d w 263 17 [(0, .inr (.inr (some 80))), (1, .inl l1), (2, .inl l2), (3, .inl l3)] [.inr (.inr none)] S _
          refine zw_sto hm_263 dX1_slideDown_17 [(4, .inr (.inr none)), (0, .inr (.inr (some 80))), (1, .inl l1), (2, .inl l2), (3, .inl l3)] rfl rfl rfl ?_
          refine zw_push hm_263 dX1_slideDown_19 (v := .inr (.inr none)) rfl ?_
          refine zw_ifnonnull hm_263 dX1_slideDown_21 (t := 30) rfl (fun _ => ?_) (fun _ z => by cases z)
          refine zw_sto hm_263 dX1_slideDown_24 [(3, .inl (l3 + (1 : Int32))), (4, .inr (.inr none)), (0, .inr (.inr (some 80))), (1, .inl l1), (2, .inl l2)] rfl rfl rfl ?_
          refine zw_goto hm_263 dX1_slideDown_27 (t := 68) rfl ?_
          refine zw_goto hm_263 dX1_slideDown_68 (t := 4) rfl ?_
          exact zw_sub (ma_nd_of (ks := [0, 1, 2, 3]) rfl (by decide)) (ma_nd_of (ks := [3, 4, 0, 1, 2]) rfl (by decide)) (ma_le_cons rfl (ma_le_cons rfl (ma_le_cons rfl (ma_le_cons rfl (ma_le_nil _))))) h
        · intro hc
          rw [if_neg hc] at h
          refine zw_push hm_89 dX7_thingFrom_26 (v := .inl (mI S 71 l3.toNatClampNeg)) rfl ?_
          refine zw_push hm_89 dX7_thingFrom_27 (v := .inl (512 : Int32)) rfl ?_
          refine zw_if2 hm_89 dX7_thingFrom_30 (t := 42) rfl zc2_ge ?_ ?_
          · intro hc
            rw [if_pos hc] at h
            refine zw_push hm_89 dX7_thingFrom_42 (v := .inr (.inr none)) rfl ?_
            refine zw_aret hm_89 dX7_thingFrom_43 ?_
            show ma_wp X d w 263 17 [(0, .inr (.inr (some 80))), (1, .inl l1), (2, .inl l2), (3, .inl l3)] [.inr (.inr none)] S _
            refine zw_sto hm_263 dX1_slideDown_17 [(4, .inr (.inr none)), (0, .inr (.inr (some 80))), (1, .inl l1), (2, .inl l2), (3, .inl l3)] rfl rfl rfl ?_
            refine zw_push hm_263 dX1_slideDown_19 (v := .inr (.inr none)) rfl ?_
            refine zw_ifnonnull hm_263 dX1_slideDown_21 (t := 30) rfl (fun _ => ?_) (fun _ z => by cases z)
            refine zw_sto hm_263 dX1_slideDown_24 [(3, .inl (l3 + (1 : Int32))), (4, .inr (.inr none)), (0, .inr (.inr (some 80))), (1, .inl l1), (2, .inl l2)] rfl rfl rfl ?_
            refine zw_goto hm_263 dX1_slideDown_27 (t := 68) rfl ?_
            refine zw_goto hm_263 dX1_slideDown_68 (t := 4) rfl ?_
            exact zw_sub (ma_nd_of (ks := [0, 1, 2, 3]) rfl (by decide)) (ma_nd_of (ks := [3, 4, 0, 1, 2]) rfl (by decide)) (ma_le_cons rfl (ma_le_cons rfl (ma_le_cons rfl (ma_le_cons rfl (ma_le_nil _))))) h
          · intro hc
            rw [if_neg hc] at h
            refine zw_push hm_89 dX7_thingFrom_33 (v := .inr (.inr (some 69))) rfl ?_
            refine zw_gf hm_89 dX7_thingFrom_34 (v := .inr (.inr (some 70))) (zT_is hS s_69) (zT_t hS s_69) rfl f_7_11_7 (zT_f hS r_69_0) ?_
            refine zw_push hm_89 dX7_thingFrom_37 (v := .inl (mI S 71 l3.toNatClampNeg)) rfl ?_
            obtain ⟨hg, h⟩ := h
            refine zw_aa hm_89 dX7_thingFrom_38 (zT_is hS s_70) (zT_h hS s_70) rfl rfl hg rfl ?_
            show ma_wp X (d - 1) (w - 22) 89 39 [(2, .inl (mI S 71 l3.toNatClampNeg)), (0, .inr (.inr (some 69))), (1, .inl l3)] [.inr (.inr (mR S 70 (mI S 71 l3.toNatClampNeg).toNatClampNeg))] S _
            refine zw_goto hm_89 dX7_thingFrom_39 (t := 43) rfl ?_
            refine zw_aret hm_89 dX7_thingFrom_43 ?_
            show ma_wp X d w 263 17 [(0, .inr (.inr (some 80))), (1, .inl l1), (2, .inl l2), (3, .inl l3)] [.inr (.inr (mR S 70 (mI S 71 l3.toNatClampNeg).toNatClampNeg))] S _
            refine zw_sto hm_263 dX1_slideDown_17 [(4, .inr (.inr (mR S 70 (mI S 71 l3.toNatClampNeg).toNatClampNeg))), (0, .inr (.inr (some 80))), (1, .inl l1), (2, .inl l2), (3, .inl l3)] rfl rfl rfl ?_
            refine zw_push hm_263 dX1_slideDown_19 (v := .inr (.inr (mR S 70 (mI S 71 l3.toNatClampNeg).toNatClampNeg))) rfl ?_
            refine zw_ifnonnull hm_263 dX1_slideDown_21 (t := 30) rfl ?_ ?_
            · intro hc
              have h := h.1 hc
              (try rw [hc])
              show ma_wp X d w 263 24 [(4, .inr (.inr none)), (0, .inr (.inr (some 80))), (1, .inl l1), (2, .inl l2), (3, .inl l3)] [] S _
              refine zw_sto hm_263 dX1_slideDown_24 [(3, .inl (l3 + (1 : Int32))), (4, .inr (.inr none)), (0, .inr (.inr (some 80))), (1, .inl l1), (2, .inl l2)] rfl rfl rfl ?_
              refine zw_goto hm_263 dX1_slideDown_27 (t := 68) rfl ?_
              refine zw_goto hm_263 dX1_slideDown_68 (t := 4) rfl ?_
              exact zw_sub (ma_nd_of (ks := [0, 1, 2, 3]) rfl (by decide)) (ma_nd_of (ks := [3, 4, 0, 1, 2]) rfl (by decide)) (ma_le_cons rfl (ma_le_cons rfl (ma_le_cons rfl (ma_le_cons rfl (ma_le_nil _))))) h
            · intro c1 hc
              have h := h.2 c1 hc
              (try rw [hc])
              show ma_wp X d w 263 30 [(4, .inr (.inr (some c1))), (0, .inr (.inr (some 80))), (1, .inl l1), (2, .inl l2), (3, .inl l3)] [] S _
              refine zw_push hm_263 dX1_slideDown_30 (v := .inl l3) rfl ?_
              refine zw_push hm_263 dX1_slideDown_31 (v := .inr (.inr (some c1))) rfl ?_
              obtain ⟨hg, h⟩ := h
              refine zw_gf hm_263 dX1_slideDown_33 (v := .inl (mI S c1 2)) (zT_tis hS hg) (zT_tt hS hg) rfl f_13_38_9 rfl ?_
              refine zw_stk hm_263 dX1_slideDown_36 (st₉ := [.inl (l3 + (mI S c1 2))]) rfl rfl ?_
              refine zw_sto hm_263 dX1_slideDown_37 [(3, .inl (l3 + (mI S c1 2))), (4, .inr (.inr (some c1))), (0, .inr (.inr (some 80))), (1, .inl l1), (2, .inl l2)] rfl rfl rfl ?_
              refine zw_push hm_263 dX1_slideDown_38 (v := .inr (.inr (some c1))) rfl ?_
              obtain ⟨hg, h⟩ := h
              refine zw_gf hm_263 dX1_slideDown_40 (v := .inl (mI S c1 7)) (zT_tis hS hg) (zT_tt hS hg) rfl f_13_44_9 rfl ?_
              refine zw_if0 hm_263 dX1_slideDown_43 (t := 56) rfl zc0_ne ?_ ?_
              · intro hc
                rw [if_neg hc] at h
                refine zw_push hm_263 dX1_slideDown_56 (v := .inr (.inr (some c1))) rfl ?_
                obtain ⟨hg, h⟩ := h
                refine zw_gf hm_263 dX1_slideDown_58 (v := .inl (mI S c1 4)) (zT_tis hS hg) (zT_tt hS hg) rfl f_13_51_9 rfl ?_
                refine zw_push hm_263 dX1_slideDown_61 (v := .inr (.inr (some c1))) rfl ?_
                obtain ⟨hg, h⟩ := h
                refine zw_gf hm_263 dX1_slideDown_63 (v := .inl (mI S c1 2)) (zT_tis hS hg) (zT_tt hS hg) rfl f_13_38_9 rfl ?_
                refine zw_stk hm_263 dX1_slideDown_66 (st₉ := [.inl ((mI S c1 4) + (mI S c1 2))]) rfl rfl ?_
                refine zw_sto hm_263 dX1_slideDown_67 [(2, .inl ((mI S c1 4) + (mI S c1 2))), (3, .inl (l3 + (mI S c1 2))), (4, .inr (.inr (some c1))), (0, .inr (.inr (some 80))), (1, .inl l1)] rfl rfl rfl ?_
                refine zw_goto hm_263 dX1_slideDown_68 (t := 4) rfl ?_
                exact zw_sub (ma_nd_of (ks := [0, 1, 2, 3]) rfl (by decide)) (ma_nd_of (ks := [2, 3, 4, 0, 1]) rfl (by decide)) (ma_le_cons rfl (ma_le_cons rfl (ma_le_cons rfl (ma_le_cons rfl (ma_le_nil _))))) h
              · intro hc
                rw [if_pos (Classical.not_not.mp hc)] at h
                refine zw_push hm_263 dX1_slideDown_46 (v := .inr (.inr (some 80))) rfl ?_
                refine zw_gf hm_263 dX1_slideDown_47 (v := .inr (.inr (some 69))) (zT_is hS s_80) (zT_t hS s_80) rfl f_13_9_5 (zT_f hS r_80_0) ?_
                refine zw_push hm_263 dX1_slideDown_50 (v := .inr (.inr (some c1))) rfl ?_
                refine zw_push hm_263 dX1_slideDown_52 (v := .inl l2) rfl ?_
                refine zw_cv hm_263 dX1_slideDown_53 v_13_47_7 hm_90 [.inl l2, .inr (.inr (some c1))] [] rfl (zT_rt hS s_69 rfl) ⟨by omega, by omega⟩ rfl (zw_mono h (zv_go ?_ ?_))
                · intro S2 hv
                  obtain ⟨hS2, h⟩ := hv
                  refine zw_push hm_263 dX1_slideDown_56 (v := .inr (.inr (some c1))) rfl ?_
                  obtain ⟨hg, h⟩ := h
                  refine zw_gf hm_263 dX1_slideDown_58 (v := .inl (mI S2 c1 4)) (zT_tis hS2 hg) (zT_tt hS2 hg) rfl f_13_51_9 rfl ?_
                  refine zw_push hm_263 dX1_slideDown_61 (v := .inr (.inr (some c1))) rfl ?_
                  obtain ⟨hg, h⟩ := h
                  refine zw_gf hm_263 dX1_slideDown_63 (v := .inl (mI S2 c1 2)) (zT_tis hS2 hg) (zT_tt hS2 hg) rfl f_13_38_9 rfl ?_
                  refine zw_stk hm_263 dX1_slideDown_66 (st₉ := [.inl ((mI S2 c1 4) + (mI S2 c1 2))]) rfl rfl ?_
                  refine zw_sto hm_263 dX1_slideDown_67 [(2, .inl ((mI S2 c1 4) + (mI S2 c1 2))), (3, .inl (l3 + (mI S c1 2))), (4, .inr (.inr (some c1))), (0, .inr (.inr (some 80))), (1, .inl l1)] rfl rfl rfl ?_
                  refine zw_goto hm_263 dX1_slideDown_68 (t := 4) rfl ?_
                  exact zw_sub (ma_nd_of (ks := [0, 1, 2, 3]) rfl (by decide)) (ma_nd_of (ks := [2, 3, 4, 0, 1]) rfl (by decide)) (ma_le_cons rfl (ma_le_cons rfl (ma_le_cons rfl (ma_le_cons rfl (ma_le_nil _))))) h
                · intro x S9 hx
                  exact ⟨by decide, hx⟩
theorem lp_263_80_s_4 {X : Nat × (Nat → Int32)} {d w : Nat} {f : Nat → Nat → Int32} {r : Nat → Nat → Option Nat} {C Z N : Nat} {Q : Option ma_V ⊕ Nat → ma_S → Prop} {ab : Nat→Nat→Int32} {q : Nat→Int32} {lm : Int32} (hd : 2 ≤ d) (hw : 114 ≤ w) (K : ∀ v S₉, zI f r C Z N S₉ → (0 ≤ v.toInt ∧ v.toInt ≤ 300000) → (xB S₉ (mR S₉ 70)) → (aM q S₉ = (zSd ab lm.toInt 0 0).1 ∧ v.toInt = (zSd ab lm.toInt 0 0).2 ∧ ∃ p, lm.toInt ≤ p ∧ qJs (aM q S₉) p v.toInt) → Q (.inl (some (.inl v))) S₉) : ∀ (n : Nat) (S : ma_S) (l1 : Int32) (l2 : Int32) (l3 : Int32), (l1.toInt - l3.toInt).toNat = n → zI f r C Z N S → (0 ≤ l2.toInt) → (l2.toInt ≤ 300000) → (l1.toInt ≤ 1500) → (l1.toInt = lm.toInt) → (0 ≤ l3.toInt) → (xB S (mR S 70)) → (zSd (aM q S) lm.toInt l3.toInt l2.toInt = zSd ab lm.toInt 0 0) → (qJs (aM q S) l3.toInt l2.toInt) → ((q 2).toInt = 0) → ma_wp X d w 263 4 [(0, .inr (.inr (some 80))), (1, .inl l1), (2, .inl l2), (3, .inl l3)] [] S Q := by
  intro n
  induction n using Nat.strongRecOn with
  | _ n IH =>
    intro S l1 l2 l3 hmu hI  hi0 hi1 hi2 hi3 hi4 hi5 hi6 hi7 hi8
    refine g_263_80_s_4 l1 l2 l3 (by omega) (by omega) (zG_T hI) ?_
    have js2 := hi7.2.1
    have b1 := i_bd l1
    have b2 := i_bd l3
    refine zd (fun h3 => ?_) (fun h3 => ?_)
    · skip
      have g4 := i_le h3
      have b5 := i_bd l2
      exact K (l2) _ hI (by omega) (show xB S (mR S 70) from by first | (exact xB_x (xC_o (W := 75) hi5).2)) (show aM q S = (zSd ab lm.toInt 0 0).1 ∧ l2.toInt = (zSd ab lm.toInt 0 0).2 ∧ ∃ p, lm.toInt ≤ p ∧ qJs (aM q S) p l2.toInt from by first | (have z := (Sd_n (a := aM q S) (e := l2.toInt) (by omega)).symm.trans hi6; exact ⟨congrArg Prod.fst z, congrArg Prod.snd z, _, by omega, hi7⟩))
    · skip
      have g6 := i_nle h3
      have li7 : (0 : Int32).toInt = 0 := rfl
      refine zd (fun h8 => ?_) (fun h8 => ?_)
      · skip
        have g9 := i_lt h8
        have b10 := i_bd l2
        first | have e11 : (l3 + (1 : Int32)).toInt = l3.toInt + (1) := i_addk rfl (by omega) (by omega) | have b12 := i_bd (l3 + (1 : Int32))
        exact IH _ (by omega) _ (l1) (l2) ((l3 + (1 : Int32))) rfl hI (by omega) (by omega) (by omega) (by omega) (by omega) (show xB S (mR S 70) from by first | (exact xB_x (xC_o (W := 75) hi5).2)) (show zSd (aM q S) lm.toInt ((l3 + (1 : Int32))).toInt (l2).toInt = zSd ab lm.toInt 0 0 from by first | (have s1 := S1_I hi7.1; have o := (ob_n1 (a := aM q S) (p := l3.toInt) (by omega)); rw [show (l3 + (1 : Int32)).toInt = l3.toInt + 1 from by omega]; exact (Sd_fr s1 (by omega) (ob_neg o)).symm.trans hi6) | (have s1 := S1_I hi7.1; have o := (mb_n2 (q := q) (S := S) (x := l3) (by omega)); rw [show (l3 + (1 : Int32)).toInt = l3.toInt + 1 from by omega]; exact (Sd_fr s1 (by omega) (ob_neg o)).symm.trans hi6)) (show qJs (aM q S) ((l3 + (1 : Int32))).toInt (l2).toInt from by first | (have o := (ob_n1 (a := aM q S) (p := l3.toInt) (by omega)); rw [show (l3 + (1 : Int32)).toInt = l3.toInt + 1 from by omega]; exact Js_fr hi7 (ob_neg o) (by omega)) | (have o := (mb_n2 (q := q) (S := S) (x := l3) (by omega)); rw [show (l3 + (1 : Int32)).toInt = l3.toInt + 1 from by omega]; exact Js_fr hi7 (ob_neg o) (by omega))) (show (q 2).toInt = 0 from by first | (exact hi8) | (exact rfl))
      · skip
        have g13 := i_nlt h8
        have li14 : (4500 : Int32).toInt = 4500 := rfl
        refine zd (fun h15 => ?_) (fun h15 => ?_)
        · skip
          have g16 := i_le h15
          have b17 := i_bd l2
          first | have e18 : (l3 + (1 : Int32)).toInt = l3.toInt + (1) := i_addk rfl (by omega) (by omega) | have b19 := i_bd (l3 + (1 : Int32))
          exact IH _ (by omega) _ (l1) (l2) ((l3 + (1 : Int32))) rfl hI (by omega) (by omega) (by omega) (by omega) (by omega) (show xB S (mR S 70) from by first | (exact xB_x (xC_o (W := 75) hi5).2)) (show zSd (aM q S) lm.toInt ((l3 + (1 : Int32))).toInt (l2).toInt = zSd ab lm.toInt 0 0 from by first | (have s1 := S1_I hi7.1; have o := (ob_n1 (a := aM q S) (p := l3.toInt) (by omega)); rw [show (l3 + (1 : Int32)).toInt = l3.toInt + 1 from by omega]; exact (Sd_fr s1 (by omega) (ob_neg o)).symm.trans hi6) | (have s1 := S1_I hi7.1; have o := (mb_n2 (q := q) (S := S) (x := l3) (by omega)); rw [show (l3 + (1 : Int32)).toInt = l3.toInt + 1 from by omega]; exact (Sd_fr s1 (by omega) (ob_neg o)).symm.trans hi6)) (show qJs (aM q S) ((l3 + (1 : Int32))).toInt (l2).toInt from by first | (have o := (ob_n1 (a := aM q S) (p := l3.toInt) (by omega)); rw [show (l3 + (1 : Int32)).toInt = l3.toInt + 1 from by omega]; exact Js_fr hi7 (ob_neg o) (by omega)) | (have o := (mb_n2 (q := q) (S := S) (x := l3) (by omega)); rw [show (l3 + (1 : Int32)).toInt = l3.toInt + 1 from by omega]; exact Js_fr hi7 (ob_neg o) (by omega))) (show (q 2).toInt = 0 from by first | (exact hi8) | (exact rfl))
        · skip
          have g20 := i_nle h15
          refine ⟨i_ix (by omega) (by omega), ?_⟩
          have b21 := i_bd (mI S 71 l3.toNatClampNeg)
          refine zd (fun h22 => ?_) (fun h22 => ?_)
          · skip
            have g23 := i_lt h22
            have b24 := i_bd l2
            first | have e25 : (l3 + (1 : Int32)).toInt = l3.toInt + (1) := i_addk rfl (by omega) (by omega) | have b26 := i_bd (l3 + (1 : Int32))
            exact IH _ (by omega) _ (l1) (l2) ((l3 + (1 : Int32))) rfl hI (by omega) (by omega) (by omega) (by omega) (by omega) (show xB S (mR S 70) from by first | (exact xB_x (xC_o (W := 75) hi5).2)) (show zSd (aM q S) lm.toInt ((l3 + (1 : Int32))).toInt (l2).toInt = zSd ab lm.toInt 0 0 from by first | (have s1 := S1_I hi7.1; have o := (ob_n1 (a := aM q S) (p := l3.toInt) (by omega)); rw [show (l3 + (1 : Int32)).toInt = l3.toInt + 1 from by omega]; exact (Sd_fr s1 (by omega) (ob_neg o)).symm.trans hi6) | (have s1 := S1_I hi7.1; have o := (mb_n2 (q := q) (S := S) (x := l3) (by omega)); rw [show (l3 + (1 : Int32)).toInt = l3.toInt + 1 from by omega]; exact (Sd_fr s1 (by omega) (ob_neg o)).symm.trans hi6)) (show qJs (aM q S) ((l3 + (1 : Int32))).toInt (l2).toInt from by first | (have o := (ob_n1 (a := aM q S) (p := l3.toInt) (by omega)); rw [show (l3 + (1 : Int32)).toInt = l3.toInt + 1 from by omega]; exact Js_fr hi7 (ob_neg o) (by omega)) | (have o := (mb_n2 (q := q) (S := S) (x := l3) (by omega)); rw [show (l3 + (1 : Int32)).toInt = l3.toInt + 1 from by omega]; exact Js_fr hi7 (ob_neg o) (by omega))) (show (q 2).toInt = 0 from by first | (exact hi8) | (exact rfl))
          · skip
            have g27 := i_nlt h22
            have li28 : (512 : Int32).toInt = 512 := rfl
            refine zd (fun h29 => ?_) (fun h29 => ?_)
            · skip
              have g30 := i_le h29
              have b31 := i_bd l2
              first | have e32 : (l3 + (1 : Int32)).toInt = l3.toInt + (1) := i_addk rfl (by omega) (by omega) | have b33 := i_bd (l3 + (1 : Int32))
              exact IH _ (by omega) _ (l1) (l2) ((l3 + (1 : Int32))) rfl hI (by omega) (by omega) (by omega) (by omega) (by omega) (show xB S (mR S 70) from by first | (exact xB_x (xC_o (W := 75) hi5).2)) (show zSd (aM q S) lm.toInt ((l3 + (1 : Int32))).toInt (l2).toInt = zSd ab lm.toInt 0 0 from by first | (have s1 := S1_I hi7.1; have o := (ob_n1 (a := aM q S) (p := l3.toInt) (by omega)); rw [show (l3 + (1 : Int32)).toInt = l3.toInt + 1 from by omega]; exact (Sd_fr s1 (by omega) (ob_neg o)).symm.trans hi6) | (have s1 := S1_I hi7.1; have o := (mb_n2 (q := q) (S := S) (x := l3) (by omega)); rw [show (l3 + (1 : Int32)).toInt = l3.toInt + 1 from by omega]; exact (Sd_fr s1 (by omega) (ob_neg o)).symm.trans hi6)) (show qJs (aM q S) ((l3 + (1 : Int32))).toInt (l2).toInt from by first | (have o := (ob_n1 (a := aM q S) (p := l3.toInt) (by omega)); rw [show (l3 + (1 : Int32)).toInt = l3.toInt + 1 from by omega]; exact Js_fr hi7 (ob_neg o) (by omega)) | (have o := (mb_n2 (q := q) (S := S) (x := l3) (by omega)); rw [show (l3 + (1 : Int32)).toInt = l3.toInt + 1 from by omega]; exact Js_fr hi7 (ob_neg o) (by omega))) (show (q 2).toInt = 0 from by first | (exact hi8) | (exact rfl))
            · skip
              have g34 := i_nle h29
              refine ⟨i_ix (by omega) (by omega), ?_⟩
              refine ⟨fun hc => ?_, fun c1 hc => ?_⟩
              · skip
                have rn_c1 : zTa (mR S 70) (mI S 71 l3.toNatClampNeg) = none := (ta_rd (y := (mI S 71 l3.toNatClampNeg)) hi5 (by omega) (by omega)).symm.trans hc
                have b35 := i_bd l2
                first | have e36 : (l3 + (1 : Int32)).toInt = l3.toInt + (1) := i_addk rfl (by omega) (by omega) | have b37 := i_bd (l3 + (1 : Int32))
                exact IH _ (by omega) _ (l1) (l2) ((l3 + (1 : Int32))) rfl hI (by omega) (by omega) (by omega) (by omega) (by omega) (show xB S (mR S 70) from by first | (exact xB_x (xC_o (W := 75) hi5).2)) (show zSd (aM q S) lm.toInt ((l3 + (1 : Int32))).toInt (l2).toInt = zSd ab lm.toInt 0 0 from by first | (have s1 := S1_I hi7.1; have o := (mb_n3 (q := q) (x := l3) hi5 rn_c1); rw [show (l3 + (1 : Int32)).toInt = l3.toInt + 1 from by omega]; exact (Sd_fr s1 (by omega) (ob_neg o)).symm.trans hi6)) (show qJs (aM q S) ((l3 + (1 : Int32))).toInt (l2).toInt from by first | (have o := (mb_n3 (q := q) (x := l3) hi5 rn_c1); rw [show (l3 + (1 : Int32)).toInt = l3.toInt + 1 from by omega]; exact Js_fr hi7 (ob_neg o) (by omega))) (show (q 2).toInt = 0 from by first | (exact hi8) | (exact rfl))
              · skip
                have th_c1 := (fun _ z => zG_70 hI (c := 70) (by decide) z) c1 hc
                have rg_c1 : zTa (mR S 70) (mI S 71 l3.toNatClampNeg) = some c1 := (ta_rd (y := (mI S 71 l3.toNatClampNeg)) hi5 (by omega) (by omega)).symm.trans hc
                refine ⟨zG_n hI th_c1, ?_⟩
                refine ⟨zG_n hI th_c1, ?_⟩
                have b38 := i_bd (mI S c1 7)
                refine zd (fun h39 => ?_) (fun h39 => ?_)
                · skip
                  have g40 := i_eq h39
                  have b41 := i_bd l2
                  refine sp_90_69_s (ab := (aS 75 S)) (R := (mR S 70)) (y := ((mI S 71 l3.toNatClampNeg))) c1 (l2) (by omega) (by omega) hI th_c1 (show xB S (mR S 70) from by first | (exact xB_x (xC_o (W := 75) hi5).2)) (show aS 75 S = (aS 75 S) from by first | (exact rfl)) (show zTa (mR S 70) ((mI S 71 l3.toNatClampNeg)) = some c1 from by first | (exact rg_c1)) (show qMv (aS 75 S) ((mI S 71 l3.toNatClampNeg)).toNatClampNeg l2 from by first | (have o := mb_y (q := q) (x := l3) hi5 rg_c1 (by omega) (by omega); have ty := xB_th (W := 75) hi5 rg_c1; have h7 : aM q S 133 (mI S 71 l3.toNatClampNeg).toNatClampNeg = mI S c1 7 := (aM_o (by decide)).trans ty.2.2.2.2.2.2.1.symm; have ob0 : 0 ≤ (zOb (aM q S) l3.toInt).toInt := (by rw [o.1]; exact ty.1); have js := (Js_ob hi7 ob0).2.1; rw [o.1, aM_o (c := 130) (by decide), ← ty.2.2.2.2.2.1] at js; have z := (Js_fq hi7 ob0 (to := l2) rfl).2.1; rw [o.1] at z; exact Mv_S z)) (by omega) (fun S2 hI_S2 rp0_S2 rp1_S2 => zv_n ⟨zG_T hI_S2, ?_⟩)
                  have rp0_S2 : xB S2 (mR S 70) := rp0_S2
                  have rp1_S2 : aS 75 S2 = aMo (aS 75 S) ((mI S 71 l3.toNatClampNeg)).toNatClampNeg l2 := rp1_S2
                  refine ⟨zG_n hI_S2 th_c1, ?_⟩
                  refine ⟨zG_n hI_S2 th_c1, ?_⟩
                  have f42 := zG_th hI_S2 th_c1
                  have f43 := zG_th hI_S2 th_c1
                  first | have e44 : ((mI S2 c1 4) + (mI S2 c1 2)).toInt = (mI S2 c1 4).toInt + (mI S2 c1 2).toInt := i_add (by omega) (by omega) | have b45 := i_bd ((mI S2 c1 4) + (mI S2 c1 2))
                  have f46 := zG_th hI th_c1
                  first | have e47 : (l3 + (mI S c1 2)).toInt = l3.toInt + (mI S c1 2).toInt := i_add (by omega) (by omega) | have b48 := i_bd (l3 + (mI S c1 2))
                  exact IH _ (by omega) _ (l1) (((mI S2 c1 4) + (mI S2 c1 2))) ((l3 + (mI S c1 2))) rfl hI_S2 (by omega) (by omega) (by omega) (by omega) (by omega) (show xB S2 (mR S2 70) from by first | (exact xB_x (xC_o (W := 75) rp0_S2).2)) (show zSd (aM q S2) lm.toInt ((l3 + (mI S c1 2))).toInt (((mI S2 c1 4) + (mI S2 c1 2))).toInt = zSd ab lm.toInt 0 0 from by first | (have s1 := S1_I hi7.1; have o := mb_y (q := q) (x := l3) hi5 rg_c1 (by omega) (by omega); have ty := xB_th (W := 75) hi5 rg_c1; have h7 : aM q S 133 (mI S 71 l3.toNatClampNeg).toNatClampNeg = mI S c1 7 := (aM_o (by decide)).trans ty.2.2.2.2.2.2.1.symm; have ob0 : 0 ≤ (zOb (aM q S) l3.toInt).toInt := (by rw [o.1]; exact ty.1); have js := (Js_ob hi7 ob0).2.1; rw [o.1, aM_o (c := 130) (by decide), ← ty.2.2.2.2.2.1] at js; have z := Sd_mv (e := l2.toInt) (lim := lm.toInt) s1 (by omega) ob0 (by rw [o.1, h7]; exact i_zer (by omega)); rw [o.1, o.2, Int32.ofInt_toInt] at z; have u := xB_th (W := 75) rp0_S2 rg_c1; have u4 := congrArg Int32.toInt u.2.2.2.2.2.1; have u2 := congrArg Int32.toInt u.2.2.2.2.1; rw [rp1_S2, Mo_pn] at u4; rw [rp1_S2, Mo_r (by decide) (by decide), ← ty.2.2.2.2.1] at u2; rw [M_mo rp1_S2]; refine Eq.trans ?_ (z.symm.trans hi6); congr 1 <;> omega)) (show qJs (aM q S2) ((l3 + (mI S c1 2))).toInt (((mI S2 c1 4) + (mI S2 c1 2))).toInt from by first | (have o := mb_y (q := q) (x := l3) hi5 rg_c1 (by omega) (by omega); have ty := xB_th (W := 75) hi5 rg_c1; have h7 : aM q S 133 (mI S 71 l3.toNatClampNeg).toNatClampNeg = mI S c1 7 := (aM_o (by decide)).trans ty.2.2.2.2.2.2.1.symm; have ob0 : 0 ≤ (zOb (aM q S) l3.toInt).toInt := (by rw [o.1]; exact ty.1); have js := (Js_ob hi7 ob0).2.1; rw [o.1, aM_o (c := 130) (by decide), ← ty.2.2.2.2.2.1] at js; have z := Js_mv hi7 ob0 (to := l2) rfl (by rw [aM_7]; exact hi8); rw [o.1, o.2] at z; have u := xB_th (W := 75) rp0_S2 rg_c1; have u4 := congrArg Int32.toInt u.2.2.2.2.2.1; have u2 := congrArg Int32.toInt u.2.2.2.2.1; rw [rp1_S2, Mo_pn] at u4; rw [rp1_S2, Mo_r (by decide) (by decide), ← ty.2.2.2.2.1] at u2; rw [M_mo rp1_S2]; refine (show ∀ {b : Nat → Nat → Int32} {p p2 e e2 : Int}, qJs b p e → p = p2 → e = e2 → qJs b p2 e2 from fun h h1 h2 => h1 ▸ h2 ▸ h) z ?_ ?_ <;> omega)) (show (q 2).toInt = 0 from by first | (exact hi8) | (exact rfl))
                · skip
                  have g49 := i_ne h39
                  refine ⟨zG_n hI th_c1, ?_⟩
                  refine ⟨zG_n hI th_c1, ?_⟩
                  have f50 := zG_th hI th_c1
                  have f51 := zG_th hI th_c1
                  first | have e52 : ((mI S c1 4) + (mI S c1 2)).toInt = (mI S c1 4).toInt + (mI S c1 2).toInt := i_add (by omega) (by omega) | have b53 := i_bd ((mI S c1 4) + (mI S c1 2))
                  first | have e54 : (l3 + (mI S c1 2)).toInt = l3.toInt + (mI S c1 2).toInt := i_add (by omega) (by omega) | have b55 := i_bd (l3 + (mI S c1 2))
                  exact IH _ (by omega) _ (l1) (((mI S c1 4) + (mI S c1 2))) ((l3 + (mI S c1 2))) rfl hI (by omega) (by omega) (by omega) (by omega) (by omega) (show xB S (mR S 70) from by first | (exact xB_x (xC_o (W := 75) hi5).2)) (show zSd (aM q S) lm.toInt ((l3 + (mI S c1 2))).toInt (((mI S c1 4) + (mI S c1 2))).toInt = zSd ab lm.toInt 0 0 from by first | (have s1 := S1_I hi7.1; have o := mb_y (q := q) (x := l3) hi5 rg_c1 (by omega) (by omega); have ty := xB_th (W := 75) hi5 rg_c1; have h7 : aM q S 133 (mI S 71 l3.toNatClampNeg).toNatClampNeg = mI S c1 7 := (aM_o (by decide)).trans ty.2.2.2.2.2.2.1.symm; have ob0 : 0 ≤ (zOb (aM q S) l3.toInt).toInt := (by rw [o.1]; exact ty.1); have js := (Js_ob hi7 ob0).2.1; rw [o.1, aM_o (c := 130) (by decide), ← ty.2.2.2.2.2.1] at js; have z := Sd_ho (e := l2.toInt) (lim := lm.toInt) s1 (by omega) ob0 (by rw [o.1, h7]; exact i_nz2 (by omega)); rw [o.1, o.2] at z; refine Eq.trans ?_ (z.symm.trans hi6); congr 1 <;> omega)) (show qJs (aM q S) ((l3 + (mI S c1 2))).toInt (((mI S c1 4) + (mI S c1 2))).toInt from by first | (have o := mb_y (q := q) (x := l3) hi5 rg_c1 (by omega) (by omega); have ty := xB_th (W := 75) hi5 rg_c1; have h7 : aM q S 133 (mI S 71 l3.toNatClampNeg).toNatClampNeg = mI S c1 7 := (aM_o (by decide)).trans ty.2.2.2.2.2.2.1.symm; have ob0 : 0 ≤ (zOb (aM q S) l3.toInt).toInt := (by rw [o.1]; exact ty.1); have js := (Js_ob hi7 ob0).2.1; rw [o.1, aM_o (c := 130) (by decide), ← ty.2.2.2.2.2.1] at js; have z := Js_ho hi7 ob0; rw [o.1, o.2] at z; refine (show ∀ {p p2 e e2 : Int}, qJs (aM q S) p e → p = p2 → e = e2 → qJs (aM q S) p2 e2 from fun h h1 h2 => h1 ▸ h2 ▸ h) z ?_ ?_ <;> omega)) (show (q 2).toInt = 0 from by first | (exact hi8) | (exact rfl))
theorem sp_263_80_s {X : Nat × (Nat → Int32)} {d w : Nat} {f : Nat → Nat → Int32} {r : Nat → Nat → Option Nat} {C Z N : Nat} {Q : Option ma_V ⊕ Nat → ma_S → Prop} {ab : Nat→Nat→Int32} {q : Nat→Int32} {S : ma_S} (lm : Int32) (hd : 2 ≤ d) (hw : 114 ≤ w) (hI : zI f r C Z N S) (hpre0 : lm.toInt ≤ 1500) (hpre1 : xB S (mR S 70)) (hpre2 : aM q S = ab) (hpre3 : qI ab) (hpre4 : (q 2).toInt = 0) (K : ∀ v S₉, zI f r C Z N S₉ → (0 ≤ v.toInt ∧ v.toInt ≤ 300000) → (xB S₉ (mR S₉ 70)) → (aM q S₉ = (zSd ab lm.toInt 0 0).1 ∧ v.toInt = (zSd ab lm.toInt 0 0).2 ∧ ∃ p, lm.toInt ≤ p ∧ qJs (aM q S₉) p v.toInt) → Q (.inl (some (.inl v))) S₉) : ma_wp X d w 263 0 [(0, .inr (.inr (some 80))), (1, .inl lm)] [] S Q := by
  refine g_263_80_s_0 lm (by omega) (by omega) (zG_T hI) ?_
  have b1 := i_bd lm
  have li2 : (0 : Int32).toInt = 0 := rfl
  exact lp_263_80_s_4 (by omega) (by omega) K _ _ (lm) ((0 : Int32)) ((0 : Int32)) rfl hI (by omega) (by omega) (by omega) (by omega) (by omega) (show xB S (mR S 70) from by first | (exact xB_x (xC_o (W := 75) hpre1).2)) (show zSd (aM q S) lm.toInt ((0 : Int32)).toInt ((0 : Int32)).toInt = zSd ab lm.toInt 0 0 from by first | (rw [hpre2]; rfl)) (show qJs (aM q S) ((0 : Int32)).toInt ((0 : Int32)).toInt from by first | (rw [hpre2]; exact Js_0 hpre3)) (show (q 2).toInt = 0 from by first | (exact hpre4) | (exact rfl))

