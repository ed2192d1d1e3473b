/-! from 95.g03 -/
/-! the heap by numbers, the class (written by wip/tools/gen18.py) -/
theorem g_120_88_s_0 {X : Nat × (Nat → Int32)} {d w : Nat} {S : ma_S} {Q : Option ma_V ⊕ Nat → ma_S → Prop} (m : Int32) (hd : 1 ≤ d) (hw : 25 ≤ w) (hS : zT S) (h : ma_wp X d w 120 2 [(0, .inr (.inr (some 88))), (1, .inl m), (2, .inl (0 : Int32))] [] S Q) : ma_wp X d w 120 0 [(0, .inr (.inr (some 88))), (1, .inl m)] [] S Q := by
  refine zw_push hm_120 dX10_spread_0 (v := .inl (0 : Int32)) rfl ?_
  refine zw_sto hm_120 dX10_spread_1 [(2, .inl (0 : Int32)), (0, .inr (.inr (some 88))), (1, .inl m)] rfl rfl rfl ?_
  exact zw_sub (ma_nd_of (ks := [0, 1, 2]) rfl (by decide)) (ma_nd_of (ks := [2, 0, 1]) rfl (by decide)) (ma_le_cons rfl (ma_le_cons rfl (ma_le_cons rfl (ma_le_nil _)))) h
theorem g_120_88_s_2 {X : Nat × (Nat → Int32)} {d w : Nat} {S : ma_S} {Q : Option ma_V ⊕ Nat → ma_S → Prop} (l1 : Int32) (l2 : Int32) (hd : 1 ≤ d) (hw : 25 ≤ w) (hS : zT S) (h : if l1 ≤ l2 then (Q (.inl (some (.inl l2))) S) else (if (mI S 88 4) ≤ (mI S 88 3) then (Q (.inl (some (.inl l2))) S) else ((0 ≤ (mI S 88 3) ∧ (mI S 88 3).toNatClampNeg < 512) ∧ (if (mI S 89 (mI S 88 3).toNatClampNeg) < 0 then (ma_wp X d w 120 2 [(0, .inr (.inr (some 88))), (1, .inl l1), (2, .inl (l2 + (1 : Int32)))] [] (ma_put S 88 3 (.inl ((mI S 88 3) + (1 : Int32)))) Q) else (if (512 : Int32) ≤ (mI S 89 (mI S 88 3).toNatClampNeg) then (ma_wp X d w 120 2 [(0, .inr (.inr (some 88))), (1, .inl l1), (2, .inl (l2 + (1 : Int32)))] [] (ma_put S 88 3 (.inl ((mI S 88 3) + (1 : Int32)))) Q) else ((0 ≤ (mI S 89 (mI S 88 3).toNatClampNeg) ∧ (mI S 89 (mI S 88 3).toNatClampNeg).toNatClampNeg < 512) ∧ (((mR S 70 (mI S 89 (mI S 88 3).toNatClampNeg).toNatClampNeg) = none → ma_wp X d w 120 2 [(0, .inr (.inr (some 88))), (1, .inl l1), (2, .inl (l2 + (1 : Int32)))] [] (ma_put S 88 3 (.inl ((mI S 88 3) + (1 : Int32)))) Q) ∧ (∀ c1, (mR S 70 (mI S 89 (mI S 88 3).toNatClampNeg).toNatClampNeg) = some c1 → (126 ≤ c1 ∧ c1 < mN (ma_put S 88 3 (.inl ((mI S 88 3) + (1 : Int32))))) ∧ (if (512 : Int32) ≤ (mI (ma_put S 88 3 (.inl ((mI S 88 3) + (1 : Int32)))) c1 0) then (ma_wp X d w 120 57 [(0, .inr (.inr (some 88))), (1, .inl l1), (2, .inl l2), (3, .inr (.inr (some c1))), (4, .inl (0 : Int32))] [] (ma_put S 88 3 (.inl ((mI S 88 3) + (1 : Int32)))) Q) else ((126 ≤ c1 ∧ c1 < mN (ma_put S 88 3 (.inl ((mI S 88 3) + (1 : Int32))))) ∧ ((0 ≤ (mI (ma_put S 88 3 (.inl ((mI S 88 3) + (1 : Int32)))) c1 0) ∧ (mI (ma_put S 88 3 (.inl ((mI S 88 3) + (1 : Int32)))) c1 0).toNatClampNeg < 512) ∧ (ma_wp X d w 120 57 [(0, .inr (.inr (some 88))), (1, .inl l1), (2, .inl l2), (3, .inr (.inr (some c1))), (4, .inl (0 : Int32))] [] (ma_put (ma_put S 88 3 (.inl ((mI S 88 3) + (1 : Int32)))) 90 (mI (ma_put S 88 3 (.inl ((mI S 88 3) + (1 : Int32)))) c1 0).toNatClampNeg (.inl (2 : Int32))) Q)))))))))))) : ma_wp X d w 120 2 [(0, .inr (.inr (some 88))), (1, .inl l1), (2, .inl l2)] [] S Q := by
  refine zw_push hm_120 dX10_spread_2 (v := .inl l2) rfl ?_
  refine zw_push hm_120 dX10_spread_3 (v := .inl l1) rfl ?_
  refine zw_if2 hm_120 dX10_spread_4 (t := 94) rfl zc2_ge ?_ ?_
  · intro hc
    rw [if_pos hc] at h
    refine zw_push hm_120 dX10_spread_94 (v := .inl l2) rfl ?_
    exact zw_iret hm_120 dX10_spread_95 h
  · intro hc
    rw [if_neg hc] at h
    refine zw_push hm_120 dX10_spread_7 (v := .inr (.inr (some 88))) rfl ?_
    refine zw_gf hm_120 dX10_spread_8 (v := .inl (mI S 88 3)) (zT_is hS s_88) (zT_t hS s_88) rfl f_10_28_10 rfl ?_
    refine zw_push hm_120 dX10_spread_11 (v := .inr (.inr (some 88))) rfl ?_
    refine zw_gf hm_120 dX10_spread_12 (v := .inl (mI S 88 4)) (zT_is hS s_88) (zT_t hS s_88) rfl f_10_32_10 rfl ?_
    refine zw_if2 hm_120 dX10_spread_15 (t := 94) rfl zc2_ge ?_ ?_
    · intro hc
      rw [if_pos hc] at h
      refine zw_push hm_120 dX10_spread_94 (v := .inl l2) rfl ?_
      exact zw_iret hm_120 dX10_spread_95 h
    · intro hc
      rw [if_neg hc] at h
      refine zw_push hm_120 dX10_spread_18 (v := .inr (.inr (some 88))) rfl ?_
      refine zw_gf hm_120 dX10_spread_19 (v := .inr (.inr (some 69))) (zT_is hS s_88) (zT_t hS s_88) rfl f_10_18_10 (zT_f hS r_88_0) ?_
      refine zw_push hm_120 dX10_spread_22 (v := .inr (.inr (some 88))) rfl ?_
      refine zw_gf hm_120 dX10_spread_23 (v := .inr (.inr (some 89))) (zT_is hS s_88) (zT_t hS s_88) rfl f_10_9_10 (zT_f hS r_88_1) ?_
      refine zw_push hm_120 dX10_spread_26 (v := .inr (.inr (some 88))) rfl ?_
      refine zw_gf hm_120 dX10_spread_27 (v := .inl (mI S 88 3)) (zT_is hS s_88) (zT_t hS s_88) rfl f_10_28_10 rfl ?_
      obtain ⟨hg, h⟩ := h
      refine zw_ia hm_120 dX10_spread_30 (zT_is hS s_89) (zT_h hS s_89) rfl hg ?_
      show ma_wp X d w 120 31 [(0, .inr (.inr (some 88))), (1, .inl l1), (2, .inl l2)] [.inl (mI S 89 (mI S 88 3).toNatClampNeg), .inr (.inr (some 69))] S _
      refine zw_cv hm_120 dX10_spread_31 v_10_66_7 hm_81 [.inl (mI S 89 (mI S 88 3).toNatClampNeg)] [] rfl (zT_rt hS s_69 rfl) ⟨by omega, by omega⟩ rfl ?_
      show ma_wp X (d - 1) (w - 21) 81 0 [(0, .inr (.inr (some 69))), (1, .inl (mI S 89 (mI S 88 3).toNatClampNeg))] [] S _
      refine zw_push hm_81 dX7_thingAt_0 (v := .inl (mI S 89 (mI S 88 3).toNatClampNeg)) rfl ?_
      refine zw_if0 hm_81 dX7_thingAt_1 (t := 20) rfl zc0_lt ?_ ?_
      · intro hc
        rw [if_pos hc] at h
        refine zw_push hm_81 dX7_thingAt_20 (v := .inr (.inr none)) rfl ?_
        refine zw_aret hm_81 dX7_thingAt_21 ?_
        show ma_wp X d w 120 34 [(0, .inr (.inr (some 88))), (1, .inl l1), (2, .inl l2)] [.inr (.inr none)] S _
        refine zw_sto hm_120 dX10_spread_34 [(3, .inr (.inr none)), (0, .inr (.inr (some 88))), (1, .inl l1), (2, .inl l2)] rfl rfl rfl ?_
        refine zw_push hm_120 dX10_spread_35 (v := .inr (.inr (some 88))) rfl ?_
        refine zw_stk hm_120 dX10_spread_36 (st₉ := [.inr (.inr (some 88)), .inr (.inr (some 88))]) rfl rfl ?_
        refine zw_gf hm_120 dX10_spread_37 (v := .inl (mI S 88 3)) (zT_is hS s_88) (zT_t hS s_88) rfl f_10_28_10 rfl ?_
        refine zw_push hm_120 dX10_spread_40 (v := .inl (1 : Int32)) rfl ?_
        refine zw_stk hm_120 dX10_spread_41 (st₉ := [.inl ((mI S 88 3) + (1 : Int32)), .inr (.inr (some 88))]) rfl rfl ?_
        refine zw_pf hm_120 dX10_spread_42 (zT_is hS s_88) (zT_t hS s_88) p_10_28_10 zk_int ?_
        refine zw_push hm_120 dX10_spread_45 (v := .inr (.inr none)) rfl ?_
        refine zw_ifnull hm_120 dX10_spread_46 (t := 88) rfl (fun _ => ?_) (fun _ z => by cases z)
        refine zw_sto hm_120 dX10_spread_88 [(2, .inl (l2 + (1 : Int32))), (3, .inr (.inr none)), (0, .inr (.inr (some 88))), (1, .inl l1)] rfl rfl rfl ?_
        refine zw_goto hm_120 dX10_spread_91 (t := 2) rfl ?_
        exact zw_sub (ma_nd_of (ks := [0, 1, 2]) rfl (by decide)) (ma_nd_of (ks := [2, 3, 0, 1]) rfl (by decide)) (ma_le_cons rfl (ma_le_cons rfl (ma_le_cons rfl (ma_le_nil _)))) h
      · intro hc
        rw [if_neg hc] at h
        refine zw_push hm_81 dX7_thingAt_4 (v := .inl (mI S 89 (mI S 88 3).toNatClampNeg)) rfl ?_
        refine zw_push hm_81 dX7_thingAt_5 (v := .inl (512 : Int32)) rfl ?_
        refine zw_if2 hm_81 dX7_thingAt_8 (t := 20) rfl zc2_ge ?_ ?_
        · intro hc
          rw [if_pos hc] at h
          refine zw_push hm_81 dX7_thingAt_20 (v := .inr (.inr none)) rfl ?_
          refine zw_aret hm_81 dX7_thingAt_21 ?_
          show ma_wp X d w 120 34 [(0, .inr (.inr (some 88))), (1, .inl l1), (2, .inl l2)] [.inr (.inr none)] S _
          refine zw_sto hm_120 dX10_spread_34 [(3, .inr (.inr none)), (0, .inr (.inr (some 88))), (1, .inl l1), (2, .inl l2)] rfl rfl rfl ?_
          refine zw_push hm_120 dX10_spread_35 (v := .inr (.inr (some 88))) rfl ?_
          refine zw_stk hm_120 dX10_spread_36 (st₉ := [.inr (.inr (some 88)), .inr (.inr (some 88))]) rfl rfl ?_
          refine zw_gf hm_120 dX10_spread_37 (v := .inl (mI S 88 3)) (zT_is hS s_88) (zT_t hS s_88) rfl f_10_28_10 rfl ?_
          refine zw_push hm_120 dX10_spread_40 (v := .inl (1 : Int32)) rfl ?_
          refine zw_stk hm_120 dX10_spread_41 (st₉ := [.inl ((mI S 88 3) + (1 : Int32)), .inr (.inr (some 88))]) rfl rfl ?_
          refine zw_pf hm_120 dX10_spread_42 (zT_is hS s_88) (zT_t hS s_88) p_10_28_10 zk_int ?_
          refine zw_push hm_120 dX10_spread_45 (v := .inr (.inr none)) rfl ?_
          refine zw_ifnull hm_120 dX10_spread_46 (t := 88) rfl (fun _ => ?_) (fun _ z => by cases z)
          refine zw_sto hm_120 dX10_spread_88 [(2, .inl (l2 + (1 : Int32))), (3, .inr (.inr none)), (0, .inr (.inr (some 88))), (1, .inl l1)] rfl rfl rfl ?_
          refine zw_goto hm_120 dX10_spread_91 (t := 2) rfl ?_
          exact zw_sub (ma_nd_of (ks := [0, 1, 2]) rfl (by decide)) (ma_nd_of (ks := [2, 3, 0, 1]) rfl (by decide)) (ma_le_cons rfl (ma_le_cons rfl (ma_le_cons rfl (ma_le_nil _)))) h
        · intro hc
          rw [if_neg hc] at h
          refine zw_push hm_81 dX7_thingAt_11 (v := .inr (.inr (some 69))) rfl ?_
          refine zw_gf hm_81 dX7_thingAt_12 (v := .inr (.inr (some 70))) (zT_is hS s_69) (zT_t hS s_69) rfl f_7_11_7 (zT_f hS r_69_0) ?_
          refine zw_push hm_81 dX7_thingAt_15 (v := .inl (mI S 89 (mI S 88 3).toNatClampNeg)) rfl ?_
          obtain ⟨hg, h⟩ := h
          refine zw_aa hm_81 dX7_thingAt_16 (zT_is hS s_70) (zT_h hS s_70) rfl rfl hg rfl ?_
          show ma_wp X (d - 1) (w - 21) 81 17 [(0, .inr (.inr (some 69))), (1, .inl (mI S 89 (mI S 88 3).toNatClampNeg))] [.inr (.inr (mR S 70 (mI S 89 (mI S 88 3).toNatClampNeg).toNatClampNeg))] S _
          refine zw_goto hm_81 dX7_thingAt_17 (t := 21) rfl ?_
          refine zw_aret hm_81 dX7_thingAt_21 ?_
          show ma_wp X d w 120 34 [(0, .inr (.inr (some 88))), (1, .inl l1), (2, .inl l2)] [.inr (.inr (mR S 70 (mI S 89 (mI S 88 3).toNatClampNeg).toNatClampNeg))] S _
          refine zw_sto hm_120 dX10_spread_34 [(3, .inr (.inr (mR S 70 (mI S 89 (mI S 88 3).toNatClampNeg).toNatClampNeg))), (0, .inr (.inr (some 88))), (1, .inl l1), (2, .inl l2)] rfl rfl rfl ?_
          refine zw_push hm_120 dX10_spread_35 (v := .inr (.inr (some 88))) rfl ?_
          refine zw_stk hm_120 dX10_spread_36 (st₉ := [.inr (.inr (some 88)), .inr (.inr (some 88))]) rfl rfl ?_
          refine zw_gf hm_120 dX10_spread_37 (v := .inl (mI S 88 3)) (zT_is hS s_88) (zT_t hS s_88) rfl f_10_28_10 rfl ?_
          refine zw_push hm_120 dX10_spread_40 (v := .inl (1 : Int32)) rfl ?_
          refine zw_stk hm_120 dX10_spread_41 (st₉ := [.inl ((mI S 88 3) + (1 : Int32)), .inr (.inr (some 88))]) rfl rfl ?_
          refine zw_pf hm_120 dX10_spread_42 (zT_is hS s_88) (zT_t hS s_88) p_10_28_10 zk_int ?_
          refine zw_push hm_120 dX10_spread_45 (v := .inr (.inr (mR S 70 (mI S 89 (mI S 88 3).toNatClampNeg).toNatClampNeg))) rfl ?_
          refine zw_ifnull hm_120 dX10_spread_46 (t := 88) rfl ?_ ?_
          · intro hc
            have h := h.1 hc
            (try rw [hc])
            show ma_wp X d w 120 88 [(3, .inr (.inr none)), (0, .inr (.inr (some 88))), (1, .inl l1), (2, .inl l2)] [] (ma_put S 88 3 (.inl ((mI S 88 3) + (1 : Int32)))) _
            refine zw_sto hm_120 dX10_spread_88 [(2, .inl (l2 + (1 : Int32))), (3, .inr (.inr none)), (0, .inr (.inr (some 88))), (1, .inl l1)] rfl rfl rfl ?_
            refine zw_goto hm_120 dX10_spread_91 (t := 2) rfl ?_
            exact zw_sub (ma_nd_of (ks := [0, 1, 2]) rfl (by decide)) (ma_nd_of (ks := [2, 3, 0, 1]) rfl (by decide)) (ma_le_cons rfl (ma_le_cons rfl (ma_le_cons rfl (ma_le_nil _)))) h
          · intro c1 hc
            have h := h.2 c1 hc
            (try rw [hc])
            show ma_wp X d w 120 49 [(3, .inr (.inr (some c1))), (0, .inr (.inr (some 88))), (1, .inl l1), (2, .inl l2)] [] (ma_put S 88 3 (.inl ((mI S 88 3) + (1 : Int32)))) _
            refine zw_push hm_120 dX10_spread_49 (v := .inr (.inr (some 88))) rfl ?_
            refine zw_push hm_120 dX10_spread_50 (v := .inr (.inr (some c1))) rfl ?_
            refine zw_cv hm_120 dX10_spread_51 v_10_86_10 hm_121 [.inr (.inr (some c1))] [] rfl (zT_rt (zT_pi hS) s_88 rfl) ⟨by omega, by omega⟩ rfl ?_
            show ma_wp X (d - 1) (w - 21) 121 0 [(0, .inr (.inr (some 88))), (1, .inr (.inr (some c1)))] [] (ma_put S 88 3 (.inl ((mI S 88 3) + (1 : Int32)))) _
            refine zw_push hm_121 dX10_blacken_0 (v := .inr (.inr (some c1))) rfl ?_
            obtain ⟨hg, h⟩ := h
            refine zw_gf hm_121 dX10_blacken_1 (v := .inl (mI (ma_put S 88 3 (.inl ((mI S 88 3) + (1 : Int32)))) c1 0)) (zT_tis (zT_pi hS) hg) (zT_tt (zT_pi hS) hg) rfl f_10_58_9 rfl ?_
            refine zw_push hm_121 dX10_blacken_4 (v := .inl (512 : Int32)) rfl ?_
            refine zw_if2 hm_121 dX10_blacken_7 (t := 20) rfl zc2_ge ?_ ?_
            · intro hc
              rw [if_pos hc] at h
              refine zw_vret hm_121 dX10_blacken_20 ?_
              show ma_wp X d w 120 54 [(3, .inr (.inr (some c1))), (0, .inr (.inr (some 88))), (1, .inl l1), (2, .inl l2)] [] (ma_put S 88 3 (.inl ((mI S 88 3) + (1 : Int32)))) _
              refine zw_push hm_120 dX10_spread_54 (v := .inl (0 : Int32)) rfl ?_
              refine zw_sto hm_120 dX10_spread_55 [(4, .inl (0 : Int32)), (3, .inr (.inr (some c1))), (0, .inr (.inr (some 88))), (1, .inl l1), (2, .inl l2)] rfl rfl rfl ?_
              exact zw_sub (ma_nd_of (ks := [0, 1, 2, 3, 4]) rfl (by decide)) (ma_nd_of (ks := [4, 3, 0, 1, 2]) rfl (by decide)) (ma_le_cons rfl (ma_le_cons rfl (ma_le_cons rfl (ma_le_cons rfl (ma_le_cons rfl (ma_le_nil _)))))) h
            · intro hc
              rw [if_neg hc] at h
              refine zw_push hm_121 dX10_blacken_10 (v := .inr (.inr (some 88))) rfl ?_
              refine zw_gf hm_121 dX10_blacken_11 (v := .inr (.inr (some 90))) (zT_is (zT_pi hS) s_88) (zT_t (zT_pi hS) s_88) rfl f_10_15_10 (zT_f (zT_pi hS) r_88_2) ?_
              refine zw_push hm_121 dX10_blacken_14 (v := .inr (.inr (some c1))) rfl ?_
              obtain ⟨hg, h⟩ := h
              refine zw_gf hm_121 dX10_blacken_15 (v := .inl (mI (ma_put S 88 3 (.inl ((mI S 88 3) + (1 : Int32)))) c1 0)) (zT_tis (zT_pi hS) hg) (zT_tt (zT_pi hS) hg) rfl f_10_58_9 rfl ?_
              refine zw_push hm_121 dX10_blacken_18 (v := .inl (2 : Int32)) rfl ?_
              obtain ⟨hg, h⟩ := h
              refine zw_ias hm_121 dX10_blacken_19 (zT_is (zT_pi hS) s_90) (zT_h (zT_pi hS) s_90) rfl hg ?_
              refine zw_vret hm_121 dX10_blacken_20 ?_
              show ma_wp X d w 120 54 [(3, .inr (.inr (some c1))), (0, .inr (.inr (some 88))), (1, .inl l1), (2, .inl l2)] [] (ma_put (ma_put S 88 3 (.inl ((mI S 88 3) + (1 : Int32)))) 90 (mI (ma_put S 88 3 (.inl ((mI S 88 3) + (1 : Int32)))) c1 0).toNatClampNeg (.inl (2 : Int32))) _
              refine zw_push hm_120 dX10_spread_54 (v := .inl (0 : Int32)) rfl ?_
              refine zw_sto hm_120 dX10_spread_55 [(4, .inl (0 : Int32)), (3, .inr (.inr (some c1))), (0, .inr (.inr (some 88))), (1, .inl l1), (2, .inl l2)] rfl rfl rfl ?_
              exact zw_sub (ma_nd_of (ks := [0, 1, 2, 3, 4]) rfl (by decide)) (ma_nd_of (ks := [4, 3, 0, 1, 2]) rfl (by decide)) (ma_le_cons rfl (ma_le_cons rfl (ma_le_cons rfl (ma_le_cons rfl (ma_le_cons rfl (ma_le_nil _)))))) h
theorem g_120_88_s_57 {X : Nat × (Nat → Int32)} {d w : Nat} {S : ma_S} {Q : Option ma_V ⊕ Nat → ma_S → Prop} (l1 : Int32) (l2 : Int32) (l3 : Nat) (l4 : Int32) (hd : 1 ≤ d) (hw : 25 ≤ w) (hS : zT S) (h : (126 ≤ l3 ∧ l3 < mN S) ∧ (if ((mI S l3 2) - (1 : Int32)) ≤ l4 then (ma_wp X d w 120 2 [(0, .inr (.inr (some 88))), (1, .inl l1), (2, .inl (l2 + (1 : Int32)))] [] S Q) else (ma_wp X (d - 1) (w - 25) 82 0 [(0, .inr (.inr (some 69))), (1, .inr (.inr (some l3))), (2, .inl l4)] [] S (zo (fun v2 S1 => zT S1 ∧ (ma_wp X (d - 1) (w - 21) 119 0 [(0, .inr (.inr (some 88))), (1, .inr (.inr v2))] [] S1 (zv (fun S3 => zT S3 ∧ (ma_wp X d w 120 57 [(0, .inr (.inr (some 88))), (1, .inl l1), (2, .inl l2), (3, .inr (.inr (some l3))), (4, .inl (l4 + (1 : Int32)))] [] S3 Q)) (fun x S9 => Q (.inr x) S9)))) (fun x S9 => Q (.inr x) S9))))) : ma_wp X d w 120 57 [(0, .inr (.inr (some 88))), (1, .inl l1), (2, .inl l2), (3, .inr (.inr (some l3))), (4, .inl l4)] [] S Q := by
  refine zw_push hm_120 dX10_spread_57 (v := .inl l4) rfl ?_
  refine zw_push hm_120 dX10_spread_59 (v := .inr (.inr (some l3))) rfl ?_
  obtain ⟨hg, h⟩ := h
  refine zw_gf hm_120 dX10_spread_60 (v := .inl (mI S l3 2)) (zT_tis hS hg) (zT_tt hS hg) rfl f_10_89_9 rfl ?_
  refine zw_push hm_120 dX10_spread_63 (v := .inl (1 : Int32)) rfl ?_
  refine zw_stk hm_120 dX10_spread_64 (st₉ := [.inl ((mI S l3 2) - (1 : Int32)), .inl l4]) rfl rfl ?_
  refine zw_if2 hm_120 dX10_spread_65 (t := 88) rfl zc2_ge ?_ ?_
  · intro hc
    rw [if_pos hc] at h
    refine zw_sto hm_120 dX10_spread_88 [(2, .inl (l2 + (1 : Int32))), (0, .inr (.inr (some 88))), (1, .inl l1), (3, .inr (.inr (some l3))), (4, .inl l4)] rfl rfl rfl ?_
    refine zw_goto hm_120 dX10_spread_91 (t := 2) rfl ?_
    exact zw_sub (ma_nd_of (ks := [0, 1, 2]) rfl (by decide)) (ma_nd_of (ks := [2, 0, 1, 3, 4]) rfl (by decide)) (ma_le_cons rfl (ma_le_cons rfl (ma_le_cons rfl (ma_le_nil _)))) h
  · intro hc
    rw [if_neg hc] at h
    refine zw_push hm_120 dX10_spread_68 (v := .inr (.inr (some 88))) rfl ?_
    refine zw_push hm_120 dX10_spread_69 (v := .inr (.inr (some 88))) rfl ?_
    refine zw_gf hm_120 dX10_spread_70 (v := .inr (.inr (some 69))) (zT_is hS s_88) (zT_t hS s_88) rfl f_10_18_10 (zT_f hS r_88_0) ?_
    refine zw_push hm_120 dX10_spread_73 (v := .inr (.inr (some l3))) rfl ?_
    refine zw_push hm_120 dX10_spread_74 (v := .inl l4) rfl ?_
    refine zw_cv hm_120 dX10_spread_76 v_10_92_7 hm_82 [.inl l4, .inr (.inr (some l3))] [.inr (.inr (some 88))] rfl (zT_rt hS s_69 rfl) ⟨by omega, by omega⟩ rfl (zw_mono h (zo_go ?_ ?_))
    · intro v2 S1 hv
      obtain ⟨hS1, h⟩ := hv
      refine zw_cv hm_120 dX10_spread_79 v_10_70_10 hm_119 [.inr (.inr v2)] [] rfl (zT_rt hS1 s_88 rfl) ⟨by omega, by omega⟩ rfl (zw_mono h (zv_go ?_ ?_))
      · intro S3 hv
        obtain ⟨hS3, h⟩ := hv
        refine zw_sto hm_120 dX10_spread_82 [(4, .inl (l4 + (1 : Int32))), (0, .inr (.inr (some 88))), (1, .inl l1), (2, .inl l2), (3, .inr (.inr (some l3)))] rfl rfl rfl ?_
        refine zw_goto hm_120 dX10_spread_85 (t := 57) rfl ?_
        exact zw_sub (ma_nd_of (ks := [0, 1, 2, 3, 4]) rfl (by decide)) (ma_nd_of (ks := [4, 0, 1, 2, 3]) rfl (by decide)) (ma_le_cons rfl (ma_le_cons rfl (ma_le_cons rfl (ma_le_cons rfl (ma_le_cons rfl (ma_le_nil _)))))) h
      · intro x S9 hx
        exact ⟨by decide, hx⟩
    · intro x S9 hx
      exact ⟨by decide, hx⟩
theorem lp_120_88_s_57 {X : Nat × (Nat → Int32)} {d w : Nat} {f : Nat → Nat → Int32} {r : Nat → Nat → Option Nat} {C Z N : Nat} {Q : Option ma_V ⊕ Nat → ma_S → Prop} {ab : Nat→Nat→Int32} {R : zRT} {m : Int32} (hd : 1 ≤ d) (hw : 25 ≤ w) (K : ∀ v S₉, zI f r C Z N S₉ → (True) → (xB S₉ R) → (aS 88 S₉ = aSp m.toInt.toNat ab ∧ v.toInt = (aSn m.toInt.toNat ab : Int)) → Q (.inl (some (.inl v))) S₉) {nB : Nat} (OUT : ∀ (S₉ : ma_S) (l1 : Int32) (l2 : Int32), (l1.toInt - l2.toInt).toNat < nB → zI f r C Z N S₉ → (0 ≤ l2.toInt) → (l2.toInt ≤ l1.toInt) → (xB S₉ R) → (zSr (l1.toInt - l2.toInt).toNat (aS 88 S₉) l2.toInt m.toInt.toNat ab) → ma_wp X d w 120 2 [(0, .inr (.inr (some 88))), (1, .inl l1), (2, .inl l2)] [] S₉ Q) : ∀ (n : Nat) (S : ma_S) (l1 : Int32) (l2 : Int32) (l3 : Nat) (l4 : Int32), (61 - l4.toInt).toNat = n → zI f r C Z N S → (126 ≤ l3 ∧ l3 < N) → (l2.toInt < l1.toInt) → ((l1.toInt - l2.toInt).toNat = nB) → (0 ≤ l2.toInt) → (0 ≤ l4.toInt) → (xB S R) → (zTa R (mI S l3 0) = some l3) → (zSr (l1.toInt - l2.toInt - 1).toNat (aCw (aS 88 S) (mI S l3 0).toNatClampNeg l4) (l2.toInt + 1) m.toInt.toNat ab) → ma_wp X d w 120 57 [(0, .inr (.inr (some 88))), (1, .inl l1), (2, .inl l2), (3, .inr (.inr (some l3))), (4, .inl l4)] [] S Q := by
  intro n
  induction n using Nat.strongRecOn with
  | _ n IH =>
    intro S l1 l2 l3 l4 hmu hI th_l3 hi0 hi1 hi2 hi3 hi4 hi5 hi6
    refine g_120_88_s_57 l1 l2 l3 l4 (by omega) (by omega) (zG_T hI) ?_
    refine ⟨zG_n hI th_l3, ?_⟩
    have f1 := zG_th hI th_l3
    first | have e2 : ((mI S l3 2) - (1 : Int32)).toInt = (mI S l3 2).toInt - (1) := i_subk rfl (by omega) (by omega) | have b3 := i_bd ((mI S l3 2) - (1 : Int32))
    have b4 := i_bd l4
    refine zd (fun h5 => ?_) (fun h5 => ?_)
    · skip
      have g6 := i_le h5
      have b7 := i_bd l1
      have b8 := i_bd l2
      first | have e9 : (l2 + (1 : Int32)).toInt = l2.toInt + (1) := i_addk rfl (by omega) (by omega) | have b10 := i_bd (l2 + (1 : Int32))
      exact OUT _ (l1) ((l2 + (1 : Int32))) (by omega) hI (by omega) (by omega) (show xB S R from by first | (exact (xC_o (W := 75) hi4).2)) (show zSr ((l1).toInt - ((l2 + (1 : Int32))).toInt).toNat (aS 88 S) ((l2 + (1 : Int32))).toInt m.toInt.toNat ab from by first | (have q := hi6; rw [aCw_st (by rw [← (xB_th (W := 88) hi4 hi5).2.2.2.2.1]; omega)] at q; exact zSr_k q (by omega) (by omega)))
    · skip
      have g11 := i_nle h5
      refine sp_82_69_s (R := R) (W := 88) (y := (mI S l3 0)) l3 (l4) (by omega) (by omega) hI th_l3 (show xB S R from by first | (exact (xC_o (W := 75) hi4).2)) (show zTa R (mI S l3 0) = some l3 from by first | (exact hi5)) (by omega) (fun v2 S1 eS_S1 hq_v2 rp0_S1 => zo_n ⟨(by rw [eS_S1]; exact zG_T hI), ?_⟩)
      replace eS_S1 := eS_S1.symm; subst eS_S1
      have rp0_S1 : v2 = zTa R (aRef (aS 88 S) (mI S l3 0).toNatClampNeg l4) := rp0_S1
      refine sp_119_88_s (ab := (aS 88 S)) (R := R) (y := ((aRef (aS 88 S) (mI S l3 0).toNatClampNeg l4))) (v2) (by omega) (by omega) hI hq_v2 (show xB S R from by first | (exact (xC_o (W := 75) hi4).2)) (show aS 88 S = (aS 88 S) from by first | (exact rfl)) (show v2 = zTa R ((aRef (aS 88 S) (mI S l3 0).toNatClampNeg l4)) from by first | (exact rp0_S1)) (fun S3 hI_S3 rp0_S3 rp1_S3 => zv_n ⟨zG_T hI_S3, ?_⟩)
      have rp0_S3 : xB S3 R := rp0_S3
      have rp1_S3 : aS 88 S3 = aCm (aS 88 S) ((aRef (aS 88 S) (mI S l3 0).toNatClampNeg l4)) := rp1_S3
      have b12 := i_bd l1
      have b13 := i_bd l2
      first | have e14 : (l4 + (1 : Int32)).toInt = l4.toInt + (1) := i_addk rfl (by omega) (by omega) | have b15 := i_bd (l4 + (1 : Int32))
      exact IH _ (by omega) _ (l1) (l2) l3 ((l4 + (1 : Int32))) rfl hI_S3 th_l3 (by omega) (by omega) (by omega) (by omega) (show xB S3 R from by first | (exact (xC_o (W := 75) rp0_S3).2)) (show zTa R (mI S3 l3 0) = some l3 from by first | (exact rg_up rp0_S3 hi5) | (exact hi5)) (show zSr ((l1).toInt - (l2).toInt - 1).toNat (aCw (aS 88 S3) (mI S3 l3 0).toNatClampNeg ((l4 + (1 : Int32)))) ((l2).toInt + 1) m.toInt.toNat ab from by first | (rw [rp1_S3, (xB_th (W := 88) rp0_S3 hi5).2.2.1, ← aCw_go (by rw [← (xB_th (W := 88) hi4 hi5).2.2.2.2.1]; omega)]; exact hi6))
theorem lp_120_88_s_2 {X : Nat × (Nat → Int32)} {d w : Nat} {f : Nat → Nat → Int32} {r : Nat → Nat → Option Nat} {C Z N : Nat} {Q : Option ma_V ⊕ Nat → ma_S → Prop} {ab : Nat→Nat→Int32} {R : zRT} {m : Int32} (hd : 1 ≤ d) (hw : 25 ≤ w) (K : ∀ v S₉, zI f r C Z N S₉ → (True) → (xB S₉ R) → (aS 88 S₉ = aSp m.toInt.toNat ab ∧ v.toInt = (aSn m.toInt.toNat ab : Int)) → Q (.inl (some (.inl v))) S₉) : ∀ (n : Nat) (S : ma_S) (l1 : Int32) (l2 : Int32), (l1.toInt - l2.toInt).toNat = n → zI f r C Z N S → (0 ≤ l2.toInt) → (l2.toInt ≤ l1.toInt) → (xB S R) → (zSr (l1.toInt - l2.toInt).toNat (aS 88 S) l2.toInt m.toInt.toNat ab) → ma_wp X d w 120 2 [(0, .inr (.inr (some 88))), (1, .inl l1), (2, .inl l2)] [] S Q := by
  intro n
  induction n using Nat.strongRecOn with
  | _ n IH =>
    intro S l1 l2 hmu hI  hi0 hi1 hi2 hi3
    refine g_120_88_s_2 l1 l2 (by omega) (by omega) (zG_T hI) ?_
    have r3 := congrArg Int32.toInt (aS_I (W := 88) (S := S) (c := 75) (c₉ := 88) (k := 3) rfl rfl)
    have r4 := congrArg Int32.toInt (aS_I (W := 88) (S := S) (c := 75) (c₉ := 88) (k := 4) rfl rfl)
    have b1 := i_bd l1
    have b2 := i_bd l2
    refine zd (fun h3 => ?_) (fun h3 => ?_)
    · skip
      have g4 := i_le h3
      exact K (l2) _ hI trivial (show xB S R from by first | (exact (xC_o (W := 75) hi2).2)) (show aS 88 S = aSp m.toInt.toNat ab ∧ l2.toInt = (aSn m.toInt.toNat ab : Int) from by first | (exact zSr_st hi3 (Or.inl (by omega))) | (exact zSr_st hi3 (Or.inr (by omega))))
    · skip
      have g5 := i_nle h3
      have f6 := zG_s hI (0) (512) (c := 88) (k := 4) (by decide)
      have f7 := zG_s hI (0) (512) (c := 88) (k := 3) (by decide)
      refine zd (fun h8 => ?_) (fun h8 => ?_)
      · skip
        have g9 := i_le h8
        exact K (l2) _ hI trivial (show xB S R from by first | (exact (xC_o (W := 75) hi2).2)) (show aS 88 S = aSp m.toInt.toNat ab ∧ l2.toInt = (aSn m.toInt.toNat ab : Int) from by first | (exact zSr_st hi3 (Or.inl (by omega))) | (exact zSr_st hi3 (Or.inr (by omega))))
      · skip
        have g10 := i_nle h8
        refine ⟨i_ix (by omega) (by omega), ?_⟩
        have b11 := i_bd (mI S 89 (mI S 88 3).toNatClampNeg)
        have li12 : (0 : Int32).toInt = 0 := rfl
        refine zd (fun h13 => ?_) (fun h13 => ?_)
        · skip
          have g14 := i_lt h13
          first | have e16 : ((mI S 88 3) + (1 : Int32)).toInt = (mI S 88 3).toInt + (1) := i_addk rfl (by omega) (by omega) | have b17 := i_bd ((mI S 88 3) + (1 : Int32))
          have hI15 : zI f r C Z N (ma_put S 88 3 (.inl ((mI S 88 3) + (1 : Int32)))) := zG_sp hI (0) (512) rfl (by decide) (by decide) (by decide) trivial (by omega) (by omega)
          first | have e18 : (l2 + (1 : Int32)).toInt = l2.toInt + (1) := i_addk rfl (by omega) (by omega) | have b19 := i_bd (l2 + (1 : Int32))
          exact IH _ (by omega) _ (l1) ((l2 + (1 : Int32))) rfl hI15 (by omega) (by omega) (show xB (ma_put S 88 3 (.inl ((mI S 88 3) + (1 : Int32)))) R from by first | (exact (xC_n (c := 88) (k := 3) (x := ((mI S 88 3) + (1 : Int32))) (xC_o (W := 75) hi2) ⟨by decide, Or.inl ⟨rfl, rfl⟩⟩).2)) (show zSr ((l1).toInt - ((l2 + (1 : Int32))).toInt).toNat (aS 88 (ma_put S 88 3 (.inl ((mI S 88 3) + (1 : Int32))))) ((l2 + (1 : Int32))).toInt m.toInt.toNat ab from by first | (have q := zSr_go hi3 (show _ = (l1.toInt - (l2 + (1 : Int32)).toInt).toNat + 1 by omega) (by omega); rw [aPop_n (a := aS 88 S) (y := mI S 89 (mI S 88 3).toNatClampNeg) rfl (fun z => by omega)] at q; rw [(aS_I (W := 88) (S := S) (c := 75) (c₉ := 88) (k := 3) rfl rfl)] at q; rw [(xC_p (c := 88) (k := 3) (x := ((mI S 88 3) + (1 : Int32))) (xC_o (W := 88) hi2) 75 xW88 rfl rfl).1]; exact zSr_k q (by omega) (by omega)))
        · skip
          have g20 := i_nlt h13
          have li21 : (512 : Int32).toInt = 512 := rfl
          refine zd (fun h22 => ?_) (fun h22 => ?_)
          · skip
            have g23 := i_le h22
            first | have e25 : ((mI S 88 3) + (1 : Int32)).toInt = (mI S 88 3).toInt + (1) := i_addk rfl (by omega) (by omega) | have b26 := i_bd ((mI S 88 3) + (1 : Int32))
            have hI24 : zI f r C Z N (ma_put S 88 3 (.inl ((mI S 88 3) + (1 : Int32)))) := zG_sp hI (0) (512) rfl (by decide) (by decide) (by decide) trivial (by omega) (by omega)
            first | have e27 : (l2 + (1 : Int32)).toInt = l2.toInt + (1) := i_addk rfl (by omega) (by omega) | have b28 := i_bd (l2 + (1 : Int32))
            exact IH _ (by omega) _ (l1) ((l2 + (1 : Int32))) rfl hI24 (by omega) (by omega) (show xB (ma_put S 88 3 (.inl ((mI S 88 3) + (1 : Int32)))) R from by first | (exact (xC_n (c := 88) (k := 3) (x := ((mI S 88 3) + (1 : Int32))) (xC_o (W := 75) hi2) ⟨by decide, Or.inl ⟨rfl, rfl⟩⟩).2)) (show zSr ((l1).toInt - ((l2 + (1 : Int32))).toInt).toNat (aS 88 (ma_put S 88 3 (.inl ((mI S 88 3) + (1 : Int32))))) ((l2 + (1 : Int32))).toInt m.toInt.toNat ab from by first | (have q := zSr_go hi3 (show _ = (l1.toInt - (l2 + (1 : Int32)).toInt).toNat + 1 by omega) (by omega); rw [aPop_n (a := aS 88 S) (y := mI S 89 (mI S 88 3).toNatClampNeg) rfl (fun z => by omega)] at q; rw [(aS_I (W := 88) (S := S) (c := 75) (c₉ := 88) (k := 3) rfl rfl)] at q; rw [(xC_p (c := 88) (k := 3) (x := ((mI S 88 3) + (1 : Int32))) (xC_o (W := 88) hi2) 75 xW88 rfl rfl).1]; exact zSr_k q (by omega) (by omega)))
          · skip
            have g29 := i_nle h22
            refine ⟨i_ix (by omega) (by omega), ?_⟩
            refine ⟨fun hc => ?_, fun c1 hc => ?_⟩
            · skip
              have rn_c1 : zTa R ((mI S 89 (mI S 88 3).toNatClampNeg)) = none := (ta_rd (y := ((mI S 89 (mI S 88 3).toNatClampNeg))) hi2 (by omega) (by omega)).symm.trans hc
              first | have e31 : ((mI S 88 3) + (1 : Int32)).toInt = (mI S 88 3).toInt + (1) := i_addk rfl (by omega) (by omega) | have b32 := i_bd ((mI S 88 3) + (1 : Int32))
              have hI30 : zI f r C Z N (ma_put S 88 3 (.inl ((mI S 88 3) + (1 : Int32)))) := zG_sp hI (0) (512) rfl (by decide) (by decide) (by decide) trivial (by omega) (by omega)
              first | have e33 : (l2 + (1 : Int32)).toInt = l2.toInt + (1) := i_addk rfl (by omega) (by omega) | have b34 := i_bd (l2 + (1 : Int32))
              exact IH _ (by omega) _ (l1) ((l2 + (1 : Int32))) rfl hI30 (by omega) (by omega) (show xB (ma_put S 88 3 (.inl ((mI S 88 3) + (1 : Int32)))) R from by first | (exact (xC_n (c := 88) (k := 3) (x := ((mI S 88 3) + (1 : Int32))) (xC_o (W := 75) hi2) ⟨by decide, Or.inl ⟨rfl, rfl⟩⟩).2)) (show zSr ((l1).toInt - ((l2 + (1 : Int32))).toInt).toNat (aS 88 (ma_put S 88 3 (.inl ((mI S 88 3) + (1 : Int32))))) ((l2 + (1 : Int32))).toInt m.toInt.toNat ab from by first | (have q := zSr_go hi3 (show _ = (l1.toInt - (l2 + (1 : Int32)).toInt).toNat + 1 by omega) (by omega); rw [aPop_n (a := aS 88 S) (y := mI S 89 (mI S 88 3).toNatClampNeg) rfl (fun z => xB_nt (W := 88) hi2 rn_c1 z)] at q; rw [(aS_I (W := 88) (S := S) (c := 75) (c₉ := 88) (k := 3) rfl rfl)] at q; rw [(xC_p (c := 88) (k := 3) (x := ((mI S 88 3) + (1 : Int32))) (xC_o (W := 88) hi2) 75 xW88 rfl rfl).1]; exact zSr_k q (by omega) (by omega)))
            · skip
              have th_c1 := (fun _ z => zG_70 hI (c := 70) (by decide) z) c1 hc
              have rg_c1 : zTa R ((mI S 89 (mI S 88 3).toNatClampNeg)) = some c1 := (ta_rd (y := ((mI S 89 (mI S 88 3).toNatClampNeg))) hi2 (by omega) (by omega)).symm.trans hc
              first | have e36 : ((mI S 88 3) + (1 : Int32)).toInt = (mI S 88 3).toInt + (1) := i_addk rfl (by omega) (by omega) | have b37 := i_bd ((mI S 88 3) + (1 : Int32))
              have hI35 : zI f r C Z N (ma_put S 88 3 (.inl ((mI S 88 3) + (1 : Int32)))) := zG_sp hI (0) (512) rfl (by decide) (by decide) (by decide) trivial (by omega) (by omega)
              refine ⟨zG_n hI35 th_c1, ?_⟩
              have f38 := zG_th hI th_c1
              have q39 : (mI (ma_put S 88 3 (.inl ((mI S 88 3) + (1 : Int32)))) c1 0).toInt = (mI S c1 0).toInt := zp_fx th_c1.1 (by decide)
              have f40 := zG_th hI35 th_c1
              refine zd (fun h41 => ?_) (fun h41 => ?_)
              · skip
                have g42 := i_le h41
                exact lp_120_88_s_57 (by omega) (by omega) K (fun _ _ _ z1 z2 z3 z4 z5 z6 => IH _ z1 _ _ _ rfl z2 z3 z4 z5 z6) _ _ (l1) (l2) c1 ((0 : Int32)) rfl hI35 th_c1 (by omega) (by omega) (by omega) (by omega) (show xB (ma_put S 88 3 (.inl ((mI S 88 3) + (1 : Int32)))) R from by first | (exact (xC_n (c := 88) (k := 3) (x := ((mI S 88 3) + (1 : Int32))) (xC_o (W := 75) hi2) ⟨by decide, Or.inl ⟨rfl, rfl⟩⟩).2)) (show zTa R (mI (ma_put S 88 3 (.inl ((mI S 88 3) + (1 : Int32)))) c1 0) = some c1 from by first | (exact rg_up (xC_p (c := 88) (k := 3) (x := ((mI S 88 3) + (1 : Int32))) (xC_o (W := 88) hi2) 75 xW88 rfl rfl).2 rg_c1)) (show zSr ((l1).toInt - (l2).toInt - 1).toNat (aCw (aS 88 (ma_put S 88 3 (.inl ((mI S 88 3) + (1 : Int32))))) (mI (ma_put S 88 3 (.inl ((mI S 88 3) + (1 : Int32)))) c1 0).toNatClampNeg ((0 : Int32))) ((l2).toInt + 1) m.toInt.toNat ab from by first | (exfalso; omega) | (have ty := xB_th (W := 88) hi2 rg_c1; have q := zSr_go hi3 (show _ = (l1.toInt - l2.toInt - 1).toNat + 1 by omega) (by omega); rw [aPop_y (a := aS 88 S) (y := ((mI S 89 (mI S 88 3).toNatClampNeg))) rfl ty.1 ty.2.1 (by rw [ty.2.2.2.2.2.2.2.2]; decide), (aS_I (W := 88) (S := S) (c := 75) (c₉ := 88) (k := 3) rfl rfl)] at q; rw [(xC_p (c := 88) (k := 3) (x := ((mI S 88 3) + (1 : Int32))) (xC_o (W := 88) hi2) 75 xW88 rfl rfl).1]; (try simp only [zp_e (c₉ := 88) th_c1.1 (by decide)]); rw [ty.2.2.1]; exact q))
              · skip
                have g43 := i_nle h41
                refine ⟨zG_n hI35 th_c1, ?_⟩
                refine ⟨i_ix (by omega) (by omega), ?_⟩
                have hI44 : zI f r C Z N (ma_put (ma_put S 88 3 (.inl ((mI S 88 3) + (1 : Int32)))) 90 (mI (ma_put S 88 3 (.inl ((mI S 88 3) + (1 : Int32)))) c1 0).toNatClampNeg (.inl (2 : Int32))) := zG_fa hI35 rfl (by decide) (by decide) (by decide) trivial
                exact lp_120_88_s_57 (by omega) (by omega) K (fun _ _ _ z1 z2 z3 z4 z5 z6 => IH _ z1 _ _ _ rfl z2 z3 z4 z5 z6) _ _ (l1) (l2) c1 ((0 : Int32)) rfl hI44 th_c1 (by omega) (by omega) (by omega) (by omega) (show xB (ma_put (ma_put S 88 3 (.inl ((mI S 88 3) + (1 : Int32)))) 90 (mI (ma_put S 88 3 (.inl ((mI S 88 3) + (1 : Int32)))) c1 0).toNatClampNeg (.inl (2 : Int32))) R from by first | (exact (xC_n (c := 90) (k := (mI (ma_put S 88 3 (.inl ((mI S 88 3) + (1 : Int32)))) c1 0).toNatClampNeg) (x := (2 : Int32)) (xC_n (c := 88) (k := 3) (x := ((mI S 88 3) + (1 : Int32))) (xC_o (W := 75) hi2) ⟨by decide, Or.inl ⟨rfl, rfl⟩⟩) ⟨by decide, Or.inl ⟨rfl, rfl⟩⟩).2)) (show zTa R (mI (ma_put (ma_put S 88 3 (.inl ((mI S 88 3) + (1 : Int32)))) 90 (mI (ma_put S 88 3 (.inl ((mI S 88 3) + (1 : Int32)))) c1 0).toNatClampNeg (.inl (2 : Int32))) c1 0) = some c1 from by first | (exact rg_up (xC_p (c := 90) (k := (mI (ma_put S 88 3 (.inl ((mI S 88 3) + (1 : Int32)))) c1 0).toNatClampNeg) (x := (2 : Int32)) (xC_p (c := 88) (k := 3) (x := ((mI S 88 3) + (1 : Int32))) (xC_o (W := 88) hi2) 75 xW88 rfl rfl) 77 xW88 rfl rfl).2 rg_c1)) (show zSr ((l1).toInt - (l2).toInt - 1).toNat (aCw (aS 88 (ma_put (ma_put S 88 3 (.inl ((mI S 88 3) + (1 : Int32)))) 90 (mI (ma_put S 88 3 (.inl ((mI S 88 3) + (1 : Int32)))) c1 0).toNatClampNeg (.inl (2 : Int32)))) (mI (ma_put (ma_put S 88 3 (.inl ((mI S 88 3) + (1 : Int32)))) 90 (mI (ma_put S 88 3 (.inl ((mI S 88 3) + (1 : Int32)))) c1 0).toNatClampNeg (.inl (2 : Int32))) c1 0).toNatClampNeg ((0 : Int32))) ((l2).toInt + 1) m.toInt.toNat ab from by first | (exfalso; omega) | (have ty := xB_th (W := 88) hi2 rg_c1; have q := zSr_go hi3 (show _ = (l1.toInt - l2.toInt - 1).toNat + 1 by omega) (by omega); rw [aPop_y (a := aS 88 S) (y := ((mI S 89 (mI S 88 3).toNatClampNeg))) rfl ty.1 ty.2.1 (by rw [ty.2.2.2.2.2.2.2.2]; decide), (aS_I (W := 88) (S := S) (c := 75) (c₉ := 88) (k := 3) rfl rfl)] at q; rw [(xC_p (c := 90) (k := (mI (ma_put S 88 3 (.inl ((mI S 88 3) + (1 : Int32)))) c1 0).toNatClampNeg) (x := (2 : Int32)) (xC_p (c := 88) (k := 3) (x := ((mI S 88 3) + (1 : Int32))) (xC_o (W := 88) hi2) 75 xW88 rfl rfl) 77 xW88 rfl rfl).1]; (try simp only [zp_e (c₉ := 88) th_c1.1 (by decide), zp_e (c₉ := 90) th_c1.1 (by decide)]); rw [ty.2.2.1]; exact q))
theorem sp_120_88_s {X : Nat × (Nat → Int32)} {d w : Nat} {f : Nat → Nat → Int32} {r : Nat → Nat → Option Nat} {C Z N : Nat} {Q : Option ma_V ⊕ Nat → ma_S → Prop} {ab : Nat→Nat→Int32} {R : zRT} {S : ma_S} (m : Int32) (hd : 1 ≤ d) (hw : 25 ≤ w) (hI : zI f r C Z N S) (hpre0 : xB S R) (hpre1 : aS 88 S = ab) (hpre2 : 0 ≤ m.toInt) (K : ∀ v S₉, zI f r C Z N S₉ → (True) → (xB S₉ R) → (aS 88 S₉ = aSp m.toInt.toNat ab ∧ v.toInt = (aSn m.toInt.toNat ab : Int)) → Q (.inl (some (.inl v))) S₉) : ma_wp X d w 120 0 [(0, .inr (.inr (some 88))), (1, .inl m)] [] S Q := by
  refine g_120_88_s_0 m (by omega) (by omega) (zG_T hI) ?_
  have b1 := i_bd m
  have li2 : (0 : Int32).toInt = 0 := rfl
  exact lp_120_88_s_2 (by omega) (by omega) K _ _ (m) ((0 : Int32)) rfl hI (by omega) (by omega) (show xB S R from by first | (exact (xC_o (W := 75) hpre0).2)) (show zSr ((m).toInt - ((0 : Int32)).toInt).toNat (aS 88 S) ((0 : Int32)).toInt m.toInt.toNat ab from by first | (rw [hpre1, show (_ - (0 : Int32).toInt).toNat = m.toInt.toNat from by omega]; exact ⟨rfl, by omega⟩))

