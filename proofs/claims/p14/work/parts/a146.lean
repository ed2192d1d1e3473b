/-! from 95.k11 -/
/-! the collectors that sweep, the class (written by wip/tools/gen20.py) -/
theorem g_86_69_75_s_0 {X : Nat × (Nat → Int32)} {d w : Nat} {S : ma_S} {Q : Option ma_V ⊕ Nat → ma_S → Prop}  (hd : 2 ≤ d) (hw : 48 ≤ w) (hS : zT S) (h : ma_wp X d w 86 7 [(0, .inr (.inr (some 69))), (1, .inr (.inr (some 75))), (2, .inl (mI S 69 11)), (3, .inl (0 : Int32))] [] S Q) : ma_wp X d w 86 0 [(0, .inr (.inr (some 69))), (1, .inr (.inr (some 75)))] [] S Q := by
  refine zw_push hm_86 dX7_removeOthers_0 (v := .inr (.inr (some 69))) rfl ?_
  refine zw_gf hm_86 dX7_removeOthers_1 (v := .inl (mI S 69 11)) (zT_is hS s_69) (zT_t hS s_69) rfl f_7_55_7 rfl ?_
  refine zw_sto hm_86 dX7_removeOthers_4 [(2, .inl (mI S 69 11)), (0, .inr (.inr (some 69))), (1, .inr (.inr (some 75)))] rfl rfl rfl ?_
  refine zw_push hm_86 dX7_removeOthers_5 (v := .inl (0 : Int32)) rfl ?_
  refine zw_sto hm_86 dX7_removeOthers_6 [(3, .inl (0 : Int32)), (2, .inl (mI S 69 11)), (0, .inr (.inr (some 69))), (1, .inr (.inr (some 75)))] rfl rfl rfl ?_
  exact zw_sub (ma_nd_of (ks := [0, 1, 2, 3]) rfl (by decide)) (ma_nd_of (ks := [3, 2, 0, 1]) rfl (by decide)) (ma_le_cons rfl (ma_le_cons rfl (ma_le_cons rfl (ma_le_cons rfl (ma_le_nil _))))) h
theorem g_86_69_75_s_7 {X : Nat × (Nat → Int32)} {d w : Nat} {S : ma_S} {Q : Option ma_V ⊕ Nat → ma_S → Prop} (l2 : Int32) (l3 : Int32) (hd : 2 ≤ d) (hw : 48 ≤ w) (hS : zT S) (h : if (mI S 69 6) ≤ l3 then (Q (.inl (some (.inl ((mI S 69 11) - l2)))) (ma_put S 69 9 (.inl ((mI S 69 9) + (1 : Int32))))) else (if l3 < 0 then (ma_wp X d w 86 7 [(0, .inr (.inr (some 69))), (1, .inr (.inr (some 75))), (2, .inl l2), (3, .inl (l3 + (1 : Int32)))] [] S Q) else (if (512 : Int32) ≤ l3 then (ma_wp X d w 86 7 [(0, .inr (.inr (some 69))), (1, .inr (.inr (some 75))), (2, .inl l2), (3, .inl (l3 + (1 : Int32)))] [] S Q) else ((0 ≤ l3 ∧ l3.toNatClampNeg < 512) ∧ (((mR S 70 l3.toNatClampNeg) = none → ma_wp X d w 86 7 [(0, .inr (.inr (some 69))), (1, .inr (.inr (some 75))), (2, .inl l2), (3, .inl (l3 + (1 : Int32)))] [] S Q) ∧ (∀ c1, (mR S 70 l3.toNatClampNeg) = some c1 → (126 ≤ c1 ∧ c1 < mN S) ∧ (if (mI S c1 4) < (mI S 75 5) then (ma_wp X d w 86 7 [(0, .inr (.inr (some 69))), (1, .inr (.inr (some 75))), (2, .inl l2), (3, .inl (l3 + (1 : Int32)))] [] S Q) else ((126 ≤ c1 ∧ c1 < mN S) ∧ (if (512 : Int32) ≤ (mI S c1 0) then (ma_wp X (d - 1) (w - 23) 87 0 [(0, .inr (.inr (some 69))), (1, .inr (.inr (some c1)))] [] S (zv (fun S2 => zT S2 ∧ (ma_wp X d w 86 7 [(0, .inr (.inr (some 69))), (1, .inr (.inr (some 75))), (2, .inl l2), (3, .inl (l3 + (1 : Int32)))] [] S2 Q)) (fun x S9 => Q (.inr x) S9))) else ((126 ≤ c1 ∧ c1 < mN S) ∧ ((0 ≤ (mI S c1 0) ∧ (mI S c1 0).toNatClampNeg < 512) ∧ (if (mI S 77 (mI S c1 0).toNatClampNeg) = 0 then (ma_wp X (d - 1) (w - 23) 87 0 [(0, .inr (.inr (some 69))), (1, .inr (.inr (some c1)))] [] S (zv (fun S4 => zT S4 ∧ (ma_wp X d w 86 7 [(0, .inr (.inr (some 69))), (1, .inr (.inr (some 75))), (2, .inl l2), (3, .inl (l3 + (1 : Int32)))] [] S4 Q)) (fun x S9 => Q (.inr x) S9))) else (ma_wp X d w 86 7 [(0, .inr (.inr (some 69))), (1, .inr (.inr (some 75))), (2, .inl l2), (3, .inl (l3 + (1 : Int32)))] [] S Q))))))))))))) : ma_wp X d w 86 7 [(0, .inr (.inr (some 69))), (1, .inr (.inr (some 75))), (2, .inl l2), (3, .inl l3)] [] S Q := by
  refine zw_push hm_86 dX7_removeOthers_7 (v := .inl l3) rfl ?_
  refine zw_push hm_86 dX7_removeOthers_8 (v := .inr (.inr (some 69))) rfl ?_
  refine zw_gf hm_86 dX7_removeOthers_9 (v := .inl (mI S 69 6)) (zT_is hS s_69) (zT_t hS s_69) rfl f_7_40_7 rfl ?_
  refine zw_if2 hm_86 dX7_removeOthers_12 (t := 48) rfl zc2_ge ?_ ?_
  · intro hc
    rw [if_pos hc] at h
    refine zw_push hm_86 dX7_removeOthers_48 (v := .inr (.inr (some 69))) rfl ?_
    refine zw_stk hm_86 dX7_removeOthers_49 (st₉ := [.inr (.inr (some 69)), .inr (.inr (some 69))]) rfl rfl ?_
    refine zw_gf hm_86 dX7_removeOthers_50 (v := .inl (mI S 69 9)) (zT_is hS s_69) (zT_t hS s_69) rfl f_7_49_7 rfl ?_
    refine zw_push hm_86 dX7_removeOthers_53 (v := .inl (1 : Int32)) rfl ?_
    refine zw_stk hm_86 dX7_removeOthers_54 (st₉ := [.inl ((mI S 69 9) + (1 : Int32)), .inr (.inr (some 69))]) rfl rfl ?_
    refine zw_pf hm_86 dX7_removeOthers_55 (zT_is hS s_69) (zT_t hS s_69) p_7_49_7 zk_int ?_
    refine zw_push hm_86 dX7_removeOthers_58 (v := .inr (.inr (some 69))) rfl ?_
    refine zw_gf hm_86 dX7_removeOthers_59 (v := .inl (mI S 69 11)) (zT_is (zT_pi hS) s_69) (zT_t (zT_pi hS) s_69) rfl f_7_55_7 rfl ?_
    refine zw_push hm_86 dX7_removeOthers_62 (v := .inl l2) rfl ?_
    refine zw_stk hm_86 dX7_removeOthers_63 (st₉ := [.inl ((mI S 69 11) - l2)]) rfl rfl ?_
    exact zw_iret hm_86 dX7_removeOthers_64 h
  · intro hc
    rw [if_neg hc] at h
    refine zw_push hm_86 dX7_removeOthers_15 (v := .inr (.inr (some 69))) rfl ?_
    refine zw_push hm_86 dX7_removeOthers_16 (v := .inl l3) rfl ?_
    refine zw_cv hm_86 dX7_removeOthers_17 v_7_94_7 hm_81 [.inl l3] [] rfl (zT_rt hS s_69 rfl) ⟨by omega, by omega⟩ rfl ?_
    show ma_wp X (d - 1) (w - 21) 81 0 [(0, .inr (.inr (some 69))), (1, .inl l3)] [] S _
    refine zw_push hm_81 dX7_thingAt_0 (v := .inl l3) rfl ?_
    refine zw_if0 hm_81 dX7_thingAt_1 (t := 20) rfl zc0_lt ?_ ?_
    · intro hc
      rw [if_pos hc] at h
      refine zw_push hm_81 dX7_thingAt_20 (v := .inr (.inr none)) rfl ?_
      refine zw_aret hm_81 dX7_thingAt_21 ?_
      show ma_wp X d w 86 20 [(0, .inr (.inr (some 69))), (1, .inr (.inr (some 75))), (2, .inl l2), (3, .inl l3)] [.inr (.inr none)] S _
      refine zw_sto hm_86 dX7_removeOthers_20 [(4, .inr (.inr none)), (0, .inr (.inr (some 69))), (1, .inr (.inr (some 75))), (2, .inl l2), (3, .inl l3)] rfl rfl rfl ?_
      refine zw_push hm_86 dX7_removeOthers_22 (v := .inr (.inr none)) rfl ?_
      refine zw_ifnull hm_86 dX7_removeOthers_24 (t := 42) rfl (fun _ => ?_) (fun _ z => by cases z)
      refine zw_sto hm_86 dX7_removeOthers_42 [(3, .inl (l3 + (1 : Int32))), (4, .inr (.inr none)), (0, .inr (.inr (some 69))), (1, .inr (.inr (some 75))), (2, .inl l2)] rfl rfl rfl ?_
      refine zw_goto hm_86 dX7_removeOthers_45 (t := 7) rfl ?_
      exact zw_sub (ma_nd_of (ks := [0, 1, 2, 3]) rfl (by decide)) (ma_nd_of (ks := [3, 4, 0, 1, 2]) rfl (by decide)) (ma_le_cons rfl (ma_le_cons rfl (ma_le_cons rfl (ma_le_cons rfl (ma_le_nil _))))) h
    · intro hc
      rw [if_neg hc] at h
      refine zw_push hm_81 dX7_thingAt_4 (v := .inl l3) rfl ?_
      refine zw_push hm_81 dX7_thingAt_5 (v := .inl (512 : Int32)) rfl ?_
      refine zw_if2 hm_81 dX7_thingAt_8 (t := 20) rfl zc2_ge ?_ ?_
      · intro hc
        rw [if_pos hc] at h
        refine zw_push hm_81 dX7_thingAt_20 (v := .inr (.inr none)) rfl ?_
        refine zw_aret hm_81 dX7_thingAt_21 ?_
        show ma_wp X d w 86 20 [(0, .inr (.inr (some 69))), (1, .inr (.inr (some 75))), (2, .inl l2), (3, .inl l3)] [.inr (.inr none)] S _
        refine zw_sto hm_86 dX7_removeOthers_20 [(4, .inr (.inr none)), (0, .inr (.inr (some 69))), (1, .inr (.inr (some 75))), (2, .inl l2), (3, .inl l3)] rfl rfl rfl ?_
        refine zw_push hm_86 dX7_removeOthers_22 (v := .inr (.inr none)) rfl ?_
        refine zw_ifnull hm_86 dX7_removeOthers_24 (t := 42) rfl (fun _ => ?_) (fun _ z => by cases z)
        refine zw_sto hm_86 dX7_removeOthers_42 [(3, .inl (l3 + (1 : Int32))), (4, .inr (.inr none)), (0, .inr (.inr (some 69))), (1, .inr (.inr (some 75))), (2, .inl l2)] rfl rfl rfl ?_
        refine zw_goto hm_86 dX7_removeOthers_45 (t := 7) rfl ?_
        exact zw_sub (ma_nd_of (ks := [0, 1, 2, 3]) rfl (by decide)) (ma_nd_of (ks := [3, 4, 0, 1, 2]) rfl (by decide)) (ma_le_cons rfl (ma_le_cons rfl (ma_le_cons rfl (ma_le_cons rfl (ma_le_nil _))))) h
      · intro hc
        rw [if_neg hc] at h
        refine zw_push hm_81 dX7_thingAt_11 (v := .inr (.inr (some 69))) rfl ?_
        refine zw_gf hm_81 dX7_thingAt_12 (v := .inr (.inr (some 70))) (zT_is hS s_69) (zT_t hS s_69) rfl f_7_11_7 (zT_f hS r_69_0) ?_
        refine zw_push hm_81 dX7_thingAt_15 (v := .inl l3) rfl ?_
        obtain ⟨hg, h⟩ := h
        refine zw_aa hm_81 dX7_thingAt_16 (zT_is hS s_70) (zT_h hS s_70) rfl rfl hg rfl ?_
        show ma_wp X (d - 1) (w - 21) 81 17 [(0, .inr (.inr (some 69))), (1, .inl l3)] [.inr (.inr (mR S 70 l3.toNatClampNeg))] S _
        refine zw_goto hm_81 dX7_thingAt_17 (t := 21) rfl ?_
        refine zw_aret hm_81 dX7_thingAt_21 ?_
        show ma_wp X d w 86 20 [(0, .inr (.inr (some 69))), (1, .inr (.inr (some 75))), (2, .inl l2), (3, .inl l3)] [.inr (.inr (mR S 70 l3.toNatClampNeg))] S _
        refine zw_sto hm_86 dX7_removeOthers_20 [(4, .inr (.inr (mR S 70 l3.toNatClampNeg))), (0, .inr (.inr (some 69))), (1, .inr (.inr (some 75))), (2, .inl l2), (3, .inl l3)] rfl rfl rfl ?_
        refine zw_push hm_86 dX7_removeOthers_22 (v := .inr (.inr (mR S 70 l3.toNatClampNeg))) rfl ?_
        refine zw_ifnull hm_86 dX7_removeOthers_24 (t := 42) rfl ?_ ?_
        · intro hc
          have h := h.1 hc
          (try rw [hc])
          show ma_wp X d w 86 42 [(4, .inr (.inr none)), (0, .inr (.inr (some 69))), (1, .inr (.inr (some 75))), (2, .inl l2), (3, .inl l3)] [] S _
          refine zw_sto hm_86 dX7_removeOthers_42 [(3, .inl (l3 + (1 : Int32))), (4, .inr (.inr none)), (0, .inr (.inr (some 69))), (1, .inr (.inr (some 75))), (2, .inl l2)] rfl rfl rfl ?_
          refine zw_goto hm_86 dX7_removeOthers_45 (t := 7) rfl ?_
          exact zw_sub (ma_nd_of (ks := [0, 1, 2, 3]) rfl (by decide)) (ma_nd_of (ks := [3, 4, 0, 1, 2]) rfl (by decide)) (ma_le_cons rfl (ma_le_cons rfl (ma_le_cons rfl (ma_le_cons rfl (ma_le_nil _))))) h
        · intro c1 hc
          have h := h.2 c1 hc
          (try rw [hc])
          show ma_wp X d w 86 27 [(4, .inr (.inr (some c1))), (0, .inr (.inr (some 69))), (1, .inr (.inr (some 75))), (2, .inl l2), (3, .inl l3)] [] S _
          refine zw_push hm_86 dX7_removeOthers_27 (v := .inr (.inr (some 75))) rfl ?_
          refine zw_push hm_86 dX7_removeOthers_28 (v := .inr (.inr (some c1))) rfl ?_
          refine zw_cv hm_86 dX7_removeOthers_30 v_7_128_10 hm_122 [.inr (.inr (some c1))] [] rfl (zT_rt hS s_75 rfl) ⟨by omega, by omega⟩ rfl ?_
          show ma_wp X (d - 1) (w - 21) 122 0 [(0, .inr (.inr (some 75))), (1, .inr (.inr (some c1)))] [] S _
          refine zw_push hm_122 dX10_keeps_0 (v := .inr (.inr (some c1))) rfl ?_
          obtain ⟨hg, h⟩ := h
          refine zw_gf hm_122 dX10_keeps_1 (v := .inl (mI S c1 4)) (zT_tis hS hg) (zT_tt hS hg) rfl f_10_49_9 rfl ?_
          refine zw_push hm_122 dX10_keeps_4 (v := .inr (.inr (some 75))) rfl ?_
          refine zw_gf hm_122 dX10_keeps_5 (v := .inl (mI S 75 5)) (zT_is hS s_75) (zT_t hS s_75) rfl f_10_35_10 rfl ?_
          refine zw_if2 hm_122 dX10_keeps_8 (t := 19) rfl zc2_lt ?_ ?_
          · intro hc
            rw [if_pos hc] at h
            refine zw_push hm_122 dX10_keeps_19 (v := .inl (1 : Int32)) rfl ?_
            refine zw_goto hm_122 dX10_keeps_20 (t := 24) rfl ?_
            refine zw_bret hm_122 dX10_keeps_24 (by decide) ?_
            show ma_wp X d w 86 33 [(4, .inr (.inr (some c1))), (0, .inr (.inr (some 69))), (1, .inr (.inr (some 75))), (2, .inl l2), (3, .inl l3)] [.inl (1 : Int32)] S _
            refine zw_if0 hm_86 dX7_removeOthers_33 (t := 42) rfl zc0_ne (fun _ => ?_) (fun hc => absurd (by decide) hc)
            refine zw_sto hm_86 dX7_removeOthers_42 [(3, .inl (l3 + (1 : Int32))), (4, .inr (.inr (some c1))), (0, .inr (.inr (some 69))), (1, .inr (.inr (some 75))), (2, .inl l2)] rfl rfl rfl ?_
            refine zw_goto hm_86 dX7_removeOthers_45 (t := 7) rfl ?_
            exact zw_sub (ma_nd_of (ks := [0, 1, 2, 3]) rfl (by decide)) (ma_nd_of (ks := [3, 4, 0, 1, 2]) rfl (by decide)) (ma_le_cons rfl (ma_le_cons rfl (ma_le_cons rfl (ma_le_cons rfl (ma_le_nil _))))) h
          · intro hc
            rw [if_neg hc] at h
            refine zw_push hm_122 dX10_keeps_11 (v := .inr (.inr (some 75))) rfl ?_
            refine zw_push hm_122 dX10_keeps_12 (v := .inr (.inr (some c1))) rfl ?_
            refine zw_cv hm_122 dX10_keeps_13 v_10_54_10 hm_123 [.inr (.inr (some c1))] [] rfl (zT_rt hS s_75 rfl) ⟨by omega, by omega⟩ rfl ?_
            show ma_wp X ((d - 1) - 1) ((w - 21) - 21) 123 0 [(0, .inr (.inr (some 75))), (1, .inr (.inr (some c1)))] [] S _
            refine zw_push hm_123 dX10_colourOf_0 (v := .inr (.inr (some c1))) rfl ?_
            obtain ⟨hg, h⟩ := h
            refine zw_gf hm_123 dX10_colourOf_1 (v := .inl (mI S c1 0)) (zT_tis hS hg) (zT_tt hS hg) rfl f_10_58_9 rfl ?_
            refine zw_push hm_123 dX10_colourOf_4 (v := .inl (512 : Int32)) rfl ?_
            refine zw_if2 hm_123 dX10_colourOf_7 (t := 22) rfl zc2_ge ?_ ?_
            · intro hc
              rw [if_pos hc] at h
              refine zw_push hm_123 dX10_colourOf_22 (v := .inl (0 : Int32)) rfl ?_
              refine zw_iret hm_123 dX10_colourOf_23 ?_
              show ma_wp X (d - 1) (w - 21) 122 16 [(0, .inr (.inr (some 75))), (1, .inr (.inr (some c1)))] [.inl (0 : Int32)] S _
              refine zw_if0 hm_122 dX10_keeps_16 (t := 23) rfl zc0_eq (fun _ => ?_) (fun hc => absurd (by decide) hc)
              refine zw_push hm_122 dX10_keeps_23 (v := .inl (0 : Int32)) rfl ?_
              refine zw_bret hm_122 dX10_keeps_24 (by decide) ?_
              show ma_wp X d w 86 33 [(4, .inr (.inr (some c1))), (0, .inr (.inr (some 69))), (1, .inr (.inr (some 75))), (2, .inl l2), (3, .inl l3)] [.inl (0 : Int32)] S _
              refine zw_if0 hm_86 dX7_removeOthers_33 (t := 42) rfl zc0_ne (fun hc => absurd hc (by decide)) (fun _ => ?_)
              refine zw_push hm_86 dX7_removeOthers_36 (v := .inr (.inr (some 69))) rfl ?_
              refine zw_push hm_86 dX7_removeOthers_37 (v := .inr (.inr (some c1))) rfl ?_
              refine zw_cv hm_86 dX7_removeOthers_39 v_7_144_7 hm_87 [.inr (.inr (some c1))] [] rfl (zT_rt hS s_69 rfl) ⟨by omega, by omega⟩ rfl (zw_mono h (zv_go ?_ ?_))
              · intro S2 hv
                obtain ⟨hS2, h⟩ := hv
                refine zw_sto hm_86 dX7_removeOthers_42 [(3, .inl (l3 + (1 : Int32))), (4, .inr (.inr (some c1))), (0, .inr (.inr (some 69))), (1, .inr (.inr (some 75))), (2, .inl l2)] rfl rfl rfl ?_
                refine zw_goto hm_86 dX7_removeOthers_45 (t := 7) rfl ?_
                exact zw_sub (ma_nd_of (ks := [0, 1, 2, 3]) rfl (by decide)) (ma_nd_of (ks := [3, 4, 0, 1, 2]) rfl (by decide)) (ma_le_cons rfl (ma_le_cons rfl (ma_le_cons rfl (ma_le_cons rfl (ma_le_nil _))))) h
              · intro x S9 hx
                exact ⟨by decide, hx⟩
            · intro hc
              rw [if_neg hc] at h
              refine zw_push hm_123 dX10_colourOf_10 (v := .inr (.inr (some 75))) rfl ?_
              refine zw_gf hm_123 dX10_colourOf_11 (v := .inr (.inr (some 77))) (zT_is hS s_75) (zT_t hS s_75) rfl f_10_15_10 (zT_f hS r_75_2) ?_
              refine zw_push hm_123 dX10_colourOf_14 (v := .inr (.inr (some c1))) rfl ?_
              obtain ⟨hg, h⟩ := h
              refine zw_gf hm_123 dX10_colourOf_15 (v := .inl (mI S c1 0)) (zT_tis hS hg) (zT_tt hS hg) rfl f_10_58_9 rfl ?_
              obtain ⟨hg, h⟩ := h
              refine zw_ia hm_123 dX10_colourOf_18 (zT_is hS s_77) (zT_h hS s_77) rfl hg ?_
              show ma_wp X ((d - 1) - 1) ((w - 21) - 21) 123 19 [(0, .inr (.inr (some 75))), (1, .inr (.inr (some c1)))] [.inl (mI S 77 (mI S c1 0).toNatClampNeg)] S _
              refine zw_goto hm_123 dX10_colourOf_19 (t := 23) rfl ?_
              refine zw_iret hm_123 dX10_colourOf_23 ?_
              show ma_wp X (d - 1) (w - 21) 122 16 [(0, .inr (.inr (some 75))), (1, .inr (.inr (some c1)))] [.inl (mI S 77 (mI S c1 0).toNatClampNeg)] S _
              refine zw_if0 hm_122 dX10_keeps_16 (t := 23) rfl zc0_eq ?_ ?_
              · intro hc
                rw [if_pos hc] at h
                refine zw_push hm_122 dX10_keeps_23 (v := .inl (0 : Int32)) rfl ?_
                refine zw_bret hm_122 dX10_keeps_24 (by decide) ?_
                show ma_wp X d w 86 33 [(4, .inr (.inr (some c1))), (0, .inr (.inr (some 69))), (1, .inr (.inr (some 75))), (2, .inl l2), (3, .inl l3)] [.inl (0 : Int32)] S _
                refine zw_if0 hm_86 dX7_removeOthers_33 (t := 42) rfl zc0_ne (fun hc => absurd hc (by decide)) (fun _ => ?_)
                refine zw_push hm_86 dX7_removeOthers_36 (v := .inr (.inr (some 69))) rfl ?_
                refine zw_push hm_86 dX7_removeOthers_37 (v := .inr (.inr (some c1))) rfl ?_
                refine zw_cv hm_86 dX7_removeOthers_39 v_7_144_7 hm_87 [.inr (.inr (some c1))] [] rfl (zT_rt hS s_69 rfl) ⟨by omega, by omega⟩ rfl (zw_mono h (zv_go ?_ ?_))
                · intro S4 hv
                  obtain ⟨hS4, h⟩ := hv
                  refine zw_sto hm_86 dX7_removeOthers_42 [(3, .inl (l3 + (1 : Int32))), (4, .inr (.inr (some c1))), (0, .inr (.inr (some 69))), (1, .inr (.inr (some 75))), (2, .inl l2)] rfl rfl rfl ?_
                  refine zw_goto hm_86 dX7_removeOthers_45 (t := 7) rfl ?_
                  exact zw_sub (ma_nd_of (ks := [0, 1, 2, 3]) rfl (by decide)) (ma_nd_of (ks := [3, 4, 0, 1, 2]) rfl (by decide)) (ma_le_cons rfl (ma_le_cons rfl (ma_le_cons rfl (ma_le_cons rfl (ma_le_nil _))))) h
                · intro x S9 hx
                  exact ⟨by decide, hx⟩
              · intro hc
                rw [if_neg hc] at h
                refine zw_push hm_122 dX10_keeps_19 (v := .inl (1 : Int32)) rfl ?_
                refine zw_goto hm_122 dX10_keeps_20 (t := 24) rfl ?_
                refine zw_bret hm_122 dX10_keeps_24 (by decide) ?_
                show ma_wp X d w 86 33 [(4, .inr (.inr (some c1))), (0, .inr (.inr (some 69))), (1, .inr (.inr (some 75))), (2, .inl l2), (3, .inl l3)] [.inl (1 : Int32)] S _
                refine zw_if0 hm_86 dX7_removeOthers_33 (t := 42) rfl zc0_ne (fun _ => ?_) (fun hc => absurd (by decide) hc)
                refine zw_sto hm_86 dX7_removeOthers_42 [(3, .inl (l3 + (1 : Int32))), (4, .inr (.inr (some c1))), (0, .inr (.inr (some 69))), (1, .inr (.inr (some 75))), (2, .inl l2)] rfl rfl rfl ?_
                refine zw_goto hm_86 dX7_removeOthers_45 (t := 7) rfl ?_
                exact zw_sub (ma_nd_of (ks := [0, 1, 2, 3]) rfl (by decide)) (ma_nd_of (ks := [3, 4, 0, 1, 2]) rfl (by decide)) (ma_le_cons rfl (ma_le_cons rfl (ma_le_cons rfl (ma_le_cons rfl (ma_le_nil _))))) h
theorem lp_86_69_75_s_7 {X : Nat × (Nat → Int32)} {d w : Nat} {f : Nat → Nat → Int32} {r : Nat → Nat → Option Nat} {C Z N : Nat} {Q : Option ma_V ⊕ Nat → ma_S → Prop} {ab : Nat→Nat→Int32} (hd : 2 ≤ d) (hw : 48 ≤ w) (K : ∀ v S₉, zI f r C Z N S₉ → (True) → (xB S₉ (mR S₉ 70)) → (aS 75 S₉ = aMv ab 0 ∧ v = aMv ab 0 69 11 - ab 69 11) → Q (.inl (some (.inl v))) S₉) : ∀ (n : Nat) (S : ma_S) (l2 : Int32) (l3 : Int32), (512 - l3.toInt).toNat = n → zI f r C Z N S → (0 ≤ l3.toInt) → (xB S (mR S 70)) → (aMv (aS 75 S) l3 = aMv ab 0) → (l2 = ab 69 11) → ma_wp X d w 86 7 [(0, .inr (.inr (some 69))), (1, .inr (.inr (some 75))), (2, .inl l2), (3, .inl l3)] [] S Q := by
  intro n
  induction n using Nat.strongRecOn with
  | _ n IH =>
    intro S l2 l3 hmu hI  hi0 hi1 hi2 hi3
    refine g_86_69_75_s_7 l2 l3 (by omega) (by omega) (zG_T hI) ?_
    have r6 := congrArg Int32.toInt (aS_I (W := 75) (S := S) (c := 69) (c₉ := 69) (k := 6) rfl rfl)
    have f1 := zG_s hI (0) (512) (c := 69) (k := 6) (by decide)
    have b2 := i_bd l3
    refine zd (fun h3 => ?_) (fun h3 => ?_)
    · skip
      have g4 := i_le h3
      have hI5 : zI f r C Z N (ma_put S 69 9 (.inl ((mI S 69 9) + (1 : Int32)))) := zG_fr hI rfl (by decide) (by decide) (by decide) trivial
      have b6 := i_bd (mI S 69 11)
      have b7 := i_bd l2
      first | have e8 : ((mI S 69 11) - l2).toInt = (mI S 69 11).toInt - l2.toInt := i_sub (by omega) (by omega) | have b9 := i_bd ((mI S 69 11) - l2)
      exact K (((mI S 69 11) - l2)) _ hI5 trivial (show xB (ma_put S 69 9 (.inl ((mI S 69 9) + (1 : Int32)))) (mR (ma_put S 69 9 (.inl ((mI S 69 9) + (1 : Int32)))) 70) from by first | (exact xB_x (xC_n (c := 69) (k := 9) (x := ((mI S 69 9) + (1 : Int32))) (xC_o (W := 75) hi1) ⟨by decide, Or.inl ⟨rfl, rfl⟩⟩).2)) (show aS 75 (ma_put S 69 9 (.inl ((mI S 69 9) + (1 : Int32)))) = aMv ab 0 ∧ ((mI S 69 11) - l2) = aMv ab 0 69 11 - ab 69 11 from by first | (have z := (xC_n (c := 69) (k := 9) (x := ((mI S 69 9) + (1 : Int32))) (xC_o (W := 75) hi1) ⟨by decide, Or.inl ⟨rfl, rfl⟩⟩).1; exact ⟨z.trans ((aMv_st (by omega)).symm.trans hi2), (by rw [← hi3, ← hi2, aMv_st (by omega), (aS_I (W := 75) (S := S) (c := 69) (c₉ := 69) (k := 11) rfl rfl)])⟩))
    · skip
      have g10 := i_nle h3
      have li11 : (0 : Int32).toInt = 0 := rfl
      refine zd (fun h12 => ?_) (fun h12 => ?_)
      · skip
        have g13 := i_lt h12
        have b14 := i_bd l2
        first | have e15 : (l3 + (1 : Int32)).toInt = l3.toInt + (1) := i_addk rfl (by omega) (by omega) | have b16 := i_bd (l3 + (1 : Int32))
        exact IH _ (by omega) _ (l2) ((l3 + (1 : Int32))) rfl hI (by omega) (show xB S (mR S 70) from by first | (exact xB_x (xC_o (W := 75) hi1).2)) (show aMv (aS 75 S) ((l3 + (1 : Int32))) = aMv ab 0 from by first | (exfalso; omega) | (exact (aMv_n (by omega) (fun z => by omega)).symm.trans hi2)) (show (l2) = ab 69 11 from by first | (exact hi3))
      · skip
        have g17 := i_nlt h12
        have li18 : (512 : Int32).toInt = 512 := rfl
        refine zd (fun h19 => ?_) (fun h19 => ?_)
        · skip
          have g20 := i_le h19
          have b21 := i_bd l2
          first | have e22 : (l3 + (1 : Int32)).toInt = l3.toInt + (1) := i_addk rfl (by omega) (by omega) | have b23 := i_bd (l3 + (1 : Int32))
          exact IH _ (by omega) _ (l2) ((l3 + (1 : Int32))) rfl hI (by omega) (show xB S (mR S 70) from by first | (exact xB_x (xC_o (W := 75) hi1).2)) (show aMv (aS 75 S) ((l3 + (1 : Int32))) = aMv ab 0 from by first | (exfalso; omega) | (exact (aMv_n (by omega) (fun z => by omega)).symm.trans hi2)) (show (l2) = ab 69 11 from by first | (exact hi3))
        · skip
          have g24 := i_nle h19
          refine ⟨i_ix (by omega) (by omega), ?_⟩
          refine ⟨fun hc => ?_, fun c1 hc => ?_⟩
          · skip
            have rn_c1 : zTa (mR S 70) l3 = none := (ta_rd (y := l3) hi1 (by omega) (by omega)).symm.trans hc
            have b25 := i_bd l2
            first | have e26 : (l3 + (1 : Int32)).toInt = l3.toInt + (1) := i_addk rfl (by omega) (by omega) | have b27 := i_bd (l3 + (1 : Int32))
            exact IH _ (by omega) _ (l2) ((l3 + (1 : Int32))) rfl hI (by omega) (show xB S (mR S 70) from by first | (exact xB_x (xC_o (W := 75) hi1).2)) (show aMv (aS 75 S) ((l3 + (1 : Int32))) = aMv ab 0 from by first | (exfalso; omega) | (exact (aMv_n (by omega) (fun z => xB_nt (W := 75) hi1 rn_c1 ⟨z.1, z.2.1, z.2.2.1⟩)).symm.trans hi2)) (show (l2) = ab 69 11 from by first | (exact hi3))
          · skip
            have th_c1 := (fun _ z => zG_70 hI (c := 70) (by decide) z) c1 hc
            have rg_c1 : zTa (mR S 70) l3 = some c1 := (ta_rd (y := l3) hi1 (by omega) (by omega)).symm.trans hc
            refine ⟨zG_n hI th_c1, ?_⟩
            have f28 := zG_th hI th_c1
            have b29 := i_bd (mI S 75 5)
            refine zd (fun h30 => ?_) (fun h30 => ?_)
            · skip
              have g31 := i_lt h30
              have b32 := i_bd l2
              first | have e33 : (l3 + (1 : Int32)).toInt = l3.toInt + (1) := i_addk rfl (by omega) (by omega) | have b34 := i_bd (l3 + (1 : Int32))
              exact IH _ (by omega) _ (l2) ((l3 + (1 : Int32))) rfl hI (by omega) (show xB S (mR S 70) from by first | (exact xB_x (xC_o (W := 75) hi1).2)) (show aMv (aS 75 S) ((l3 + (1 : Int32))) = aMv ab 0 from by first | (exfalso; omega) | (have ty := xB_th (W := 75) hi1 rg_c1; have e4 := congrArg Int32.toInt ty.2.2.2.2.2.1; refine (aMv_n (by omega) (fun z => ?_)).symm.trans hi2; have z4 : (mI S 75 5).toInt ≤ (mI S c1 4).toInt := (by rw [e4]; exact z.2.2.2.1); have z6 : (mI S 77 (mI S c1 0).toNatClampNeg).toInt = 0 := (by rw [ty.2.2.1]; exact congrArg Int32.toInt z.2.2.2.2); omega)) (show (l2) = ab 69 11 from by first | (exact hi3))
            · skip
              have g35 := i_nlt h30
              refine ⟨zG_n hI th_c1, ?_⟩
              have f36 := zG_th hI th_c1
              refine zd (fun h37 => ?_) (fun h37 => ?_)
              · skip
                have g38 := i_le h37
                refine sp_87_69_s (ab := (aS 75 S)) (R := (mR S 70)) (W := 75) (y := l3) c1 (by omega) (by omega) hI th_c1 (show xB S (mR S 70) from by first | (exact xB_x (xC_o (W := 75) hi1).2)) (show aS 75 S = (aS 75 S) from by first | (exact rfl)) (show xW 75 from by first | (exact xW88) | (exact xW75)) (show zTa (mR S 70) l3 = some c1 from by first | (exact rg_c1)) (fun S2 hI_S2 rp0_S2 rp1_S2 => zv_n ⟨zG_T hI_S2, ?_⟩)
                have rp0_S2 : xB S2 (zRu (mR S 70) l3.toNatClampNeg none) := rp0_S2
                have rp1_S2 : aS 75 S2 = aRm (aS 75 S) l3 := rp1_S2
                have b39 := i_bd l2
                first | have e40 : (l3 + (1 : Int32)).toInt = l3.toInt + (1) := i_addk rfl (by omega) (by omega) | have b41 := i_bd (l3 + (1 : Int32))
                exact IH _ (by omega) _ (l2) ((l3 + (1 : Int32))) rfl hI_S2 (by omega) (show xB S2 (mR S2 70) from by first | (exact xB_x (xC_o (W := 75) rp0_S2).2)) (show aMv (aS 75 S2) ((l3 + (1 : Int32))) = aMv ab 0 from by first | (exfalso; omega) | (have ty := xB_th (W := 75) hi1 rg_c1; have e4 := congrArg Int32.toInt ty.2.2.2.2.2.1; rw [rp1_S2]; refine (aMv_y (by omega) ⟨ty.1, ty.2.1, (by rw [ty.2.2.2.2.2.2.2.2]; decide), ?_, ?_⟩).symm.trans hi2; (show (mI S 75 5).toInt ≤ _; rw [← e4]; omega); (show mI S 77 _ = 0; rw [← ty.2.2.1]; assumption))) (show (l2) = ab 69 11 from by first | (exact hi3))
              · skip
                have g42 := i_nle h37
                refine ⟨zG_n hI th_c1, ?_⟩
                refine ⟨i_ix (by omega) (by omega), ?_⟩
                have b43 := i_bd (mI S 77 (mI S c1 0).toNatClampNeg)
                refine zd (fun h44 => ?_) (fun h44 => ?_)
                · skip
                  have g45 := i_eq h44
                  refine sp_87_69_s (ab := (aS 75 S)) (R := (mR S 70)) (W := 75) (y := l3) c1 (by omega) (by omega) hI th_c1 (show xB S (mR S 70) from by first | (exact xB_x (xC_o (W := 75) hi1).2)) (show aS 75 S = (aS 75 S) from by first | (exact rfl)) (show xW 75 from by first | (exact xW88) | (exact xW75)) (show zTa (mR S 70) l3 = some c1 from by first | (exact rg_c1)) (fun S4 hI_S4 rp0_S4 rp1_S4 => zv_n ⟨zG_T hI_S4, ?_⟩)
                  have rp0_S4 : xB S4 (zRu (mR S 70) l3.toNatClampNeg none) := rp0_S4
                  have rp1_S4 : aS 75 S4 = aRm (aS 75 S) l3 := rp1_S4
                  have b46 := i_bd l2
                  first | have e47 : (l3 + (1 : Int32)).toInt = l3.toInt + (1) := i_addk rfl (by omega) (by omega) | have b48 := i_bd (l3 + (1 : Int32))
                  exact IH _ (by omega) _ (l2) ((l3 + (1 : Int32))) rfl hI_S4 (by omega) (show xB S4 (mR S4 70) from by first | (exact xB_x (xC_o (W := 75) rp0_S4).2)) (show aMv (aS 75 S4) ((l3 + (1 : Int32))) = aMv ab 0 from by first | (exfalso; omega) | (have ty := xB_th (W := 75) hi1 rg_c1; have e4 := congrArg Int32.toInt ty.2.2.2.2.2.1; rw [rp1_S4]; refine (aMv_y (by omega) ⟨ty.1, ty.2.1, (by rw [ty.2.2.2.2.2.2.2.2]; decide), ?_, ?_⟩).symm.trans hi2; (show (mI S 75 5).toInt ≤ _; rw [← e4]; omega); (show mI S 77 _ = 0; rw [← ty.2.2.1]; assumption))) (show (l2) = ab 69 11 from by first | (exact hi3))
                · skip
                  have g49 := i_ne h44
                  have b50 := i_bd l2
                  first | have e51 : (l3 + (1 : Int32)).toInt = l3.toInt + (1) := i_addk rfl (by omega) (by omega) | have b52 := i_bd (l3 + (1 : Int32))
                  exact IH _ (by omega) _ (l2) ((l3 + (1 : Int32))) rfl hI (by omega) (show xB S (mR S 70) from by first | (exact xB_x (xC_o (W := 75) hi1).2)) (show aMv (aS 75 S) ((l3 + (1 : Int32))) = aMv ab 0 from by first | (exfalso; omega) | (have ty := xB_th (W := 75) hi1 rg_c1; have e4 := congrArg Int32.toInt ty.2.2.2.2.2.1; refine (aMv_n (by omega) (fun z => ?_)).symm.trans hi2; have z4 : (mI S 75 5).toInt ≤ (mI S c1 4).toInt := (by rw [e4]; exact z.2.2.2.1); have z6 : (mI S 77 (mI S c1 0).toNatClampNeg).toInt = 0 := (by rw [ty.2.2.1]; exact congrArg Int32.toInt z.2.2.2.2); omega)) (show (l2) = ab 69 11 from by first | (exact hi3))
theorem sp_86_69_75_s {X : Nat × (Nat → Int32)} {d w : Nat} {f : Nat → Nat → Int32} {r : Nat → Nat → Option Nat} {C Z N : Nat} {Q : Option ma_V ⊕ Nat → ma_S → Prop} {ab : Nat→Nat→Int32} {S : ma_S}  (hd : 2 ≤ d) (hw : 48 ≤ w) (hI : zI f r C Z N S) (hpre0 : xB S (mR S 70)) (hpre1 : aS 75 S = ab) (K : ∀ v S₉, zI f r C Z N S₉ → (True) → (xB S₉ (mR S₉ 70)) → (aS 75 S₉ = aMv ab 0 ∧ v = aMv ab 0 69 11 - ab 69 11) → Q (.inl (some (.inl v))) S₉) : ma_wp X d w 86 0 [(0, .inr (.inr (some 69))), (1, .inr (.inr (some 75)))] [] S Q := by
  refine g_86_69_75_s_0  (by omega) (by omega) (zG_T hI) ?_
  have b1 := i_bd (mI S 69 11)
  have li2 : (0 : Int32).toInt = 0 := rfl
  exact lp_86_69_75_s_7 (by omega) (by omega) K _ _ ((mI S 69 11)) ((0 : Int32)) rfl hI (by omega) (show xB S (mR S 70) from by first | (exact xB_x (xC_o (W := 75) hpre0).2)) (show aMv (aS 75 S) ((0 : Int32)) = aMv ab 0 from by first | (rw [hpre1]) | (exfalso; omega)) (show ((mI S 69 11)) = ab 69 11 from by first | (rw [← hpre1, (aS_I (W := 75) (S := S) (c := 69) (c₉ := 69) (k := 11) rfl rfl)]))
/-! what is not reached goes -/
def aSw (a : Nat → Nat → Int32) : Nat → Nat → Int32 := aMv (aGw (aRA a) 0) 0
def aSv (a : Nat → Nat → Int32) : Int32 := aSw a 69 11 - aGw (aRA a) 0 69 11

/-! from 95.k12 -/
/-! the collectors that sweep, the class (written by wip/tools/gen20.py) -/
theorem g_264_79_s_0 {X : Nat × (Nat → Int32)} {d w : Nat} {S : ma_S} {Q : Option ma_V ⊕ Nat → ma_S → Prop}  (hd : 3 ≤ d) (hw : 72 ≤ w) (hS : zT S) (h : ma_wp X (d - 1) (w - 20) 116 0 [(0, .inr (.inr (some 75)))] [] S (zv (fun S1 => zT S1 ∧ (ma_wp X (d - 1) (w - 23) 83 0 [(0, .inr (.inr (some 69))), (1, .inr (.inr (some 75)))] [] S1 (zv (fun S3 => zT S3 ∧ (ma_wp X (d - 1) (w - 24) 86 0 [(0, .inr (.inr (some 69))), (1, .inr (.inr (some 75)))] [] S3 (zi (fun v6 S5 => zT S5 ∧ (Q (.inl (some (.inl v6))) S5)) (fun x S9 => Q (.inr x) S9)))) (fun x S9 => Q (.inr x) S9)))) (fun x S9 => Q (.inr x) S9))) : ma_wp X d w 264 0 [(0, .inr (.inr (some 79)))] [] S Q := by
  refine zw_push hm_264 dX1_removeUnreached_0 (v := .inr (.inr (some 79))) rfl ?_
  refine zw_gf hm_264 dX1_removeUnreached_1 (v := .inr (.inr (some 75))) (zT_is hS s_79) (zT_t hS s_79) rfl f_13_15_8 (zT_f hS r_79_1) ?_
  refine zw_cv hm_264 dX1_removeUnreached_4 v_13_19_10 hm_116 [] [] rfl (zT_rt hS s_75 rfl) ⟨by omega, by omega⟩ rfl (zw_mono h (zv_go ?_ ?_))
  · intro S1 hv
    obtain ⟨hS1, h⟩ := hv
    refine zw_push hm_264 dX1_removeUnreached_7 (v := .inr (.inr (some 79))) rfl ?_
    refine zw_gf hm_264 dX1_removeUnreached_8 (v := .inr (.inr (some 69))) (zT_is hS1 s_79) (zT_t hS1 s_79) rfl f_13_9_8 (zT_f hS1 r_79_0) ?_
    refine zw_push hm_264 dX1_removeUnreached_11 (v := .inr (.inr (some 79))) rfl ?_
    refine zw_gf hm_264 dX1_removeUnreached_12 (v := .inr (.inr (some 75))) (zT_is hS1 s_79) (zT_t hS1 s_79) rfl f_13_15_8 (zT_f hS1 r_79_1) ?_
    refine zw_cv hm_264 dX1_removeUnreached_15 v_13_24_7 hm_83 [.inr (.inr (some 75))] [] rfl (zT_rt hS1 s_69 rfl) ⟨by omega, by omega⟩ rfl (zw_mono h (zv_go ?_ ?_))
    · intro S3 hv
      obtain ⟨hS3, h⟩ := hv
      refine zw_push hm_264 dX1_removeUnreached_18 (v := .inr (.inr (some 79))) rfl ?_
      refine zw_gf hm_264 dX1_removeUnreached_19 (v := .inr (.inr (some 69))) (zT_is hS3 s_79) (zT_t hS3 s_79) rfl f_13_9_8 (zT_f hS3 r_79_0) ?_
      refine zw_push hm_264 dX1_removeUnreached_22 (v := .inr (.inr (some 79))) rfl ?_
      refine zw_gf hm_264 dX1_removeUnreached_23 (v := .inr (.inr (some 75))) (zT_is hS3 s_79) (zT_t hS3 s_79) rfl f_13_15_8 (zT_f hS3 r_79_1) ?_
      refine zw_cv hm_264 dX1_removeUnreached_26 v_13_30_7 hm_86 [.inr (.inr (some 75))] [] rfl (zT_rt hS3 s_69 rfl) ⟨by omega, by omega⟩ rfl (zw_mono h (zi_go ?_ ?_))
      · intro v6 S5 hv
        obtain ⟨hS5, h⟩ := hv
        exact zw_iret hm_264 dX1_removeUnreached_29 h
      · intro x S9 hx
        exact ⟨by decide, hx⟩
    · intro x S9 hx
      exact ⟨by decide, hx⟩
  · intro x S9 hx
    exact ⟨by decide, hx⟩
theorem sp_264_79_s {X : Nat × (Nat → Int32)} {d w : Nat} {f : Nat → Nat → Int32} {r : Nat → Nat → Option Nat} {C Z N : Nat} {Q : Option ma_V ⊕ Nat → ma_S → Prop} {ab : Nat→Nat→Int32} {S : ma_S}  (hd : 3 ≤ d) (hw : 72 ≤ w) (hI : zI f r C Z N S) (hpre0 : xB S (mR S 70)) (hpre1 : aS 75 S = ab) (K : ∀ v S₉, zI f r C Z N S₉ → (True) → (xB S₉ (mR S₉ 70)) → (aS 75 S₉ = aSw ab ∧ v = aSv ab) → Q (.inl (some (.inl v))) S₉) : ma_wp X d w 264 0 [(0, .inr (.inr (some 79)))] [] S Q := by
  refine g_264_79_s_0  (by omega) (by omega) (zG_T hI) ?_
  refine sp_116_75_s (ab := (aS 75 S)) (R := (mR S 70)) (a8 := (aS 88 S)) (by omega) (by omega) hI (show xB S (mR S 70) from by first | (exact xB_x (xC_o (W := 75) hpre0).2)) (show aS 75 S = (aS 75 S) from by first | (exact rfl)) (show aS 88 S = (aS 88 S) from by first | (exact rfl)) (fun S1 hI_S1 rp0_S1 rp1_S1 rp2_S1 => zv_n ⟨zG_T hI_S1, ?_⟩)
  have rp0_S1 : xB S1 (mR S 70) := rp0_S1
  have rp1_S1 : aS 75 S1 = aSp 512 (aRo (aWh (aS 75 S) 0) 0) := rp1_S1
  have rp2_S1 : aS 88 S1 = (aS 88 S) := rp2_S1
  refine sp_83_69_75_s (ab := (aS 75 S1)) (R := (mR S1 70)) (by omega) (by omega) hI_S1 (show xB S1 (mR S1 70) from by first | (exact xB_x (xC_o (W := 75) rp0_S1).2)) (show aS 75 S1 = (aS 75 S1) from by first | (exact rfl)) (fun S3 hI_S3 rp0_S3 rp1_S3 => zv_n ⟨zG_T hI_S3, ?_⟩)
  have rp0_S3 : xB S3 (mR S1 70) := rp0_S3
  have rp1_S3 : aS 75 S3 = aGw (aS 75 S1) 0 := rp1_S3
  refine sp_86_69_75_s (ab := (aS 75 S3)) (by omega) (by omega) hI_S3 (show xB S3 (mR S3 70) from by first | (exact xB_x (xC_o (W := 75) rp0_S3).2)) (show aS 75 S3 = (aS 75 S3) from by first | (exact rfl)) (fun v6 S5 hI_S5 hp_v6 rp0_S5 rp1_S5 => zi_n ⟨zG_T hI_S5, ?_⟩)
  have rp0_S5 : xB S5 (mR S5 70) := rp0_S5
  have rp1_S5 : aS 75 S5 = aMv (aS 75 S3) 0 ∧ v6 = aMv (aS 75 S3) 0 69 11 - (aS 75 S3) 69 11 := rp1_S5
  have b1 := i_bd v6
  exact K (v6) _ hI_S5 trivial (show xB S5 (mR S5 70) from by first | (exact xB_x (xC_o (W := 75) rp0_S5).2)) (show aS 75 S5 = aSw ab ∧ v6 = aSv ab from by first | (have z := rp1_S5; rw [rp1_S3, rp1_S1, hpre1] at z; exact z))
theorem g_264_80_s_0 {X : Nat × (Nat → Int32)} {d w : Nat} {S : ma_S} {Q : Option ma_V ⊕ Nat → ma_S → Prop}  (hd : 3 ≤ d) (hw : 72 ≤ w) (hS : zT S) (h : ma_wp X (d - 1) (w - 20) 116 0 [(0, .inr (.inr (some 75)))] [] S (zv (fun S1 => zT S1 ∧ (ma_wp X (d - 1) (w - 23) 83 0 [(0, .inr (.inr (some 69))), (1, .inr (.inr (some 75)))] [] S1 (zv (fun S3 => zT S3 ∧ (ma_wp X (d - 1) (w - 24) 86 0 [(0, .inr (.inr (some 69))), (1, .inr (.inr (some 75)))] [] S3 (zi (fun v6 S5 => zT S5 ∧ (Q (.inl (some (.inl v6))) S5)) (fun x S9 => Q (.inr x) S9)))) (fun x S9 => Q (.inr x) S9)))) (fun x S9 => Q (.inr x) S9))) : ma_wp X d w 264 0 [(0, .inr (.inr (some 80)))] [] S Q := by
  refine zw_push hm_264 dX1_removeUnreached_0 (v := .inr (.inr (some 80))) rfl ?_
  refine zw_gf hm_264 dX1_removeUnreached_1 (v := .inr (.inr (some 75))) (zT_is hS s_80) (zT_t hS s_80) rfl f_13_15_5 (zT_f hS r_80_1) ?_
  refine zw_cv hm_264 dX1_removeUnreached_4 v_13_19_10 hm_116 [] [] rfl (zT_rt hS s_75 rfl) ⟨by omega, by omega⟩ rfl (zw_mono h (zv_go ?_ ?_))
  · intro S1 hv
    obtain ⟨hS1, h⟩ := hv
    refine zw_push hm_264 dX1_removeUnreached_7 (v := .inr (.inr (some 80))) rfl ?_
    refine zw_gf hm_264 dX1_removeUnreached_8 (v := .inr (.inr (some 69))) (zT_is hS1 s_80) (zT_t hS1 s_80) rfl f_13_9_5 (zT_f hS1 r_80_0) ?_
    refine zw_push hm_264 dX1_removeUnreached_11 (v := .inr (.inr (some 80))) rfl ?_
    refine zw_gf hm_264 dX1_removeUnreached_12 (v := .inr (.inr (some 75))) (zT_is hS1 s_80) (zT_t hS1 s_80) rfl f_13_15_5 (zT_f hS1 r_80_1) ?_
    refine zw_cv hm_264 dX1_removeUnreached_15 v_13_24_7 hm_83 [.inr (.inr (some 75))] [] rfl (zT_rt hS1 s_69 rfl) ⟨by omega, by omega⟩ rfl (zw_mono h (zv_go ?_ ?_))
    · intro S3 hv
      obtain ⟨hS3, h⟩ := hv
      refine zw_push hm_264 dX1_removeUnreached_18 (v := .inr (.inr (some 80))) rfl ?_
      refine zw_gf hm_264 dX1_removeUnreached_19 (v := .inr (.inr (some 69))) (zT_is hS3 s_80) (zT_t hS3 s_80) rfl f_13_9_5 (zT_f hS3 r_80_0) ?_
      refine zw_push hm_264 dX1_removeUnreached_22 (v := .inr (.inr (some 80))) rfl ?_
      refine zw_gf hm_264 dX1_removeUnreached_23 (v := .inr (.inr (some 75))) (zT_is hS3 s_80) (zT_t hS3 s_80) rfl f_13_15_5 (zT_f hS3 r_80_1) ?_
      refine zw_cv hm_264 dX1_removeUnreached_26 v_13_30_7 hm_86 [.inr (.inr (some 75))] [] rfl (zT_rt hS3 s_69 rfl) ⟨by omega, by omega⟩ rfl (zw_mono h (zi_go ?_ ?_))
      · intro v6 S5 hv
        obtain ⟨hS5, h⟩ := hv
        exact zw_iret hm_264 dX1_removeUnreached_29 h
      · intro x S9 hx
        exact ⟨by decide, hx⟩
    · intro x S9 hx
      exact ⟨by decide, hx⟩
  · intro x S9 hx
    exact ⟨by decide, hx⟩
theorem sp_264_80_s {X : Nat × (Nat → Int32)} {d w : Nat} {f : Nat → Nat → Int32} {r : Nat → Nat → Option Nat} {C Z N : Nat} {Q : Option ma_V ⊕ Nat → ma_S → Prop} {ab : Nat→Nat→Int32} {S : ma_S}  (hd : 3 ≤ d) (hw : 72 ≤ w) (hI : zI f r C Z N S) (hpre0 : xB S (mR S 70)) (hpre1 : aS 75 S = ab) (K : ∀ v S₉, zI f r C Z N S₉ → (True) → (xB S₉ (mR S₉ 70)) → (aS 75 S₉ = aSw ab ∧ v = aSv ab) → Q (.inl (some (.inl v))) S₉) : ma_wp X d w 264 0 [(0, .inr (.inr (some 80)))] [] S Q := by
  refine g_264_80_s_0  (by omega) (by omega) (zG_T hI) ?_
  refine sp_116_75_s (ab := (aS 75 S)) (R := (mR S 70)) (a8 := (aS 88 S)) (by omega) (by omega) hI (show xB S (mR S 70) from by first | (exact xB_x (xC_o (W := 75) hpre0).2)) (show aS 75 S = (aS 75 S) from by first | (exact rfl)) (show aS 88 S = (aS 88 S) from by first | (exact rfl)) (fun S1 hI_S1 rp0_S1 rp1_S1 rp2_S1 => zv_n ⟨zG_T hI_S1, ?_⟩)
  have rp0_S1 : xB S1 (mR S 70) := rp0_S1
  have rp1_S1 : aS 75 S1 = aSp 512 (aRo (aWh (aS 75 S) 0) 0) := rp1_S1
  have rp2_S1 : aS 88 S1 = (aS 88 S) := rp2_S1
  refine sp_83_69_75_s (ab := (aS 75 S1)) (R := (mR S1 70)) (by omega) (by omega) hI_S1 (show xB S1 (mR S1 70) from by first | (exact xB_x (xC_o (W := 75) rp0_S1).2)) (show aS 75 S1 = (aS 75 S1) from by first | (exact rfl)) (fun S3 hI_S3 rp0_S3 rp1_S3 => zv_n ⟨zG_T hI_S3, ?_⟩)
  have rp0_S3 : xB S3 (mR S1 70) := rp0_S3
  have rp1_S3 : aS 75 S3 = aGw (aS 75 S1) 0 := rp1_S3
  refine sp_86_69_75_s (ab := (aS 75 S3)) (by omega) (by omega) hI_S3 (show xB S3 (mR S3 70) from by first | (exact xB_x (xC_o (W := 75) rp0_S3).2)) (show aS 75 S3 = (aS 75 S3) from by first | (exact rfl)) (fun v6 S5 hI_S5 hp_v6 rp0_S5 rp1_S5 => zi_n ⟨zG_T hI_S5, ?_⟩)
  have rp0_S5 : xB S5 (mR S5 70) := rp0_S5
  have rp1_S5 : aS 75 S5 = aMv (aS 75 S3) 0 ∧ v6 = aMv (aS 75 S3) 0 69 11 - (aS 75 S3) 69 11 := rp1_S5
  have b1 := i_bd v6
  exact K (v6) _ hI_S5 trivial (show xB S5 (mR S5 70) from by first | (exact xB_x (xC_o (W := 75) rp0_S5).2)) (show aS 75 S5 = aSw ab ∧ v6 = aSv ab from by first | (have z := rp1_S5; rw [rp1_S3, rp1_S1, hpre1] at z; exact z))
theorem g_264_91_s_0 {X : Nat × (Nat → Int32)} {d w : Nat} {S : ma_S} {Q : Option ma_V ⊕ Nat → ma_S → Prop}  (hd : 3 ≤ d) (hw : 72 ≤ w) (hS : zT S) (h : ma_wp X (d - 1) (w - 20) 116 0 [(0, .inr (.inr (some 75)))] [] S (zv (fun S1 => zT S1 ∧ (ma_wp X (d - 1) (w - 23) 83 0 [(0, .inr (.inr (some 69))), (1, .inr (.inr (some 75)))] [] S1 (zv (fun S3 => zT S3 ∧ (ma_wp X (d - 1) (w - 24) 86 0 [(0, .inr (.inr (some 69))), (1, .inr (.inr (some 75)))] [] S3 (zi (fun v6 S5 => zT S5 ∧ (Q (.inl (some (.inl v6))) S5)) (fun x S9 => Q (.inr x) S9)))) (fun x S9 => Q (.inr x) S9)))) (fun x S9 => Q (.inr x) S9))) : ma_wp X d w 264 0 [(0, .inr (.inr (some 91)))] [] S Q := by
  refine zw_push hm_264 dX1_removeUnreached_0 (v := .inr (.inr (some 91))) rfl ?_
  refine zw_gf hm_264 dX1_removeUnreached_1 (v := .inr (.inr (some 75))) (zT_is hS s_91) (zT_t hS s_91) rfl f_13_15_4 (zT_f hS r_91_1) ?_
  refine zw_cv hm_264 dX1_removeUnreached_4 v_13_19_10 hm_116 [] [] rfl (zT_rt hS s_75 rfl) ⟨by omega, by omega⟩ rfl (zw_mono h (zv_go ?_ ?_))
  · intro S1 hv
    obtain ⟨hS1, h⟩ := hv
    refine zw_push hm_264 dX1_removeUnreached_7 (v := .inr (.inr (some 91))) rfl ?_
    refine zw_gf hm_264 dX1_removeUnreached_8 (v := .inr (.inr (some 69))) (zT_is hS1 s_91) (zT_t hS1 s_91) rfl f_13_9_4 (zT_f hS1 r_91_0) ?_
    refine zw_push hm_264 dX1_removeUnreached_11 (v := .inr (.inr (some 91))) rfl ?_
    refine zw_gf hm_264 dX1_removeUnreached_12 (v := .inr (.inr (some 75))) (zT_is hS1 s_91) (zT_t hS1 s_91) rfl f_13_15_4 (zT_f hS1 r_91_1) ?_
    refine zw_cv hm_264 dX1_removeUnreached_15 v_13_24_7 hm_83 [.inr (.inr (some 75))] [] rfl (zT_rt hS1 s_69 rfl) ⟨by omega, by omega⟩ rfl (zw_mono h (zv_go ?_ ?_))
    · intro S3 hv
      obtain ⟨hS3, h⟩ := hv
      refine zw_push hm_264 dX1_removeUnreached_18 (v := .inr (.inr (some 91))) rfl ?_
      refine zw_gf hm_264 dX1_removeUnreached_19 (v := .inr (.inr (some 69))) (zT_is hS3 s_91) (zT_t hS3 s_91) rfl f_13_9_4 (zT_f hS3 r_91_0) ?_
      refine zw_push hm_264 dX1_removeUnreached_22 (v := .inr (.inr (some 91))) rfl ?_
      refine zw_gf hm_264 dX1_removeUnreached_23 (v := .inr (.inr (some 75))) (zT_is hS3 s_91) (zT_t hS3 s_91) rfl f_13_15_4 (zT_f hS3 r_91_1) ?_
      refine zw_cv hm_264 dX1_removeUnreached_26 v_13_30_7 hm_86 [.inr (.inr (some 75))] [] rfl (zT_rt hS3 s_69 rfl) ⟨by omega, by omega⟩ rfl (zw_mono h (zi_go ?_ ?_))
      · intro v6 S5 hv
        obtain ⟨hS5, h⟩ := hv
        exact zw_iret hm_264 dX1_removeUnreached_29 h
      · intro x S9 hx
        exact ⟨by decide, hx⟩
    · intro x S9 hx
      exact ⟨by decide, hx⟩
  · intro x S9 hx
    exact ⟨by decide, hx⟩
theorem sp_264_91_s {X : Nat × (Nat → Int32)} {d w : Nat} {f : Nat → Nat → Int32} {r : Nat → Nat → Option Nat} {C Z N : Nat} {Q : Option ma_V ⊕ Nat → ma_S → Prop} {ab : Nat→Nat→Int32} {S : ma_S}  (hd : 3 ≤ d) (hw : 72 ≤ w) (hI : zI f r C Z N S) (hpre0 : xB S (mR S 70)) (hpre1 : aS 75 S = ab) (K : ∀ v S₉, zI f r C Z N S₉ → (True) → (xB S₉ (mR S₉ 70)) → (aS 75 S₉ = aSw ab ∧ v = aSv ab) → Q (.inl (some (.inl v))) S₉) : ma_wp X d w 264 0 [(0, .inr (.inr (some 91)))] [] S Q := by
  refine g_264_91_s_0  (by omega) (by omega) (zG_T hI) ?_
  refine sp_116_75_s (ab := (aS 75 S)) (R := (mR S 70)) (a8 := (aS 88 S)) (by omega) (by omega) hI (show xB S (mR S 70) from by first | (exact xB_x (xC_o (W := 75) hpre0).2)) (show aS 75 S = (aS 75 S) from by first | (exact rfl)) (show aS 88 S = (aS 88 S) from by first | (exact rfl)) (fun S1 hI_S1 rp0_S1 rp1_S1 rp2_S1 => zv_n ⟨zG_T hI_S1, ?_⟩)
  have rp0_S1 : xB S1 (mR S 70) := rp0_S1
  have rp1_S1 : aS 75 S1 = aSp 512 (aRo (aWh (aS 75 S) 0) 0) := rp1_S1
  have rp2_S1 : aS 88 S1 = (aS 88 S) := rp2_S1
  refine sp_83_69_75_s (ab := (aS 75 S1)) (R := (mR S1 70)) (by omega) (by omega) hI_S1 (show xB S1 (mR S1 70) from by first | (exact xB_x (xC_o (W := 75) rp0_S1).2)) (show aS 75 S1 = (aS 75 S1) from by first | (exact rfl)) (fun S3 hI_S3 rp0_S3 rp1_S3 => zv_n ⟨zG_T hI_S3, ?_⟩)
  have rp0_S3 : xB S3 (mR S1 70) := rp0_S3
  have rp1_S3 : aS 75 S3 = aGw (aS 75 S1) 0 := rp1_S3
  refine sp_86_69_75_s (ab := (aS 75 S3)) (by omega) (by omega) hI_S3 (show xB S3 (mR S3 70) from by first | (exact xB_x (xC_o (W := 75) rp0_S3).2)) (show aS 75 S3 = (aS 75 S3) from by first | (exact rfl)) (fun v6 S5 hI_S5 hp_v6 rp0_S5 rp1_S5 => zi_n ⟨zG_T hI_S5, ?_⟩)
  have rp0_S5 : xB S5 (mR S5 70) := rp0_S5
  have rp1_S5 : aS 75 S5 = aMv (aS 75 S3) 0 ∧ v6 = aMv (aS 75 S3) 0 69 11 - (aS 75 S3) 69 11 := rp1_S5
  have b1 := i_bd v6
  exact K (v6) _ hI_S5 trivial (show xB S5 (mR S5 70) from by first | (exact xB_x (xC_o (W := 75) rp0_S5).2)) (show aS 75 S5 = aSw ab ∧ v6 = aSv ab from by first | (have z := rp1_S5; rw [rp1_S3, rp1_S1, hpre1] at z; exact z))
theorem g_109_79_s_0 {X : Nat × (Nat → Int32)} {d w : Nat} {S : ma_S} {Q : Option ma_V ⊕ Nat → ma_S → Prop}  (hd : 4 ≤ d) (hw : 92 ≤ w) (hS : zT S) (h : ma_wp X (d - 1) (w - 20) 264 0 [(0, .inr (.inr (some 79)))] [] S (zi (fun v2 S1 => zT S1 ∧ (Q (.inl (some (.inl v2))) S1)) (fun _ _ => False))) : ma_wp X d w 109 0 [(0, .inr (.inr (some 79)))] [] S Q := by
  refine zw_push hm_109 dX8_cleanAll_0 (v := .inr (.inr (some 79))) rfl ?_
  refine zw_cv hm_109 dX8_cleanAll_1 v_8_37_8 hm_264 [] [] rfl (zT_rt hS s_79 rfl) ⟨by omega, by omega⟩ rfl (zw_mono h (zi_go ?_ ?_))
  · intro v2 S1 hv
    obtain ⟨hS1, h⟩ := hv
    exact zw_iret hm_109 dX8_cleanAll_4 h
  · intro x S9 hx
    exact hx.elim
theorem sp_109_79_s {X : Nat × (Nat → Int32)} {d w : Nat} {f : Nat → Nat → Int32} {r : Nat → Nat → Option Nat} {C Z N : Nat} {Q : Option ma_V ⊕ Nat → ma_S → Prop} {ab : Nat→Nat→Int32} {fp : Nat→Int32} {S : ma_S}  (hd : 4 ≤ d) (hw : 92 ≤ w) (hI : zJ79 f r C Z N S) (hpre0 : xB S (mR S 70)) (hpre1 : aS 75 S = ab) (hpre2 : (mI S 79) = fp) (K : ∀ v S₉, zJ79 f r C Z N S₉ → (True) → (xB S₉ (mR S₉ 70)) → (aS 75 S₉ = aSw ab ∧ v = aSv ab) → ((mI S₉ 79) = fp) → Q (.inl (some (.inl v))) S₉) : ma_wp X d w 109 0 [(0, .inr (.inr (some 79)))] [] S Q := by
  refine g_109_79_s_0  (by omega) (by omega) (zG_T hI) ?_
  refine sp_264_79_s (ab := (aS 75 S)) (by omega) (by omega) (zJ79_dn hI) (show xB S (mR S 70) from by first | (exact xB_x (xC_o (W := 75) hpre0).2)) (show aS 75 S = (aS 75 S) from by first | (exact rfl)) (fun v2 S1 hL_S1 hp_v2 rp0_S1 rp1_S1 => zi_n ⟨zG_T hL_S1, ?_⟩)
  have hI_S1 := zJ79_up hI hL_S1
  have rp0_S1 : xB S1 (mR S1 70) := by
    have z := rp0_S1
    (try rw [show mI S 65 = f 65 from funext (fun k => zG_z hI rfl)] at z)
    (try rw [show mI S 64 1 = f 64 1 from zG_z hI rfl] at z)
    exact z
  have rp1_S1 : aS 75 S1 = aSw (aS 75 S) ∧ v2 = aSv (aS 75 S) := by
    have z := rp1_S1
    (try rw [show mI S 65 = f 65 from funext (fun k => zG_z hI rfl)] at z)
    (try rw [show mI S 64 1 = f 64 1 from zG_z hI rfl] at z)
    exact z
  have b1 := i_bd v2
  exact K (v2) _ hI_S1 trivial (show xB S1 (mR S1 70) from by first | (exact xB_x (xC_o (W := 75) rp0_S1).2)) (show aS 75 S1 = aSw ab ∧ v2 = aSv ab from by first | (rw [← hpre1]; exact rp1_S1)) (show (mI S1 79) = fp from by first | (exact ((show mI S1 79 = mI S 79 from funext (fun _ => zG_z hL_S1 rfl)).trans hpre2)))
/-! A HEAP BY NUMBERS UNDER A COLLECTOR P: row 87 is what P says of itself (0 room, 1 form, 2 the last one's end), never marking -/
def zfP (P : Nat) (I : Nat → Nat → Int32) (k : Nat) : Int32 := if k < 3 then (if P = 79 then I 79 (k + 2) else I P k) else 0
def aT (P : Nat) (S : ma_S) : Nat → Nat → Int32 := fun c k => if c = 87 then zfP P (mI S) k else aS 75 S c k
section AT
variable {P : Nat} {S S₉ : ma_S} {R : Nat → Option Nat} {x : Int32} {c k : Nat}
theorem aT_o (h : c ≠ 87) : aT P S c k = aS 75 S c k := if_neg h
theorem tb_e : zOb (aT P S) = zOb (aS 75 S) := by
  funext p
  unfold zOb
  rw [aT_o (c := 71) (by decide), aT_o (c := 126) (by decide)]
theorem tb_y (hC : xB S R) (rg : zTa R (mI S 71 x.toNatClampNeg) = some c) (h0 : 0 ≤ x.toInt) (h1 : x.toInt < 4500) : zOb (aT P S) x.toInt = mI S 71 x.toNatClampNeg ∧ aT P S 128 (mI S 71 x.toNatClampNeg).toNatClampNeg = mI S c 2 := by
  rw [tb_e, aT_o (c := 128) (by decide)]
  exact ob_y hC rg h0 h1
theorem tb_n2 (h : (mI S 71 x.toNatClampNeg).toInt < 0 ∨ 512 ≤ (mI S 71 x.toNatClampNeg).toInt) : zOb (aT P S) x.toInt = -1 := by
  rw [tb_e]
  exact ob_n2 h
theorem tb_n3 (hC : xB S R) (rn : zTa R (mI S 71 x.toNatClampNeg) = none) : zOb (aT P S) x.toInt = -1 := by
  rw [tb_e]
  exact ob_n3 hC rn
theorem tz_e (h : zSz (aS 75 S)) : zSz (aT P S) := fun p hp => by
  rw [tb_e] at hp ⊢
  rw [aT_o (c := 128) (by decide)]
  exact h p hp
theorem tC (h : aS 75 S₉ = aS 75 S) (h2 : ∀ k, mI S₉ P k = mI S P k) (h3 : ∀ k, mI S₉ 79 k = mI S 79 k) : aT P S₉ = aT P S := by
  funext c k
  unfold aT
  rw [h]
  split
  · unfold zfP
    rw [h3, h2]
  · rfl
end AT
section K4
variable {P c k : Nat} {S S₉ : ma_S} {x : Int32}
/-! the collector's own fields -/
theorem zf_n (h : c ≠ P) : zfP P (mI (ma_put S c k (.inl x))) = zfP P (mI S) := by
  have e : ∀ j, mI (ma_put S c k (.inl x)) P j = mI S P j := fun j => by
    show (if P = c ∧ j = k then x else mI S P j) = mI S P j
    rw [if_neg (fun w => h w.1.symm)]
  funext j
  unfold zfP
  by_cases w : P = 79
  · rw [if_pos w, if_pos w]
    rw [w] at e
    rw [e]
  · rw [if_neg w, if_neg w, e]
theorem zf_t (hc : 126 ≤ c) (hP : P < 126) : zfP P (mI (ma_put S c k (.inl x))) = zfP P (mI S) := zf_n (by omega)
theorem zf_7 : zfP 84 (mI (ma_put S 84 7 (.inl x))) = zfP 84 (mI S) := by
  funext j
  show (if j < 3 then (if 84 = 84 ∧ j = 7 then x else mI S 84 j) else 0) = (if j < 3 then mI S 84 j else 0)
  by_cases w : j < 3
  · rw [if_pos w, if_pos w, if_neg (by omega)]
  · rw [if_neg w, if_neg w]
theorem zf_r {q : Option Nat} : zfP P (mI (ma_put S c k (.inr (.inr q)))) = zfP P (mI S) := rfl
theorem zf_fr (h : ∀ k, mI S₉ P k = mI S P k) : zfP P (mI S₉) = zfP P (mI S) := by
  funext j
  unfold zfP
  by_cases w : P = 79
  · rw [if_pos w, if_pos w]
    rw [w] at h
    rw [h]
  · rw [if_neg w, if_neg w, h]
end K4

