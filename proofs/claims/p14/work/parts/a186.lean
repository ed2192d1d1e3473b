/-! from 95.m41 -/
/-! COUNTS, the class (written by wip/tools/gen20k.py) -/
theorem g_86_69_75_sk_0 {X : Nat × (Nat → Int32)} {d w : Nat} {S : ma_S} {Q : Option ma_V ⊕ Nat → ma_S → Prop}  (hd : 2 ≤ d) (hw : 48 ≤ w) (hS : zT S) (h : ma_wp X d w 86 7 [(0, .inr (.inr (some 69))), (1, .inr (.inr (some 75))), (2, .inl (mI S 69 11)), (3, .inl (0 : Int32))] [] S Q) : ma_wp X d w 86 0 [(0, .inr (.inr (some 69))), (1, .inr (.inr (some 75)))] [] S Q := by
  refine zw_push hm_86 dX7_removeOthers_0 (v := .inr (.inr (some 69))) rfl ?_
  refine zw_gf hm_86 dX7_removeOthers_1 (v := .inl (mI S 69 11)) (zT_is hS s_69) (zT_t hS s_69) rfl f_7_55_7 rfl ?_
  refine zw_sto hm_86 dX7_removeOthers_4 [(2, .inl (mI S 69 11)), (0, .inr (.inr (some 69))), (1, .inr (.inr (some 75)))] rfl rfl rfl ?_
  refine zw_push hm_86 dX7_removeOthers_5 (v := .inl (0 : Int32)) rfl ?_
  refine zw_sto hm_86 dX7_removeOthers_6 [(3, .inl (0 : Int32)), (2, .inl (mI S 69 11)), (0, .inr (.inr (some 69))), (1, .inr (.inr (some 75)))] rfl rfl rfl ?_
  exact zw_sub (ma_nd_of (ks := [0, 1, 2, 3]) rfl (by decide)) (ma_nd_of (ks := [3, 2, 0, 1]) rfl (by decide)) (ma_le_cons rfl (ma_le_cons rfl (ma_le_cons rfl (ma_le_cons rfl (ma_le_nil _))))) h
theorem g_86_69_75_sk_7 {X : Nat × (Nat → Int32)} {d w : Nat} {S : ma_S} {Q : Option ma_V ⊕ Nat → ma_S → Prop} (l2 : Int32) (l3 : Int32) (hd : 2 ≤ d) (hw : 48 ≤ w) (hS : zT S) (h : if (mI S 69 6) ≤ l3 then (Q (.inl (some (.inl ((mI S 69 11) - l2)))) (ma_put S 69 9 (.inl ((mI S 69 9) + (1 : Int32))))) else (if l3 < 0 then (ma_wp X d w 86 7 [(0, .inr (.inr (some 69))), (1, .inr (.inr (some 75))), (2, .inl l2), (3, .inl (l3 + (1 : Int32)))] [] S Q) else (if (512 : Int32) ≤ l3 then (ma_wp X d w 86 7 [(0, .inr (.inr (some 69))), (1, .inr (.inr (some 75))), (2, .inl l2), (3, .inl (l3 + (1 : Int32)))] [] S Q) else ((0 ≤ l3 ∧ l3.toNatClampNeg < 512) ∧ (((mR S 70 l3.toNatClampNeg) = none → ma_wp X d w 86 7 [(0, .inr (.inr (some 69))), (1, .inr (.inr (some 75))), (2, .inl l2), (3, .inl (l3 + (1 : Int32)))] [] S Q) ∧ (∀ c1, (mR S 70 l3.toNatClampNeg) = some c1 → (126 ≤ c1 ∧ c1 < mN S) ∧ (if (mI S c1 4) < (mI S 75 5) then (ma_wp X d w 86 7 [(0, .inr (.inr (some 69))), (1, .inr (.inr (some 75))), (2, .inl l2), (3, .inl (l3 + (1 : Int32)))] [] S Q) else ((126 ≤ c1 ∧ c1 < mN S) ∧ (if (512 : Int32) ≤ (mI S c1 0) then (ma_wp X (d - 1) (w - 23) 87 0 [(0, .inr (.inr (some 69))), (1, .inr (.inr (some c1)))] [] S (zv (fun S2 => zT S2 ∧ (ma_wp X d w 86 7 [(0, .inr (.inr (some 69))), (1, .inr (.inr (some 75))), (2, .inl l2), (3, .inl (l3 + (1 : Int32)))] [] S2 Q)) (fun x S9 => Q (.inr x) S9))) else ((126 ≤ c1 ∧ c1 < mN S) ∧ ((0 ≤ (mI S c1 0) ∧ (mI S c1 0).toNatClampNeg < 512) ∧ (if (mI S 77 (mI S c1 0).toNatClampNeg) = 0 then (ma_wp X (d - 1) (w - 23) 87 0 [(0, .inr (.inr (some 69))), (1, .inr (.inr (some c1)))] [] S (zv (fun S4 => zT S4 ∧ (ma_wp X d w 86 7 [(0, .inr (.inr (some 69))), (1, .inr (.inr (some 75))), (2, .inl l2), (3, .inl (l3 + (1 : Int32)))] [] S4 Q)) (fun x S9 => Q (.inr x) S9))) else (ma_wp X d w 86 7 [(0, .inr (.inr (some 69))), (1, .inr (.inr (some 75))), (2, .inl l2), (3, .inl (l3 + (1 : Int32)))] [] S Q))))))))))))) : ma_wp X d w 86 7 [(0, .inr (.inr (some 69))), (1, .inr (.inr (some 75))), (2, .inl l2), (3, .inl l3)] [] S Q := by
  refine zw_push hm_86 dX7_removeOthers_7 (v := .inl l3) rfl ?_
  refine zw_push hm_86 dX7_removeOthers_8 (v := .inr (.inr (some 69))) rfl ?_
  refine zw_gf hm_86 dX7_removeOthers_9 (v := .inl (mI S 69 6)) (zT_is hS s_69) (zT_t hS s_69) rfl f_7_40_7 rfl ?_
  refine zw_if2 hm_86 dX7_removeOthers_12 (t := 48) rfl zc2_ge ?_ ?_
  · intro hc
    rw [if_pos hc] at h
    refine zw_push hm_86 dX7_removeOthers_48 (v := .inr (.inr (some 69))) rfl ?_
    refine zw_stk hm_86 dX7_removeOthers_49 (st₉ := [.inr (.inr (some 69)), .inr (.inr (some 69))]) rfl rfl ?_
    refine zw_gf hm_86 dX7_removeOthers_50 (v := .inl (mI S 69 9)) (zT_is hS s_69) (zT_t hS s_69) rfl f_7_49_7 rfl ?_
    refine zw_push hm_86 dX7_removeOthers_53 (v := .inl (1 : Int32)) rfl ?_
    refine zw_stk hm_86 dX7_removeOthers_54 (st₉ := [.inl ((mI S 69 9) + (1 : Int32)), .inr (.inr (some 69))]) rfl rfl ?_
    refine zw_pf hm_86 dX7_removeOthers_55 (zT_is hS s_69) (zT_t hS s_69) p_7_49_7 zk_int ?_
    refine zw_push hm_86 dX7_removeOthers_58 (v := .inr (.inr (some 69))) rfl ?_
    refine zw_gf hm_86 dX7_removeOthers_59 (v := .inl (mI S 69 11)) (zT_is (zT_pi hS) s_69) (zT_t (zT_pi hS) s_69) rfl f_7_55_7 rfl ?_
    refine zw_push hm_86 dX7_removeOthers_62 (v := .inl l2) rfl ?_
    refine zw_stk hm_86 dX7_removeOthers_63 (st₉ := [.inl ((mI S 69 11) - l2)]) rfl rfl ?_
    exact zw_iret hm_86 dX7_removeOthers_64 h
  · intro hc
    rw [if_neg hc] at h
    refine zw_push hm_86 dX7_removeOthers_15 (v := .inr (.inr (some 69))) rfl ?_
    refine zw_push hm_86 dX7_removeOthers_16 (v := .inl l3) rfl ?_
    refine zw_cv hm_86 dX7_removeOthers_17 v_7_94_7 hm_81 [.inl l3] [] rfl (zT_rt hS s_69 rfl) ⟨by omega, by omega⟩ rfl ?_
    show ma_wp X (d - 1) (w - 21) 81 0 [(0, .inr (.inr (some 69))), (1, .inl l3)] [] S _
    refine zw_push hm_81 dX7_thingAt_0 (v := .inl l3) rfl ?_
    refine zw_if0 hm_81 dX7_thingAt_1 (t := 20) rfl zc0_lt ?_ ?_
    · intro hc
      rw [if_pos hc] at h
      refine zw_push hm_81 dX7_thingAt_20 (v := .inr (.inr none)) rfl ?_
      refine zw_aret hm_81 dX7_thingAt_21 ?_
      show ma_wp X d w 86 20 [(0, .inr (.inr (some 69))), (1, .inr (.inr (some 75))), (2, .inl l2), (3, .inl l3)] [.inr (.inr none)] S _
      refine zw_sto hm_86 dX7_removeOthers_20 [(4, .inr (.inr none)), (0, .inr (.inr (some 69))), (1, .inr (.inr (some 75))), (2, .inl l2), (3, .inl l3)] rfl rfl rfl ?_
      refine zw_push hm_86 dX7_removeOthers_22 (v := .inr (.inr none)) rfl ?_
      refine zw_ifnull hm_86 dX7_removeOthers_24 (t := 42) rfl (fun _ => ?_) (fun _ z => by cases z)
      refine zw_sto hm_86 dX7_removeOthers_42 [(3, .inl (l3 + (1 : Int32))), (4, .inr (.inr none)), (0, .inr (.inr (some 69))), (1, .inr (.inr (some 75))), (2, .inl l2)] rfl rfl rfl ?_
      refine zw_goto hm_86 dX7_removeOthers_45 (t := 7) rfl ?_
      exact zw_sub (ma_nd_of (ks := [0, 1, 2, 3]) rfl (by decide)) (ma_nd_of (ks := [3, 4, 0, 1, 2]) rfl (by decide)) (ma_le_cons rfl (ma_le_cons rfl (ma_le_cons rfl (ma_le_cons rfl (ma_le_nil _))))) h
    · intro hc
      rw [if_neg hc] at h
      refine zw_push hm_81 dX7_thingAt_4 (v := .inl l3) rfl ?_
      refine zw_push hm_81 dX7_thingAt_5 (v := .inl (512 : Int32)) rfl ?_
      refine zw_if2 hm_81 dX7_thingAt_8 (t := 20) rfl zc2_ge ?_ ?_
      · intro hc
        rw [if_pos hc] at h
        refine zw_push hm_81 dX7_thingAt_20 (v := .inr (.inr none)) rfl ?_
        refine zw_aret hm_81 dX7_thingAt_21 ?_
        show ma_wp X d w 86 20 [(0, .inr (.inr (some 69))), (1, .inr (.inr (some 75))), (2, .inl l2), (3, .inl l3)] [.inr (.inr none)] S _
        refine zw_sto hm_86 dX7_removeOthers_20 [(4, .inr (.inr none)), (0, .inr (.inr (some 69))), (1, .inr (.inr (some 75))), (2, .inl l2), (3, .inl l3)] rfl rfl rfl ?_
        refine zw_push hm_86 dX7_removeOthers_22 (v := .inr (.inr none)) rfl ?_
        refine zw_ifnull hm_86 dX7_removeOthers_24 (t := 42) rfl (fun _ => ?_) (fun _ z => by cases z)
        refine zw_sto hm_86 dX7_removeOthers_42 [(3, .inl (l3 + (1 : Int32))), (4, .inr (.inr none)), (0, .inr (.inr (some 69))), (1, .inr (.inr (some 75))), (2, .inl l2)] rfl rfl rfl ?_
        refine zw_goto hm_86 dX7_removeOthers_45 (t := 7) rfl ?_
        exact zw_sub (ma_nd_of (ks := [0, 1, 2, 3]) rfl (by decide)) (ma_nd_of (ks := [3, 4, 0, 1, 2]) rfl (by decide)) (ma_le_cons rfl (ma_le_cons rfl (ma_le_cons rfl (ma_le_cons rfl (ma_le_nil _))))) h
      · intro hc
        rw [if_neg hc] at h
        refine zw_push hm_81 dX7_thingAt_11 (v := .inr (.inr (some 69))) rfl ?_
        refine zw_gf hm_81 dX7_thingAt_12 (v := .inr (.inr (some 70))) (zT_is hS s_69) (zT_t hS s_69) rfl f_7_11_7 (zT_f hS r_69_0) ?_
        refine zw_push hm_81 dX7_thingAt_15 (v := .inl l3) rfl ?_
        obtain ⟨hg, h⟩ := h
        refine zw_aa hm_81 dX7_thingAt_16 (zT_is hS s_70) (zT_h hS s_70) rfl rfl hg rfl ?_
        show ma_wp X (d - 1) (w - 21) 81 17 [(0, .inr (.inr (some 69))), (1, .inl l3)] [.inr (.inr (mR S 70 l3.toNatClampNeg))] S _
        refine zw_goto hm_81 dX7_thingAt_17 (t := 21) rfl ?_
        refine zw_aret hm_81 dX7_thingAt_21 ?_
        show ma_wp X d w 86 20 [(0, .inr (.inr (some 69))), (1, .inr (.inr (some 75))), (2, .inl l2), (3, .inl l3)] [.inr (.inr (mR S 70 l3.toNatClampNeg))] S _
        refine zw_sto hm_86 dX7_removeOthers_20 [(4, .inr (.inr (mR S 70 l3.toNatClampNeg))), (0, .inr (.inr (some 69))), (1, .inr (.inr (some 75))), (2, .inl l2), (3, .inl l3)] rfl rfl rfl ?_
        refine zw_push hm_86 dX7_removeOthers_22 (v := .inr (.inr (mR S 70 l3.toNatClampNeg))) rfl ?_
        refine zw_ifnull hm_86 dX7_removeOthers_24 (t := 42) rfl ?_ ?_
        · intro hc
          have h := h.1 hc
          (try rw [hc])
          show ma_wp X d w 86 42 [(4, .inr (.inr none)), (0, .inr (.inr (some 69))), (1, .inr (.inr (some 75))), (2, .inl l2), (3, .inl l3)] [] S _
          refine zw_sto hm_86 dX7_removeOthers_42 [(3, .inl (l3 + (1 : Int32))), (4, .inr (.inr none)), (0, .inr (.inr (some 69))), (1, .inr (.inr (some 75))), (2, .inl l2)] rfl rfl rfl ?_
          refine zw_goto hm_86 dX7_removeOthers_45 (t := 7) rfl ?_
          exact zw_sub (ma_nd_of (ks := [0, 1, 2, 3]) rfl (by decide)) (ma_nd_of (ks := [3, 4, 0, 1, 2]) rfl (by decide)) (ma_le_cons rfl (ma_le_cons rfl (ma_le_cons rfl (ma_le_cons rfl (ma_le_nil _))))) h
        · intro c1 hc
          have h := h.2 c1 hc
          (try rw [hc])
          show ma_wp X d w 86 27 [(4, .inr (.inr (some c1))), (0, .inr (.inr (some 69))), (1, .inr (.inr (some 75))), (2, .inl l2), (3, .inl l3)] [] S _
          refine zw_push hm_86 dX7_removeOthers_27 (v := .inr (.inr (some 75))) rfl ?_
          refine zw_push hm_86 dX7_removeOthers_28 (v := .inr (.inr (some c1))) rfl ?_
          refine zw_cv hm_86 dX7_removeOthers_30 v_7_128_10 hm_122 [.inr (.inr (some c1))] [] rfl (zT_rt hS s_75 rfl) ⟨by omega, by omega⟩ rfl ?_
          show ma_wp X (d - 1) (w - 21) 122 0 [(0, .inr (.inr (some 75))), (1, .inr (.inr (some c1)))] [] S _
          refine zw_push hm_122 dX10_keeps_0 (v := .inr (.inr (some c1))) rfl ?_
          obtain ⟨hg, h⟩ := h
          refine zw_gf hm_122 dX10_keeps_1 (v := .inl (mI S c1 4)) (zT_tis hS hg) (zT_tt hS hg) rfl f_10_49_9 rfl ?_
          refine zw_push hm_122 dX10_keeps_4 (v := .inr (.inr (some 75))) rfl ?_
          refine zw_gf hm_122 dX10_keeps_5 (v := .inl (mI S 75 5)) (zT_is hS s_75) (zT_t hS s_75) rfl f_10_35_10 rfl ?_
          refine zw_if2 hm_122 dX10_keeps_8 (t := 19) rfl zc2_lt ?_ ?_
          · intro hc
            rw [if_pos hc] at h
            refine zw_push hm_122 dX10_keeps_19 (v := .inl (1 : Int32)) rfl ?_
            refine zw_goto hm_122 dX10_keeps_20 (t := 24) rfl ?_
            refine zw_bret hm_122 dX10_keeps_24 (by decide) ?_
            show ma_wp X d w 86 33 [(4, .inr (.inr (some c1))), (0, .inr (.inr (some 69))), (1, .inr (.inr (some 75))), (2, .inl l2), (3, .inl l3)] [.inl (1 : Int32)] S _
            refine zw_if0 hm_86 dX7_removeOthers_33 (t := 42) rfl zc0_ne (fun _ => ?_) (fun hc => absurd (by decide) hc)
            refine zw_sto hm_86 dX7_removeOthers_42 [(3, .inl (l3 + (1 : Int32))), (4, .inr (.inr (some c1))), (0, .inr (.inr (some 69))), (1, .inr (.inr (some 75))), (2, .inl l2)] rfl rfl rfl ?_
            refine zw_goto hm_86 dX7_removeOthers_45 (t := 7) rfl ?_
            exact zw_sub (ma_nd_of (ks := [0, 1, 2, 3]) rfl (by decide)) (ma_nd_of (ks := [3, 4, 0, 1, 2]) rfl (by decide)) (ma_le_cons rfl (ma_le_cons rfl (ma_le_cons rfl (ma_le_cons rfl (ma_le_nil _))))) h
          · intro hc
            rw [if_neg hc] at h
            refine zw_push hm_122 dX10_keeps_11 (v := .inr (.inr (some 75))) rfl ?_
            refine zw_push hm_122 dX10_keeps_12 (v := .inr (.inr (some c1))) rfl ?_
            refine zw_cv hm_122 dX10_keeps_13 v_10_54_10 hm_123 [.inr (.inr (some c1))] [] rfl (zT_rt hS s_75 rfl) ⟨by omega, by omega⟩ rfl ?_
            show ma_wp X ((d - 1) - 1) ((w - 21) - 21) 123 0 [(0, .inr (.inr (some 75))), (1, .inr (.inr (some c1)))] [] S _
            refine zw_push hm_123 dX10_colourOf_0 (v := .inr (.inr (some c1))) rfl ?_
            obtain ⟨hg, h⟩ := h
            refine zw_gf hm_123 dX10_colourOf_1 (v := .inl (mI S c1 0)) (zT_tis hS hg) (zT_tt hS hg) rfl f_10_58_9 rfl ?_
            refine zw_push hm_123 dX10_colourOf_4 (v := .inl (512 : Int32)) rfl ?_
            refine zw_if2 hm_123 dX10_colourOf_7 (t := 22) rfl zc2_ge ?_ ?_
            · intro hc
              rw [if_pos hc] at h
              refine zw_push hm_123 dX10_colourOf_22 (v := .inl (0 : Int32)) rfl ?_
              refine zw_iret hm_123 dX10_colourOf_23 ?_
              show ma_wp X (d - 1) (w - 21) 122 16 [(0, .inr (.inr (some 75))), (1, .inr (.inr (some c1)))] [.inl (0 : Int32)] S _
              refine zw_if0 hm_122 dX10_keeps_16 (t := 23) rfl zc0_eq (fun _ => ?_) (fun hc => absurd (by decide) hc)
              refine zw_push hm_122 dX10_keeps_23 (v := .inl (0 : Int32)) rfl ?_
              refine zw_bret hm_122 dX10_keeps_24 (by decide) ?_
              show ma_wp X d w 86 33 [(4, .inr (.inr (some c1))), (0, .inr (.inr (some 69))), (1, .inr (.inr (some 75))), (2, .inl l2), (3, .inl l3)] [.inl (0 : Int32)] S _
              refine zw_if0 hm_86 dX7_removeOthers_33 (t := 42) rfl zc0_ne (fun hc => absurd hc (by decide)) (fun _ => ?_)
              refine zw_push hm_86 dX7_removeOthers_36 (v := .inr (.inr (some 69))) rfl ?_
              refine zw_push hm_86 dX7_removeOthers_37 (v := .inr (.inr (some c1))) rfl ?_
              refine zw_cv hm_86 dX7_removeOthers_39 v_7_144_7 hm_87 [.inr (.inr (some c1))] [] rfl (zT_rt hS s_69 rfl) ⟨by omega, by omega⟩ rfl (zw_mono h (zv_go ?_ ?_))
              · intro S2 hv
                obtain ⟨hS2, h⟩ := hv
                refine zw_sto hm_86 dX7_removeOthers_42 [(3, .inl (l3 + (1 : Int32))), (4, .inr (.inr (some c1))), (0, .inr (.inr (some 69))), (1, .inr (.inr (some 75))), (2, .inl l2)] rfl rfl rfl ?_
                refine zw_goto hm_86 dX7_removeOthers_45 (t := 7) rfl ?_
                exact zw_sub (ma_nd_of (ks := [0, 1, 2, 3]) rfl (by decide)) (ma_nd_of (ks := [3, 4, 0, 1, 2]) rfl (by decide)) (ma_le_cons rfl (ma_le_cons rfl (ma_le_cons rfl (ma_le_cons rfl (ma_le_nil _))))) h
              · intro x S9 hx
                exact ⟨by decide, hx⟩
            · intro hc
              rw [if_neg hc] at h
              refine zw_push hm_123 dX10_colourOf_10 (v := .inr (.inr (some 75))) rfl ?_
              refine zw_gf hm_123 dX10_colourOf_11 (v := .inr (.inr (some 77))) (zT_is hS s_75) (zT_t hS s_75) rfl f_10_15_10 (zT_f hS r_75_2) ?_
              refine zw_push hm_123 dX10_colourOf_14 (v := .inr (.inr (some c1))) rfl ?_
              obtain ⟨hg, h⟩ := h
              refine zw_gf hm_123 dX10_colourOf_15 (v := .inl (mI S c1 0)) (zT_tis hS hg) (zT_tt hS hg) rfl f_10_58_9 rfl ?_
              obtain ⟨hg, h⟩ := h
              refine zw_ia hm_123 dX10_colourOf_18 (zT_is hS s_77) (zT_h hS s_77) rfl hg ?_
              show ma_wp X ((d - 1) - 1) ((w - 21) - 21) 123 19 [(0, .inr (.inr (some 75))), (1, .inr (.inr (some c1)))] [.inl (mI S 77 (mI S c1 0).toNatClampNeg)] S _
              refine zw_goto hm_123 dX10_colourOf_19 (t := 23) rfl ?_
              refine zw_iret hm_123 dX10_colourOf_23 ?_
              show ma_wp X (d - 1) (w - 21) 122 16 [(0, .inr (.inr (some 75))), (1, .inr (.inr (some c1)))] [.inl (mI S 77 (mI S c1 0).toNatClampNeg)] S _
              refine zw_if0 hm_122 dX10_keeps_16 (t := 23) rfl zc0_eq ?_ ?_
              · intro hc
                rw [if_pos hc] at h
                refine zw_push hm_122 dX10_keeps_23 (v := .inl (0 : Int32)) rfl ?_
                refine zw_bret hm_122 dX10_keeps_24 (by decide) ?_
                show ma_wp X d w 86 33 [(4, .inr (.inr (some c1))), (0, .inr (.inr (some 69))), (1, .inr (.inr (some 75))), (2, .inl l2), (3, .inl l3)] [.inl (0 : Int32)] S _
                refine zw_if0 hm_86 dX7_removeOthers_33 (t := 42) rfl zc0_ne (fun hc => absurd hc (by decide)) (fun _ => ?_)
                refine zw_push hm_86 dX7_removeOthers_36 (v := .inr (.inr (some 69))) rfl ?_
                refine zw_push hm_86 dX7_removeOthers_37 (v := .inr (.inr (some c1))) rfl ?_
                refine zw_cv hm_86 dX7_removeOthers_39 v_7_144_7 hm_87 [.inr (.inr (some c1))] [] rfl (zT_rt hS s_69 rfl) ⟨by omega, by omega⟩ rfl (zw_mono h (zv_go ?_ ?_))
                · intro S4 hv
                  obtain ⟨hS4, h⟩ := hv
                  refine zw_sto hm_86 dX7_removeOthers_42 [(3, .inl (l3 + (1 : Int32))), (4, .inr (.inr (some c1))), (0, .inr (.inr (some 69))), (1, .inr (.inr (some 75))), (2, .inl l2)] rfl rfl rfl ?_
                  refine zw_goto hm_86 dX7_removeOthers_45 (t := 7) rfl ?_
                  exact zw_sub (ma_nd_of (ks := [0, 1, 2, 3]) rfl (by decide)) (ma_nd_of (ks := [3, 4, 0, 1, 2]) rfl (by decide)) (ma_le_cons rfl (ma_le_cons rfl (ma_le_cons rfl (ma_le_cons rfl (ma_le_nil _))))) h
                · intro x S9 hx
                  exact ⟨by decide, hx⟩
              · intro hc
                rw [if_neg hc] at h
                refine zw_push hm_122 dX10_keeps_19 (v := .inl (1 : Int32)) rfl ?_
                refine zw_goto hm_122 dX10_keeps_20 (t := 24) rfl ?_
                refine zw_bret hm_122 dX10_keeps_24 (by decide) ?_
                show ma_wp X d w 86 33 [(4, .inr (.inr (some c1))), (0, .inr (.inr (some 69))), (1, .inr (.inr (some 75))), (2, .inl l2), (3, .inl l3)] [.inl (1 : Int32)] S _
                refine zw_if0 hm_86 dX7_removeOthers_33 (t := 42) rfl zc0_ne (fun _ => ?_) (fun hc => absurd (by decide) hc)
                refine zw_sto hm_86 dX7_removeOthers_42 [(3, .inl (l3 + (1 : Int32))), (4, .inr (.inr (some c1))), (0, .inr (.inr (some 69))), (1, .inr (.inr (some 75))), (2, .inl l2)] rfl rfl rfl ?_
                refine zw_goto hm_86 dX7_removeOthers_45 (t := 7) rfl ?_
                exact zw_sub (ma_nd_of (ks := [0, 1, 2, 3]) rfl (by decide)) (ma_nd_of (ks := [3, 4, 0, 1, 2]) rfl (by decide)) (ma_le_cons rfl (ma_le_cons rfl (ma_le_cons rfl (ma_le_cons rfl (ma_le_nil _))))) h
theorem lp_86_69_75_sk_7 {X : Nat × (Nat → Int32)} {d w : Nat} {f : Nat → Nat → Int32} {r : Nat → Nat → Option Nat} {C Z N : Nat} {Q : Option ma_V ⊕ Nat → ma_S → Prop} {ab : Nat→Nat→Int32} (hd : 2 ≤ d) (hw : 48 ≤ w) (K : ∀ v S₉, zI f r C Z N S₉ → (True) → (xB S₉ (mR S₉ 70)) → (aS 75 S₉ = aMv ab 0 ∧ v = aMv ab 0 69 11 - ab 69 11) → (kJ (aS 75 S₉) (kC S₉)) → Q (.inl (some (.inl v))) S₉) : ∀ (n : Nat) (S : ma_S) (l2 : Int32) (l3 : Int32), (512 - l3.toInt).toNat = n → zI f r C Z N S → (0 ≤ l3.toInt) → (xB S (mR S 70)) → (aMv (aS 75 S) l3 = aMv ab 0) → (l2 = ab 69 11) → (kJ (aS 75 S) (kC S)) → ma_wp X d w 86 7 [(0, .inr (.inr (some 69))), (1, .inr (.inr (some 75))), (2, .inl l2), (3, .inl l3)] [] S Q := by
  intro n
  induction n using Nat.strongRecOn with
  | _ n IH =>
    intro S l2 l3 hmu hI  hi0 hi1 hi2 hi3 hi4
    refine g_86_69_75_sk_7 l2 l3 (by omega) (by omega) (zG_T hI) ?_
    have r6 := congrArg Int32.toInt (aS_I (W := 75) (S := S) (c := 69) (c₉ := 69) (k := 6) rfl rfl)
    have f1 := zG_s hI (0) (512) (c := 69) (k := 6) (by decide)
    have b2 := i_bd l3
    refine zd (fun h3 => ?_) (fun h3 => ?_)
    · skip
      have g4 := i_le h3
      have hI5 : zI f r C Z N (ma_put S 69 9 (.inl ((mI S 69 9) + (1 : Int32)))) := zG_fr hI rfl (by decide) (by decide) (by decide) trivial
      have b6 := i_bd (mI S 69 11)
      have b7 := i_bd l2
      first | have e8 : ((mI S 69 11) - l2).toInt = (mI S 69 11).toInt - l2.toInt := i_sub (by omega) (by omega) | have b9 := i_bd ((mI S 69 11) - l2)
      exact K (((mI S 69 11) - l2)) _ hI5 trivial (show xB (ma_put S 69 9 (.inl ((mI S 69 9) + (1 : Int32)))) (mR (ma_put S 69 9 (.inl ((mI S 69 9) + (1 : Int32)))) 70) from by first | (exact xB_x (xC_n (c := 69) (k := 9) (x := ((mI S 69 9) + (1 : Int32))) (xC_o (W := 75) hi1) ⟨by decide, Or.inl ⟨rfl, rfl⟩⟩).2)) (show aS 75 (ma_put S 69 9 (.inl ((mI S 69 9) + (1 : Int32)))) = aMv ab 0 ∧ ((mI S 69 11) - l2) = aMv ab 0 69 11 - ab 69 11 from by first | (have z := (xC_n (c := 69) (k := 9) (x := ((mI S 69 9) + (1 : Int32))) (xC_o (W := 75) hi1) ⟨by decide, Or.inl ⟨rfl, rfl⟩⟩).1; exact ⟨z.trans ((aMv_st (by omega)).symm.trans hi2), (by rw [← hi3, ← hi2, aMv_st (by omega), (aS_I (W := 75) (S := S) (c := 69) (c₉ := 69) (k := 11) rfl rfl)])⟩)) (show kJ (aS 75 (ma_put S 69 9 (.inl ((mI S 69 9) + (1 : Int32))))) (kC (ma_put S 69 9 (.inl ((mI S 69 9) + (1 : Int32))))) from by first | (rw [(xC_n (c := 69) (k := 9) (x := ((mI S 69 9) + (1 : Int32))) (xC_o (W := 75) hi1) ⟨by decide, Or.inl ⟨rfl, rfl⟩⟩).1, (xK_n (c := 69) (k := 9) (x := ((mI S 69 9) + (1 : Int32))) (xK_o (W := 75) hi1 rfl) ⟨by decide, Or.inl ⟨rfl, rfl⟩⟩).2]; exact hi4) | (exact hi4))
    · skip
      have g10 := i_nle h3
      have li11 : (0 : Int32).toInt = 0 := rfl
      refine zd (fun h12 => ?_) (fun h12 => ?_)
      · skip
        have g13 := i_lt h12
        have b14 := i_bd l2
        first | have e15 : (l3 + (1 : Int32)).toInt = l3.toInt + (1) := i_addk rfl (by omega) (by omega) | have b16 := i_bd (l3 + (1 : Int32))
        exact IH _ (by omega) _ (l2) ((l3 + (1 : Int32))) rfl hI (by omega) (show xB S (mR S 70) from by first | (exact xB_x (xC_o (W := 75) hi1).2)) (show aMv (aS 75 S) ((l3 + (1 : Int32))) = aMv ab 0 from by first | (exfalso; omega) | (exact (aMv_n (by omega) (fun z => by omega)).symm.trans hi2)) (show (l2) = ab 69 11 from by first | (exact hi3)) (show kJ (aS 75 S) (kC S) from by first | (rw [(xC_o (W := 75) hi1).1, (xK_o (W := 75) hi1 rfl).2]; exact hi4) | (exact hi4))
      · skip
        have g17 := i_nlt h12
        have li18 : (512 : Int32).toInt = 512 := rfl
        refine zd (fun h19 => ?_) (fun h19 => ?_)
        · skip
          have g20 := i_le h19
          have b21 := i_bd l2
          first | have e22 : (l3 + (1 : Int32)).toInt = l3.toInt + (1) := i_addk rfl (by omega) (by omega) | have b23 := i_bd (l3 + (1 : Int32))
          exact IH _ (by omega) _ (l2) ((l3 + (1 : Int32))) rfl hI (by omega) (show xB S (mR S 70) from by first | (exact xB_x (xC_o (W := 75) hi1).2)) (show aMv (aS 75 S) ((l3 + (1 : Int32))) = aMv ab 0 from by first | (exfalso; omega) | (exact (aMv_n (by omega) (fun z => by omega)).symm.trans hi2)) (show (l2) = ab 69 11 from by first | (exact hi3)) (show kJ (aS 75 S) (kC S) from by first | (rw [(xC_o (W := 75) hi1).1, (xK_o (W := 75) hi1 rfl).2]; exact hi4) | (exact hi4))
        · skip
          have g24 := i_nle h19
          refine ⟨i_ix (by omega) (by omega), ?_⟩
          refine ⟨fun hc => ?_, fun c1 hc => ?_⟩
          · skip
            have rn_c1 : zTa (mR S 70) l3 = none := (ta_rd (y := l3) hi1 (by omega) (by omega)).symm.trans hc
            have b25 := i_bd l2
            first | have e26 : (l3 + (1 : Int32)).toInt = l3.toInt + (1) := i_addk rfl (by omega) (by omega) | have b27 := i_bd (l3 + (1 : Int32))
            exact IH _ (by omega) _ (l2) ((l3 + (1 : Int32))) rfl hI (by omega) (show xB S (mR S 70) from by first | (exact xB_x (xC_o (W := 75) hi1).2)) (show aMv (aS 75 S) ((l3 + (1 : Int32))) = aMv ab 0 from by first | (exfalso; omega) | (exact (aMv_n (by omega) (fun z => xB_nt (W := 75) hi1 rn_c1 ⟨z.1, z.2.1, z.2.2.1⟩)).symm.trans hi2)) (show (l2) = ab 69 11 from by first | (exact hi3)) (show kJ (aS 75 S) (kC S) from by first | (rw [(xC_o (W := 75) hi1).1, (xK_o (W := 75) hi1 rfl).2]; exact hi4) | (exact hi4))
          · skip
            have th_c1 := (fun _ z => zG_70 hI (c := 70) (by decide) z) c1 hc
            have rg_c1 : zTa (mR S 70) l3 = some c1 := (ta_rd (y := l3) hi1 (by omega) (by omega)).symm.trans hc
            refine ⟨zG_n hI th_c1, ?_⟩
            have f28 := zG_th hI th_c1
            have b29 := i_bd (mI S 75 5)
            refine zd (fun h30 => ?_) (fun h30 => ?_)
            · skip
              have g31 := i_lt h30
              have b32 := i_bd l2
              first | have e33 : (l3 + (1 : Int32)).toInt = l3.toInt + (1) := i_addk rfl (by omega) (by omega) | have b34 := i_bd (l3 + (1 : Int32))
              exact IH _ (by omega) _ (l2) ((l3 + (1 : Int32))) rfl hI (by omega) (show xB S (mR S 70) from by first | (exact xB_x (xC_o (W := 75) hi1).2)) (show aMv (aS 75 S) ((l3 + (1 : Int32))) = aMv ab 0 from by first | (exfalso; omega) | (have ty := xB_th (W := 75) hi1 rg_c1; have e4 := congrArg Int32.toInt ty.2.2.2.2.2.1; refine (aMv_n (by omega) (fun z => ?_)).symm.trans hi2; have z4 : (mI S 75 5).toInt ≤ (mI S c1 4).toInt := (by rw [e4]; exact z.2.2.2.1); have z6 : (mI S 77 (mI S c1 0).toNatClampNeg).toInt = 0 := (by rw [ty.2.2.1]; exact congrArg Int32.toInt z.2.2.2.2); omega)) (show (l2) = ab 69 11 from by first | (exact hi3)) (show kJ (aS 75 S) (kC S) from by first | (rw [(xC_o (W := 75) hi1).1, (xK_o (W := 75) hi1 rfl).2]; exact hi4) | (exact hi4))
            · skip
              have g35 := i_nlt h30
              refine ⟨zG_n hI th_c1, ?_⟩
              have f36 := zG_th hI th_c1
              refine zd (fun h37 => ?_) (fun h37 => ?_)
              · skip
                have g38 := i_le h37
                refine sp_87_69_sk (ab := (aS 75 S)) (R := (mR S 70)) (W := 75) (y := l3) (kk := (kC S)) (n0 := (zN0 S)) c1 (by omega) (by omega) hI th_c1 (show xB S (mR S 70) from by first | (exact xB_x (xC_o (W := 75) hi1).2)) (show aS 75 S = (aS 75 S) from by first | (exact rfl)) (show xW 75 from by first | (exact xW88) | (exact xW75)) (show zTa (mR S 70) l3 = some c1 from by first | (exact rg_c1)) (show kC S = (kC S) from by first | (exact rfl)) (show zN0 S = (zN0 S) from by first | (exact rfl)) (fun S2 hI_S2 rp0_S2 rp1_S2 rp2_S2 rp3_S2 => zv_n ⟨zG_T hI_S2, ?_⟩)
                have rp0_S2 : xB S2 (zRu (mR S 70) l3.toNatClampNeg none) := rp0_S2
                have rp1_S2 : aS 75 S2 = aRm (aS 75 S) l3 := rp1_S2
                have rp2_S2 : ∀ n, xAl (aS 75 S) n → n ≠ l3.toNatClampNeg → kC S2 n = (kC S) n - Int32.ofNat (cOb (aS 75 S) l3.toNatClampNeg n) := rp2_S2
                have rp3_S2 : zN0 S2 = (zN0 S) := rp3_S2
                have b39 := i_bd l2
                first | have e40 : (l3 + (1 : Int32)).toInt = l3.toInt + (1) := i_addk rfl (by omega) (by omega) | have b41 := i_bd (l3 + (1 : Int32))
                exact IH _ (by omega) _ (l2) ((l3 + (1 : Int32))) rfl hI_S2 (by omega) (show xB S2 (mR S2 70) from by first | (exact xB_x (xC_o (W := 75) rp0_S2).2)) (show aMv (aS 75 S2) ((l3 + (1 : Int32))) = aMv ab 0 from by first | (exfalso; omega) | (have ty := xB_th (W := 75) hi1 rg_c1; have e4 := congrArg Int32.toInt ty.2.2.2.2.2.1; rw [rp1_S2]; refine (aMv_y (by omega) ⟨ty.1, ty.2.1, (by rw [ty.2.2.2.2.2.2.2.2]; decide), ?_, ?_⟩).symm.trans hi2; (show (mI S 75 5).toInt ≤ _; rw [← e4]; omega); (show mI S 77 _ = 0; rw [← ty.2.2.1]; assumption))) (show (l2) = ab 69 11 from by first | (exact hi3)) (show kJ (aS 75 S2) (kC S2) from by first | (have ty := xB_th (W := 75) hi1 rg_c1; have j := J_rm hi4 ty.1 ⟨zTa_n rg_c1, by rw [ty.2.2.2.2.2.2.2.2]; decide⟩ (fun n hn hne => rp2_S2 n hn hne); rw [← rp1_S2] at j; exact j))
              · skip
                have g42 := i_nle h37
                refine ⟨zG_n hI th_c1, ?_⟩
                refine ⟨i_ix (by omega) (by omega), ?_⟩
                have b43 := i_bd (mI S 77 (mI S c1 0).toNatClampNeg)
                refine zd (fun h44 => ?_) (fun h44 => ?_)
                · skip
                  have g45 := i_eq h44
                  refine sp_87_69_sk (ab := (aS 75 S)) (R := (mR S 70)) (W := 75) (y := l3) (kk := (kC S)) (n0 := (zN0 S)) c1 (by omega) (by omega) hI th_c1 (show xB S (mR S 70) from by first | (exact xB_x (xC_o (W := 75) hi1).2)) (show aS 75 S = (aS 75 S) from by first | (exact rfl)) (show xW 75 from by first | (exact xW88) | (exact xW75)) (show zTa (mR S 70) l3 = some c1 from by first | (exact rg_c1)) (show kC S = (kC S) from by first | (exact rfl)) (show zN0 S = (zN0 S) from by first | (exact rfl)) (fun S4 hI_S4 rp0_S4 rp1_S4 rp2_S4 rp3_S4 => zv_n ⟨zG_T hI_S4, ?_⟩)
                  have rp0_S4 : xB S4 (zRu (mR S 70) l3.toNatClampNeg none) := rp0_S4
                  have rp1_S4 : aS 75 S4 = aRm (aS 75 S) l3 := rp1_S4
                  have rp2_S4 : ∀ n, xAl (aS 75 S) n → n ≠ l3.toNatClampNeg → kC S4 n = (kC S) n - Int32.ofNat (cOb (aS 75 S) l3.toNatClampNeg n) := rp2_S4
                  have rp3_S4 : zN0 S4 = (zN0 S) := rp3_S4
                  have b46 := i_bd l2
                  first | have e47 : (l3 + (1 : Int32)).toInt = l3.toInt + (1) := i_addk rfl (by omega) (by omega) | have b48 := i_bd (l3 + (1 : Int32))
                  exact IH _ (by omega) _ (l2) ((l3 + (1 : Int32))) rfl hI_S4 (by omega) (show xB S4 (mR S4 70) from by first | (exact xB_x (xC_o (W := 75) rp0_S4).2)) (show aMv (aS 75 S4) ((l3 + (1 : Int32))) = aMv ab 0 from by first | (exfalso; omega) | (have ty := xB_th (W := 75) hi1 rg_c1; have e4 := congrArg Int32.toInt ty.2.2.2.2.2.1; rw [rp1_S4]; refine (aMv_y (by omega) ⟨ty.1, ty.2.1, (by rw [ty.2.2.2.2.2.2.2.2]; decide), ?_, ?_⟩).symm.trans hi2; (show (mI S 75 5).toInt ≤ _; rw [← e4]; omega); (show mI S 77 _ = 0; rw [← ty.2.2.1]; assumption))) (show (l2) = ab 69 11 from by first | (exact hi3)) (show kJ (aS 75 S4) (kC S4) from by first | (have ty := xB_th (W := 75) hi1 rg_c1; have j := J_rm hi4 ty.1 ⟨zTa_n rg_c1, by rw [ty.2.2.2.2.2.2.2.2]; decide⟩ (fun n hn hne => rp2_S4 n hn hne); rw [← rp1_S4] at j; exact j))
                · skip
                  have g49 := i_ne h44
                  have b50 := i_bd l2
                  first | have e51 : (l3 + (1 : Int32)).toInt = l3.toInt + (1) := i_addk rfl (by omega) (by omega) | have b52 := i_bd (l3 + (1 : Int32))
                  exact IH _ (by omega) _ (l2) ((l3 + (1 : Int32))) rfl hI (by omega) (show xB S (mR S 70) from by first | (exact xB_x (xC_o (W := 75) hi1).2)) (show aMv (aS 75 S) ((l3 + (1 : Int32))) = aMv ab 0 from by first | (exfalso; omega) | (have ty := xB_th (W := 75) hi1 rg_c1; have e4 := congrArg Int32.toInt ty.2.2.2.2.2.1; refine (aMv_n (by omega) (fun z => ?_)).symm.trans hi2; have z4 : (mI S 75 5).toInt ≤ (mI S c1 4).toInt := (by rw [e4]; exact z.2.2.2.1); have z6 : (mI S 77 (mI S c1 0).toNatClampNeg).toInt = 0 := (by rw [ty.2.2.1]; exact congrArg Int32.toInt z.2.2.2.2); omega)) (show (l2) = ab 69 11 from by first | (exact hi3)) (show kJ (aS 75 S) (kC S) from by first | (rw [(xC_o (W := 75) hi1).1, (xK_o (W := 75) hi1 rfl).2]; exact hi4) | (exact hi4))
theorem sp_86_69_75_sk {X : Nat × (Nat → Int32)} {d w : Nat} {f : Nat → Nat → Int32} {r : Nat → Nat → Option Nat} {C Z N : Nat} {Q : Option ma_V ⊕ Nat → ma_S → Prop} {ab : Nat→Nat→Int32} {S : ma_S}  (hd : 2 ≤ d) (hw : 48 ≤ w) (hI : zI f r C Z N S) (hpre0 : xB S (mR S 70)) (hpre1 : aS 75 S = ab) (hpre2 : kJ (aS 75 S) (kC S)) (K : ∀ v S₉, zI f r C Z N S₉ → (True) → (xB S₉ (mR S₉ 70)) → (aS 75 S₉ = aMv ab 0 ∧ v = aMv ab 0 69 11 - ab 69 11) → (kJ (aS 75 S₉) (kC S₉)) → Q (.inl (some (.inl v))) S₉) : ma_wp X d w 86 0 [(0, .inr (.inr (some 69))), (1, .inr (.inr (some 75)))] [] S Q := by
  refine g_86_69_75_sk_0  (by omega) (by omega) (zG_T hI) ?_
  have b1 := i_bd (mI S 69 11)
  have li2 : (0 : Int32).toInt = 0 := rfl
  exact lp_86_69_75_sk_7 (by omega) (by omega) K _ _ ((mI S 69 11)) ((0 : Int32)) rfl hI (by omega) (show xB S (mR S 70) from by first | (exact xB_x (xC_o (W := 75) hpre0).2)) (show aMv (aS 75 S) ((0 : Int32)) = aMv ab 0 from by first | (rw [hpre1]) | (exfalso; omega)) (show ((mI S 69 11)) = ab 69 11 from by first | (rw [← hpre1, (aS_I (W := 75) (S := S) (c := 69) (c₉ := 69) (k := 11) rfl rfl)])) (show kJ (aS 75 S) (kC S) from by first | (rw [(xC_o (W := 75) hpre0).1, (xK_o (W := 75) hpre0 rfl).2]; exact hpre2) | (exact hpre2))

