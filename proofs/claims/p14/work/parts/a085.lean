/-! from 95.g12 -/
/-! the heap by numbers, the class (written by wip/tools/gen18.py) -/
theorem g_86_69_88_s_0 {X : Nat × (Nat → Int32)} {d w : Nat} {S : ma_S} {Q : Option ma_V ⊕ Nat → ma_S → Prop}  (hd : 2 ≤ d) (hw : 48 ≤ w) (hS : zT S) (h : ma_wp X d w 86 7 [(0, .inr (.inr (some 69))), (1, .inr (.inr (some 88))), (2, .inl (mI S 69 11)), (3, .inl (0 : Int32))] [] S Q) : ma_wp X d w 86 0 [(0, .inr (.inr (some 69))), (1, .inr (.inr (some 88)))] [] S Q := by
  refine zw_push hm_86 dX7_removeOthers_0 (v := .inr (.inr (some 69))) rfl ?_
  refine zw_gf hm_86 dX7_removeOthers_1 (v := .inl (mI S 69 11)) (zT_is hS s_69) (zT_t hS s_69) rfl f_7_55_7 rfl ?_
  refine zw_sto hm_86 dX7_removeOthers_4 [(2, .inl (mI S 69 11)), (0, .inr (.inr (some 69))), (1, .inr (.inr (some 88)))] rfl rfl rfl ?_
  refine zw_push hm_86 dX7_removeOthers_5 (v := .inl (0 : Int32)) rfl ?_
  refine zw_sto hm_86 dX7_removeOthers_6 [(3, .inl (0 : Int32)), (2, .inl (mI S 69 11)), (0, .inr (.inr (some 69))), (1, .inr (.inr (some 88)))] rfl rfl rfl ?_
  exact zw_sub (ma_nd_of (ks := [0, 1, 2, 3]) rfl (by decide)) (ma_nd_of (ks := [3, 2, 0, 1]) rfl (by decide)) (ma_le_cons rfl (ma_le_cons rfl (ma_le_cons rfl (ma_le_cons rfl (ma_le_nil _))))) h
theorem g_86_69_88_s_7 {X : Nat × (Nat → Int32)} {d w : Nat} {S : ma_S} {Q : Option ma_V ⊕ Nat → ma_S → Prop} (l2 : Int32) (l3 : Int32) (hd : 2 ≤ d) (hw : 48 ≤ w) (hS : zT S) (h : if (mI S 69 6) ≤ l3 then (Q (.inl (some (.inl ((mI S 69 11) - l2)))) (ma_put S 69 9 (.inl ((mI S 69 9) + (1 : Int32))))) else (if l3 < 0 then (ma_wp X d w 86 7 [(0, .inr (.inr (some 69))), (1, .inr (.inr (some 88))), (2, .inl l2), (3, .inl (l3 + (1 : Int32)))] [] S Q) else (if (512 : Int32) ≤ l3 then (ma_wp X d w 86 7 [(0, .inr (.inr (some 69))), (1, .inr (.inr (some 88))), (2, .inl l2), (3, .inl (l3 + (1 : Int32)))] [] S Q) else ((0 ≤ l3 ∧ l3.toNatClampNeg < 512) ∧ (((mR S 70 l3.toNatClampNeg) = none → ma_wp X d w 86 7 [(0, .inr (.inr (some 69))), (1, .inr (.inr (some 88))), (2, .inl l2), (3, .inl (l3 + (1 : Int32)))] [] S Q) ∧ (∀ c1, (mR S 70 l3.toNatClampNeg) = some c1 → (126 ≤ c1 ∧ c1 < mN S) ∧ (if (mI S c1 4) < (mI S 88 5) then (ma_wp X d w 86 7 [(0, .inr (.inr (some 69))), (1, .inr (.inr (some 88))), (2, .inl l2), (3, .inl (l3 + (1 : Int32)))] [] S Q) else ((126 ≤ c1 ∧ c1 < mN S) ∧ (if (512 : Int32) ≤ (mI S c1 0) then (ma_wp X (d - 1) (w - 23) 87 0 [(0, .inr (.inr (some 69))), (1, .inr (.inr (some c1)))] [] S (zv (fun S2 => zT S2 ∧ (ma_wp X d w 86 7 [(0, .inr (.inr (some 69))), (1, .inr (.inr (some 88))), (2, .inl l2), (3, .inl (l3 + (1 : Int32)))] [] S2 Q)) (fun x S9 => Q (.inr x) S9))) else ((126 ≤ c1 ∧ c1 < mN S) ∧ ((0 ≤ (mI S c1 0) ∧ (mI S c1 0).toNatClampNeg < 512) ∧ (if (mI S 90 (mI S c1 0).toNatClampNeg) = 0 then (ma_wp X (d - 1) (w - 23) 87 0 [(0, .inr (.inr (some 69))), (1, .inr (.inr (some c1)))] [] S (zv (fun S4 => zT S4 ∧ (ma_wp X d w 86 7 [(0, .inr (.inr (some 69))), (1, .inr (.inr (some 88))), (2, .inl l2), (3, .inl (l3 + (1 : Int32)))] [] S4 Q)) (fun x S9 => Q (.inr x) S9))) else (ma_wp X d w 86 7 [(0, .inr (.inr (some 69))), (1, .inr (.inr (some 88))), (2, .inl l2), (3, .inl (l3 + (1 : Int32)))] [] S Q))))))))))))) : ma_wp X d w 86 7 [(0, .inr (.inr (some 69))), (1, .inr (.inr (some 88))), (2, .inl l2), (3, .inl l3)] [] S Q := by
  refine zw_push hm_86 dX7_removeOthers_7 (v := .inl l3) rfl ?_
  refine zw_push hm_86 dX7_removeOthers_8 (v := .inr (.inr (some 69))) rfl ?_
  refine zw_gf hm_86 dX7_removeOthers_9 (v := .inl (mI S 69 6)) (zT_is hS s_69) (zT_t hS s_69) rfl f_7_40_7 rfl ?_
  refine zw_if2 hm_86 dX7_removeOthers_12 (t := 48) rfl zc2_ge ?_ ?_
  · intro hc
    rw [if_pos hc] at h
    refine zw_push hm_86 dX7_removeOthers_48 (v := .inr (.inr (some 69))) rfl ?_
    refine zw_stk hm_86 dX7_removeOthers_49 (st₉ := [.inr (.inr (some 69)), .inr (.inr (some 69))]) rfl rfl ?_
    refine zw_gf hm_86 dX7_removeOthers_50 (v := .inl (mI S 69 9)) (zT_is hS s_69) (zT_t hS s_69) rfl f_7_49_7 rfl ?_
    refine zw_push hm_86 dX7_removeOthers_53 (v := .inl (1 : Int32)) rfl ?_
    refine zw_stk hm_86 dX7_removeOthers_54 (st₉ := [.inl ((mI S 69 9) + (1 : Int32)), .inr (.inr (some 69))]) rfl rfl ?_
    refine zw_pf hm_86 dX7_removeOthers_55 (zT_is hS s_69) (zT_t hS s_69) p_7_49_7 zk_int ?_
    refine zw_push hm_86 dX7_removeOthers_58 (v := .inr (.inr (some 69))) rfl ?_
    refine zw_gf hm_86 dX7_removeOthers_59 (v := .inl (mI S 69 11)) (zT_is (zT_pi hS) s_69) (zT_t (zT_pi hS) s_69) rfl f_7_55_7 rfl ?_
    refine zw_push hm_86 dX7_removeOthers_62 (v := .inl l2) rfl ?_
    refine zw_stk hm_86 dX7_removeOthers_63 (st₉ := [.inl ((mI S 69 11) - l2)]) rfl rfl ?_
    exact zw_iret hm_86 dX7_removeOthers_64 h
  · intro hc
    rw [if_neg hc] at h
    refine zw_push hm_86 dX7_removeOthers_15 (v := .inr (.inr (some 69))) rfl ?_
    refine zw_push hm_86 dX7_removeOthers_16 (v := .inl l3) rfl ?_
    refine zw_cv hm_86 dX7_removeOthers_17 v_7_94_7 hm_81 [.inl l3] [] rfl (zT_rt hS s_69 rfl) ⟨by omega, by omega⟩ rfl ?_
    show ma_wp X (d - 1) (w - 21) 81 0 [(0, .inr (.inr (some 69))), (1, .inl l3)] [] S _
    refine zw_push hm_81 dX7_thingAt_0 (v := .inl l3) rfl ?_
    refine zw_if0 hm_81 dX7_thingAt_1 (t := 20) rfl zc0_lt ?_ ?_
    · intro hc
      rw [if_pos hc] at h
      refine zw_push hm_81 dX7_thingAt_20 (v := .inr (.inr none)) rfl ?_
      refine zw_aret hm_81 dX7_thingAt_21 ?_
      show ma_wp X d w 86 20 [(0, .inr (.inr (some 69))), (1, .inr (.inr (some 88))), (2, .inl l2), (3, .inl l3)] [.inr (.inr none)] S _
      refine zw_sto hm_86 dX7_removeOthers_20 [(4, .inr (.inr none)), (0, .inr (.inr (some 69))), (1, .inr (.inr (some 88))), (2, .inl l2), (3, .inl l3)] rfl rfl rfl ?_
      refine zw_push hm_86 dX7_removeOthers_22 (v := .inr (.inr none)) rfl ?_
      refine zw_ifnull hm_86 dX7_removeOthers_24 (t := 42) rfl (fun _ => ?_) (fun _ z => by cases z)
      refine zw_sto hm_86 dX7_removeOthers_42 [(3, .inl (l3 + (1 : Int32))), (4, .inr (.inr none)), (0, .inr (.inr (some 69))), (1, .inr (.inr (some 88))), (2, .inl l2)] rfl rfl rfl ?_
      refine zw_goto hm_86 dX7_removeOthers_45 (t := 7) rfl ?_
      exact zw_sub (ma_nd_of (ks := [0, 1, 2, 3]) rfl (by decide)) (ma_nd_of (ks := [3, 4, 0, 1, 2]) rfl (by decide)) (ma_le_cons rfl (ma_le_cons rfl (ma_le_cons rfl (ma_le_cons rfl (ma_le_nil _))))) h
    · intro hc
      rw [if_neg hc] at h
      refine zw_push hm_81 dX7_thingAt_4 (v := .inl l3) rfl ?_
      refine zw_push hm_81 dX7_thingAt_5 (v := .inl (512 : Int32)) rfl ?_
      refine zw_if2 hm_81 dX7_thingAt_8 (t := 20) rfl zc2_ge ?_ ?_
      · intro hc
        rw [if_pos hc] at h
        refine zw_push hm_81 dX7_thingAt_20 (v := .inr (.inr none)) rfl ?_
        refine zw_aret hm_81 dX7_thingAt_21 ?_
        show ma_wp X d w 86 20 [(0, .inr (.inr (some 69))), (1, .inr (.inr (some 88))), (2, .inl l2), (3, .inl l3)] [.inr (.inr none)] S _
        refine zw_sto hm_86 dX7_removeOthers_20 [(4, .inr (.inr none)), (0, .inr (.inr (some 69))), (1, .inr (.inr (some 88))), (2, .inl l2), (3, .inl l3)] rfl rfl rfl ?_
        refine zw_push hm_86 dX7_removeOthers_22 (v := .inr (.inr none)) rfl ?_
        refine zw_ifnull hm_86 dX7_removeOthers_24 (t := 42) rfl (fun _ => ?_) (fun _ z => by cases z)
        refine zw_sto hm_86 dX7_removeOthers_42 [(3, .inl (l3 + (1 : Int32))), (4, .inr (.inr none)), (0, .inr (.inr (some 69))), (1, .inr (.inr (some 88))), (2, .inl l2)] rfl rfl rfl ?_
        refine zw_goto hm_86 dX7_removeOthers_45 (t := 7) rfl ?_
        exact zw_sub (ma_nd_of (ks := [0, 1, 2, 3]) rfl (by decide)) (ma_nd_of (ks := [3, 4, 0, 1, 2]) rfl (by decide)) (ma_le_cons rfl (ma_le_cons rfl (ma_le_cons rfl (ma_le_cons rfl (ma_le_nil _))))) h
      · intro hc
        rw [if_neg hc] at h
        refine zw_push hm_81 dX7_thingAt_11 (v := .inr (.inr (some 69))) rfl ?_
        refine zw_gf hm_81 dX7_thingAt_12 (v := .inr (.inr (some 70))) (zT_is hS s_69) (zT_t hS s_69) rfl f_7_11_7 (zT_f hS r_69_0) ?_
        refine zw_push hm_81 dX7_thingAt_15 (v := .inl l3) rfl ?_
        obtain ⟨hg, h⟩ := h
        refine zw_aa hm_81 dX7_thingAt_16 (zT_is hS s_70) (zT_h hS s_70) rfl rfl hg rfl ?_
        show ma_wp X (d - 1) (w - 21) 81 17 [(0, .inr (.inr (some 69))), (1, .inl l3)] [.inr (.inr (mR S 70 l3.toNatClampNeg))] S _
        refine zw_goto hm_81 dX7_thingAt_17 (t := 21) rfl ?_
        refine zw_aret hm_81 dX7_thingAt_21 ?_
        show ma_wp X d w 86 20 [(0, .inr (.inr (some 69))), (1, .inr (.inr (some 88))), (2, .inl l2), (3, .inl l3)] [.inr (.inr (mR S 70 l3.toNatClampNeg))] S _
        refine zw_sto hm_86 dX7_removeOthers_20 [(4, .inr (.inr (mR S 70 l3.toNatClampNeg))), (0, .inr (.inr (some 69))), (1, .inr (.inr (some 88))), (2, .inl l2), (3, .inl l3)] rfl rfl rfl ?_
        refine zw_push hm_86 dX7_removeOthers_22 (v := .inr (.inr (mR S 70 l3.toNatClampNeg))) rfl ?_
        refine zw_ifnull hm_86 dX7_removeOthers_24 (t := 42) rfl ?_ ?_
        · intro hc
          have h := h.1 hc
          (try rw [hc])
          show ma_wp X d w 86 42 [(4, .inr (.inr none)), (0, .inr (.inr (some 69))), (1, .inr (.inr (some 88))), (2, .inl l2), (3, .inl l3)] [] S _
          refine zw_sto hm_86 dX7_removeOthers_42 [(3, .inl (l3 + (1 : Int32))), (4, .inr (.inr none)), (0, .inr (.inr (some 69))), (1, .inr (.inr (some 88))), (2, .inl l2)] rfl rfl rfl ?_
          refine zw_goto hm_86 dX7_removeOthers_45 (t := 7) rfl ?_
          exact zw_sub (ma_nd_of (ks := [0, 1, 2, 3]) rfl (by decide)) (ma_nd_of (ks := [3, 4, 0, 1, 2]) rfl (by decide)) (ma_le_cons rfl (ma_le_cons rfl (ma_le_cons rfl (ma_le_cons rfl (ma_le_nil _))))) h
        · intro c1 hc
          have h := h.2 c1 hc
          (try rw [hc])
          show ma_wp X d w 86 27 [(4, .inr (.inr (some c1))), (0, .inr (.inr (some 69))), (1, .inr (.inr (some 88))), (2, .inl l2), (3, .inl l3)] [] S _
          refine zw_push hm_86 dX7_removeOthers_27 (v := .inr (.inr (some 88))) rfl ?_
          refine zw_push hm_86 dX7_removeOthers_28 (v := .inr (.inr (some c1))) rfl ?_
          refine zw_cv hm_86 dX7_removeOthers_30 v_7_128_10 hm_122 [.inr (.inr (some c1))] [] rfl (zT_rt hS s_88 rfl) ⟨by omega, by omega⟩ rfl ?_
          show ma_wp X (d - 1) (w - 21) 122 0 [(0, .inr (.inr (some 88))), (1, .inr (.inr (some c1)))] [] S _
          refine zw_push hm_122 dX10_keeps_0 (v := .inr (.inr (some c1))) rfl ?_
          obtain ⟨hg, h⟩ := h
          refine zw_gf hm_122 dX10_keeps_1 (v := .inl (mI S c1 4)) (zT_tis hS hg) (zT_tt hS hg) rfl f_10_49_9 rfl ?_
          refine zw_push hm_122 dX10_keeps_4 (v := .inr (.inr (some 88))) rfl ?_
          refine zw_gf hm_122 dX10_keeps_5 (v := .inl (mI S 88 5)) (zT_is hS s_88) (zT_t hS s_88) rfl f_10_35_10 rfl ?_
          refine zw_if2 hm_122 dX10_keeps_8 (t := 19) rfl zc2_lt ?_ ?_
          · intro hc
            rw [if_pos hc] at h
            refine zw_push hm_122 dX10_keeps_19 (v := .inl (1 : Int32)) rfl ?_
            refine zw_goto hm_122 dX10_keeps_20 (t := 24) rfl ?_
            refine zw_bret hm_122 dX10_keeps_24 (by decide) ?_
            show ma_wp X d w 86 33 [(4, .inr (.inr (some c1))), (0, .inr (.inr (some 69))), (1, .inr (.inr (some 88))), (2, .inl l2), (3, .inl l3)] [.inl (1 : Int32)] S _
            refine zw_if0 hm_86 dX7_removeOthers_33 (t := 42) rfl zc0_ne (fun _ => ?_) (fun hc => absurd (by decide) hc)
            refine zw_sto hm_86 dX7_removeOthers_42 [(3, .inl (l3 + (1 : Int32))), (4, .inr (.inr (some c1))), (0, .inr (.inr (some 69))), (1, .inr (.inr (some 88))), (2, .inl l2)] rfl rfl rfl ?_
            refine zw_goto hm_86 dX7_removeOthers_45 (t := 7) rfl ?_
            exact zw_sub (ma_nd_of (ks := [0, 1, 2, 3]) rfl (by decide)) (ma_nd_of (ks := [3, 4, 0, 1, 2]) rfl (by decide)) (ma_le_cons rfl (ma_le_cons rfl (ma_le_cons rfl (ma_le_cons rfl (ma_le_nil _))))) h
          · intro hc
            rw [if_neg hc] at h
            refine zw_push hm_122 dX10_keeps_11 (v := .inr (.inr (some 88))) rfl ?_
            refine zw_push hm_122 dX10_keeps_12 (v := .inr (.inr (some c1))) rfl ?_
            refine zw_cv hm_122 dX10_keeps_13 v_10_54_10 hm_123 [.inr (.inr (some c1))] [] rfl (zT_rt hS s_88 rfl) ⟨by omega, by omega⟩ rfl ?_
            show ma_wp X ((d - 1) - 1) ((w - 21) - 21) 123 0 [(0, .inr (.inr (some 88))), (1, .inr (.inr (some c1)))] [] S _
            refine zw_push hm_123 dX10_colourOf_0 (v := .inr (.inr (some c1))) rfl ?_
            obtain ⟨hg, h⟩ := h
            refine zw_gf hm_123 dX10_colourOf_1 (v := .inl (mI S c1 0)) (zT_tis hS hg) (zT_tt hS hg) rfl f_10_58_9 rfl ?_
            refine zw_push hm_123 dX10_colourOf_4 (v := .inl (512 : Int32)) rfl ?_
            refine zw_if2 hm_123 dX10_colourOf_7 (t := 22) rfl zc2_ge ?_ ?_
            · intro hc
              rw [if_pos hc] at h
              refine zw_push hm_123 dX10_colourOf_22 (v := .inl (0 : Int32)) rfl ?_
              refine zw_iret hm_123 dX10_colourOf_23 ?_
              show ma_wp X (d - 1) (w - 21) 122 16 [(0, .inr (.inr (some 88))), (1, .inr (.inr (some c1)))] [.inl (0 : Int32)] S _
              refine zw_if0 hm_122 dX10_keeps_16 (t := 23) rfl zc0_eq (fun _ => ?_) (fun hc => absurd (by decide) hc)
              refine zw_push hm_122 dX10_keeps_23 (v := .inl (0 : Int32)) rfl ?_
              refine zw_bret hm_122 dX10_keeps_24 (by decide) ?_
              show ma_wp X d w 86 33 [(4, .inr (.inr (some c1))), (0, .inr (.inr (some 69))), (1, .inr (.inr (some 88))), (2, .inl l2), (3, .inl l3)] [.inl (0 : Int32)] S _
              refine zw_if0 hm_86 dX7_removeOthers_33 (t := 42) rfl zc0_ne (fun hc => absurd hc (by decide)) (fun _ => ?_)
              refine zw_push hm_86 dX7_removeOthers_36 (v := .inr (.inr (some 69))) rfl ?_
              refine zw_push hm_86 dX7_removeOthers_37 (v := .inr (.inr (some c1))) rfl ?_
              refine zw_cv hm_86 dX7_removeOthers_39 v_7_144_7 hm_87 [.inr (.inr (some c1))] [] rfl (zT_rt hS s_69 rfl) ⟨by omega, by omega⟩ rfl (zw_mono h (zv_go ?_ ?_))
              · intro S2 hv
                obtain ⟨hS2, h⟩ := hv
                refine zw_sto hm_86 dX7_removeOthers_42 [(3, .inl (l3 + (1 : Int32))), (4, .inr (.inr (some c1))), (0, .inr (.inr (some 69))), (1, .inr (.inr (some 88))), (2, .inl l2)] rfl rfl rfl ?_
                refine zw_goto hm_86 dX7_removeOthers_45 (t := 7) rfl ?_
                exact zw_sub (ma_nd_of (ks := [0, 1, 2, 3]) rfl (by decide)) (ma_nd_of (ks := [3, 4, 0, 1, 2]) rfl (by decide)) (ma_le_cons rfl (ma_le_cons rfl (ma_le_cons rfl (ma_le_cons rfl (ma_le_nil _))))) h
              · intro x S9 hx
                exact ⟨by decide, hx⟩
            · intro hc
              rw [if_neg hc] at h
              refine zw_push hm_123 dX10_colourOf_10 (v := .inr (.inr (some 88))) rfl ?_
              refine zw_gf hm_123 dX10_colourOf_11 (v := .inr (.inr (some 90))) (zT_is hS s_88) (zT_t hS s_88) rfl f_10_15_10 (zT_f hS r_88_2) ?_
              refine zw_push hm_123 dX10_colourOf_14 (v := .inr (.inr (some c1))) rfl ?_
              obtain ⟨hg, h⟩ := h
              refine zw_gf hm_123 dX10_colourOf_15 (v := .inl (mI S c1 0)) (zT_tis hS hg) (zT_tt hS hg) rfl f_10_58_9 rfl ?_
              obtain ⟨hg, h⟩ := h
              refine zw_ia hm_123 dX10_colourOf_18 (zT_is hS s_90) (zT_h hS s_90) rfl hg ?_
              show ma_wp X ((d - 1) - 1) ((w - 21) - 21) 123 19 [(0, .inr (.inr (some 88))), (1, .inr (.inr (some c1)))] [.inl (mI S 90 (mI S c1 0).toNatClampNeg)] S _
              refine zw_goto hm_123 dX10_colourOf_19 (t := 23) rfl ?_
              refine zw_iret hm_123 dX10_colourOf_23 ?_
              show ma_wp X (d - 1) (w - 21) 122 16 [(0, .inr (.inr (some 88))), (1, .inr (.inr (some c1)))] [.inl (mI S 90 (mI S c1 0).toNatClampNeg)] S _
              refine zw_if0 hm_122 dX10_keeps_16 (t := 23) rfl zc0_eq ?_ ?_
              · intro hc
                rw [if_pos hc] at h
                refine zw_push hm_122 dX10_keeps_23 (v := .inl (0 : Int32)) rfl ?_
                refine zw_bret hm_122 dX10_keeps_24 (by decide) ?_
                show ma_wp X d w 86 33 [(4, .inr (.inr (some c1))), (0, .inr (.inr (some 69))), (1, .inr (.inr (some 88))), (2, .inl l2), (3, .inl l3)] [.inl (0 : Int32)] S _
                refine zw_if0 hm_86 dX7_removeOthers_33 (t := 42) rfl zc0_ne (fun hc => absurd hc (by decide)) (fun _ => ?_)
                refine zw_push hm_86 dX7_removeOthers_36 (v := .inr (.inr (some 69))) rfl ?_
                refine zw_push hm_86 dX7_removeOthers_37 (v := .inr (.inr (some c1))) rfl ?_
                refine zw_cv hm_86 dX7_removeOthers_39 v_7_144_7 hm_87 [.inr (.inr (some c1))] [] rfl (zT_rt hS s_69 rfl) ⟨by omega, by omega⟩ rfl (zw_mono h (zv_go ?_ ?_))
                · intro S4 hv
                  obtain ⟨hS4, h⟩ := hv
                  refine zw_sto hm_86 dX7_removeOthers_42 [(3, .inl (l3 + (1 : Int32))), (4, .inr (.inr (some c1))), (0, .inr (.inr (some 69))), (1, .inr (.inr (some 88))), (2, .inl l2)] rfl rfl rfl ?_
                  refine zw_goto hm_86 dX7_removeOthers_45 (t := 7) rfl ?_
                  exact zw_sub (ma_nd_of (ks := [0, 1, 2, 3]) rfl (by decide)) (ma_nd_of (ks := [3, 4, 0, 1, 2]) rfl (by decide)) (ma_le_cons rfl (ma_le_cons rfl (ma_le_cons rfl (ma_le_cons rfl (ma_le_nil _))))) h
                · intro x S9 hx
                  exact ⟨by decide, hx⟩
              · intro hc
                rw [if_neg hc] at h
                refine zw_push hm_122 dX10_keeps_19 (v := .inl (1 : Int32)) rfl ?_
                refine zw_goto hm_122 dX10_keeps_20 (t := 24) rfl ?_
                refine zw_bret hm_122 dX10_keeps_24 (by decide) ?_
                show ma_wp X d w 86 33 [(4, .inr (.inr (some c1))), (0, .inr (.inr (some 69))), (1, .inr (.inr (some 88))), (2, .inl l2), (3, .inl l3)] [.inl (1 : Int32)] S _
                refine zw_if0 hm_86 dX7_removeOthers_33 (t := 42) rfl zc0_ne (fun _ => ?_) (fun hc => absurd (by decide) hc)
                refine zw_sto hm_86 dX7_removeOthers_42 [(3, .inl (l3 + (1 : Int32))), (4, .inr (.inr (some c1))), (0, .inr (.inr (some 69))), (1, .inr (.inr (some 88))), (2, .inl l2)] rfl rfl rfl ?_
                refine zw_goto hm_86 dX7_removeOthers_45 (t := 7) rfl ?_
                exact zw_sub (ma_nd_of (ks := [0, 1, 2, 3]) rfl (by decide)) (ma_nd_of (ks := [3, 4, 0, 1, 2]) rfl (by decide)) (ma_le_cons rfl (ma_le_cons rfl (ma_le_cons rfl (ma_le_cons rfl (ma_le_nil _))))) h
theorem lp_86_69_88_s_7 {X : Nat × (Nat → Int32)} {d w : Nat} {f : Nat → Nat → Int32} {r : Nat → Nat → Option Nat} {C Z N : Nat} {Q : Option ma_V ⊕ Nat → ma_S → Prop} {ab : Nat→Nat→Int32} (hd : 2 ≤ d) (hw : 48 ≤ w) (K : ∀ v S₉, zI f r C Z N S₉ → (True) → (xB S₉ (mR S₉ 70)) → (aS 88 S₉ = aMv ab 0 ∧ v = aMv ab 0 69 11 - ab 69 11) → Q (.inl (some (.inl v))) S₉) : ∀ (n : Nat) (S : ma_S) (l2 : Int32) (l3 : Int32), (512 - l3.toInt).toNat = n → zI f r C Z N S → (0 ≤ l3.toInt) → (xB S (mR S 70)) → (aMv (aS 88 S) l3 = aMv ab 0) → (l2 = ab 69 11) → ma_wp X d w 86 7 [(0, .inr (.inr (some 69))), (1, .inr (.inr (some 88))), (2, .inl l2), (3, .inl l3)] [] S Q := by
  intro n
  induction n using Nat.strongRecOn with
  | _ n IH =>
    intro S l2 l3 hmu hI  hi0 hi1 hi2 hi3
    refine g_86_69_88_s_7 l2 l3 (by omega) (by omega) (zG_T hI) ?_
    have r6 := congrArg Int32.toInt (aS_I (W := 88) (S := S) (c := 69) (c₉ := 69) (k := 6) rfl rfl)
    have f1 := zG_s hI (0) (512) (c := 69) (k := 6) (by decide)
    have b2 := i_bd l3
    refine zd (fun h3 => ?_) (fun h3 => ?_)
    · skip
      have g4 := i_le h3
      have hI5 : zI f r C Z N (ma_put S 69 9 (.inl ((mI S 69 9) + (1 : Int32)))) := zG_fr hI rfl (by decide) (by decide) (by decide) trivial
      have b6 := i_bd (mI S 69 11)
      have b7 := i_bd l2
      first | have e8 : ((mI S 69 11) - l2).toInt = (mI S 69 11).toInt - l2.toInt := i_sub (by omega) (by omega) | have b9 := i_bd ((mI S 69 11) - l2)
      exact K (((mI S 69 11) - l2)) _ hI5 trivial (show xB (ma_put S 69 9 (.inl ((mI S 69 9) + (1 : Int32)))) (mR (ma_put S 69 9 (.inl ((mI S 69 9) + (1 : Int32)))) 70) from by first | (exact xB_x (xC_n (c := 69) (k := 9) (x := ((mI S 69 9) + (1 : Int32))) (xC_o (W := 75) hi1) ⟨by decide, Or.inl ⟨rfl, rfl⟩⟩).2)) (show aS 88 (ma_put S 69 9 (.inl ((mI S 69 9) + (1 : Int32)))) = aMv ab 0 ∧ ((mI S 69 11) - l2) = aMv ab 0 69 11 - ab 69 11 from by first | (have z := (xC_n (c := 69) (k := 9) (x := ((mI S 69 9) + (1 : Int32))) (xC_o (W := 88) hi1) ⟨by decide, Or.inr ⟨rfl, Or.inr ⟨rfl, by decide⟩⟩⟩).1; exact ⟨z.trans ((aMv_st (by omega)).symm.trans hi2), (by rw [← hi3, ← hi2, aMv_st (by omega), (aS_I (W := 88) (S := S) (c := 69) (c₉ := 69) (k := 11) rfl rfl)])⟩))
    · skip
      have g10 := i_nle h3
      have li11 : (0 : Int32).toInt = 0 := rfl
      refine zd (fun h12 => ?_) (fun h12 => ?_)
      · skip
        have g13 := i_lt h12
        have b14 := i_bd l2
        first | have e15 : (l3 + (1 : Int32)).toInt = l3.toInt + (1) := i_addk rfl (by omega) (by omega) | have b16 := i_bd (l3 + (1 : Int32))
        exact IH _ (by omega) _ (l2) ((l3 + (1 : Int32))) rfl hI (by omega) (show xB S (mR S 70) from by first | (exact xB_x (xC_o (W := 75) hi1).2)) (show aMv (aS 88 S) ((l3 + (1 : Int32))) = aMv ab 0 from by first | (exfalso; omega) | (exact (aMv_n (by omega) (fun z => by omega)).symm.trans hi2)) (show (l2) = ab 69 11 from by first | (exact hi3))
      · skip
        have g17 := i_nlt h12
        have li18 : (512 : Int32).toInt = 512 := rfl
        refine zd (fun h19 => ?_) (fun h19 => ?_)
        · skip
          have g20 := i_le h19
          have b21 := i_bd l2
          first | have e22 : (l3 + (1 : Int32)).toInt = l3.toInt + (1) := i_addk rfl (by omega) (by omega) | have b23 := i_bd (l3 + (1 : Int32))
          exact IH _ (by omega) _ (l2) ((l3 + (1 : Int32))) rfl hI (by omega) (show xB S (mR S 70) from by first | (exact xB_x (xC_o (W := 75) hi1).2)) (show aMv (aS 88 S) ((l3 + (1 : Int32))) = aMv ab 0 from by first | (exfalso; omega) | (exact (aMv_n (by omega) (fun z => by omega)).symm.trans hi2)) (show (l2) = ab 69 11 from by first | (exact hi3))
        · skip
          have g24 := i_nle h19
          refine ⟨i_ix (by omega) (by omega), ?_⟩
          refine ⟨fun hc => ?_, fun c1 hc => ?_⟩
          · skip
            have rn_c1 : zTa (mR S 70) l3 = none := (ta_rd (y := l3) hi1 (by omega) (by omega)).symm.trans hc
            have b25 := i_bd l2
            first | have e26 : (l3 + (1 : Int32)).toInt = l3.toInt + (1) := i_addk rfl (by omega) (by omega) | have b27 := i_bd (l3 + (1 : Int32))
            exact IH _ (by omega) _ (l2) ((l3 + (1 : Int32))) rfl hI (by omega) (show xB S (mR S 70) from by first | (exact xB_x (xC_o (W := 75) hi1).2)) (show aMv (aS 88 S) ((l3 + (1 : Int32))) = aMv ab 0 from by first | (exfalso; omega) | (exact (aMv_n (by omega) (fun z => xB_nt (W := 88) hi1 rn_c1 ⟨z.1, z.2.1, z.2.2.1⟩)).symm.trans hi2)) (show (l2) = ab 69 11 from by first | (exact hi3))
          · skip
            have th_c1 := (fun _ z => zG_70 hI (c := 70) (by decide) z) c1 hc
            have rg_c1 : zTa (mR S 70) l3 = some c1 := (ta_rd (y := l3) hi1 (by omega) (by omega)).symm.trans hc
            refine ⟨zG_n hI th_c1, ?_⟩
            have f28 := zG_th hI th_c1
            have b29 := i_bd (mI S 88 5)
            refine zd (fun h30 => ?_) (fun h30 => ?_)
            · skip
              have g31 := i_lt h30
              have b32 := i_bd l2
              first | have e33 : (l3 + (1 : Int32)).toInt = l3.toInt + (1) := i_addk rfl (by omega) (by omega) | have b34 := i_bd (l3 + (1 : Int32))
              exact IH _ (by omega) _ (l2) ((l3 + (1 : Int32))) rfl hI (by omega) (show xB S (mR S 70) from by first | (exact xB_x (xC_o (W := 75) hi1).2)) (show aMv (aS 88 S) ((l3 + (1 : Int32))) = aMv ab 0 from by first | (exfalso; omega) | (have ty := xB_th (W := 88) hi1 rg_c1; have e4 := congrArg Int32.toInt ty.2.2.2.2.2.1; refine (aMv_n (by omega) (fun z => ?_)).symm.trans hi2; have z4 : (mI S 88 5).toInt ≤ (mI S c1 4).toInt := (by rw [e4]; exact z.2.2.2.1); have z6 : (mI S 90 (mI S c1 0).toNatClampNeg).toInt = 0 := (by rw [ty.2.2.1]; exact congrArg Int32.toInt z.2.2.2.2); omega)) (show (l2) = ab 69 11 from by first | (exact hi3))
            · skip
              have g35 := i_nlt h30
              refine ⟨zG_n hI th_c1, ?_⟩
              have f36 := zG_th hI th_c1
              refine zd (fun h37 => ?_) (fun h37 => ?_)
              · skip
                have g38 := i_le h37
                refine sp_87_69_s (ab := (aS 88 S)) (R := (mR S 70)) (W := 88) (y := l3) c1 (by omega) (by omega) hI th_c1 (show xB S (mR S 70) from by first | (exact xB_x (xC_o (W := 75) hi1).2)) (show aS 88 S = (aS 88 S) from by first | (exact rfl)) (show xW 88 from by first | (exact xW88)) (show zTa (mR S 70) l3 = some c1 from by first | (exact rg_c1)) (fun S2 hI_S2 rp0_S2 rp1_S2 => zv_n ⟨zG_T hI_S2, ?_⟩)
                have rp0_S2 : xB S2 (zRu (mR S 70) l3.toNatClampNeg none) := rp0_S2
                have rp1_S2 : aS 88 S2 = aRm (aS 88 S) l3 := rp1_S2
                have b39 := i_bd l2
                first | have e40 : (l3 + (1 : Int32)).toInt = l3.toInt + (1) := i_addk rfl (by omega) (by omega) | have b41 := i_bd (l3 + (1 : Int32))
                exact IH _ (by omega) _ (l2) ((l3 + (1 : Int32))) rfl hI_S2 (by omega) (show xB S2 (mR S2 70) from by first | (exact xB_x (xC_o (W := 75) rp0_S2).2)) (show aMv (aS 88 S2) ((l3 + (1 : Int32))) = aMv ab 0 from by first | (exfalso; omega) | (have ty := xB_th (W := 88) hi1 rg_c1; have e4 := congrArg Int32.toInt ty.2.2.2.2.2.1; rw [rp1_S2]; refine (aMv_y (by omega) ⟨ty.1, ty.2.1, (by rw [ty.2.2.2.2.2.2.2.2]; decide), ?_, ?_⟩).symm.trans hi2; (show (mI S 88 5).toInt ≤ _; rw [← e4]; omega); (show mI S 90 _ = 0; rw [← ty.2.2.1]; assumption))) (show (l2) = ab 69 11 from by first | (exact hi3))
              · skip
                have g42 := i_nle h37
                refine ⟨zG_n hI th_c1, ?_⟩
                refine ⟨i_ix (by omega) (by omega), ?_⟩
                have b43 := i_bd (mI S 90 (mI S c1 0).toNatClampNeg)
                refine zd (fun h44 => ?_) (fun h44 => ?_)
                · skip
                  have g45 := i_eq h44
                  refine sp_87_69_s (ab := (aS 88 S)) (R := (mR S 70)) (W := 88) (y := l3) c1 (by omega) (by omega) hI th_c1 (show xB S (mR S 70) from by first | (exact xB_x (xC_o (W := 75) hi1).2)) (show aS 88 S = (aS 88 S) from by first | (exact rfl)) (show xW 88 from by first | (exact xW88)) (show zTa (mR S 70) l3 = some c1 from by first | (exact rg_c1)) (fun S4 hI_S4 rp0_S4 rp1_S4 => zv_n ⟨zG_T hI_S4, ?_⟩)
                  have rp0_S4 : xB S4 (zRu (mR S 70) l3.toNatClampNeg none) := rp0_S4
                  have rp1_S4 : aS 88 S4 = aRm (aS 88 S) l3 := rp1_S4
                  have b46 := i_bd l2
                  first | have e47 : (l3 + (1 : Int32)).toInt = l3.toInt + (1) := i_addk rfl (by omega) (by omega) | have b48 := i_bd (l3 + (1 : Int32))
                  exact IH _ (by omega) _ (l2) ((l3 + (1 : Int32))) rfl hI_S4 (by omega) (show xB S4 (mR S4 70) from by first | (exact xB_x (xC_o (W := 75) rp0_S4).2)) (show aMv (aS 88 S4) ((l3 + (1 : Int32))) = aMv ab 0 from by first | (exfalso; omega) | (have ty := xB_th (W := 88) hi1 rg_c1; have e4 := congrArg Int32.toInt ty.2.2.2.2.2.1; rw [rp1_S4]; refine (aMv_y (by omega) ⟨ty.1, ty.2.1, (by rw [ty.2.2.2.2.2.2.2.2]; decide), ?_, ?_⟩).symm.trans hi2; (show (mI S 88 5).toInt ≤ _; rw [← e4]; omega); (show mI S 90 _ = 0; rw [← ty.2.2.1]; assumption))) (show (l2) = ab 69 11 from by first | (exact hi3))
                · skip
                  have g49 := i_ne h44
                  have b50 := i_bd l2
                  first | have e51 : (l3 + (1 : Int32)).toInt = l3.toInt + (1) := i_addk rfl (by omega) (by omega) | have b52 := i_bd (l3 + (1 : Int32))
                  exact IH _ (by omega) _ (l2) ((l3 + (1 : Int32))) rfl hI (by omega) (show xB S (mR S 70) from by first | (exact xB_x (xC_o (W := 75) hi1).2)) (show aMv (aS 88 S) ((l3 + (1 : Int32))) = aMv ab 0 from by first | (exfalso; omega) | (have ty := xB_th (W := 88) hi1 rg_c1; have e4 := congrArg Int32.toInt ty.2.2.2.2.2.1; refine (aMv_n (by omega) (fun z => ?_)).symm.trans hi2; have z4 : (mI S 88 5).toInt ≤ (mI S c1 4).toInt := (by rw [e4]; exact z.2.2.2.1); have z6 : (mI S 90 (mI S c1 0).toNatClampNeg).toInt = 0 := (by rw [ty.2.2.1]; exact congrArg Int32.toInt z.2.2.2.2); omega)) (show (l2) = ab 69 11 from by first | (exact hi3))
theorem sp_86_69_88_s {X : Nat × (Nat → Int32)} {d w : Nat} {f : Nat → Nat → Int32} {r : Nat → Nat → Option Nat} {C Z N : Nat} {Q : Option ma_V ⊕ Nat → ma_S → Prop} {ab : Nat→Nat→Int32} {S : ma_S}  (hd : 2 ≤ d) (hw : 48 ≤ w) (hI : zI f r C Z N S) (hpre0 : xB S (mR S 70)) (hpre1 : aS 88 S = ab) (K : ∀ v S₉, zI f r C Z N S₉ → (True) → (xB S₉ (mR S₉ 70)) → (aS 88 S₉ = aMv ab 0 ∧ v = aMv ab 0 69 11 - ab 69 11) → Q (.inl (some (.inl v))) S₉) : ma_wp X d w 86 0 [(0, .inr (.inr (some 69))), (1, .inr (.inr (some 88)))] [] S Q := by
  refine g_86_69_88_s_0  (by omega) (by omega) (zG_T hI) ?_
  have b1 := i_bd (mI S 69 11)
  have li2 : (0 : Int32).toInt = 0 := rfl
  exact lp_86_69_88_s_7 (by omega) (by omega) K _ _ ((mI S 69 11)) ((0 : Int32)) rfl hI (by omega) (show xB S (mR S 70) from by first | (exact xB_x (xC_o (W := 75) hpre0).2)) (show aMv (aS 88 S) ((0 : Int32)) = aMv ab 0 from by first | (rw [hpre1]) | (exfalso; omega)) (show ((mI S 69 11)) = ab 69 11 from by first | (rw [← hpre1, (aS_I (W := 88) (S := S) (c := 69) (c₉ := 69) (k := 11) rfl rfl)]))
/-! a wish is taken -/
section TW
variable {a : Nat → Nat → Int32}
theorem aTw_y (h : 0 < (a 69 5).toInt) : aTw a = zSh (ma_u a 69 5 (a 69 5 - 1)) ((a 69 5).toInt - 1) := if_pos h
theorem aTw_n (h : ¬ 0 < (a 69 5).toInt) : aTw a = a := if_neg h
theorem aTy_y (h : 0 < (a 69 5).toInt) : aTy a = a 74 0 := if_pos h
theorem aTy_n (h : ¬ 0 < (a 69 5).toInt) : aTy a = -1 := if_neg h
end TW

/-! from 95.g13 -/
/-! the heap by numbers, the class (written by wip/tools/gen18.py) -/
theorem g_98_69_s_0 {X : Nat × (Nat → Int32)} {d w : Nat} {S : ma_S} {Q : Option ma_V ⊕ Nat → ma_S → Prop}  (hd : 1 ≤ d) (hw : 21 ≤ w) (hS : zT S) (h : if 0 < (mI S 69 5) then (if (mI S 74 0) < 0 then (ma_wp X d w 98 32 [(0, .inr (.inr (some 69))), (1, .inr (.inr none)), (2, .inl (0 : Int32))] [] (ma_put S 69 5 (.inl ((mI S 69 5) - (1 : Int32)))) Q) else (if (512 : Int32) ≤ (mI S 74 0) then (ma_wp X d w 98 32 [(0, .inr (.inr (some 69))), (1, .inr (.inr none)), (2, .inl (0 : Int32))] [] (ma_put S 69 5 (.inl ((mI S 69 5) - (1 : Int32)))) Q) else ((0 ≤ (mI S 74 0) ∧ (mI S 74 0).toNatClampNeg < 512) ∧ (ma_wp X d w 98 32 [(0, .inr (.inr (some 69))), (1, .inr (.inr (mR S 70 (mI S 74 0).toNatClampNeg))), (2, .inl (0 : Int32))] [] (ma_put S 69 5 (.inl ((mI S 69 5) - (1 : Int32)))) Q)))) else (Q (.inl (some (.inr (.inr none)))) S)) : ma_wp X d w 98 0 [(0, .inr (.inr (some 69)))] [] S Q := by
  refine zw_push hm_98 dX7_takeWish_0 (v := .inr (.inr (some 69))) rfl ?_
  refine zw_gf hm_98 dX7_takeWish_1 (v := .inl (mI S 69 5)) (zT_is hS s_69) (zT_t hS s_69) rfl f_7_36_7 rfl ?_
  refine zw_if0 hm_98 dX7_takeWish_4 (t := 9) rfl zc0_gt ?_ ?_
  · intro hc
    rw [if_pos hc] at h
    refine zw_push hm_98 dX7_takeWish_9 (v := .inr (.inr (some 69))) rfl ?_
    refine zw_push hm_98 dX7_takeWish_10 (v := .inr (.inr (some 69))) rfl ?_
    refine zw_gf hm_98 dX7_takeWish_11 (v := .inr (.inr (some 74))) (zT_is hS s_69) (zT_t hS s_69) rfl f_7_27_7 (zT_f hS r_69_4) ?_
    refine zw_push hm_98 dX7_takeWish_14 (v := .inl (0 : Int32)) rfl ?_
    refine zw_ia hm_98 dX7_takeWish_15 (zT_is hS s_74) (zT_h hS s_74) rfl ⟨by decide, by decide⟩ ?_
    show ma_wp X d w 98 16 [(0, .inr (.inr (some 69)))] [.inl (mI S 74 0), .inr (.inr (some 69))] S _
    refine zw_cv hm_98 dX7_takeWish_16 v_7_94_7 hm_81 [.inl (mI S 74 0)] [] rfl (zT_rt hS s_69 rfl) ⟨by omega, by omega⟩ rfl ?_
    show ma_wp X (d - 1) (w - 21) 81 0 [(0, .inr (.inr (some 69))), (1, .inl (mI S 74 0))] [] S _
    refine zw_push hm_81 dX7_thingAt_0 (v := .inl (mI S 74 0)) rfl ?_
    refine zw_if0 hm_81 dX7_thingAt_1 (t := 20) rfl zc0_lt ?_ ?_
    · intro hc
      rw [if_pos hc] at h
      refine zw_push hm_81 dX7_thingAt_20 (v := .inr (.inr none)) rfl ?_
      refine zw_aret hm_81 dX7_thingAt_21 ?_
      show ma_wp X d w 98 19 [(0, .inr (.inr (some 69)))] [.inr (.inr none)] S _
      refine zw_sto hm_98 dX7_takeWish_19 [(1, .inr (.inr none)), (0, .inr (.inr (some 69)))] rfl rfl rfl ?_
      refine zw_push hm_98 dX7_takeWish_20 (v := .inr (.inr (some 69))) rfl ?_
      refine zw_stk hm_98 dX7_takeWish_21 (st₉ := [.inr (.inr (some 69)), .inr (.inr (some 69))]) rfl rfl ?_
      refine zw_gf hm_98 dX7_takeWish_22 (v := .inl (mI S 69 5)) (zT_is hS s_69) (zT_t hS s_69) rfl f_7_36_7 rfl ?_
      refine zw_push hm_98 dX7_takeWish_25 (v := .inl (1 : Int32)) rfl ?_
      refine zw_stk hm_98 dX7_takeWish_26 (st₉ := [.inl ((mI S 69 5) - (1 : Int32)), .inr (.inr (some 69))]) rfl rfl ?_
      refine zw_pf hm_98 dX7_takeWish_27 (zT_is hS s_69) (zT_t hS s_69) p_7_36_7 zk_int ?_
      refine zw_push hm_98 dX7_takeWish_30 (v := .inl (0 : Int32)) rfl ?_
      refine zw_sto hm_98 dX7_takeWish_31 [(2, .inl (0 : Int32)), (1, .inr (.inr none)), (0, .inr (.inr (some 69)))] rfl rfl rfl ?_
      exact zw_sub (ma_nd_of (ks := [0, 1, 2]) rfl (by decide)) (ma_nd_of (ks := [2, 1, 0]) rfl (by decide)) (ma_le_cons rfl (ma_le_cons rfl (ma_le_cons rfl (ma_le_nil _)))) h
    · intro hc
      rw [if_neg hc] at h
      refine zw_push hm_81 dX7_thingAt_4 (v := .inl (mI S 74 0)) rfl ?_
      refine zw_push hm_81 dX7_thingAt_5 (v := .inl (512 : Int32)) rfl ?_
      refine zw_if2 hm_81 dX7_thingAt_8 (t := 20) rfl zc2_ge ?_ ?_
      · intro hc
        rw [if_pos hc] at h
        refine zw_push hm_81 dX7_thingAt_20 (v := .inr (.inr none)) rfl ?_
        refine zw_aret hm_81 dX7_thingAt_21 ?_
        show ma_wp X d w 98 19 [(0, .inr (.inr (some 69)))] [.inr (.inr none)] S _
        refine zw_sto hm_98 dX7_takeWish_19 [(1, .inr (.inr none)), (0, .inr (.inr (some 69)))] rfl rfl rfl ?_
        refine zw_push hm_98 dX7_takeWish_20 (v := .inr (.inr (some 69))) rfl ?_
        refine zw_stk hm_98 dX7_takeWish_21 (st₉ := [.inr (.inr (some 69)), .inr (.inr (some 69))]) rfl rfl ?_
        refine zw_gf hm_98 dX7_takeWish_22 (v := .inl (mI S 69 5)) (zT_is hS s_69) (zT_t hS s_69) rfl f_7_36_7 rfl ?_
        refine zw_push hm_98 dX7_takeWish_25 (v := .inl (1 : Int32)) rfl ?_
        refine zw_stk hm_98 dX7_takeWish_26 (st₉ := [.inl ((mI S 69 5) - (1 : Int32)), .inr (.inr (some 69))]) rfl rfl ?_
        refine zw_pf hm_98 dX7_takeWish_27 (zT_is hS s_69) (zT_t hS s_69) p_7_36_7 zk_int ?_
        refine zw_push hm_98 dX7_takeWish_30 (v := .inl (0 : Int32)) rfl ?_
        refine zw_sto hm_98 dX7_takeWish_31 [(2, .inl (0 : Int32)), (1, .inr (.inr none)), (0, .inr (.inr (some 69)))] rfl rfl rfl ?_
        exact zw_sub (ma_nd_of (ks := [0, 1, 2]) rfl (by decide)) (ma_nd_of (ks := [2, 1, 0]) rfl (by decide)) (ma_le_cons rfl (ma_le_cons rfl (ma_le_cons rfl (ma_le_nil _)))) h
      · intro hc
        rw [if_neg hc] at h
        refine zw_push hm_81 dX7_thingAt_11 (v := .inr (.inr (some 69))) rfl ?_
        refine zw_gf hm_81 dX7_thingAt_12 (v := .inr (.inr (some 70))) (zT_is hS s_69) (zT_t hS s_69) rfl f_7_11_7 (zT_f hS r_69_0) ?_
        refine zw_push hm_81 dX7_thingAt_15 (v := .inl (mI S 74 0)) rfl ?_
        obtain ⟨hg, h⟩ := h
        refine zw_aa hm_81 dX7_thingAt_16 (zT_is hS s_70) (zT_h hS s_70) rfl rfl hg rfl ?_
        show ma_wp X (d - 1) (w - 21) 81 17 [(0, .inr (.inr (some 69))), (1, .inl (mI S 74 0))] [.inr (.inr (mR S 70 (mI S 74 0).toNatClampNeg))] S _
        refine zw_goto hm_81 dX7_thingAt_17 (t := 21) rfl ?_
        refine zw_aret hm_81 dX7_thingAt_21 ?_
        show ma_wp X d w 98 19 [(0, .inr (.inr (some 69)))] [.inr (.inr (mR S 70 (mI S 74 0).toNatClampNeg))] S _
        refine zw_sto hm_98 dX7_takeWish_19 [(1, .inr (.inr (mR S 70 (mI S 74 0).toNatClampNeg))), (0, .inr (.inr (some 69)))] rfl rfl rfl ?_
        refine zw_push hm_98 dX7_takeWish_20 (v := .inr (.inr (some 69))) rfl ?_
        refine zw_stk hm_98 dX7_takeWish_21 (st₉ := [.inr (.inr (some 69)), .inr (.inr (some 69))]) rfl rfl ?_
        refine zw_gf hm_98 dX7_takeWish_22 (v := .inl (mI S 69 5)) (zT_is hS s_69) (zT_t hS s_69) rfl f_7_36_7 rfl ?_
        refine zw_push hm_98 dX7_takeWish_25 (v := .inl (1 : Int32)) rfl ?_
        refine zw_stk hm_98 dX7_takeWish_26 (st₉ := [.inl ((mI S 69 5) - (1 : Int32)), .inr (.inr (some 69))]) rfl rfl ?_
        refine zw_pf hm_98 dX7_takeWish_27 (zT_is hS s_69) (zT_t hS s_69) p_7_36_7 zk_int ?_
        refine zw_push hm_98 dX7_takeWish_30 (v := .inl (0 : Int32)) rfl ?_
        refine zw_sto hm_98 dX7_takeWish_31 [(2, .inl (0 : Int32)), (1, .inr (.inr (mR S 70 (mI S 74 0).toNatClampNeg))), (0, .inr (.inr (some 69)))] rfl rfl rfl ?_
        exact zw_sub (ma_nd_of (ks := [0, 1, 2]) rfl (by decide)) (ma_nd_of (ks := [2, 1, 0]) rfl (by decide)) (ma_le_cons rfl (ma_le_cons rfl (ma_le_cons rfl (ma_le_nil _)))) h
  · intro hc
    rw [if_neg hc] at h
    refine zw_push hm_98 dX7_takeWish_7 (v := .inr (.inr none)) rfl ?_
    exact zw_aret hm_98 dX7_takeWish_8 h
theorem g_98_69_s_32 {X : Nat × (Nat → Int32)} {d w : Nat} {S : ma_S} {Q : Option ma_V ⊕ Nat → ma_S → Prop} (l1 : Option Nat) (l2 : Int32) (hd : 1 ≤ d) (hw : 21 ≤ w) (hS : zT S) (h : if (mI S 69 5) ≤ l2 then ((l1 = none → Q (.inl (some (.inr (.inr none)))) S) ∧ (∀ c1, l1 = some c1 → (126 ≤ c1 ∧ c1 < mN S) ∧ ((126 ≤ c1 ∧ c1 < mN S) ∧ (Q (.inl (some (.inr (.inr (some c1))))) (ma_put S c1 6 (.inl ((mI S c1 6) - (1 : Int32)))))))) else ((0 ≤ (l2 + (1 : Int32)) ∧ (l2 + (1 : Int32)).toNatClampNeg < 512) ∧ ((0 ≤ l2 ∧ l2.toNatClampNeg < 512) ∧ (ma_wp X d w 98 32 [(0, .inr (.inr (some 69))), (1, .inr (.inr l1)), (2, .inl (l2 + (1 : Int32)))] [] (ma_put S 74 l2.toNatClampNeg (.inl (mI S 74 (l2 + (1 : Int32)).toNatClampNeg))) Q)))) : ma_wp X d w 98 32 [(0, .inr (.inr (some 69))), (1, .inr (.inr l1)), (2, .inl l2)] [] S Q := by
  refine zw_push hm_98 dX7_takeWish_32 (v := .inl l2) rfl ?_
  refine zw_push hm_98 dX7_takeWish_33 (v := .inr (.inr (some 69))) rfl ?_
  refine zw_gf hm_98 dX7_takeWish_34 (v := .inl (mI S 69 5)) (zT_is hS s_69) (zT_t hS s_69) rfl f_7_36_7 rfl ?_
  refine zw_if2 hm_98 dX7_takeWish_37 (t := 60) rfl zc2_ge ?_ ?_
  · intro hc
    rw [if_pos hc] at h
    refine zw_push hm_98 dX7_takeWish_60 (v := .inr (.inr l1)) rfl ?_
    refine zw_ifnull hm_98 dX7_takeWish_61 (t := 74) rfl ?_ ?_
    · intro hc
      have h := h.1 hc
      (try rw [hc])
      show ma_wp X d w 98 74 [(0, .inr (.inr (some 69))), (1, .inr (.inr none)), (2, .inl l2)] [] S _
      refine zw_push hm_98 dX7_takeWish_74 (v := .inr (.inr none)) rfl ?_
      exact zw_aret hm_98 dX7_takeWish_75 h
    · intro c1 hc
      have h := h.2 c1 hc
      (try rw [hc])
      show ma_wp X d w 98 64 [(0, .inr (.inr (some 69))), (1, .inr (.inr (some c1))), (2, .inl l2)] [] S _
      refine zw_push hm_98 dX7_takeWish_64 (v := .inr (.inr (some c1))) rfl ?_
      refine zw_stk hm_98 dX7_takeWish_65 (st₉ := [.inr (.inr (some c1)), .inr (.inr (some c1))]) rfl rfl ?_
      obtain ⟨hg, h⟩ := h
      refine zw_gf hm_98 dX7_takeWish_66 (v := .inl (mI S c1 6)) (zT_tis hS hg) (zT_tt hS hg) rfl f_7_98_9 rfl ?_
      refine zw_push hm_98 dX7_takeWish_69 (v := .inl (1 : Int32)) rfl ?_
      refine zw_stk hm_98 dX7_takeWish_70 (st₉ := [.inl ((mI S c1 6) - (1 : Int32)), .inr (.inr (some c1))]) rfl rfl ?_
      obtain ⟨hg, h⟩ := h
      refine zw_pf hm_98 dX7_takeWish_71 (zT_tis hS hg) (zT_tt hS hg) p_7_98_9 zk_int ?_
      refine zw_push hm_98 dX7_takeWish_74 (v := .inr (.inr (some c1))) rfl ?_
      exact zw_aret hm_98 dX7_takeWish_75 h
  · intro hc
    rw [if_neg hc] at h
    refine zw_push hm_98 dX7_takeWish_40 (v := .inr (.inr (some 69))) rfl ?_
    refine zw_gf hm_98 dX7_takeWish_41 (v := .inr (.inr (some 74))) (zT_is hS s_69) (zT_t hS s_69) rfl f_7_27_7 (zT_f hS r_69_4) ?_
    refine zw_push hm_98 dX7_takeWish_44 (v := .inl l2) rfl ?_
    refine zw_push hm_98 dX7_takeWish_45 (v := .inr (.inr (some 69))) rfl ?_
    refine zw_gf hm_98 dX7_takeWish_46 (v := .inr (.inr (some 74))) (zT_is hS s_69) (zT_t hS s_69) rfl f_7_27_7 (zT_f hS r_69_4) ?_
    refine zw_push hm_98 dX7_takeWish_49 (v := .inl l2) rfl ?_
    refine zw_push hm_98 dX7_takeWish_50 (v := .inl (1 : Int32)) rfl ?_
    refine zw_stk hm_98 dX7_takeWish_51 (st₉ := [.inl (l2 + (1 : Int32)), .inr (.inr (some 74)), .inl l2, .inr (.inr (some 74))]) rfl rfl ?_
    obtain ⟨hg, h⟩ := h
    refine zw_ia hm_98 dX7_takeWish_52 (zT_is hS s_74) (zT_h hS s_74) rfl hg ?_
    show ma_wp X d w 98 53 [(0, .inr (.inr (some 69))), (1, .inr (.inr l1)), (2, .inl l2)] [.inl (mI S 74 (l2 + (1 : Int32)).toNatClampNeg), .inl l2, .inr (.inr (some 74))] S _
    obtain ⟨hg, h⟩ := h
    refine zw_ias hm_98 dX7_takeWish_53 (zT_is hS s_74) (zT_h hS s_74) rfl hg ?_
    refine zw_sto hm_98 dX7_takeWish_54 [(2, .inl (l2 + (1 : Int32))), (0, .inr (.inr (some 69))), (1, .inr (.inr l1))] rfl rfl rfl ?_
    refine zw_goto hm_98 dX7_takeWish_57 (t := 32) rfl ?_
    exact zw_sub (ma_nd_of (ks := [0, 1, 2]) rfl (by decide)) (ma_nd_of (ks := [2, 0, 1]) rfl (by decide)) (ma_le_cons rfl (ma_le_cons rfl (ma_le_cons rfl (ma_le_nil _)))) h
theorem lp_98_69_s_32 {X : Nat × (Nat → Int32)} {d w : Nat} {f : Nat → Nat → Int32} {r : Nat → Nat → Option Nat} {C Z N : Nat} {Q : Option ma_V ⊕ Nat → ma_S → Prop} {ab : Nat→Nat→Int32} {R : zRT} {W : Nat} (hd : 1 ≤ d) (hw : 21 ≤ w) (K : ∀ v S₉, zI f r C Z N S₉ → (∀ c, v = some c → 126 ≤ c ∧ c < N) → (xB S₉ R) → (v = zTa R (aTy ab) ∧ aS W S₉ = aTw ab) → Q (.inl (some (.inr (.inr v)))) S₉) : ∀ (n : Nat) (S : ma_S) (l1 : Option Nat) (l2 : Int32), (512 - l2.toInt).toNat = n → zI f r C Z N S → (∀ c, l1 = some c → 126 ≤ c ∧ c < N) → (0 ≤ l2.toInt) → ((mI S 69 5).toInt ≤ 511) → (l2.toInt ≤ (mI S 69 5).toInt) → (xB S R) → (xW W) → (aS W S = zSh (ma_u ab 69 5 (ab 69 5 - 1)) l2.toInt) → (l1 = zTa R (ab 74 0)) → (0 < (ab 69 5).toInt ∧ (mI S 69 5).toInt = (ab 69 5).toInt - 1) → ma_wp X d w 98 32 [(0, .inr (.inr (some 69))), (1, .inr (.inr l1)), (2, .inl l2)] [] S Q := by
  intro n
  induction n using Nat.strongRecOn with
  | _ n IH =>
    intro S l1 l2 hmu hI th_l1 hi0 hi1 hi2 hi3 hi4 hi5 hi6 hi7
    refine g_98_69_s_32 l1 l2 (by omega) (by omega) (zG_T hI) ?_
    have f1 := zG_s hI (0) (512) (c := 69) (k := 5) (by decide)
    have b2 := i_bd l2
    refine zd (fun h3 => ?_) (fun h3 => ?_)
    · skip
      have g4 := i_le h3
      refine ⟨fun hc => ?_, fun c1 hc => ?_⟩
      · skip
        have rn_c1 : zTa R (ab 74 0) = none := hi6.symm.trans hc
        exact K (none) _ hI (fun _ z => by cases z) (show xB S R from by first | (exact (xC_o (W := 75) hi3).2)) (show none = zTa R (aTy ab) ∧ aS W S = aTw ab from by first | (rw [aTy_y hi7.1, aTw_y hi7.1]; refine ⟨rn_c1.symm, (xC_o (W := W) hi3).1.trans ?_⟩; rw [hi5, show l2.toInt = (ab 69 5).toInt - 1 from (by have q := hi7; omega)]))
      · skip
        have th_c1 := th_l1 c1 hc
        have rg_c1 : zTa R (ab 74 0) = some c1 := hi6.symm.trans hc
        subst hc
        refine ⟨zG_n hI th_c1, ?_⟩
        refine ⟨zG_n hI th_c1, ?_⟩
        have hI5 : zI f r C Z N (ma_put S c1 6 (.inl ((mI S c1 6) - (1 : Int32)))) := zG_tf hI th_c1.1 zI_t (by decide) (by decide) trivial (by decide) (by decide) (by decide)
        exact K ((some c1)) _ hI5 (fun _ z => by cases z; exact th_c1) (show xB (ma_put S c1 6 (.inl ((mI S c1 6) - (1 : Int32)))) R from by first | (exact (xC_6 (k := 6) (x := ((mI S c1 6) - (1 : Int32))) (xC_o (W := 75) hi3) xW75 th_c1.1 rfl (by decide)).2)) (show (some c1) = zTa R (aTy ab) ∧ aS W (ma_put S c1 6 (.inl ((mI S c1 6) - (1 : Int32)))) = aTw ab from by first | (rw [aTy_y hi7.1, aTw_y hi7.1]; refine ⟨rg_c1.symm, (xC_6 (k := 6) (x := ((mI S c1 6) - (1 : Int32))) (xC_o (W := W) hi3) hi4 th_c1.1 rfl (by decide)).1.trans ?_⟩; rw [hi5, show l2.toInt = (ab 69 5).toInt - 1 from (by have q := hi7; omega)]))
    · skip
      have g6 := i_nle h3
      first | have e7 : (l2 + (1 : Int32)).toInt = l2.toInt + (1) := i_addk rfl (by omega) (by omega) | have b8 := i_bd (l2 + (1 : Int32))
      refine ⟨i_ix (by omega) (by omega), ?_⟩
      refine ⟨i_ix (by omega) (by omega), ?_⟩
      have hI9 : zI f r C Z N (ma_put S 74 l2.toNatClampNeg (.inl (mI S 74 (l2 + (1 : Int32)).toNatClampNeg))) := zG_fa hI rfl (by decide) (by decide) (by decide) trivial
      exact IH _ (by omega) _ (l1) ((l2 + (1 : Int32))) rfl hI9 th_l1 (by omega) (show (mI S 69 5).toInt ≤ 511 from by omega) (show ((l2 + (1 : Int32))).toInt ≤ (mI S 69 5).toInt from by omega) (show xB (ma_put S 74 l2.toNatClampNeg (.inl (mI S 74 (l2 + (1 : Int32)).toNatClampNeg))) R from by first | (exact (xC_p (c := 74) (k := l2.toNatClampNeg) (x := (mI S 74 (l2 + (1 : Int32)).toNatClampNeg)) (xC_o (W := 75) hi3) 74 xW75 rfl rfl).2)) (show xW W from by first | (exact hi4) | (exact xW88)) (show aS W (ma_put S 74 l2.toNatClampNeg (.inl (mI S 74 (l2 + (1 : Int32)).toNatClampNeg))) = zSh (ma_u ab 69 5 (ab 69 5 - 1)) ((l2 + (1 : Int32))).toInt from by first | (refine (xC_p (c := 74) (k := l2.toNatClampNeg) (x := (mI S 74 (l2 + (1 : Int32)).toNatClampNeg)) (xC_o (W := W) hi3) 74 hi4 rfl (zcw_s (by decide))).1.trans ?_; skip; rw [hi5, ← zSh_s (by omega) (by omega)]; refine congrArg (ma_u _ 74 _) ?_; rw [← (aS_I (W := W) (S := S) (c := 74) (c₉ := 74) (k := (l2 + (1 : Int32)).toNatClampNeg) rfl (zcw_s (by decide))), hi5, zSh_r (by omega) (by omega)])) (show l1 = zTa R (ab 74 0) from by first | (exact hi6)) (show 0 < (ab 69 5).toInt ∧ (mI S 69 5).toInt = (ab 69 5).toInt - 1 from by first | (exact hi7))
theorem sp_98_69_s {X : Nat × (Nat → Int32)} {d w : Nat} {f : Nat → Nat → Int32} {r : Nat → Nat → Option Nat} {C Z N : Nat} {Q : Option ma_V ⊕ Nat → ma_S → Prop} {ab : Nat→Nat→Int32} {R : zRT} {W : Nat} {S : ma_S}  (hd : 1 ≤ d) (hw : 21 ≤ w) (hI : zI f r C Z N S) (hpre0 : xB S R) (hpre1 : aS W S = ab) (hpre2 : xW W) (K : ∀ v S₉, zI f r C Z N S₉ → (∀ c, v = some c → 126 ≤ c ∧ c < N) → (xB S₉ R) → (v = zTa R (aTy ab) ∧ aS W S₉ = aTw ab) → Q (.inl (some (.inr (.inr v)))) S₉) : ma_wp X d w 98 0 [(0, .inr (.inr (some 69)))] [] S Q := by
  refine g_98_69_s_0  (by omega) (by omega) (zG_T hI) ?_
  have li1 : (0 : Int32).toInt = 0 := rfl
  have f2 := zG_s hI (0) (512) (c := 69) (k := 5) (by decide)
  refine zd (fun h3 => ?_) (fun h3 => ?_)
  · skip
    have g4 := i_lt h3
    have b5 := i_bd (mI S 74 0)
    refine zd (fun h6 => ?_) (fun h6 => ?_)
    · skip
      have g7 := i_lt h6
      first | have e9 : ((mI S 69 5) - (1 : Int32)).toInt = (mI S 69 5).toInt - (1) := i_subk rfl (by omega) (by omega) | have b10 := i_bd ((mI S 69 5) - (1 : Int32))
      have hI8 : zI f r C Z N (ma_put S 69 5 (.inl ((mI S 69 5) - (1 : Int32)))) := zG_sp hI (0) (512) rfl (by decide) (by decide) (by decide) trivial (by omega) (by omega)
      exact lp_98_69_s_32 (by omega) (by omega) K _ _ (none) ((0 : Int32)) rfl hI8 (fun _ z => by cases z) (by omega) (show ((mI S 69 5) - (1 : Int32)).toInt ≤ 511 from by omega) (show ((0 : Int32)).toInt ≤ ((mI S 69 5) - (1 : Int32)).toInt from by omega) (show xB (ma_put S 69 5 (.inl ((mI S 69 5) - (1 : Int32)))) R from by first | (exact (xC_p (c := 69) (k := 5) (x := ((mI S 69 5) - (1 : Int32))) (xC_o (W := 75) hpre0) 69 xW75 rfl rfl).2)) (show xW W from by first | (exact hpre2) | (exact xW88)) (show aS W (ma_put S 69 5 (.inl ((mI S 69 5) - (1 : Int32)))) = zSh (ma_u ab 69 5 (ab 69 5 - 1)) ((0 : Int32)).toInt from by first | (refine (xC_p (c := 69) (k := 5) (x := ((mI S 69 5) - (1 : Int32))) (xC_o (W := W) hpre0) 69 hpre2 rfl (zcw_s (by decide))).1.trans ?_; skip; rw [hpre1, zSh_0, ← hpre1, (aS_I (W := W) (S := S) (c := 69) (c₉ := 69) (k := 5) rfl (zcw_s (by decide)))]; rfl) | (refine (xC_p (c := 69) (k := 5) (x := ((mI S 69 5) - (1 : Int32))) (xC_o (W := W) hpre0) 69 hpre2 rfl (zcw_s (by decide))).1.trans ?_; skip; rw [show (0 : Int32).toInt = 0 from rfl, zSh_0, ← hpre1, (aS_I (W := W) (S := S) (c := 69) (c₉ := 69) (k := 5) rfl (zcw_s (by decide)))])) (show none = zTa R (ab 74 0) from by first | (rw [← hpre1, (aS_I (W := W) (S := S) (c := 74) (c₉ := 74) (k := 0) rfl (zcw_s (by decide)))]; exact ta_no (by omega))) (show 0 < (ab 69 5).toInt ∧ ((mI S 69 5) - (1 : Int32)).toInt = (ab 69 5).toInt - 1 from by first | (have q5 := congrArg Int32.toInt (aS_I (W := W) (S := S) (c := 69) (c₉ := 69) (k := 5) rfl (zcw_s (by decide))); rw [hpre1] at q5; omega))
    · skip
      have g11 := i_nlt h6
      have li12 : (512 : Int32).toInt = 512 := rfl
      refine zd (fun h13 => ?_) (fun h13 => ?_)
      · skip
        have g14 := i_le h13
        first | have e16 : ((mI S 69 5) - (1 : Int32)).toInt = (mI S 69 5).toInt - (1) := i_subk rfl (by omega) (by omega) | have b17 := i_bd ((mI S 69 5) - (1 : Int32))
        have hI15 : zI f r C Z N (ma_put S 69 5 (.inl ((mI S 69 5) - (1 : Int32)))) := zG_sp hI (0) (512) rfl (by decide) (by decide) (by decide) trivial (by omega) (by omega)
        exact lp_98_69_s_32 (by omega) (by omega) K _ _ (none) ((0 : Int32)) rfl hI15 (fun _ z => by cases z) (by omega) (show ((mI S 69 5) - (1 : Int32)).toInt ≤ 511 from by omega) (show ((0 : Int32)).toInt ≤ ((mI S 69 5) - (1 : Int32)).toInt from by omega) (show xB (ma_put S 69 5 (.inl ((mI S 69 5) - (1 : Int32)))) R from by first | (exact (xC_p (c := 69) (k := 5) (x := ((mI S 69 5) - (1 : Int32))) (xC_o (W := 75) hpre0) 69 xW75 rfl rfl).2)) (show xW W from by first | (exact hpre2) | (exact xW88)) (show aS W (ma_put S 69 5 (.inl ((mI S 69 5) - (1 : Int32)))) = zSh (ma_u ab 69 5 (ab 69 5 - 1)) ((0 : Int32)).toInt from by first | (refine (xC_p (c := 69) (k := 5) (x := ((mI S 69 5) - (1 : Int32))) (xC_o (W := W) hpre0) 69 hpre2 rfl (zcw_s (by decide))).1.trans ?_; skip; rw [hpre1, zSh_0, ← hpre1, (aS_I (W := W) (S := S) (c := 69) (c₉ := 69) (k := 5) rfl (zcw_s (by decide)))]; rfl) | (refine (xC_p (c := 69) (k := 5) (x := ((mI S 69 5) - (1 : Int32))) (xC_o (W := W) hpre0) 69 hpre2 rfl (zcw_s (by decide))).1.trans ?_; skip; rw [show (0 : Int32).toInt = 0 from rfl, zSh_0, ← hpre1, (aS_I (W := W) (S := S) (c := 69) (c₉ := 69) (k := 5) rfl (zcw_s (by decide)))])) (show none = zTa R (ab 74 0) from by first | (rw [← hpre1, (aS_I (W := W) (S := S) (c := 74) (c₉ := 74) (k := 0) rfl (zcw_s (by decide)))]; exact ta_no (by omega))) (show 0 < (ab 69 5).toInt ∧ ((mI S 69 5) - (1 : Int32)).toInt = (ab 69 5).toInt - 1 from by first | (have q5 := congrArg Int32.toInt (aS_I (W := W) (S := S) (c := 69) (c₉ := 69) (k := 5) rfl (zcw_s (by decide))); rw [hpre1] at q5; omega))
      · skip
        have g18 := i_nle h13
        refine ⟨i_ix (by omega) (by omega), ?_⟩
        first | have e20 : ((mI S 69 5) - (1 : Int32)).toInt = (mI S 69 5).toInt - (1) := i_subk rfl (by omega) (by omega) | have b21 := i_bd ((mI S 69 5) - (1 : Int32))
        have hI19 : zI f r C Z N (ma_put S 69 5 (.inl ((mI S 69 5) - (1 : Int32)))) := zG_sp hI (0) (512) rfl (by decide) (by decide) (by decide) trivial (by omega) (by omega)
        exact lp_98_69_s_32 (by omega) (by omega) K _ _ ((mR S 70 (mI S 74 0).toNatClampNeg)) ((0 : Int32)) rfl hI19 (fun _ z => zG_70 hI (c := 70) (by decide) z) (by omega) (show ((mI S 69 5) - (1 : Int32)).toInt ≤ 511 from by omega) (show ((0 : Int32)).toInt ≤ ((mI S 69 5) - (1 : Int32)).toInt from by omega) (show xB (ma_put S 69 5 (.inl ((mI S 69 5) - (1 : Int32)))) R from by first | (exact (xC_p (c := 69) (k := 5) (x := ((mI S 69 5) - (1 : Int32))) (xC_o (W := 75) hpre0) 69 xW75 rfl rfl).2)) (show xW W from by first | (exact hpre2) | (exact xW88)) (show aS W (ma_put S 69 5 (.inl ((mI S 69 5) - (1 : Int32)))) = zSh (ma_u ab 69 5 (ab 69 5 - 1)) ((0 : Int32)).toInt from by first | (refine (xC_p (c := 69) (k := 5) (x := ((mI S 69 5) - (1 : Int32))) (xC_o (W := W) hpre0) 69 hpre2 rfl (zcw_s (by decide))).1.trans ?_; skip; rw [hpre1, zSh_0, ← hpre1, (aS_I (W := W) (S := S) (c := 69) (c₉ := 69) (k := 5) rfl (zcw_s (by decide)))]; rfl) | (refine (xC_p (c := 69) (k := 5) (x := ((mI S 69 5) - (1 : Int32))) (xC_o (W := W) hpre0) 69 hpre2 rfl (zcw_s (by decide))).1.trans ?_; skip; rw [show (0 : Int32).toInt = 0 from rfl, zSh_0, ← hpre1, (aS_I (W := W) (S := S) (c := 69) (c₉ := 69) (k := 5) rfl (zcw_s (by decide)))])) (show (mR S 70 (mI S 74 0).toNatClampNeg) = zTa R (ab 74 0) from by first | (rw [← hpre1, (aS_I (W := W) (S := S) (c := 74) (c₉ := 74) (k := 0) rfl (zcw_s (by decide)))]; exact ta_rd hpre0 (by omega) (by omega))) (show 0 < (ab 69 5).toInt ∧ ((mI S 69 5) - (1 : Int32)).toInt = (ab 69 5).toInt - 1 from by first | (have q5 := congrArg Int32.toInt (aS_I (W := W) (S := S) (c := 69) (c₉ := 69) (k := 5) rfl (zcw_s (by decide))); rw [hpre1] at q5; omega))
  · skip
    have g22 := i_nlt h3
    exact K (none) _ hI (fun _ z => by cases z) (show xB S R from by first | (exact (xC_o (W := 75) hpre0).2)) (show none = zTa R (aTy ab) ∧ aS W S = aTw ab from by first | (have q5 := congrArg Int32.toInt (aS_I (W := W) (S := S) (c := 69) (c₉ := 69) (k := 5) rfl (zcw_s (by decide))); rw [hpre1] at q5; rw [aTy_n (by omega), aTw_n (by omega)]; exact ⟨ta_m1, hpre1⟩))
/-! IN STEPS -/
def aB0 (a : Nat → Nat → Int32) : Nat → Nat → Int32 := aRo (aWh (ma_u a 87 8 1) 0) 0
def aBg (a : Nat → Nat → Int32) : Nat → Nat → Int32 := if a 87 8 = 0 then aB0 a else a
def aNw (a : Nat → Nat → Int32) : Nat → Nat → Int32 := if a 87 7 = 1 then aRo a 0 else a
def aFi (a : Nat → Nat → Int32) : Nat → Nat → Int32 := aMv (aGw (ma_u a 87 8 0) 0) 0
def aFv (a : Nat → Nat → Int32) : Int32 := aFi a 69 11 - aGw (ma_u a 87 8 0) 0 69 11
/-- an empty queue ends it, unless news came -/
def aLk (a : Nat → Nat → Int32) : Nat → Nat → Int32 := if (a 75 3).toInt < (a 75 4).toInt then a else if (aNw a 75 3).toInt < (aNw a 75 4).toInt then aNw a else aFi (aNw a)
def aGo (a : Nat → Nat → Int32) (m : Nat) : Nat → Nat → Int32 := if a 87 8 = 0 then a else aLk (aSp m a)
def aGv (a : Nat → Nat → Int32) (m : Nat) : Int := if a 87 8 = 0 then 0 else (aSn m a : Int)
/-- steps as long as news come -/
def aC2 : Nat → (Nat → Nat → Int32) → Nat → Nat → Int32
  | 0, a => a
  | k + 1, a => if (aNw a 75 3).toInt < (aNw a 75 4).toInt then aC2 k (aSp 512 (aNw a)) else aNw a
def aC1 (a : Nat → Nat → Int32) : Nat → Nat → Int32 := aC2 512 (aSp 512 (aBg a))
def aCl (a : Nat → Nat → Int32) : Nat → Nat → Int32 := aFi (aC1 a)
section ST3
variable {a b c : Nat → Nat → Int32} {m k : Nat}
theorem aBg_y (h : a 87 8 = 0) : aBg a = aB0 a := if_pos h
theorem aBg_n (h : ¬ a 87 8 = 0) : aBg a = a := if_neg h
theorem aNw_y (h : a 87 7 = 1) : aNw a = aRo a 0 := if_pos h
theorem aNw_n (h : ¬ a 87 7 = 1) : aNw a = a := if_neg h
theorem aGo_0 (h : a 87 8 = 0) : aGo a m = a := if_pos h
theorem aGv_0 (h : a 87 8 = 0) : aGv a m = 0 := if_pos h
theorem aGv_1 (h : ¬ a 87 8 = 0) : aGv a m = (aSn m a : Int) := if_neg h
theorem aGo_1 (h : ¬ a 87 8 = 0) (e : b = aSp m a) (h1 : (b 75 3).toInt < (b 75 4).toInt) : aGo a m = b := by
  unfold aGo aLk
  rw [if_neg h, ← e, if_pos h1]
theorem aGo_2 (h : ¬ a 87 8 = 0) (e : b = aSp m a) (h1 : ¬ (b 75 3).toInt < (b 75 4).toInt) (h2 : (aNw b 75 3).toInt < (aNw b 75 4).toInt) : aGo a m = aNw b := by
  unfold aGo aLk
  rw [if_neg h, ← e, if_neg h1, if_pos h2]
theorem aGo_3 (h : ¬ a 87 8 = 0) (e : b = aSp m a) (h1 : ¬ (b 75 3).toInt < (b 75 4).toInt) (h2 : ¬ (aNw b 75 3).toInt < (aNw b 75 4).toInt) : aGo a m = aFi (aNw b) := by
  unfold aGo aLk
  rw [if_neg h, ← e, if_neg h1, if_neg h2]
theorem aC2_y (h2 : (aNw a 75 3).toInt < (aNw a 75 4).toInt) : aC2 (k + 1) a = aC2 k (aSp 512 (aNw a)) := if_pos h2
theorem aC2_n (h2 : ¬ (aNw a 75 3).toInt < (aNw a 75 4).toInt) : aC2 (k + 1) a = aNw a := if_neg h2
end ST3

