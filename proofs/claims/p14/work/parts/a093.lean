/-! from 95.g24 -/
/-! the heap by numbers, the class (written by wip/tools/gen18.py) -/
theorem g_92_69_s_0 {X : Nat × (Nat → Int32)} {d w : Nat} {S : ma_S} {Q : Option ma_V ⊕ Nat → ma_S → Prop} (i : Int32) (x : Option Nat) (hd : 1 ≤ d) (hw : 21 ≤ w) (hS : zT S) (h : if i < 0 then (Q (.inl (some (.inr (.inr none)))) S) else (if i < (16 : Int32) then ((0 ≤ i ∧ i.toNatClampNeg < 16) ∧ (if (mI S 72 i.toNatClampNeg) < 0 then ((x = none → (0 ≤ i ∧ i.toNatClampNeg < 16) ∧ (ma_wp X (d - 1) (w - 21) 93 0 [(0, .inr (.inr none)), (1, .inr (.inr none))] [] (ma_put S 72 i.toNatClampNeg (.inl (-1 : Int32))) (zv (fun S2 => zT S2 ∧ (Q (.inl (some (.inr (.inr none)))) S2)) (fun _ _ => False)))) ∧ (∀ c1, x = some c1 → (126 ≤ c1 ∧ c1 < mN S) ∧ ((0 ≤ i ∧ i.toNatClampNeg < 16) ∧ (ma_wp X (d - 1) (w - 21) 93 0 [(0, .inr (.inr none)), (1, .inr (.inr (some c1)))] [] (ma_put S 72 i.toNatClampNeg (.inl (mI S c1 0))) (zv (fun S4 => zT S4 ∧ (Q (.inl (some (.inr (.inr none)))) S4)) (fun _ _ => False)))))) else (if (512 : Int32) ≤ (mI S 72 i.toNatClampNeg) then ((x = none → (0 ≤ i ∧ i.toNatClampNeg < 16) ∧ (ma_wp X (d - 1) (w - 21) 93 0 [(0, .inr (.inr none)), (1, .inr (.inr none))] [] (ma_put S 72 i.toNatClampNeg (.inl (-1 : Int32))) (zv (fun S7 => zT S7 ∧ (Q (.inl (some (.inr (.inr none)))) S7)) (fun _ _ => False)))) ∧ (∀ c6, x = some c6 → (126 ≤ c6 ∧ c6 < mN S) ∧ ((0 ≤ i ∧ i.toNatClampNeg < 16) ∧ (ma_wp X (d - 1) (w - 21) 93 0 [(0, .inr (.inr none)), (1, .inr (.inr (some c6)))] [] (ma_put S 72 i.toNatClampNeg (.inl (mI S c6 0))) (zv (fun S9 => zT S9 ∧ (Q (.inl (some (.inr (.inr none)))) S9)) (fun _ _ => False)))))) else ((0 ≤ (mI S 72 i.toNatClampNeg) ∧ (mI S 72 i.toNatClampNeg).toNatClampNeg < 512) ∧ ((x = none → (0 ≤ i ∧ i.toNatClampNeg < 16) ∧ (ma_wp X (d - 1) (w - 21) 93 0 [(0, .inr (.inr (mR S 70 (mI S 72 i.toNatClampNeg).toNatClampNeg))), (1, .inr (.inr none))] [] (ma_put S 72 i.toNatClampNeg (.inl (-1 : Int32))) (zv (fun S12 => zT S12 ∧ (Q (.inl (some (.inr (.inr (mR S 70 (mI S 72 i.toNatClampNeg).toNatClampNeg))))) S12)) (fun _ _ => False)))) ∧ (∀ c11, x = some c11 → (126 ≤ c11 ∧ c11 < mN S) ∧ ((0 ≤ i ∧ i.toNatClampNeg < 16) ∧ (ma_wp X (d - 1) (w - 21) 93 0 [(0, .inr (.inr (mR S 70 (mI S 72 i.toNatClampNeg).toNatClampNeg))), (1, .inr (.inr (some c11)))] [] (ma_put S 72 i.toNatClampNeg (.inl (mI S c11 0))) (zv (fun S14 => zT S14 ∧ (Q (.inl (some (.inr (.inr (mR S 70 (mI S 72 i.toNatClampNeg).toNatClampNeg))))) S14)) (fun _ _ => False)))))))))) else (Q (.inl (some (.inr (.inr none)))) S))) : ma_wp X d w 92 0 [(0, .inr (.inr (some 69))), (1, .inl i), (2, .inr (.inr x))] [] S Q := by
  refine zw_push hm_92 dX7_changeRoot_0 (v := .inl i) rfl ?_
  refine zw_if0 hm_92 dX7_changeRoot_1 (t := 10) rfl zc0_lt ?_ ?_
  · intro hc
    rw [if_pos hc] at h
    refine zw_push hm_92 dX7_changeRoot_10 (v := .inr (.inr none)) rfl ?_
    exact zw_aret hm_92 dX7_changeRoot_11 h
  · intro hc
    rw [if_neg hc] at h
    refine zw_push hm_92 dX7_changeRoot_4 (v := .inl i) rfl ?_
    refine zw_push hm_92 dX7_changeRoot_5 (v := .inl (16 : Int32)) rfl ?_
    refine zw_if2 hm_92 dX7_changeRoot_7 (t := 12) rfl zc2_lt ?_ ?_
    · intro hc
      rw [if_pos hc] at h
      refine zw_push hm_92 dX7_changeRoot_12 (v := .inr (.inr (some 69))) rfl ?_
      refine zw_push hm_92 dX7_changeRoot_13 (v := .inr (.inr (some 69))) rfl ?_
      refine zw_gf hm_92 dX7_changeRoot_14 (v := .inr (.inr (some 72))) (zT_is hS s_69) (zT_t hS s_69) rfl f_7_21_7 (zT_f hS r_69_2) ?_
      refine zw_push hm_92 dX7_changeRoot_17 (v := .inl i) rfl ?_
      obtain ⟨hg, h⟩ := h
      refine zw_ia hm_92 dX7_changeRoot_18 (zT_is hS s_72) (zT_h hS s_72) rfl hg ?_
      show ma_wp X d w 92 19 [(0, .inr (.inr (some 69))), (1, .inl i), (2, .inr (.inr x))] [.inl (mI S 72 i.toNatClampNeg), .inr (.inr (some 69))] S _
      refine zw_cv hm_92 dX7_changeRoot_19 v_7_94_7 hm_81 [.inl (mI S 72 i.toNatClampNeg)] [] rfl (zT_rt hS s_69 rfl) ⟨by omega, by omega⟩ rfl ?_
      show ma_wp X (d - 1) (w - 21) 81 0 [(0, .inr (.inr (some 69))), (1, .inl (mI S 72 i.toNatClampNeg))] [] S _
      refine zw_push hm_81 dX7_thingAt_0 (v := .inl (mI S 72 i.toNatClampNeg)) rfl ?_
      refine zw_if0 hm_81 dX7_thingAt_1 (t := 20) rfl zc0_lt ?_ ?_
      · intro hc
        rw [if_pos hc] at h
        refine zw_push hm_81 dX7_thingAt_20 (v := .inr (.inr none)) rfl ?_
        refine zw_aret hm_81 dX7_thingAt_21 ?_
        show ma_wp X d w 92 22 [(0, .inr (.inr (some 69))), (1, .inl i), (2, .inr (.inr x))] [.inr (.inr none)] S _
        refine zw_sto hm_92 dX7_changeRoot_22 [(3, .inr (.inr none)), (0, .inr (.inr (some 69))), (1, .inl i), (2, .inr (.inr x))] rfl rfl rfl ?_
        refine zw_push hm_92 dX7_changeRoot_23 (v := .inr (.inr (some 69))) rfl ?_
        refine zw_gf hm_92 dX7_changeRoot_24 (v := .inr (.inr (some 72))) (zT_is hS s_69) (zT_t hS s_69) rfl f_7_21_7 (zT_f hS r_69_2) ?_
        refine zw_push hm_92 dX7_changeRoot_27 (v := .inl i) rfl ?_
        refine zw_push hm_92 dX7_changeRoot_28 (v := .inr (.inr x)) rfl ?_
        refine zw_cs hm_92 dX7_changeRoot_29 pn_7_82 sl_7_82 hm_146 [.inr (.inr x)] [.inl i, .inr (.inr (some 72))] rfl ⟨by omega, by omega⟩ rfl ?_
        show ma_wp X (d - 1) (w - 20) 146 0 [(0, .inr (.inr x))] [] S _
        refine zw_push hm_146 dX11_numberOf_0 (v := .inr (.inr x)) rfl ?_
        refine zw_ifnonnull hm_146 dX11_numberOf_1 (t := 8) rfl ?_ ?_
        · intro hc
          have h := h.1 hc
          (try rw [hc])
          show ma_wp X (d - 1) (w - 20) 146 4 [(0, .inr (.inr none))] [] S _
          refine zw_push hm_146 dX11_numberOf_4 (v := .inl (-1 : Int32)) rfl ?_
          refine zw_goto hm_146 dX11_numberOf_5 (t := 12) rfl ?_
          refine zw_iret hm_146 dX11_numberOf_12 ?_
          show ma_wp X d w 92 32 [(3, .inr (.inr none)), (0, .inr (.inr (some 69))), (1, .inl i), (2, .inr (.inr none))] [.inl (-1 : Int32), .inl i, .inr (.inr (some 72))] S _
          obtain ⟨hg, h⟩ := h
          refine zw_ias hm_92 dX7_changeRoot_32 (zT_is hS s_72) (zT_h hS s_72) rfl hg ?_
          refine zw_push hm_92 dX7_changeRoot_33 (v := .inr (.inr none)) rfl ?_
          refine zw_push hm_92 dX7_changeRoot_34 (v := .inr (.inr none)) rfl ?_
          refine zw_cs hm_92 dX7_changeRoot_35 pn_7_90 sl_7_90 hm_93 [.inr (.inr none), .inr (.inr none)] [] rfl ⟨by omega, by omega⟩ rfl (zw_mono h (zv_go ?_ ?_))
          · intro S2 hv
            obtain ⟨hS2, h⟩ := hv
            refine zw_push hm_92 dX7_changeRoot_38 (v := .inr (.inr none)) rfl ?_
            exact zw_aret hm_92 dX7_changeRoot_39 h
          · intro x S9 hx
            exact hx.elim
        · intro c1 hc
          have h := h.2 c1 hc
          (try rw [hc])
          show ma_wp X (d - 1) (w - 20) 146 8 [(0, .inr (.inr (some c1)))] [] S _
          refine zw_push hm_146 dX11_numberOf_8 (v := .inr (.inr (some c1))) rfl ?_
          obtain ⟨hg, h⟩ := h
          refine zw_gf hm_146 dX11_numberOf_9 (v := .inl (mI S c1 0)) (zT_tis hS hg) (zT_tt hS hg) rfl f_11_182_9 rfl ?_
          refine zw_iret hm_146 dX11_numberOf_12 ?_
          show ma_wp X d w 92 32 [(3, .inr (.inr none)), (0, .inr (.inr (some 69))), (1, .inl i), (2, .inr (.inr (some c1)))] [.inl (mI S c1 0), .inl i, .inr (.inr (some 72))] S _
          obtain ⟨hg, h⟩ := h
          refine zw_ias hm_92 dX7_changeRoot_32 (zT_is hS s_72) (zT_h hS s_72) rfl hg ?_
          refine zw_push hm_92 dX7_changeRoot_33 (v := .inr (.inr none)) rfl ?_
          refine zw_push hm_92 dX7_changeRoot_34 (v := .inr (.inr (some c1))) rfl ?_
          refine zw_cs hm_92 dX7_changeRoot_35 pn_7_90 sl_7_90 hm_93 [.inr (.inr (some c1)), .inr (.inr none)] [] rfl ⟨by omega, by omega⟩ rfl (zw_mono h (zv_go ?_ ?_))
          · intro S4 hv
            obtain ⟨hS4, h⟩ := hv
            refine zw_push hm_92 dX7_changeRoot_38 (v := .inr (.inr none)) rfl ?_
            exact zw_aret hm_92 dX7_changeRoot_39 h
          · intro x S9 hx
            exact hx.elim
      · intro hc
        rw [if_neg hc] at h
        refine zw_push hm_81 dX7_thingAt_4 (v := .inl (mI S 72 i.toNatClampNeg)) rfl ?_
        refine zw_push hm_81 dX7_thingAt_5 (v := .inl (512 : Int32)) rfl ?_
        refine zw_if2 hm_81 dX7_thingAt_8 (t := 20) rfl zc2_ge ?_ ?_
        · intro hc
          rw [if_pos hc] at h
          refine zw_push hm_81 dX7_thingAt_20 (v := .inr (.inr none)) rfl ?_
          refine zw_aret hm_81 dX7_thingAt_21 ?_
          show ma_wp X d w 92 22 [(0, .inr (.inr (some 69))), (1, .inl i), (2, .inr (.inr x))] [.inr (.inr none)] S _
          refine zw_sto hm_92 dX7_changeRoot_22 [(3, .inr (.inr none)), (0, .inr (.inr (some 69))), (1, .inl i), (2, .inr (.inr x))] rfl rfl rfl ?_
          refine zw_push hm_92 dX7_changeRoot_23 (v := .inr (.inr (some 69))) rfl ?_
          refine zw_gf hm_92 dX7_changeRoot_24 (v := .inr (.inr (some 72))) (zT_is hS s_69) (zT_t hS s_69) rfl f_7_21_7 (zT_f hS r_69_2) ?_
          refine zw_push hm_92 dX7_changeRoot_27 (v := .inl i) rfl ?_
          refine zw_push hm_92 dX7_changeRoot_28 (v := .inr (.inr x)) rfl ?_
          refine zw_cs hm_92 dX7_changeRoot_29 pn_7_82 sl_7_82 hm_146 [.inr (.inr x)] [.inl i, .inr (.inr (some 72))] rfl ⟨by omega, by omega⟩ rfl ?_
          show ma_wp X (d - 1) (w - 20) 146 0 [(0, .inr (.inr x))] [] S _
          refine zw_push hm_146 dX11_numberOf_0 (v := .inr (.inr x)) rfl ?_
          refine zw_ifnonnull hm_146 dX11_numberOf_1 (t := 8) rfl ?_ ?_
          · intro hc
            have h := h.1 hc
            (try rw [hc])
            show ma_wp X (d - 1) (w - 20) 146 4 [(0, .inr (.inr none))] [] S _
            refine zw_push hm_146 dX11_numberOf_4 (v := .inl (-1 : Int32)) rfl ?_
            refine zw_goto hm_146 dX11_numberOf_5 (t := 12) rfl ?_
            refine zw_iret hm_146 dX11_numberOf_12 ?_
            show ma_wp X d w 92 32 [(3, .inr (.inr none)), (0, .inr (.inr (some 69))), (1, .inl i), (2, .inr (.inr none))] [.inl (-1 : Int32), .inl i, .inr (.inr (some 72))] S _
            obtain ⟨hg, h⟩ := h
            refine zw_ias hm_92 dX7_changeRoot_32 (zT_is hS s_72) (zT_h hS s_72) rfl hg ?_
            refine zw_push hm_92 dX7_changeRoot_33 (v := .inr (.inr none)) rfl ?_
            refine zw_push hm_92 dX7_changeRoot_34 (v := .inr (.inr none)) rfl ?_
            refine zw_cs hm_92 dX7_changeRoot_35 pn_7_90 sl_7_90 hm_93 [.inr (.inr none), .inr (.inr none)] [] rfl ⟨by omega, by omega⟩ rfl (zw_mono h (zv_go ?_ ?_))
            · intro S7 hv
              obtain ⟨hS7, h⟩ := hv
              refine zw_push hm_92 dX7_changeRoot_38 (v := .inr (.inr none)) rfl ?_
              exact zw_aret hm_92 dX7_changeRoot_39 h
            · intro x S9 hx
              exact hx.elim
          · intro c6 hc
            have h := h.2 c6 hc
            (try rw [hc])
            show ma_wp X (d - 1) (w - 20) 146 8 [(0, .inr (.inr (some c6)))] [] S _
            refine zw_push hm_146 dX11_numberOf_8 (v := .inr (.inr (some c6))) rfl ?_
            obtain ⟨hg, h⟩ := h
            refine zw_gf hm_146 dX11_numberOf_9 (v := .inl (mI S c6 0)) (zT_tis hS hg) (zT_tt hS hg) rfl f_11_182_9 rfl ?_
            refine zw_iret hm_146 dX11_numberOf_12 ?_
            show ma_wp X d w 92 32 [(3, .inr (.inr none)), (0, .inr (.inr (some 69))), (1, .inl i), (2, .inr (.inr (some c6)))] [.inl (mI S c6 0), .inl i, .inr (.inr (some 72))] S _
            obtain ⟨hg, h⟩ := h
            refine zw_ias hm_92 dX7_changeRoot_32 (zT_is hS s_72) (zT_h hS s_72) rfl hg ?_
            refine zw_push hm_92 dX7_changeRoot_33 (v := .inr (.inr none)) rfl ?_
            refine zw_push hm_92 dX7_changeRoot_34 (v := .inr (.inr (some c6))) rfl ?_
            refine zw_cs hm_92 dX7_changeRoot_35 pn_7_90 sl_7_90 hm_93 [.inr (.inr (some c6)), .inr (.inr none)] [] rfl ⟨by omega, by omega⟩ rfl (zw_mono h (zv_go ?_ ?_))
            · intro S9 hv
              obtain ⟨hS9, h⟩ := hv
              refine zw_push hm_92 dX7_changeRoot_38 (v := .inr (.inr none)) rfl ?_
              exact zw_aret hm_92 dX7_changeRoot_39 h
            · intro x S9 hx
              exact hx.elim
        · intro hc
          rw [if_neg hc] at h
          refine zw_push hm_81 dX7_thingAt_11 (v := .inr (.inr (some 69))) rfl ?_
          refine zw_gf hm_81 dX7_thingAt_12 (v := .inr (.inr (some 70))) (zT_is hS s_69) (zT_t hS s_69) rfl f_7_11_7 (zT_f hS r_69_0) ?_
          refine zw_push hm_81 dX7_thingAt_15 (v := .inl (mI S 72 i.toNatClampNeg)) rfl ?_
          obtain ⟨hg, h⟩ := h
          refine zw_aa hm_81 dX7_thingAt_16 (zT_is hS s_70) (zT_h hS s_70) rfl rfl hg rfl ?_
          show ma_wp X (d - 1) (w - 21) 81 17 [(0, .inr (.inr (some 69))), (1, .inl (mI S 72 i.toNatClampNeg))] [.inr (.inr (mR S 70 (mI S 72 i.toNatClampNeg).toNatClampNeg))] S _
          refine zw_goto hm_81 dX7_thingAt_17 (t := 21) rfl ?_
          refine zw_aret hm_81 dX7_thingAt_21 ?_
          show ma_wp X d w 92 22 [(0, .inr (.inr (some 69))), (1, .inl i), (2, .inr (.inr x))] [.inr (.inr (mR S 70 (mI S 72 i.toNatClampNeg).toNatClampNeg))] S _
          refine zw_sto hm_92 dX7_changeRoot_22 [(3, .inr (.inr (mR S 70 (mI S 72 i.toNatClampNeg).toNatClampNeg))), (0, .inr (.inr (some 69))), (1, .inl i), (2, .inr (.inr x))] rfl rfl rfl ?_
          refine zw_push hm_92 dX7_changeRoot_23 (v := .inr (.inr (some 69))) rfl ?_
          refine zw_gf hm_92 dX7_changeRoot_24 (v := .inr (.inr (some 72))) (zT_is hS s_69) (zT_t hS s_69) rfl f_7_21_7 (zT_f hS r_69_2) ?_
          refine zw_push hm_92 dX7_changeRoot_27 (v := .inl i) rfl ?_
          refine zw_push hm_92 dX7_changeRoot_28 (v := .inr (.inr x)) rfl ?_
          refine zw_cs hm_92 dX7_changeRoot_29 pn_7_82 sl_7_82 hm_146 [.inr (.inr x)] [.inl i, .inr (.inr (some 72))] rfl ⟨by omega, by omega⟩ rfl ?_
          show ma_wp X (d - 1) (w - 20) 146 0 [(0, .inr (.inr x))] [] S _
          refine zw_push hm_146 dX11_numberOf_0 (v := .inr (.inr x)) rfl ?_
          refine zw_ifnonnull hm_146 dX11_numberOf_1 (t := 8) rfl ?_ ?_
          · intro hc
            have h := h.1 hc
            (try rw [hc])
            show ma_wp X (d - 1) (w - 20) 146 4 [(0, .inr (.inr none))] [] S _
            refine zw_push hm_146 dX11_numberOf_4 (v := .inl (-1 : Int32)) rfl ?_
            refine zw_goto hm_146 dX11_numberOf_5 (t := 12) rfl ?_
            refine zw_iret hm_146 dX11_numberOf_12 ?_
            show ma_wp X d w 92 32 [(3, .inr (.inr (mR S 70 (mI S 72 i.toNatClampNeg).toNatClampNeg))), (0, .inr (.inr (some 69))), (1, .inl i), (2, .inr (.inr none))] [.inl (-1 : Int32), .inl i, .inr (.inr (some 72))] S _
            obtain ⟨hg, h⟩ := h
            refine zw_ias hm_92 dX7_changeRoot_32 (zT_is hS s_72) (zT_h hS s_72) rfl hg ?_
            refine zw_push hm_92 dX7_changeRoot_33 (v := .inr (.inr (mR S 70 (mI S 72 i.toNatClampNeg).toNatClampNeg))) rfl ?_
            refine zw_push hm_92 dX7_changeRoot_34 (v := .inr (.inr none)) rfl ?_
            refine zw_cs hm_92 dX7_changeRoot_35 pn_7_90 sl_7_90 hm_93 [.inr (.inr none), .inr (.inr (mR S 70 (mI S 72 i.toNatClampNeg).toNatClampNeg))] [] rfl ⟨by omega, by omega⟩ rfl (zw_mono h (zv_go ?_ ?_))
            · intro S12 hv
              obtain ⟨hS12, h⟩ := hv
              refine zw_push hm_92 dX7_changeRoot_38 (v := .inr (.inr (mR S 70 (mI S 72 i.toNatClampNeg).toNatClampNeg))) rfl ?_
              exact zw_aret hm_92 dX7_changeRoot_39 h
            · intro x S9 hx
              exact hx.elim
          · intro c11 hc
            have h := h.2 c11 hc
            (try rw [hc])
            show ma_wp X (d - 1) (w - 20) 146 8 [(0, .inr (.inr (some c11)))] [] S _
            refine zw_push hm_146 dX11_numberOf_8 (v := .inr (.inr (some c11))) rfl ?_
            obtain ⟨hg, h⟩ := h
            refine zw_gf hm_146 dX11_numberOf_9 (v := .inl (mI S c11 0)) (zT_tis hS hg) (zT_tt hS hg) rfl f_11_182_9 rfl ?_
            refine zw_iret hm_146 dX11_numberOf_12 ?_
            show ma_wp X d w 92 32 [(3, .inr (.inr (mR S 70 (mI S 72 i.toNatClampNeg).toNatClampNeg))), (0, .inr (.inr (some 69))), (1, .inl i), (2, .inr (.inr (some c11)))] [.inl (mI S c11 0), .inl i, .inr (.inr (some 72))] S _
            obtain ⟨hg, h⟩ := h
            refine zw_ias hm_92 dX7_changeRoot_32 (zT_is hS s_72) (zT_h hS s_72) rfl hg ?_
            refine zw_push hm_92 dX7_changeRoot_33 (v := .inr (.inr (mR S 70 (mI S 72 i.toNatClampNeg).toNatClampNeg))) rfl ?_
            refine zw_push hm_92 dX7_changeRoot_34 (v := .inr (.inr (some c11))) rfl ?_
            refine zw_cs hm_92 dX7_changeRoot_35 pn_7_90 sl_7_90 hm_93 [.inr (.inr (some c11)), .inr (.inr (mR S 70 (mI S 72 i.toNatClampNeg).toNatClampNeg))] [] rfl ⟨by omega, by omega⟩ rfl (zw_mono h (zv_go ?_ ?_))
            · intro S14 hv
              obtain ⟨hS14, h⟩ := hv
              refine zw_push hm_92 dX7_changeRoot_38 (v := .inr (.inr (mR S 70 (mI S 72 i.toNatClampNeg).toNatClampNeg))) rfl ?_
              exact zw_aret hm_92 dX7_changeRoot_39 h
            · intro x S9 hx
              exact hx.elim
    · intro hc
      rw [if_neg hc] at h
      refine zw_push hm_92 dX7_changeRoot_10 (v := .inr (.inr none)) rfl ?_
      exact zw_aret hm_92 dX7_changeRoot_11 h
theorem sp_92_69_s {X : Nat × (Nat → Int32)} {d w : Nat} {f : Nat → Nat → Int32} {r : Nat → Nat → Option Nat} {C Z N : Nat} {Q : Option ma_V ⊕ Nat → ma_S → Prop} {ab : Nat→Nat→Int32} {R : zRT} {W : Nat} {y : Int32} {S : ma_S} (i : Int32) (x : Option Nat) (hd : 1 ≤ d) (hw : 21 ≤ w) (hI : zI f r C Z N S) (hq_x : ∀ c, x = some c → 126 ≤ c ∧ c < N) (hpre0 : xB S R) (hpre1 : aS W S = ab) (hpre2 : xW W) (hpre3 : x = zTa R y) (hpre4 : 0 ≤ i.toInt) (hpre5 : i.toInt ≤ 15) (K : ∀ v S₉, zI f r C Z N S₉ → (∀ c, v = some c → 126 ≤ c ∧ c < N) → (xB S₉ R) → (aS W S₉ = ma_u ab 72 i.toNatClampNeg (aNm ab y)) → (v = zTa R (ab 72 i.toNatClampNeg)) → Q (.inl (some (.inr (.inr v)))) S₉) : ma_wp X d w 92 0 [(0, .inr (.inr (some 69))), (1, .inl i), (2, .inr (.inr x))] [] S Q := by
  refine g_92_69_s_0 i x (by omega) (by omega) (zG_T hI) ?_
  have b1 := i_bd i
  have li2 : (0 : Int32).toInt = 0 := rfl
  refine zd (fun h3 => ?_) (fun h3 => ?_)
  · skip
    have g4 := i_lt h3
    exact K (none) _ hI (fun _ z => by cases z) (show xB S R from by first | (exact (xC_o (W := 75) hpre0).2)) (show aS W S = ma_u ab 72 i.toNatClampNeg (aNm ab y) from by first | (exfalso; omega)) (show none = zTa R (ab 72 i.toNatClampNeg) from by first | (exfalso; omega))
  · skip
    have g5 := i_nlt h3
    have li6 : (16 : Int32).toInt = 16 := rfl
    refine zd (fun h7 => ?_) (fun h7 => ?_)
    · skip
      have g8 := i_lt h7
      refine ⟨i_ix (by omega) (by omega), ?_⟩
      have b9 := i_bd (mI S 72 i.toNatClampNeg)
      refine zd (fun h10 => ?_) (fun h10 => ?_)
      · skip
        have g11 := i_lt h10
        refine ⟨fun hc => ?_, fun c1 hc => ?_⟩
        · skip
          have rn_c1 : zTa R y = none := hpre3.symm.trans hc
          refine ⟨i_ix (by omega) (by omega), ?_⟩
          have hI12 : zI f r C Z N (ma_put S 72 i.toNatClampNeg (.inl (-1 : Int32))) := zG_fa hI rfl (by decide) (by decide) (by decide) trivial
          refine sp_93_s (ab := (aS W (ma_put S 72 i.toNatClampNeg (.inl (-1 : Int32))))) (R := R) (W := W) (y1 := ((-1 : Int32))) (y2 := ((-1 : Int32))) (none) (none) (by omega) (by omega) hI12 (fun _ z => by cases z) (fun _ z => by cases z) (show xB (ma_put S 72 i.toNatClampNeg (.inl (-1 : Int32))) R from by first | (exact (xC_p (c := 72) (k := i.toNatClampNeg) (x := (-1 : Int32)) (xC_o (W := 75) hpre0) 72 xW75 rfl rfl).2)) (show aS W (ma_put S 72 i.toNatClampNeg (.inl (-1 : Int32))) = (aS W (ma_put S 72 i.toNatClampNeg (.inl (-1 : Int32)))) from by first | (exact rfl)) (show xW W from by first | (exact hpre2) | (exact xW88)) (show none = zTa R ((-1 : Int32)) from by first | (exact ta_m1) | (exact ta_no (by omega))) (show none = zTa R ((-1 : Int32)) from by first | (exact ta_m1) | (exact ta_no (by omega))) (fun S2 hI_S2 rp0_S2 rp1_S2 => zv_n ⟨zG_T hI_S2, ?_⟩)
          have rp0_S2 : xB S2 R := rp0_S2
          have rp1_S2 : aS W S2 = (aS W (ma_put S 72 i.toNatClampNeg (.inl (-1 : Int32)))) := rp1_S2
          exact K (none) _ hI_S2 (fun _ z => by cases z) (show xB S2 R from by first | (exact (xC_o (W := 75) rp0_S2).2)) (show aS W S2 = ma_u ab 72 i.toNatClampNeg (aNm ab y) from by first | (have nn := (nm_n (W := W) hpre0 rn_c1); rw [hpre1] at nn; refine (rp1_S2.trans (xC_p (c := 72) (k := i.toNatClampNeg) (x := (-1 : Int32)) (xC_o (W := W) hpre0) 72 hpre2 rfl (zcw_s (by decide))).1).trans ?_; rw [hpre1]; rw [nn])) (show none = zTa R (ab 72 i.toNatClampNeg) from by first | (rw [← hpre1, (aS_I (W := W) (S := S) (c := 72) (c₉ := 72) (k := i.toNatClampNeg) rfl (zcw_s (by decide)))]; exact ta_no (by omega)))
        · skip
          have th_c1 := hq_x c1 hc
          have rg_c1 : zTa R y = some c1 := hpre3.symm.trans hc
          subst hc
          refine ⟨zG_n hI th_c1, ?_⟩
          refine ⟨i_ix (by omega) (by omega), ?_⟩
          have hI13 : zI f r C Z N (ma_put S 72 i.toNatClampNeg (.inl (mI S c1 0))) := zG_fa hI rfl (by decide) (by decide) (by decide) trivial
          refine sp_93_s (ab := (aS W (ma_put S 72 i.toNatClampNeg (.inl (mI S c1 0))))) (R := R) (W := W) (y1 := ((-1 : Int32))) (y2 := (y)) (none) ((some c1)) (by omega) (by omega) hI13 (fun _ z => by cases z) (fun _ z => by cases z; exact th_c1) (show xB (ma_put S 72 i.toNatClampNeg (.inl (mI S c1 0))) R from by first | (exact (xC_p (c := 72) (k := i.toNatClampNeg) (x := (mI S c1 0)) (xC_o (W := 75) hpre0) 72 xW75 rfl rfl).2)) (show aS W (ma_put S 72 i.toNatClampNeg (.inl (mI S c1 0))) = (aS W (ma_put S 72 i.toNatClampNeg (.inl (mI S c1 0)))) from by first | (exact rfl)) (show xW W from by first | (exact hpre2) | (exact xW88)) (show none = zTa R ((-1 : Int32)) from by first | (exact ta_m1) | (exact ta_no (by omega))) (show (some c1) = zTa R (y) from by first | (exact rg_c1.symm)) (fun S4 hI_S4 rp0_S4 rp1_S4 => zv_n ⟨zG_T hI_S4, ?_⟩)
          have rp0_S4 : xB S4 R := rp0_S4
          have rp1_S4 : aS W S4 = (aS W (ma_put S 72 i.toNatClampNeg (.inl (mI S c1 0)))) := rp1_S4
          exact K (none) _ hI_S4 (fun _ z => by cases z) (show xB S4 R from by first | (exact (xC_o (W := 75) rp0_S4).2)) (show aS W S4 = ma_u ab 72 i.toNatClampNeg (aNm ab y) from by first | (have nn := (nm_y (W := W) hpre0 rg_c1); rw [hpre1] at nn; refine (rp1_S4.trans (xC_p (c := 72) (k := i.toNatClampNeg) (x := (mI S c1 0)) (xC_o (W := W) hpre0) 72 hpre2 rfl (zcw_s (by decide))).1).trans ?_; rw [hpre1]; have tn := (xB_th (W := W) hpre0 rg_c1).2.2.1; rw [tn]; rw [nn])) (show none = zTa R (ab 72 i.toNatClampNeg) from by first | (rw [← hpre1, (aS_I (W := W) (S := S) (c := 72) (c₉ := 72) (k := i.toNatClampNeg) rfl (zcw_s (by decide)))]; exact ta_no (by omega)))
      · skip
        have g14 := i_nlt h10
        have li15 : (512 : Int32).toInt = 512 := rfl
        refine zd (fun h16 => ?_) (fun h16 => ?_)
        · skip
          have g17 := i_le h16
          refine ⟨fun hc => ?_, fun c6 hc => ?_⟩
          · skip
            have rn_c6 : zTa R y = none := hpre3.symm.trans hc
            refine ⟨i_ix (by omega) (by omega), ?_⟩
            have hI18 : zI f r C Z N (ma_put S 72 i.toNatClampNeg (.inl (-1 : Int32))) := zG_fa hI rfl (by decide) (by decide) (by decide) trivial
            refine sp_93_s (ab := (aS W (ma_put S 72 i.toNatClampNeg (.inl (-1 : Int32))))) (R := R) (W := W) (y1 := ((-1 : Int32))) (y2 := ((-1 : Int32))) (none) (none) (by omega) (by omega) hI18 (fun _ z => by cases z) (fun _ z => by cases z) (show xB (ma_put S 72 i.toNatClampNeg (.inl (-1 : Int32))) R from by first | (exact (xC_p (c := 72) (k := i.toNatClampNeg) (x := (-1 : Int32)) (xC_o (W := 75) hpre0) 72 xW75 rfl rfl).2)) (show aS W (ma_put S 72 i.toNatClampNeg (.inl (-1 : Int32))) = (aS W (ma_put S 72 i.toNatClampNeg (.inl (-1 : Int32)))) from by first | (exact rfl)) (show xW W from by first | (exact hpre2) | (exact xW88)) (show none = zTa R ((-1 : Int32)) from by first | (exact ta_m1) | (exact ta_no (by omega))) (show none = zTa R ((-1 : Int32)) from by first | (exact ta_m1) | (exact ta_no (by omega))) (fun S7 hI_S7 rp0_S7 rp1_S7 => zv_n ⟨zG_T hI_S7, ?_⟩)
            have rp0_S7 : xB S7 R := rp0_S7
            have rp1_S7 : aS W S7 = (aS W (ma_put S 72 i.toNatClampNeg (.inl (-1 : Int32)))) := rp1_S7
            exact K (none) _ hI_S7 (fun _ z => by cases z) (show xB S7 R from by first | (exact (xC_o (W := 75) rp0_S7).2)) (show aS W S7 = ma_u ab 72 i.toNatClampNeg (aNm ab y) from by first | (have nn := (nm_n (W := W) hpre0 rn_c6); rw [hpre1] at nn; refine (rp1_S7.trans (xC_p (c := 72) (k := i.toNatClampNeg) (x := (-1 : Int32)) (xC_o (W := W) hpre0) 72 hpre2 rfl (zcw_s (by decide))).1).trans ?_; rw [hpre1]; rw [nn])) (show none = zTa R (ab 72 i.toNatClampNeg) from by first | (rw [← hpre1, (aS_I (W := W) (S := S) (c := 72) (c₉ := 72) (k := i.toNatClampNeg) rfl (zcw_s (by decide)))]; exact ta_no (by omega)))
          · skip
            have th_c6 := hq_x c6 hc
            have rg_c6 : zTa R y = some c6 := hpre3.symm.trans hc
            subst hc
            refine ⟨zG_n hI th_c6, ?_⟩
            refine ⟨i_ix (by omega) (by omega), ?_⟩
            have hI19 : zI f r C Z N (ma_put S 72 i.toNatClampNeg (.inl (mI S c6 0))) := zG_fa hI rfl (by decide) (by decide) (by decide) trivial
            refine sp_93_s (ab := (aS W (ma_put S 72 i.toNatClampNeg (.inl (mI S c6 0))))) (R := R) (W := W) (y1 := ((-1 : Int32))) (y2 := (y)) (none) ((some c6)) (by omega) (by omega) hI19 (fun _ z => by cases z) (fun _ z => by cases z; exact th_c6) (show xB (ma_put S 72 i.toNatClampNeg (.inl (mI S c6 0))) R from by first | (exact (xC_p (c := 72) (k := i.toNatClampNeg) (x := (mI S c6 0)) (xC_o (W := 75) hpre0) 72 xW75 rfl rfl).2)) (show aS W (ma_put S 72 i.toNatClampNeg (.inl (mI S c6 0))) = (aS W (ma_put S 72 i.toNatClampNeg (.inl (mI S c6 0)))) from by first | (exact rfl)) (show xW W from by first | (exact hpre2) | (exact xW88)) (show none = zTa R ((-1 : Int32)) from by first | (exact ta_m1) | (exact ta_no (by omega))) (show (some c6) = zTa R (y) from by first | (exact rg_c6.symm)) (fun S9 hI_S9 rp0_S9 rp1_S9 => zv_n ⟨zG_T hI_S9, ?_⟩)
            have rp0_S9 : xB S9 R := rp0_S9
            have rp1_S9 : aS W S9 = (aS W (ma_put S 72 i.toNatClampNeg (.inl (mI S c6 0)))) := rp1_S9
            exact K (none) _ hI_S9 (fun _ z => by cases z) (show xB S9 R from by first | (exact (xC_o (W := 75) rp0_S9).2)) (show aS W S9 = ma_u ab 72 i.toNatClampNeg (aNm ab y) from by first | (have nn := (nm_y (W := W) hpre0 rg_c6); rw [hpre1] at nn; refine (rp1_S9.trans (xC_p (c := 72) (k := i.toNatClampNeg) (x := (mI S c6 0)) (xC_o (W := W) hpre0) 72 hpre2 rfl (zcw_s (by decide))).1).trans ?_; rw [hpre1]; have tn := (xB_th (W := W) hpre0 rg_c6).2.2.1; rw [tn]; rw [nn])) (show none = zTa R (ab 72 i.toNatClampNeg) from by first | (rw [← hpre1, (aS_I (W := W) (S := S) (c := 72) (c₉ := 72) (k := i.toNatClampNeg) rfl (zcw_s (by decide)))]; exact ta_no (by omega)))
        · skip
          have g20 := i_nle h16
          refine ⟨i_ix (by omega) (by omega), ?_⟩
          refine ⟨fun hc => ?_, fun c11 hc => ?_⟩
          · skip
            have rn_c11 : zTa R y = none := hpre3.symm.trans hc
            refine ⟨i_ix (by omega) (by omega), ?_⟩
            have hI21 : zI f r C Z N (ma_put S 72 i.toNatClampNeg (.inl (-1 : Int32))) := zG_fa hI rfl (by decide) (by decide) (by decide) trivial
            refine sp_93_s (ab := (aS W (ma_put S 72 i.toNatClampNeg (.inl (-1 : Int32))))) (R := R) (W := W) (y1 := ((mI S 72 i.toNatClampNeg))) (y2 := ((-1 : Int32))) ((mR S 70 (mI S 72 i.toNatClampNeg).toNatClampNeg)) (none) (by omega) (by omega) hI21 (fun _ z => zG_70 hI (c := 70) (by decide) z) (fun _ z => by cases z) (show xB (ma_put S 72 i.toNatClampNeg (.inl (-1 : Int32))) R from by first | (exact (xC_p (c := 72) (k := i.toNatClampNeg) (x := (-1 : Int32)) (xC_o (W := 75) hpre0) 72 xW75 rfl rfl).2)) (show aS W (ma_put S 72 i.toNatClampNeg (.inl (-1 : Int32))) = (aS W (ma_put S 72 i.toNatClampNeg (.inl (-1 : Int32)))) from by first | (exact rfl)) (show xW W from by first | (exact hpre2) | (exact xW88)) (show (mR S 70 (mI S 72 i.toNatClampNeg).toNatClampNeg) = zTa R ((mI S 72 i.toNatClampNeg)) from by first | (exact ta_rd hpre0 (by omega) (by omega))) (show none = zTa R ((-1 : Int32)) from by first | (exact ta_m1) | (exact ta_no (by omega))) (fun S12 hI_S12 rp0_S12 rp1_S12 => zv_n ⟨zG_T hI_S12, ?_⟩)
            have rp0_S12 : xB S12 R := rp0_S12
            have rp1_S12 : aS W S12 = (aS W (ma_put S 72 i.toNatClampNeg (.inl (-1 : Int32)))) := rp1_S12
            exact K ((mR S 70 (mI S 72 i.toNatClampNeg).toNatClampNeg)) _ hI_S12 (fun _ z => zG_70 hI (c := 70) (by decide) z) (show xB S12 R from by first | (exact (xC_o (W := 75) rp0_S12).2)) (show aS W S12 = ma_u ab 72 i.toNatClampNeg (aNm ab y) from by first | (have nn := (nm_n (W := W) hpre0 rn_c11); rw [hpre1] at nn; refine (rp1_S12.trans (xC_p (c := 72) (k := i.toNatClampNeg) (x := (-1 : Int32)) (xC_o (W := W) hpre0) 72 hpre2 rfl (zcw_s (by decide))).1).trans ?_; rw [hpre1]; rw [nn])) (show (mR S 70 (mI S 72 i.toNatClampNeg).toNatClampNeg) = zTa R (ab 72 i.toNatClampNeg) from by first | (rw [← hpre1, (aS_I (W := W) (S := S) (c := 72) (c₉ := 72) (k := i.toNatClampNeg) rfl (zcw_s (by decide)))]; exact ta_rd hpre0 (by omega) (by omega)))
          · skip
            have th_c11 := hq_x c11 hc
            have rg_c11 : zTa R y = some c11 := hpre3.symm.trans hc
            subst hc
            refine ⟨zG_n hI th_c11, ?_⟩
            refine ⟨i_ix (by omega) (by omega), ?_⟩
            have hI22 : zI f r C Z N (ma_put S 72 i.toNatClampNeg (.inl (mI S c11 0))) := zG_fa hI rfl (by decide) (by decide) (by decide) trivial
            refine sp_93_s (ab := (aS W (ma_put S 72 i.toNatClampNeg (.inl (mI S c11 0))))) (R := R) (W := W) (y1 := ((mI S 72 i.toNatClampNeg))) (y2 := (y)) ((mR S 70 (mI S 72 i.toNatClampNeg).toNatClampNeg)) ((some c11)) (by omega) (by omega) hI22 (fun _ z => zG_70 hI (c := 70) (by decide) z) (fun _ z => by cases z; exact th_c11) (show xB (ma_put S 72 i.toNatClampNeg (.inl (mI S c11 0))) R from by first | (exact (xC_p (c := 72) (k := i.toNatClampNeg) (x := (mI S c11 0)) (xC_o (W := 75) hpre0) 72 xW75 rfl rfl).2)) (show aS W (ma_put S 72 i.toNatClampNeg (.inl (mI S c11 0))) = (aS W (ma_put S 72 i.toNatClampNeg (.inl (mI S c11 0)))) from by first | (exact rfl)) (show xW W from by first | (exact hpre2) | (exact xW88)) (show (mR S 70 (mI S 72 i.toNatClampNeg).toNatClampNeg) = zTa R ((mI S 72 i.toNatClampNeg)) from by first | (exact ta_rd hpre0 (by omega) (by omega))) (show (some c11) = zTa R (y) from by first | (exact rg_c11.symm)) (fun S14 hI_S14 rp0_S14 rp1_S14 => zv_n ⟨zG_T hI_S14, ?_⟩)
            have rp0_S14 : xB S14 R := rp0_S14
            have rp1_S14 : aS W S14 = (aS W (ma_put S 72 i.toNatClampNeg (.inl (mI S c11 0)))) := rp1_S14
            exact K ((mR S 70 (mI S 72 i.toNatClampNeg).toNatClampNeg)) _ hI_S14 (fun _ z => zG_70 hI (c := 70) (by decide) z) (show xB S14 R from by first | (exact (xC_o (W := 75) rp0_S14).2)) (show aS W S14 = ma_u ab 72 i.toNatClampNeg (aNm ab y) from by first | (have nn := (nm_y (W := W) hpre0 rg_c11); rw [hpre1] at nn; refine (rp1_S14.trans (xC_p (c := 72) (k := i.toNatClampNeg) (x := (mI S c11 0)) (xC_o (W := W) hpre0) 72 hpre2 rfl (zcw_s (by decide))).1).trans ?_; rw [hpre1]; have tn := (xB_th (W := W) hpre0 rg_c11).2.2.1; rw [tn]; rw [nn])) (show (mR S 70 (mI S 72 i.toNatClampNeg).toNatClampNeg) = zTa R (ab 72 i.toNatClampNeg) from by first | (rw [← hpre1, (aS_I (W := W) (S := S) (c := 72) (c₉ := 72) (k := i.toNatClampNeg) rfl (zcw_s (by decide)))]; exact ta_rd hpre0 (by omega) (by omega)))
    · skip
      have g23 := i_nlt h7
      exact K (none) _ hI (fun _ z => by cases z) (show xB S R from by first | (exact (xC_o (W := 75) hpre0).2)) (show aS W S = ma_u ab 72 i.toNatClampNeg (aNm ab y) from by first | (exfalso; omega)) (show none = zTa R (ab 72 i.toNatClampNeg) from by first | (exfalso; omega))

/-! from 95.g25 -/
/-! the heap by numbers, the class (written by wip/tools/gen18.py) -/
theorem g_94_69_s_0 {X : Nat × (Nat → Int32)} {d w : Nat} {S : ma_S} {Q : Option ma_V ⊕ Nat → ma_S → Prop} (t : Nat) (i : Int32) (x : Option Nat) (hd : 1 ≤ d) (hw : 25 ≤ w) (hS : zT S) (h : ma_wp X (d - 1) (w - 25) 82 0 [(0, .inr (.inr (some 69))), (1, .inr (.inr (some t))), (2, .inl i)] [] S (zo (fun v2 S1 => zT S1 ∧ ((x = none → ma_wp X (d - 1) (w - 25) 95 0 [(0, .inr (.inr (some 69))), (1, .inr (.inr (some t))), (2, .inl i), (3, .inl (-1 : Int32))] [] S1 (zi (fun v5 S4 => zT S4 ∧ (ma_wp X (d - 1) (w - 21) 93 0 [(0, .inr (.inr v2)), (1, .inr (.inr none))] [] S4 (zv (fun S6 => zT S6 ∧ (Q (.inl (some (.inr (.inr v2)))) S6)) (fun _ _ => False)))) (fun x S9 => Q (.inr x) S9))) ∧ (∀ c3, x = some c3 → (126 ≤ c3 ∧ c3 < mN S1) ∧ (ma_wp X (d - 1) (w - 25) 95 0 [(0, .inr (.inr (some 69))), (1, .inr (.inr (some t))), (2, .inl i), (3, .inl (mI S1 c3 0))] [] S1 (zi (fun v9 S8 => zT S8 ∧ (ma_wp X (d - 1) (w - 21) 93 0 [(0, .inr (.inr v2)), (1, .inr (.inr (some c3)))] [] S8 (zv (fun S10 => zT S10 ∧ (Q (.inl (some (.inr (.inr v2)))) S10)) (fun _ _ => False)))) (fun x S9 => Q (.inr x) S9)))))) (fun x S9 => Q (.inr x) S9))) : ma_wp X d w 94 0 [(0, .inr (.inr (some 69))), (1, .inr (.inr (some t))), (2, .inl i), (3, .inr (.inr x))] [] S Q := by
  refine zw_push hm_94 dX7_changeReference_0 (v := .inr (.inr (some 69))) rfl ?_
  refine zw_push hm_94 dX7_changeReference_1 (v := .inr (.inr (some t))) rfl ?_
  refine zw_push hm_94 dX7_changeReference_2 (v := .inl i) rfl ?_
  refine zw_cv hm_94 dX7_changeReference_3 v_7_78_7 hm_82 [.inl i, .inr (.inr (some t))] [] rfl (zT_rt hS s_69 rfl) ⟨by omega, by omega⟩ rfl (zw_mono h (zo_go ?_ ?_))
  · intro v2 S1 hv
    obtain ⟨hS1, h⟩ := hv
    refine zw_sto hm_94 dX7_changeReference_6 [(4, .inr (.inr v2)), (0, .inr (.inr (some 69))), (1, .inr (.inr (some t))), (2, .inl i), (3, .inr (.inr x))] rfl rfl rfl ?_
    refine zw_push hm_94 dX7_changeReference_8 (v := .inr (.inr (some 69))) rfl ?_
    refine zw_push hm_94 dX7_changeReference_9 (v := .inr (.inr (some t))) rfl ?_
    refine zw_push hm_94 dX7_changeReference_10 (v := .inl i) rfl ?_
    refine zw_push hm_94 dX7_changeReference_11 (v := .inr (.inr x)) rfl ?_
    refine zw_cs hm_94 dX7_changeReference_12 pn_7_82 sl_7_82 hm_146 [.inr (.inr x)] [.inl i, .inr (.inr (some t)), .inr (.inr (some 69))] rfl ⟨by omega, by omega⟩ rfl ?_
    show ma_wp X (d - 1) (w - 20) 146 0 [(0, .inr (.inr x))] [] S1 _
    refine zw_push hm_146 dX11_numberOf_0 (v := .inr (.inr x)) rfl ?_
    refine zw_ifnonnull hm_146 dX11_numberOf_1 (t := 8) rfl ?_ ?_
    · intro hc
      have h := h.1 hc
      (try rw [hc])
      show ma_wp X (d - 1) (w - 20) 146 4 [(0, .inr (.inr none))] [] S1 _
      refine zw_push hm_146 dX11_numberOf_4 (v := .inl (-1 : Int32)) rfl ?_
      refine zw_goto hm_146 dX11_numberOf_5 (t := 12) rfl ?_
      refine zw_iret hm_146 dX11_numberOf_12 ?_
      show ma_wp X d w 94 15 [(4, .inr (.inr v2)), (0, .inr (.inr (some 69))), (1, .inr (.inr (some t))), (2, .inl i), (3, .inr (.inr none))] [.inl (-1 : Int32), .inl i, .inr (.inr (some t)), .inr (.inr (some 69))] S1 _
      refine zw_cv hm_94 dX7_changeReference_15 v_7_86_7 hm_95 [.inl (-1 : Int32), .inl i, .inr (.inr (some t))] [] rfl (zT_rt hS1 s_69 rfl) ⟨by omega, by omega⟩ rfl (zw_mono h (zi_go ?_ ?_))
      · intro v5 S4 hv
        obtain ⟨hS4, h⟩ := hv
        refine zw_stk hm_94 dX7_changeReference_18 (st₉ := []) rfl rfl ?_
        refine zw_push hm_94 dX7_changeReference_19 (v := .inr (.inr v2)) rfl ?_
        refine zw_push hm_94 dX7_changeReference_21 (v := .inr (.inr none)) rfl ?_
        refine zw_cs hm_94 dX7_changeReference_22 pn_7_90 sl_7_90 hm_93 [.inr (.inr none), .inr (.inr v2)] [] rfl ⟨by omega, by omega⟩ rfl (zw_mono h (zv_go ?_ ?_))
        · intro S6 hv
          obtain ⟨hS6, h⟩ := hv
          refine zw_push hm_94 dX7_changeReference_25 (v := .inr (.inr v2)) rfl ?_
          exact zw_aret hm_94 dX7_changeReference_27 h
        · intro x S9 hx
          exact hx.elim
      · intro x S9 hx
        exact ⟨by decide, hx⟩
    · intro c3 hc
      have h := h.2 c3 hc
      (try rw [hc])
      show ma_wp X (d - 1) (w - 20) 146 8 [(0, .inr (.inr (some c3)))] [] S1 _
      refine zw_push hm_146 dX11_numberOf_8 (v := .inr (.inr (some c3))) rfl ?_
      obtain ⟨hg, h⟩ := h
      refine zw_gf hm_146 dX11_numberOf_9 (v := .inl (mI S1 c3 0)) (zT_tis hS1 hg) (zT_tt hS1 hg) rfl f_11_182_9 rfl ?_
      refine zw_iret hm_146 dX11_numberOf_12 ?_
      show ma_wp X d w 94 15 [(4, .inr (.inr v2)), (0, .inr (.inr (some 69))), (1, .inr (.inr (some t))), (2, .inl i), (3, .inr (.inr (some c3)))] [.inl (mI S1 c3 0), .inl i, .inr (.inr (some t)), .inr (.inr (some 69))] S1 _
      refine zw_cv hm_94 dX7_changeReference_15 v_7_86_7 hm_95 [.inl (mI S1 c3 0), .inl i, .inr (.inr (some t))] [] rfl (zT_rt hS1 s_69 rfl) ⟨by omega, by omega⟩ rfl (zw_mono h (zi_go ?_ ?_))
      · intro v9 S8 hv
        obtain ⟨hS8, h⟩ := hv
        refine zw_stk hm_94 dX7_changeReference_18 (st₉ := []) rfl rfl ?_
        refine zw_push hm_94 dX7_changeReference_19 (v := .inr (.inr v2)) rfl ?_
        refine zw_push hm_94 dX7_changeReference_21 (v := .inr (.inr (some c3))) rfl ?_
        refine zw_cs hm_94 dX7_changeReference_22 pn_7_90 sl_7_90 hm_93 [.inr (.inr (some c3)), .inr (.inr v2)] [] rfl ⟨by omega, by omega⟩ rfl (zw_mono h (zv_go ?_ ?_))
        · intro S10 hv
          obtain ⟨hS10, h⟩ := hv
          refine zw_push hm_94 dX7_changeReference_25 (v := .inr (.inr v2)) rfl ?_
          exact zw_aret hm_94 dX7_changeReference_27 h
        · intro x S9 hx
          exact hx.elim
      · intro x S9 hx
        exact ⟨by decide, hx⟩
  · intro x S9 hx
    exact ⟨by decide, hx⟩
theorem sp_94_69_s {X : Nat × (Nat → Int32)} {d w : Nat} {f : Nat → Nat → Int32} {r : Nat → Nat → Option Nat} {C Z N : Nat} {Q : Option ma_V ⊕ Nat → ma_S → Prop} {ab : Nat→Nat→Int32} {R : zRT} {W : Nat} {yt : Int32} {y : Int32} {S : ma_S} (t : Nat) (i : Int32) (x : Option Nat) (hd : 1 ≤ d) (hw : 25 ≤ w) (hI : zI f r C Z N S) (th_t : 126 ≤ t ∧ t < N) (hq_x : ∀ c, x = some c → 126 ≤ c ∧ c < N) (hpre0 : xB S R) (hpre1 : aS W S = ab) (hpre2 : xW W) (hpre3 : zTa R yt = some t) (hpre4 : x = zTa R y) (hpre5 : 0 ≤ i.toInt) (K : ∀ v S₉, zI f r C Z N S₉ → (∀ c, v = some c → 126 ≤ c ∧ c < N) → (xB S₉ R) → (aS W S₉ = aCi ab yt.toNatClampNeg i (aNm ab y)) → (v = zTa R (aRef ab yt.toNatClampNeg i)) → Q (.inl (some (.inr (.inr v)))) S₉) : ma_wp X d w 94 0 [(0, .inr (.inr (some 69))), (1, .inr (.inr (some t))), (2, .inl i), (3, .inr (.inr x))] [] S Q := by
  refine g_94_69_s_0 t i x (by omega) (by omega) (zG_T hI) ?_
  have b1 := i_bd i
  refine sp_82_69_s (R := R) (W := W) (y := yt) t (i) (by omega) (by omega) hI th_t (show xB S R from by first | (exact (xC_o (W := 75) hpre0).2)) (show zTa R yt = some t from by first | (exact hpre3)) (by omega) (fun v2 S1 eS_S1 hq_v2 rp0_S1 => zo_n ⟨(by rw [eS_S1]; exact zG_T hI), ?_⟩)
  replace eS_S1 := eS_S1.symm; subst eS_S1
  have rp0_S1 : v2 = zTa R (aRef (aS W S) yt.toNatClampNeg i) := rp0_S1
  refine ⟨fun hc => ?_, fun c3 hc => ?_⟩
  · skip
    have rn_c3 : zTa R y = none := hpre4.symm.trans hc
    have li2 : (-1 : Int32).toInt = -1 := rfl
    refine sp_95_69_s (ab := (aS W S)) (R := R) (W := W) (y := (yt)) t (i) ((-1 : Int32)) (by omega) (by omega) hI th_t (show xB S R from by first | (exact (xC_o (W := 75) hpre0).2)) (show aS W S = (aS W S) from by first | (exact rfl)) (show xW W from by first | (exact hpre2) | (exact xW88)) (show zTa R (yt) = some t from by first | (exact hpre3)) (fun v5 S4 hI_S4 hp_v5 rp0_S4 rp1_S4 => zi_n ⟨zG_T hI_S4, ?_⟩)
    have rp0_S4 : xB S4 R := rp0_S4
    have rp1_S4 : aS W S4 = aCi (aS W S) (yt).toNatClampNeg i (-1 : Int32) ∧ v5 = aWo (aS W S) (yt).toNatClampNeg i := rp1_S4
    refine sp_93_s (ab := (aS W S4)) (R := R) (W := W) (y1 := ((aRef (aS W S) yt.toNatClampNeg i))) (y2 := ((-1 : Int32))) (v2) (none) (by omega) (by omega) hI_S4 hq_v2 (fun _ z => by cases z) (show xB S4 R from by first | (exact (xC_o (W := 75) rp0_S4).2)) (show aS W S4 = (aS W S4) from by first | (exact rfl)) (show xW W from by first | (exact hpre2) | (exact xW88)) (show v2 = zTa R ((aRef (aS W S) yt.toNatClampNeg i)) from by first | (exact rp0_S1)) (show none = zTa R ((-1 : Int32)) from by first | (exact ta_m1) | (exact ta_no (by omega))) (fun S6 hI_S6 rp0_S6 rp1_S6 => zv_n ⟨zG_T hI_S6, ?_⟩)
    have rp0_S6 : xB S6 R := rp0_S6
    have rp1_S6 : aS W S6 = (aS W S4) := rp1_S6
    exact K (v2) _ hI_S6 hq_v2 (show xB S6 R from by first | (exact (xC_o (W := 75) rp0_S6).2)) (show aS W S6 = aCi ab yt.toNatClampNeg i (aNm ab y) from by first | (have nn := (nm_n (W := W) hpre0 rn_c3); rw [hpre1] at nn; have ci := rp1_S4.1; skip; refine rp1_S6.trans (ci.trans ?_); rw [hpre1, nn])) (show v2 = zTa R (aRef ab yt.toNatClampNeg i) from by first | (rw [← hpre1]; exact rp0_S1))
  · skip
    have th_c3 := hq_x c3 hc
    have rg_c3 : zTa R y = some c3 := hpre4.symm.trans hc
    subst hc
    refine ⟨zG_n hI th_c3, ?_⟩
    have f3 := zG_th hI th_c3
    refine sp_95_69_s (ab := (aS W S)) (R := R) (W := W) (y := (yt)) t (i) ((mI S c3 0)) (by omega) (by omega) hI th_t (show xB S R from by first | (exact (xC_o (W := 75) hpre0).2)) (show aS W S = (aS W S) from by first | (exact rfl)) (show xW W from by first | (exact hpre2) | (exact xW88)) (show zTa R (yt) = some t from by first | (exact hpre3)) (fun v9 S8 hI_S8 hp_v9 rp0_S8 rp1_S8 => zi_n ⟨zG_T hI_S8, ?_⟩)
    have rp0_S8 : xB S8 R := rp0_S8
    have rp1_S8 : aS W S8 = aCi (aS W S) (yt).toNatClampNeg i (mI S c3 0) ∧ v9 = aWo (aS W S) (yt).toNatClampNeg i := rp1_S8
    refine sp_93_s (ab := (aS W S8)) (R := R) (W := W) (y1 := ((aRef (aS W S) yt.toNatClampNeg i))) (y2 := (y)) (v2) ((some c3)) (by omega) (by omega) hI_S8 hq_v2 (fun _ z => by cases z; exact th_c3) (show xB S8 R from by first | (exact (xC_o (W := 75) rp0_S8).2)) (show aS W S8 = (aS W S8) from by first | (exact rfl)) (show xW W from by first | (exact hpre2) | (exact xW88)) (show v2 = zTa R ((aRef (aS W S) yt.toNatClampNeg i)) from by first | (exact rp0_S1)) (show (some c3) = zTa R (y) from by first | (exact rg_c3.symm)) (fun S10 hI_S10 rp0_S10 rp1_S10 => zv_n ⟨zG_T hI_S10, ?_⟩)
    have rp0_S10 : xB S10 R := rp0_S10
    have rp1_S10 : aS W S10 = (aS W S8) := rp1_S10
    exact K (v2) _ hI_S10 hq_v2 (show xB S10 R from by first | (exact (xC_o (W := 75) rp0_S10).2)) (show aS W S10 = aCi ab yt.toNatClampNeg i (aNm ab y) from by first | (have nn := (nm_y (W := W) hpre0 rg_c3); rw [hpre1] at nn; have ci := rp1_S8.1; rw [(xB_th (W := W) hpre0 rg_c3).2.2.1] at ci; refine rp1_S10.trans (ci.trans ?_); rw [hpre1, nn])) (show v2 = zTa R (aRef ab yt.toNatClampNeg i) from by first | (rw [← hpre1]; exact rp0_S1))
theorem g_145_64_87_s_0 {X : Nat × (Nat → Int32)} {d w : Nat} {S : ma_S} {Q : Option ma_V ⊕ Nat → ma_S → Prop} (i : Int32) (x : Option Nat) (hd : 5 ≤ d) (hw : 110 ≤ w) (hS : zT S) (h : ma_wp X (d - 1) (w - 23) 92 0 [(0, .inr (.inr (some 69))), (1, .inl i), (2, .inr (.inr x))] [] S (zo (fun v2 S1 => zT S1 ∧ (ma_wp X (d - 1) (w - 22) 74 0 [(0, .inr (.inr (some 87))), (1, .inr (.inr v2)), (2, .inr (.inr x))] [] S1 (zv (fun S3 => zT S3 ∧ (Q (.inl (some (.inr (.inr v2)))) S3)) (fun _ _ => False)))) (fun x S9 => Q (.inr x) S9))) : ma_wp X d w 145 0 [(0, .inr (.inr (some 64))), (1, .inr (.inr (some 87))), (2, .inl i), (3, .inr (.inr x))] [] S Q := by
  refine zw_push hm_145 dX11_changeRoot_0 (v := .inr (.inr (some 64))) rfl ?_
  refine zw_gf hm_145 dX11_changeRoot_1 (v := .inr (.inr (some 69))) (zT_is hS s_64) (zT_t hS s_64) rfl f_11_26_11 (zT_f hS r_64_8) ?_
  refine zw_push hm_145 dX11_changeRoot_4 (v := .inl i) rfl ?_
  refine zw_push hm_145 dX11_changeRoot_5 (v := .inr (.inr x)) rfl ?_
  refine zw_cv hm_145 dX11_changeRoot_6 v_11_379_7 hm_92 [.inr (.inr x), .inl i] [] rfl (zT_rt hS s_69 rfl) ⟨by omega, by omega⟩ rfl (zw_mono h (zo_go ?_ ?_))
  · intro v2 S1 hv
    obtain ⟨hS1, h⟩ := hv
    refine zw_sto hm_145 dX11_changeRoot_9 [(4, .inr (.inr v2)), (0, .inr (.inr (some 64))), (1, .inr (.inr (some 87))), (2, .inl i), (3, .inr (.inr x))] rfl rfl rfl ?_
    refine zw_push hm_145 dX11_changeRoot_11 (v := .inr (.inr (some 87))) rfl ?_
    refine zw_push hm_145 dX11_changeRoot_12 (v := .inr (.inr v2)) rfl ?_
    refine zw_push hm_145 dX11_changeRoot_14 (v := .inr (.inr x)) rfl ?_
    refine zw_cv hm_145 dX11_changeRoot_15 v_11_153_6 hm_74 [.inr (.inr x), .inr (.inr v2)] [] rfl (zT_rt hS1 s_87 rfl) ⟨by omega, by omega⟩ rfl (zw_mono h (zv_go ?_ ?_))
    · intro S3 hv
      obtain ⟨hS3, h⟩ := hv
      refine zw_push hm_145 dX11_changeRoot_18 (v := .inr (.inr (some 87))) rfl ?_
      refine zw_push hm_145 dX11_changeRoot_19 (v := .inr (.inr v2)) rfl ?_
      refine zw_cv hm_145 dX11_changeRoot_21 v_11_157_6 hm_266 [.inr (.inr v2)] [] rfl (zT_rt hS3 s_87 rfl) ⟨by omega, by omega⟩ rfl ?_
      show ma_wp X (d - 1) (w - 21) 266 0 [(0, .inr (.inr (some 87))), (1, .inr (.inr v2))] [] S3 _
      refine zw_vret hm_266 dX1_noteFewer_0 ?_
      show ma_wp X d w 145 24 [(4, .inr (.inr v2)), (0, .inr (.inr (some 64))), (1, .inr (.inr (some 87))), (2, .inl i), (3, .inr (.inr x))] [] S3 _
      refine zw_push hm_145 dX11_changeRoot_24 (v := .inr (.inr v2)) rfl ?_
      exact zw_aret hm_145 dX11_changeRoot_26 h
    · intro x S9 hx
      exact hx.elim
  · intro x S9 hx
    exact ⟨by decide, hx⟩
theorem sp_145_64_87_s {X : Nat × (Nat → Int32)} {d w : Nat} {f : Nat → Nat → Int32} {r : Nat → Nat → Option Nat} {C Z N : Nat} {Q : Option ma_V ⊕ Nat → ma_S → Prop} {ab : Nat→Nat→Int32} {R : zRT} {y : Int32} {S : ma_S} (i : Int32) (x : Option Nat) (hd : 5 ≤ d) (hw : 110 ≤ w) (hI : zJ87 f r C Z N S) (hq_x : ∀ c, x = some c → 126 ≤ c ∧ c < N) (hpre0 : xB S R) (hpre1 : aS 88 S = ab) (hpre2 : x = zTa R y) (hpre3 : 0 ≤ i.toInt) (hpre4 : i.toInt ≤ 15) (K : ∀ v S₉, zJ87 f r C Z N S₉ → (∀ c, v = some c → 126 ≤ c ∧ c < N) → (xB S₉ R) → (aS 88 S₉ = aRt ab i y) → (v = zTa R (ab 72 i.toNatClampNeg)) → Q (.inl (some (.inr (.inr v)))) S₉) : ma_wp X d w 145 0 [(0, .inr (.inr (some 64))), (1, .inr (.inr (some 87))), (2, .inl i), (3, .inr (.inr x))] [] S Q := by
  refine g_145_64_87_s_0 i x (by omega) (by omega) (zG_T hI) ?_
  have b1 := i_bd i
  refine sp_92_69_s (ab := (aS 88 S)) (R := R) (W := 88) (y := (y)) (i) (x) (by omega) (by omega) (zJ87_dn hI) hq_x (show xB S R from by first | (exact (xC_o (W := 75) hpre0).2)) (show aS 88 S = (aS 88 S) from by first | (exact rfl)) (show xW 88 from by first | (exact xW88)) (show x = zTa R (y) from by first | (exact hpre2)) (by omega) (by omega) (fun v2 S1 hL_S1 hq_v2 rp0_S1 rp1_S1 rp2_S1 => zo_n ⟨zG_T hL_S1, ?_⟩)
  have hI_S1 := zJ87_up hI hL_S1
  have rp0_S1 : xB S1 R := by
    have z := rp0_S1
    (try rw [show mI S 65 = f 65 from funext (fun k => zG_z hI rfl)] at z)
    (try rw [show mI S 64 1 = f 64 1 from zG_z hI rfl] at z)
    exact z
  have rp1_S1 : aS 88 S1 = ma_u (aS 88 S) 72 i.toNatClampNeg (aNm (aS 88 S) (y)) := by
    have z := rp1_S1
    (try rw [show mI S 65 = f 65 from funext (fun k => zG_z hI rfl)] at z)
    (try rw [show mI S 64 1 = f 64 1 from zG_z hI rfl] at z)
    exact z
  have rp2_S1 : v2 = zTa R ((aS 88 S) 72 i.toNatClampNeg) := by
    have z := rp2_S1
    (try rw [show mI S 65 = f 65 from funext (fun k => zG_z hI rfl)] at z)
    (try rw [show mI S 64 1 = f 64 1 from zG_z hI rfl] at z)
    exact z
  refine sp_74_87_s (ab := (aS 88 S1)) (R := R) (y1 := (((aS 88 S) 72 i.toNatClampNeg))) (y2 := (y)) (v2) (x) (by omega) (by omega) hI_S1 hq_v2 hq_x (show xB S1 R from by first | (exact (xC_o (W := 75) rp0_S1).2)) (show aS 88 S1 = (aS 88 S1) from by first | (exact rfl)) (show v2 = zTa R (((aS 88 S) 72 i.toNatClampNeg)) from by first | (exact rp2_S1)) (show x = zTa R (y) from by first | (exact hpre2)) (fun S3 hI_S3 rp0_S3 rp1_S3 => zv_n ⟨zG_T hI_S3, ?_⟩)
  have rp0_S3 : xB S3 R := rp0_S3
  have rp1_S3 : aS 88 S3 = aNc (aS 88 S1) (((aS 88 S) 72 i.toNatClampNeg)) (y) := rp1_S3
  exact K (v2) _ hI_S3 hq_v2 (show xB S3 R from by first | (exact (xC_o (W := 75) rp0_S3).2)) (show aS 88 S3 = aRt ab i y from by first | (rw [rp1_S3, rp1_S1, hpre1]; rfl)) (show v2 = zTa R (ab 72 i.toNatClampNeg) from by first | (rw [← hpre1]; exact rp2_S1))
/-! REACHED -/
def aRA (a : Nat → Nat → Int32) : Nat → Nat → Int32 := aSp 512 (aRo (aWh a 0) 0)
def zRq (a : Nat → Nat → Int32) (n : Int32) : Prop := 0 ≤ n.toInt ∧ n.toInt < 512 ∧ a 126 n.toNatClampNeg ≠ 0 ∧ aRA a 77 n.toNatClampNeg ≠ 0
section B7
variable {a : Nat → Nat → Int32} {y n : Int32} {m k : Nat}
theorem aCm_5 : aCm a y 75 5 = a 75 5 := by
  unfold aCm
  split
  · show (if 75 = 75 ∧ 5 = 4 then _ else if 75 = 76 ∧ 5 = _ then _ else if 75 = 77 ∧ 5 = _ then _ else a 75 5) = a 75 5
    rw [if_neg (by decide), if_neg (by omega), if_neg (by omega)]
  · rfl
theorem aCwf_5 : ∀ (f : Nat) (i : Int32) (a : Nat → Nat → Int32), aCwf m f i a 75 5 = a 75 5 := by
  intro f
  induction f with
  | zero => intro i a; rfl
  | succ f ih =>
    intro i a
    show aCwf m f (i + 1) (aCm a (aRef a m i)) 75 5 = a 75 5
    rw [ih, aCm_5]
theorem aPop_5 : aPop a 75 5 = a 75 5 := by
  unfold aPop
  split
  · unfold aCw
    rw [aCwf_5]
    show (if 75 = 77 ∧ 5 = _ then _ else if 75 = 75 ∧ 5 = 3 then _ else a 75 5) = a 75 5
    rw [if_neg (by omega), if_neg (by decide)]
  · show (if 75 = 75 ∧ 5 = 3 then _ else a 75 5) = a 75 5
    rw [if_neg (by decide)]
theorem aSp_5 : ∀ (f : Nat) (a : Nat → Nat → Int32), aSp f a 75 5 = a 75 5 := by
  intro f
  induction f with
  | zero => intro a; rfl
  | succ f ih =>
    intro a
    show (if (a 75 3).toInt < (a 75 4).toInt then aSp f (aPop a) else a) 75 5 = a 75 5
    split
    · rw [ih, aPop_5]
    · rfl
theorem aHf_5 : ∀ (f : Nat) (n : Int32) (a : Nat → Nat → Int32), aHf f n a 75 5 = a 75 5 := by
  intro f
  induction f with
  | zero => intro n a; rfl
  | succ f ih =>
    intro n a
    show aHf f (n + 1) (if _ then aCm a n else a) 75 5 = a 75 5
    rw [ih]
    split
    · exact aCm_5
    · rfl
theorem aWf_5 : ∀ (f : Nat) (n : Int32) (a : Nat → Nat → Int32), aWf f n a 75 5 = a 75 5 := by
  intro f
  induction f with
  | zero => intro n a; exact aHf_5 _ _ _
  | succ f ih =>
    intro n a
    show aWf f (n + 1) (aCm a _) 75 5 = a 75 5
    rw [ih]
    exact aCm_5
theorem aRf_5 : ∀ (f : Nat) (n : Int32) (a : Nat → Nat → Int32), aRf f n a 75 5 = a 75 5 := by
  intro f
  induction f with
  | zero => intro n a; exact aWf_5 _ _ _
  | succ f ih =>
    intro n a
    show aRf f (n + 1) (aCm a _) 75 5 = a 75 5
    rw [ih]
    exact aCm_5
theorem aRA_5 : aRA a 75 5 = 0 := by
  unfold aRA
  rw [aSp_5]
  exact aRf_5 _ _ _
theorem aRA_o {c : Nat} (h : c ≠ 75 ∧ c ≠ 76 ∧ c ≠ 77) : aRA a c k = a c k := by
  unfold aRA
  rw [aSp_o h, aRo_o h]
  show (if c = 75 ∧ k = 5 then _ else if c = 75 ∧ k = 4 then _ else if c = 75 ∧ k = 3 then _ else if c = 77 ∧ _ then _ else a c k) = _
  rw [if_neg (fun w => h.1 w.1), if_neg (fun w => h.1 w.1), if_neg (fun w => h.1 w.1), if_neg (fun w => h.2.2 w.1)]
end B7

