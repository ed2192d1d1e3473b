/-! REGIONS, the class (written by wip/tools/gen15z.py) -/
theorem g_44_91_sz_0 {X : Nat × (Nat → Int32)} {d w : Nat} {S : ma_S} {Q : Option ma_V ⊕ Nat → ma_S → Prop}  (hd : 2 ≤ d) (hw : 89 ≤ w) (hS : zT S) (h : ma_wp X (d - 1) (w - 23) 276 0 [(0, .inr (.inr (some 93))), (1, .inl (0 : Int32))] [] S (zv (fun S1 => zT S1 ∧ (ma_wp X d w 44 10 [(0, .inr (.inr (some 91))), (1, .inl (0 : Int32))] [] S1 Q)) (fun _ _ => False))) : ma_wp X d w 44 0 [(0, .inr (.inr (some 91)))] [] S Q := by
  refine zw_push hm_44 dX4_sumKept_0 (v := .inr (.inr (some 91))) rfl ?_
  refine zw_gf hm_44 dX4_sumKept_1 (v := .inr (.inr (some 93))) (zT_is hS s_91) (zT_t hS s_91) rfl f_4_15_4 (zT_f hS r_91_8) ?_
  refine zw_push hm_44 dX4_sumKept_4 (v := .inl (0 : Int32)) rfl ?_
  refine zw_cs hm_44 dX4_sumKept_5 pn_4_37 sl_4_37 hm_276 [.inl (0 : Int32), .inr (.inr (some 93))] [] rfl ⟨by omega, by omega⟩ rfl (zw_mono h (zv_go ?_ ?_))
  · intro S1 hv
    obtain ⟨hS1, h⟩ := hv
    refine zw_push hm_44 dX4_sumKept_8 (v := .inl (0 : Int32)) rfl ?_
    refine zw_sto hm_44 dX4_sumKept_9 [(1, .inl (0 : Int32)), (0, .inr (.inr (some 91)))] rfl rfl rfl ?_
    exact zw_sub (ma_nd_of (ks := [0, 1]) rfl (by decide)) (ma_nd_of (ks := [1, 0]) rfl (by decide)) (ma_le_cons rfl (ma_le_cons rfl (ma_le_nil _))) h
  · intro x S9 hx
    exact hx.elim
theorem g_44_91_sz_10 {X : Nat × (Nat → Int32)} {d w : Nat} {S : ma_S} {Q : Option ma_V ⊕ Nat → ma_S → Prop} (l1 : Int32) (hd : 2 ≤ d) (hw : 89 ≤ w) (hS : zT S) (h : if (mI S 69 6) ≤ l1 then (Q (.inl none) S) else (if l1 < 0 then (ma_wp X d w 44 10 [(0, .inr (.inr (some 91))), (1, .inl (l1 + (1 : Int32)))] [] S Q) else (if (512 : Int32) ≤ l1 then (ma_wp X d w 44 10 [(0, .inr (.inr (some 91))), (1, .inl (l1 + (1 : Int32)))] [] S Q) else ((0 ≤ l1 ∧ l1.toNatClampNeg < 512) ∧ (((mR S 70 l1.toNatClampNeg) = none → ma_wp X d w 44 10 [(0, .inr (.inr (some 91))), (1, .inl (l1 + (1 : Int32)))] [] S Q) ∧ (∀ c1, (mR S 70 l1.toNatClampNeg) = some c1 → if (mI S 91 2) ≤ 0 then ((126 ≤ c1 ∧ c1 < mN S) ∧ (ma_wp X d w 44 10 [(0, .inr (.inr (some 91))), (1, .inl (l1 + (1 : Int32)))] [] (ma_put S 93 0 (.inl ((mI S 93 0) + (mI S c1 2)))) Q)) else ((126 ≤ c1 ∧ c1 < mN S) ∧ ((mI S 91 2) ≠ 0 ∧ ((0 ≤ (if (92 : Int32) < ((mI S c1 4) / (mI S 91 2)) then (92 : Int32) else ((mI S c1 4) / (mI S 91 2))) ∧ (if (92 : Int32) < ((mI S c1 4) / (mI S 91 2)) then (92 : Int32) else ((mI S c1 4) / (mI S 91 2))).toNatClampNeg < 93) ∧ ((126 ≤ c1 ∧ c1 < mN S) ∧ ((0 ≤ (if (92 : Int32) < ((mI S c1 4) / (mI S 91 2)) then (92 : Int32) else ((mI S c1 4) / (mI S 91 2))) ∧ (if (92 : Int32) < ((mI S c1 4) / (mI S 91 2)) then (92 : Int32) else ((mI S c1 4) / (mI S 91 2))).toNatClampNeg < 93) ∧ (ma_wp X d w 44 10 [(0, .inr (.inr (some 91))), (1, .inl (l1 + (1 : Int32)))] [] (ma_put S 93 (if (92 : Int32) < ((mI S c1 4) / (mI S 91 2)) then (92 : Int32) else ((mI S c1 4) / (mI S 91 2))).toNatClampNeg (.inl ((mI S 93 (if (92 : Int32) < ((mI S c1 4) / (mI S 91 2)) then (92 : Int32) else ((mI S c1 4) / (mI S 91 2))).toNatClampNeg) + (mI S c1 2)))) Q)))))))))))) : ma_wp X d w 44 10 [(0, .inr (.inr (some 91))), (1, .inl l1)] [] S Q := by
  refine zw_push hm_44 dX4_sumKept_10 (v := .inl l1) rfl ?_
  refine zw_push hm_44 dX4_sumKept_11 (v := .inr (.inr (some 91))) rfl ?_
  refine zw_gf hm_44 dX4_sumKept_12 (v := .inr (.inr (some 69))) (zT_is hS s_91) (zT_t hS s_91) rfl f_4_100_4 (zT_f hS r_91_0) ?_
  refine zw_gf hm_44 dX4_sumKept_15 (v := .inl (mI S 69 6)) (zT_is hS s_69) (zT_t hS s_69) rfl f_4_104_7 rfl ?_
  refine zw_if2 hm_44 dX4_sumKept_18 (t := 57) rfl zc2_ge ?_ ?_
  · intro hc
    rw [if_pos hc] at h
    exact zw_vret hm_44 dX4_sumKept_57 h
  · intro hc
    rw [if_neg hc] at h
    refine zw_push hm_44 dX4_sumKept_21 (v := .inr (.inr (some 91))) rfl ?_
    refine zw_gf hm_44 dX4_sumKept_22 (v := .inr (.inr (some 69))) (zT_is hS s_91) (zT_t hS s_91) rfl f_4_100_4 (zT_f hS r_91_0) ?_
    refine zw_push hm_44 dX4_sumKept_25 (v := .inl l1) rfl ?_
    refine zw_cv hm_44 dX4_sumKept_26 v_4_109_7 hm_81 [.inl l1] [] rfl (zT_rt hS s_69 rfl) ⟨by omega, by omega⟩ rfl ?_
    show ma_wp X (d - 1) (w - 21) 81 0 [(0, .inr (.inr (some 69))), (1, .inl l1)] [] S _
    refine zw_push hm_81 dX7_thingAt_0 (v := .inl l1) rfl ?_
    refine zw_if0 hm_81 dX7_thingAt_1 (t := 20) rfl zc0_lt ?_ ?_
    · intro hc
      rw [if_pos hc] at h
      refine zw_push hm_81 dX7_thingAt_20 (v := .inr (.inr none)) rfl ?_
      refine zw_aret hm_81 dX7_thingAt_21 ?_
      show ma_wp X d w 44 29 [(0, .inr (.inr (some 91))), (1, .inl l1)] [.inr (.inr none)] S _
      refine zw_sto hm_44 dX4_sumKept_29 [(2, .inr (.inr none)), (0, .inr (.inr (some 91))), (1, .inl l1)] rfl rfl rfl ?_
      refine zw_push hm_44 dX4_sumKept_30 (v := .inr (.inr none)) rfl ?_
      refine zw_ifnull hm_44 dX4_sumKept_31 (t := 51) rfl (fun _ => ?_) (fun _ z => by cases z)
      refine zw_sto hm_44 dX4_sumKept_51 [(1, .inl (l1 + (1 : Int32))), (2, .inr (.inr none)), (0, .inr (.inr (some 91)))] rfl rfl rfl ?_
      refine zw_goto hm_44 dX4_sumKept_54 (t := 10) rfl ?_
      exact zw_sub (ma_nd_of (ks := [0, 1]) rfl (by decide)) (ma_nd_of (ks := [1, 2, 0]) rfl (by decide)) (ma_le_cons rfl (ma_le_cons rfl (ma_le_nil _))) h
    · intro hc
      rw [if_neg hc] at h
      refine zw_push hm_81 dX7_thingAt_4 (v := .inl l1) rfl ?_
      refine zw_push hm_81 dX7_thingAt_5 (v := .inl (512 : Int32)) rfl ?_
      refine zw_if2 hm_81 dX7_thingAt_8 (t := 20) rfl zc2_ge ?_ ?_
      · intro hc
        rw [if_pos hc] at h
        refine zw_push hm_81 dX7_thingAt_20 (v := .inr (.inr none)) rfl ?_
        refine zw_aret hm_81 dX7_thingAt_21 ?_
        show ma_wp X d w 44 29 [(0, .inr (.inr (some 91))), (1, .inl l1)] [.inr (.inr none)] S _
        refine zw_sto hm_44 dX4_sumKept_29 [(2, .inr (.inr none)), (0, .inr (.inr (some 91))), (1, .inl l1)] rfl rfl rfl ?_
        refine zw_push hm_44 dX4_sumKept_30 (v := .inr (.inr none)) rfl ?_
        refine zw_ifnull hm_44 dX4_sumKept_31 (t := 51) rfl (fun _ => ?_) (fun _ z => by cases z)
        refine zw_sto hm_44 dX4_sumKept_51 [(1, .inl (l1 + (1 : Int32))), (2, .inr (.inr none)), (0, .inr (.inr (some 91)))] rfl rfl rfl ?_
        refine zw_goto hm_44 dX4_sumKept_54 (t := 10) rfl ?_
        exact zw_sub (ma_nd_of (ks := [0, 1]) rfl (by decide)) (ma_nd_of (ks := [1, 2, 0]) rfl (by decide)) (ma_le_cons rfl (ma_le_cons rfl (ma_le_nil _))) h
      · intro hc
        rw [if_neg hc] at h
        refine zw_push hm_81 dX7_thingAt_11 (v := .inr (.inr (some 69))) rfl ?_
        refine zw_gf hm_81 dX7_thingAt_12 (v := .inr (.inr (some 70))) (zT_is hS s_69) (zT_t hS s_69) rfl f_7_11_7 (zT_f hS r_69_0) ?_
        refine zw_push hm_81 dX7_thingAt_15 (v := .inl l1) rfl ?_
        obtain ⟨hg, h⟩ := h
        refine zw_aa hm_81 dX7_thingAt_16 (zT_is hS s_70) (zT_h hS s_70) rfl rfl hg rfl ?_
        show ma_wp X (d - 1) (w - 21) 81 17 [(0, .inr (.inr (some 69))), (1, .inl l1)] [.inr (.inr (mR S 70 l1.toNatClampNeg))] S _
        refine zw_goto hm_81 dX7_thingAt_17 (t := 21) rfl ?_
        refine zw_aret hm_81 dX7_thingAt_21 ?_
        show ma_wp X d w 44 29 [(0, .inr (.inr (some 91))), (1, .inl l1)] [.inr (.inr (mR S 70 l1.toNatClampNeg))] S _
        refine zw_sto hm_44 dX4_sumKept_29 [(2, .inr (.inr (mR S 70 l1.toNatClampNeg))), (0, .inr (.inr (some 91))), (1, .inl l1)] rfl rfl rfl ?_
        refine zw_push hm_44 dX4_sumKept_30 (v := .inr (.inr (mR S 70 l1.toNatClampNeg))) rfl ?_
        refine zw_ifnull hm_44 dX4_sumKept_31 (t := 51) rfl ?_ ?_
        · intro hc
          have h := h.1 hc
          (try rw [hc])
          show ma_wp X d w 44 51 [(2, .inr (.inr none)), (0, .inr (.inr (some 91))), (1, .inl l1)] [] S _
          refine zw_sto hm_44 dX4_sumKept_51 [(1, .inl (l1 + (1 : Int32))), (2, .inr (.inr none)), (0, .inr (.inr (some 91)))] rfl rfl rfl ?_
          refine zw_goto hm_44 dX4_sumKept_54 (t := 10) rfl ?_
          exact zw_sub (ma_nd_of (ks := [0, 1]) rfl (by decide)) (ma_nd_of (ks := [1, 2, 0]) rfl (by decide)) (ma_le_cons rfl (ma_le_cons rfl (ma_le_nil _))) h
        · intro c1 hc
          have h := h.2 c1 hc
          (try rw [hc])
          show ma_wp X d w 44 34 [(2, .inr (.inr (some c1))), (0, .inr (.inr (some 91))), (1, .inl l1)] [] S _
          refine zw_push hm_44 dX4_sumKept_34 (v := .inr (.inr (some 91))) rfl ?_
          refine zw_gf hm_44 dX4_sumKept_35 (v := .inr (.inr (some 93))) (zT_is hS s_91) (zT_t hS s_91) rfl f_4_15_4 (zT_f hS r_91_8) ?_
          refine zw_push hm_44 dX4_sumKept_38 (v := .inr (.inr (some 91))) rfl ?_
          refine zw_push hm_44 dX4_sumKept_39 (v := .inr (.inr (some c1))) rfl ?_
          refine zw_cv hm_44 dX4_sumKept_40 v_4_113_4 hm_45 [.inr (.inr (some c1))] [.inr (.inr (some 93))] rfl (zT_rt hS s_91 rfl) ⟨by omega, by omega⟩ rfl ?_
          show ma_wp X (d - 1) (w - 21) 45 0 [(0, .inr (.inr (some 91))), (1, .inr (.inr (some c1)))] [] S _
          refine zw_push hm_45 dX4_regionOf_0 (v := .inr (.inr (some 91))) rfl ?_
          refine zw_gf hm_45 dX4_regionOf_1 (v := .inl (mI S 91 2)) (zT_is hS s_91) (zT_t hS s_91) rfl f_4_18_4 rfl ?_
          refine zw_if0 hm_45 dX4_regionOf_4 (t := 24) rfl zc0_le ?_ ?_
          · intro hc
            rw [if_pos hc] at h
            refine zw_push hm_45 dX4_regionOf_24 (v := .inl (0 : Int32)) rfl ?_
            refine zw_iret hm_45 dX4_regionOf_25 ?_
            show ma_wp X d w 44 43 [(2, .inr (.inr (some c1))), (0, .inr (.inr (some 91))), (1, .inl l1)] [.inl (0 : Int32), .inr (.inr (some 93))] S _
            refine zw_stk hm_44 dX4_sumKept_43 (st' := [.inl (0 : Int32), .inr (.inr (some 93)), .inl (0 : Int32), .inr (.inr (some 93))]) rfl rfl ?_
            refine zw_ia hm_44 dX4_sumKept_44 (zT_is hS s_93) (zT_h hS s_93) rfl ⟨by decide, by decide⟩ ?_
            show ma_wp X d w 44 45 [(2, .inr (.inr (some c1))), (0, .inr (.inr (some 91))), (1, .inl l1)] [.inl (mI S 93 0), .inl (0 : Int32), .inr (.inr (some 93))] S _
            refine zw_push hm_44 dX4_sumKept_45 (v := .inr (.inr (some c1))) rfl ?_
            obtain ⟨hg, h⟩ := h
            refine zw_gf hm_44 dX4_sumKept_46 (v := .inl (mI S c1 2)) (zT_tis hS hg) (zT_tt hS hg) rfl f_4_63_9 rfl ?_
            refine zw_stk hm_44 dX4_sumKept_49 (st' := [.inl ((mI S 93 0) + (mI S c1 2)), .inl (0 : Int32), .inr (.inr (some 93))]) rfl rfl ?_
            refine zw_ias hm_44 dX4_sumKept_50 (zT_is hS s_93) (zT_h hS s_93) rfl ⟨by decide, by decide⟩ ?_
            refine zw_sto hm_44 dX4_sumKept_51 [(1, .inl (l1 + (1 : Int32))), (2, .inr (.inr (some c1))), (0, .inr (.inr (some 91)))] rfl rfl rfl ?_
            refine zw_goto hm_44 dX4_sumKept_54 (t := 10) rfl ?_
            exact zw_sub (ma_nd_of (ks := [0, 1]) rfl (by decide)) (ma_nd_of (ks := [1, 2, 0]) rfl (by decide)) (ma_le_cons rfl (ma_le_cons rfl (ma_le_nil _))) h
          · intro hc
            rw [if_neg hc] at h
            refine zw_push hm_45 dX4_regionOf_7 (v := .inr (.inr (some c1))) rfl ?_
            obtain ⟨hg, h⟩ := h
            refine zw_gf hm_45 dX4_regionOf_8 (v := .inl (mI S c1 4)) (zT_tis hS hg) (zT_tt hS hg) rfl f_4_97_9 rfl ?_
            refine zw_push hm_45 dX4_regionOf_11 (v := .inr (.inr (some 91))) rfl ?_
            refine zw_gf hm_45 dX4_regionOf_12 (v := .inl (mI S 91 2)) (zT_is hS s_91) (zT_t hS s_91) rfl f_4_18_4 rfl ?_
            obtain ⟨hg, h⟩ := h
            refine zw_stk hm_45 dX4_regionOf_15 (st' := [.inl ((mI S c1 4) / (mI S 91 2))]) rfl (if_neg hg) ?_
            refine zw_push hm_45 dX4_regionOf_16 (v := .inl (92 : Int32)) rfl ?_
            refine zw_min hm_45 dX4_regionOf_18 pr_4_22 (by omega) (by show 0 + 13 ≤ (w - 21); omega) (fun _ _ _ _ z => by cases z) ?_
            refine zw_goto hm_45 dX4_regionOf_21 (t := 25) rfl ?_
            refine zw_iret hm_45 dX4_regionOf_25 ?_
            show ma_wp X d w 44 43 [(2, .inr (.inr (some c1))), (0, .inr (.inr (some 91))), (1, .inl l1)] [.inl (if (92 : Int32) < ((mI S c1 4) / (mI S 91 2)) then (92 : Int32) else ((mI S c1 4) / (mI S 91 2))), .inr (.inr (some 93))] S _
            refine zw_stk hm_44 dX4_sumKept_43 (st' := [.inl (if (92 : Int32) < ((mI S c1 4) / (mI S 91 2)) then (92 : Int32) else ((mI S c1 4) / (mI S 91 2))), .inr (.inr (some 93)), .inl (if (92 : Int32) < ((mI S c1 4) / (mI S 91 2)) then (92 : Int32) else ((mI S c1 4) / (mI S 91 2))), .inr (.inr (some 93))]) rfl rfl ?_
            obtain ⟨hg, h⟩ := h
            refine zw_ia hm_44 dX4_sumKept_44 (zT_is hS s_93) (zT_h hS s_93) rfl hg ?_
            show ma_wp X d w 44 45 [(2, .inr (.inr (some c1))), (0, .inr (.inr (some 91))), (1, .inl l1)] [.inl (mI S 93 (if (92 : Int32) < ((mI S c1 4) / (mI S 91 2)) then (92 : Int32) else ((mI S c1 4) / (mI S 91 2))).toNatClampNeg), .inl (if (92 : Int32) < ((mI S c1 4) / (mI S 91 2)) then (92 : Int32) else ((mI S c1 4) / (mI S 91 2))), .inr (.inr (some 93))] S _
            refine zw_push hm_44 dX4_sumKept_45 (v := .inr (.inr (some c1))) rfl ?_
            obtain ⟨hg, h⟩ := h
            refine zw_gf hm_44 dX4_sumKept_46 (v := .inl (mI S c1 2)) (zT_tis hS hg) (zT_tt hS hg) rfl f_4_63_9 rfl ?_
            refine zw_stk hm_44 dX4_sumKept_49 (st' := [.inl ((mI S 93 (if (92 : Int32) < ((mI S c1 4) / (mI S 91 2)) then (92 : Int32) else ((mI S c1 4) / (mI S 91 2))).toNatClampNeg) + (mI S c1 2)), .inl (if (92 : Int32) < ((mI S c1 4) / (mI S 91 2)) then (92 : Int32) else ((mI S c1 4) / (mI S 91 2))), .inr (.inr (some 93))]) rfl rfl ?_
            obtain ⟨hg, h⟩ := h
            refine zw_ias hm_44 dX4_sumKept_50 (zT_is hS s_93) (zT_h hS s_93) rfl hg ?_
            refine zw_sto hm_44 dX4_sumKept_51 [(1, .inl (l1 + (1 : Int32))), (2, .inr (.inr (some c1))), (0, .inr (.inr (some 91)))] rfl rfl rfl ?_
            refine zw_goto hm_44 dX4_sumKept_54 (t := 10) rfl ?_
            exact zw_sub (ma_nd_of (ks := [0, 1]) rfl (by decide)) (ma_nd_of (ks := [1, 2, 0]) rfl (by decide)) (ma_le_cons rfl (ma_le_cons rfl (ma_le_nil _))) h
theorem lp_44_91_sz_10 {X : Nat × (Nat → Int32)} {d w : Nat} {f : Nat → Nat → Int32} {r : Nat → Nat → Option Nat} {C Z N : Nat} {Q : Option ma_V ⊕ Nat → ma_S → Prop} {ab : Nat→Nat→Int32} (hd : 2 ≤ d) (hw : 89 ≤ w) (K : ∀ S', zL91 f r C Z N S' → (xB S' (mR S' 70)) → (aZ S' = rSk ab 512) → Q (.inl none) S') : ∀ (n : Nat) (S : ma_S) (l1 : Int32), (512 - l1.toInt).toNat = n → zL91 f r C Z N S → (0 ≤ l1.toInt) → (l1.toInt ≤ 512) → (xB S (mR S 70)) → (qRv ab) → (aZ S = rSk ab l1.toNatClampNeg) → ma_wp X d w 44 10 [(0, .inr (.inr (some 91))), (1, .inl l1)] [] S Q := by
  intro n
  induction n using Nat.strongRecOn with
  | _ n IH =>
    intro S l1 hmu hI  hi0 hi1 hi2 hi3 hi4
    refine g_44_91_sz_10 l1 (by omega) (by omega) (zG_T hI) ?_
    have f1 := zG_s hI (0) (512) (c := 69) (k := 6) (by decide)
    have b2 := i_bd l1
    refine zd (fun h3 => ?_) (fun h3 => ?_)
    · skip
      have g4 := i_le h3
      exact K _ hI (show xB S (mR S 70) from by first | (exact xB_x (xC_o (W := 75) hi2).2)) (show aZ S = rSk ab 512 from by first | (rw [hi4]; have r6 := congrArg Int32.toInt (show ab 69 6 = mI S 69 6 from ((Sk_r hi4 (by decide) (by decide) (by decide)).symm.trans (aS_I rfl rfl))); have tc := tn_cast (x := l1) (by omega); exact Sk_g hi3.1 (by omega) (by omega)))
    · skip
      have g5 := i_nle h3
      have li6 : (0 : Int32).toInt = 0 := rfl
      refine zd (fun h7 => ?_) (fun h7 => ?_)
      · skip
        have g8 := i_lt h7
        first | have e9 : (l1 + (1 : Int32)).toInt = l1.toInt + (1) := i_addk rfl (by omega) (by omega) | have b10 := i_bd (l1 + (1 : Int32))
        exact IH _ (by omega) _ ((l1 + (1 : Int32))) rfl hI (by omega) (by omega) (show xB S (mR S 70) from by first | (exact xB_x (xC_o (W := 75) hi2).2)) (show qRv ab from by first | (exact hi3)) (show aZ S = rSk ab ((l1 + (1 : Int32))).toNatClampNeg from by first | (exfalso; omega))
      · skip
        have g11 := i_nlt h7
        have li12 : (512 : Int32).toInt = 512 := rfl
        refine zd (fun h13 => ?_) (fun h13 => ?_)
        · skip
          have g14 := i_le h13
          first | have e15 : (l1 + (1 : Int32)).toInt = l1.toInt + (1) := i_addk rfl (by omega) (by omega) | have b16 := i_bd (l1 + (1 : Int32))
          exact IH _ (by omega) _ ((l1 + (1 : Int32))) rfl hI (by omega) (by omega) (show xB S (mR S 70) from by first | (exact xB_x (xC_o (W := 75) hi2).2)) (show qRv ab from by first | (exact hi3)) (show aZ S = rSk ab ((l1 + (1 : Int32))).toNatClampNeg from by first | (exfalso; omega))
        · skip
          have g17 := i_nle h13
          refine ⟨i_ix (by omega) (by omega), ?_⟩
          refine ⟨fun hc => ?_, fun c1 hc => ?_⟩
          · skip
            have rn_c1 : zTa (mR S 70) l1 = none := (ta_rd (y := l1) hi2 (by omega) (by omega)).symm.trans hc
            first | have e18 : (l1 + (1 : Int32)).toInt = l1.toInt + (1) := i_addk rfl (by omega) (by omega) | have b19 := i_bd (l1 + (1 : Int32))
            exact IH _ (by omega) _ ((l1 + (1 : Int32))) rfl hI (by omega) (by omega) (show xB S (mR S 70) from by first | (exact xB_x (xC_o (W := 75) hi2).2)) (show qRv ab from by first | (exact hi3)) (show aZ S = rSk ab ((l1 + (1 : Int32))).toNatClampNeg from by first | (exact Sk_no hi4 hi2 rn_c1 (by omega) (by omega) (by omega)))
          · skip
            have th_c1 := (fun _ z => zG_70 hI (c := 70) (by decide) z) c1 hc
            have rg_c1 : zTa (mR S 70) l1 = some c1 := (ta_rd (y := l1) hi2 (by omega) (by omega)).symm.trans hc
            have f20 := zG_s hI (0) (1500) (c := 91) (k := 2) (by decide)
            refine zd (fun h21 => ?_) (fun h21 => ?_)
            · skip
              have g22 := i_le h21
              refine ⟨zG_n hI th_c1, ?_⟩
              have hI23 : zL91 f r C Z N (ma_put S 93 0 (.inl ((mI S 93 0) + (mI S c1 2)))) := zG_fr hI rfl (by decide) (by decide) (by decide) trivial
              first | have e24 : (l1 + (1 : Int32)).toInt = l1.toInt + (1) := i_addk rfl (by omega) (by omega) | have b25 := i_bd (l1 + (1 : Int32))
              exact IH _ (by omega) _ ((l1 + (1 : Int32))) rfl hI23 (by omega) (by omega) (show xB (ma_put S 93 0 (.inl ((mI S 93 0) + (mI S c1 2)))) (mR (ma_put S 93 0 (.inl ((mI S 93 0) + (mI S c1 2)))) 70) from by first | (exact xB_x (xC_n (c := 93) (k := 0) (x := ((mI S 93 0) + (mI S c1 2))) (xC_o (W := 75) hi2) ⟨by decide, Or.inl ⟨rfl, rfl⟩⟩).2)) (show qRv ab from by first | (exact hi3)) (show aZ (ma_put S 93 0 (.inl ((mI S 93 0) + (mI S c1 2)))) = rSk ab ((l1 + (1 : Int32))).toNatClampNeg from by first | (rw [((Z_p9 (c := 93) (n := 0) (x := ((mI S 93 0) + (mI S c1 2))) (xC_o (W := 75) hi2).2 (by decide)).trans (congrArg (fun q => ma_u q 93 0 ((mI S 93 0) + (mI S c1 2))) (show aZ S = aZ S from rfl)))]; exact Sk_go hi4 hi3 hi2 rg_c1 (by omega)) | (exfalso; have e3 := congrArg Int32.toInt (show mI S 91 2 = ab 87 3 from (congrFun (congrFun hi4 87) 3).trans (if_neg (by decide))); have r3 := hi3.2.2.1.1; omega))
            · skip
              have g26 := i_nle h21
              refine ⟨zG_n hI th_c1, ?_⟩
              refine ⟨i_nz (by omega), ?_⟩
              have f27 := zG_th hI th_c1
              first | have f28 := i_div (x := (mI S c1 4)) (y := (mI S 91 2)) (by omega) (by omega) | have b29 := i_bd ((mI S c1 4) / (mI S 91 2))
              have li30 : (92 : Int32).toInt = 92 := rfl
              have f31 := i_min ((mI S c1 4) / (mI S 91 2)) (92 : Int32)
              refine ⟨i_ix (by omega) (by omega), ?_⟩
              refine ⟨zG_n hI th_c1, ?_⟩
              refine ⟨i_ix (by omega) (by omega), ?_⟩
              have hI32 : zL91 f r C Z N (ma_put S 93 (if (92 : Int32) < ((mI S c1 4) / (mI S 91 2)) then (92 : Int32) else ((mI S c1 4) / (mI S 91 2))).toNatClampNeg (.inl ((mI S 93 (if (92 : Int32) < ((mI S c1 4) / (mI S 91 2)) then (92 : Int32) else ((mI S c1 4) / (mI S 91 2))).toNatClampNeg) + (mI S c1 2)))) := zG_fa hI rfl (by decide) (by decide) (by decide) trivial
              first | have e33 : (l1 + (1 : Int32)).toInt = l1.toInt + (1) := i_addk rfl (by omega) (by omega) | have b34 := i_bd (l1 + (1 : Int32))
              exact IH _ (by omega) _ ((l1 + (1 : Int32))) rfl hI32 (by omega) (by omega) (show xB (ma_put S 93 (if (92 : Int32) < ((mI S c1 4) / (mI S 91 2)) then (92 : Int32) else ((mI S c1 4) / (mI S 91 2))).toNatClampNeg (.inl ((mI S 93 (if (92 : Int32) < ((mI S c1 4) / (mI S 91 2)) then (92 : Int32) else ((mI S c1 4) / (mI S 91 2))).toNatClampNeg) + (mI S c1 2)))) (mR (ma_put S 93 (if (92 : Int32) < ((mI S c1 4) / (mI S 91 2)) then (92 : Int32) else ((mI S c1 4) / (mI S 91 2))).toNatClampNeg (.inl ((mI S 93 (if (92 : Int32) < ((mI S c1 4) / (mI S 91 2)) then (92 : Int32) else ((mI S c1 4) / (mI S 91 2))).toNatClampNeg) + (mI S c1 2)))) 70) from by first | (exact xB_x (xC_n (c := 93) (k := (if (92 : Int32) < ((mI S c1 4) / (mI S 91 2)) then (92 : Int32) else ((mI S c1 4) / (mI S 91 2))).toNatClampNeg) (x := ((mI S 93 (if (92 : Int32) < ((mI S c1 4) / (mI S 91 2)) then (92 : Int32) else ((mI S c1 4) / (mI S 91 2))).toNatClampNeg) + (mI S c1 2))) (xC_o (W := 75) hi2) ⟨by decide, Or.inl ⟨rfl, rfl⟩⟩).2)) (show qRv ab from by first | (exact hi3)) (show aZ (ma_put S 93 (if (92 : Int32) < ((mI S c1 4) / (mI S 91 2)) then (92 : Int32) else ((mI S c1 4) / (mI S 91 2))).toNatClampNeg (.inl ((mI S 93 (if (92 : Int32) < ((mI S c1 4) / (mI S 91 2)) then (92 : Int32) else ((mI S c1 4) / (mI S 91 2))).toNatClampNeg) + (mI S c1 2)))) = rSk ab ((l1 + (1 : Int32))).toNatClampNeg from by first | (rw [((Z_p9 (c := 93) (n := (if (92 : Int32) < ((mI S c1 4) / (mI S 91 2)) then (92 : Int32) else ((mI S c1 4) / (mI S 91 2))).toNatClampNeg) (x := ((mI S 93 (if (92 : Int32) < ((mI S c1 4) / (mI S 91 2)) then (92 : Int32) else ((mI S c1 4) / (mI S 91 2))).toNatClampNeg) + (mI S c1 2))) (xC_o (W := 75) hi2).2 (by decide)).trans (congrArg (fun q => ma_u q 93 (if (92 : Int32) < ((mI S c1 4) / (mI S 91 2)) then (92 : Int32) else ((mI S c1 4) / (mI S 91 2))).toNatClampNeg ((mI S 93 (if (92 : Int32) < ((mI S c1 4) / (mI S 91 2)) then (92 : Int32) else ((mI S c1 4) / (mI S 91 2))).toNatClampNeg) + (mI S c1 2))) (show aZ S = aZ S from rfl)))]; exact Sk_go hi4 hi3 hi2 rg_c1 (by omega)) | (exfalso; have e3 := congrArg Int32.toInt (show mI S 91 2 = ab 87 3 from (congrFun (congrFun hi4 87) 3).trans (if_neg (by decide))); have r3 := hi3.2.2.1.1; omega))
theorem sp_44_91_sz {X : Nat × (Nat → Int32)} {d w : Nat} {f : Nat → Nat → Int32} {r : Nat → Nat → Option Nat} {C Z N : Nat} {Q : Option ma_V ⊕ Nat → ma_S → Prop} {ab : Nat→Nat→Int32} {S : ma_S}  (hd : 2 ≤ d) (hw : 89 ≤ w) (hI : zL91 f r C Z N S) (hpre0 : xB S (mR S 70)) (hpre1 : aZ S = ab) (hpre2 : qRv ab) (K : ∀ S', zL91 f r C Z N S' → (xB S' (mR S' 70)) → (aZ S' = rSk ab 512) → Q (.inl none) S') : ma_wp X d w 44 0 [(0, .inr (.inr (some 91)))] [] S Q := by
  refine g_44_91_sz_0  (by omega) (by omega) (zG_T hI) ?_
  have li1 : (0 : Int32).toInt = 0 := rfl
  refine sp_276_93_sz (ab := (aZ S)) ((0 : Int32)) (by omega) (by omega) hI (show xB S (mR S 70) from by first | (exact xB_x (xC_o (W := 75) hpre0).2)) (show aZ S = (aZ S) from by first | (exact rfl)) (fun S1 hI_S1 rp0_S1 rp1_S1 => zv_n ⟨zG_T hI_S1, ?_⟩)
  have rp0_S1 : xB S1 (mR S1 70) := rp0_S1
  have rp1_S1 : aZ S1 = zFl (aZ S) 93 (0 : Int32) 93 := rp1_S1
  exact lp_44_91_sz_10 (by omega) (by omega) K _ _ ((0 : Int32)) rfl hI_S1 (by omega) (by omega) (show xB S1 (mR S1 70) from by first | (exact xB_x (xC_o (W := 75) rp0_S1).2)) (show qRv ab from by first | (exact hpre2) | (rw [hpre1]; exact hpre2)) (show aZ S1 = rSk ab ((0 : Int32)).toNatClampNeg from by first | (rw [rp1_S1]; refine Sk_0 (fun k hk => ?_) (fun c k w => ?_); (unfold zFl; rw [if_pos ⟨rfl, by omega⟩]); (unfold zFl; rw [if_neg (fun z => w ⟨z.1, by omega⟩), hpre1])))
