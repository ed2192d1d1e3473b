/-! from 95.m16 -/
/-! COUNTS, the class (written by wip/tools/gen20k.py) -/
theorem g_118_75_sk_0 {X : Nat × (Nat → Int32)} {d w : Nat} {S : ma_S} {Q : Option ma_V ⊕ Nat → ma_S → Prop}  (hd : 1 ≤ d) (hw : 21 ≤ w) (hS : zT S) (h : ma_wp X d w 118 2 [(0, .inr (.inr (some 75))), (1, .inl (0 : Int32))] [] S Q) : ma_wp X d w 118 0 [(0, .inr (.inr (some 75)))] [] S Q := by
  refine zw_push hm_118 dX10_comeFromRoots_0 (v := .inl (0 : Int32)) rfl ?_
  refine zw_sto hm_118 dX10_comeFromRoots_1 [(1, .inl (0 : Int32)), (0, .inr (.inr (some 75)))] rfl rfl rfl ?_
  exact zw_sub (ma_nd_of (ks := [0, 1]) rfl (by decide)) (ma_nd_of (ks := [1, 0]) rfl (by decide)) (ma_le_cons rfl (ma_le_cons rfl (ma_le_nil _))) h
theorem g_118_75_sk_2 {X : Nat × (Nat → Int32)} {d w : Nat} {S : ma_S} {Q : Option ma_V ⊕ Nat → ma_S → Prop} (l1 : Int32) (hd : 1 ≤ d) (hw : 21 ≤ w) (hS : zT S) (h : if (16 : Int32) ≤ l1 then (ma_wp X d w 118 36 [(0, .inr (.inr (some 75))), (1, .inl (0 : Int32))] [] S Q) else ((0 ≤ l1 ∧ l1.toNatClampNeg < 16) ∧ (if (mI S 72 l1.toNatClampNeg) < 0 then (ma_wp X (d - 1) (w - 21) 119 0 [(0, .inr (.inr (some 75))), (1, .inr (.inr none))] [] S (zv (fun S1 => zT S1 ∧ (ma_wp X d w 118 2 [(0, .inr (.inr (some 75))), (1, .inl (l1 + (1 : Int32)))] [] S1 Q)) (fun x S9 => Q (.inr x) S9))) else (if (512 : Int32) ≤ (mI S 72 l1.toNatClampNeg) then (ma_wp X (d - 1) (w - 21) 119 0 [(0, .inr (.inr (some 75))), (1, .inr (.inr none))] [] S (zv (fun S3 => zT S3 ∧ (ma_wp X d w 118 2 [(0, .inr (.inr (some 75))), (1, .inl (l1 + (1 : Int32)))] [] S3 Q)) (fun x S9 => Q (.inr x) S9))) else ((0 ≤ (mI S 72 l1.toNatClampNeg) ∧ (mI S 72 l1.toNatClampNeg).toNatClampNeg < 512) ∧ (ma_wp X (d - 1) (w - 21) 119 0 [(0, .inr (.inr (some 75))), (1, .inr (.inr (mR S 70 (mI S 72 l1.toNatClampNeg).toNatClampNeg)))] [] S (zv (fun S5 => zT S5 ∧ (ma_wp X d w 118 2 [(0, .inr (.inr (some 75))), (1, .inl (l1 + (1 : Int32)))] [] S5 Q)) (fun x S9 => Q (.inr x) S9)))))))) : ma_wp X d w 118 2 [(0, .inr (.inr (some 75))), (1, .inl l1)] [] S Q := by
  refine zw_push hm_118 dX10_comeFromRoots_2 (v := .inl l1) rfl ?_
  refine zw_push hm_118 dX10_comeFromRoots_3 (v := .inl (16 : Int32)) rfl ?_
  refine zw_if2 hm_118 dX10_comeFromRoots_5 (t := 34) rfl zc2_ge ?_ ?_
  · intro hc
    rw [if_pos hc] at h
    refine zw_push hm_118 dX10_comeFromRoots_34 (v := .inl (0 : Int32)) rfl ?_
    refine zw_sto hm_118 dX10_comeFromRoots_35 [(1, .inl (0 : Int32)), (0, .inr (.inr (some 75)))] rfl rfl rfl ?_
    exact zw_sub (ma_nd_of (ks := [0, 1]) rfl (by decide)) (ma_nd_of (ks := [1, 0]) rfl (by decide)) (ma_le_cons rfl (ma_le_cons rfl (ma_le_nil _))) h
  · intro hc
    rw [if_neg hc] at h
    refine zw_push hm_118 dX10_comeFromRoots_8 (v := .inr (.inr (some 75))) rfl ?_
    refine zw_push hm_118 dX10_comeFromRoots_9 (v := .inr (.inr (some 75))) rfl ?_
    refine zw_gf hm_118 dX10_comeFromRoots_10 (v := .inr (.inr (some 69))) (zT_is hS s_75) (zT_t hS s_75) rfl f_10_18_10 (zT_f hS r_75_0) ?_
    refine zw_push hm_118 dX10_comeFromRoots_13 (v := .inr (.inr (some 75))) rfl ?_
    refine zw_gf hm_118 dX10_comeFromRoots_14 (v := .inr (.inr (some 69))) (zT_is hS s_75) (zT_t hS s_75) rfl f_10_18_10 (zT_f hS r_75_0) ?_
    refine zw_gf hm_118 dX10_comeFromRoots_17 (v := .inr (.inr (some 72))) (zT_is hS s_69) (zT_t hS s_69) rfl f_10_61_7 (zT_f hS r_69_2) ?_
    refine zw_push hm_118 dX10_comeFromRoots_20 (v := .inl l1) rfl ?_
    obtain ⟨hg, h⟩ := h
    refine zw_ia hm_118 dX10_comeFromRoots_21 (zT_is hS s_72) (zT_h hS s_72) rfl hg ?_
    show ma_wp X d w 118 22 [(0, .inr (.inr (some 75))), (1, .inl l1)] [.inl (mI S 72 l1.toNatClampNeg), .inr (.inr (some 69)), .inr (.inr (some 75))] S _
    refine zw_cv hm_118 dX10_comeFromRoots_22 v_10_66_7 hm_81 [.inl (mI S 72 l1.toNatClampNeg)] [.inr (.inr (some 75))] rfl (zT_rt hS s_69 rfl) ⟨by omega, by omega⟩ rfl ?_
    show ma_wp X (d - 1) (w - 21) 81 0 [(0, .inr (.inr (some 69))), (1, .inl (mI S 72 l1.toNatClampNeg))] [] S _
    refine zw_push hm_81 dX7_thingAt_0 (v := .inl (mI S 72 l1.toNatClampNeg)) rfl ?_
    refine zw_if0 hm_81 dX7_thingAt_1 (t := 20) rfl zc0_lt ?_ ?_
    · intro hc
      rw [if_pos hc] at h
      refine zw_push hm_81 dX7_thingAt_20 (v := .inr (.inr none)) rfl ?_
      refine zw_aret hm_81 dX7_thingAt_21 ?_
      show ma_wp X d w 118 25 [(0, .inr (.inr (some 75))), (1, .inl l1)] [.inr (.inr none), .inr (.inr (some 75))] S _
      refine zw_cv hm_118 dX10_comeFromRoots_25 v_10_70_10 hm_119 [.inr (.inr none)] [] rfl (zT_rt hS s_75 rfl) ⟨by omega, by omega⟩ rfl (zw_mono h (zv_go ?_ ?_))
      · intro S1 hv
        obtain ⟨hS1, h⟩ := hv
        refine zw_sto hm_118 dX10_comeFromRoots_28 [(1, .inl (l1 + (1 : Int32))), (0, .inr (.inr (some 75)))] rfl rfl rfl ?_
        refine zw_goto hm_118 dX10_comeFromRoots_31 (t := 2) rfl ?_
        exact zw_sub (ma_nd_of (ks := [0, 1]) rfl (by decide)) (ma_nd_of (ks := [1, 0]) rfl (by decide)) (ma_le_cons rfl (ma_le_cons rfl (ma_le_nil _))) h
      · intro x S9 hx
        exact ⟨by decide, hx⟩
    · intro hc
      rw [if_neg hc] at h
      refine zw_push hm_81 dX7_thingAt_4 (v := .inl (mI S 72 l1.toNatClampNeg)) rfl ?_
      refine zw_push hm_81 dX7_thingAt_5 (v := .inl (512 : Int32)) rfl ?_
      refine zw_if2 hm_81 dX7_thingAt_8 (t := 20) rfl zc2_ge ?_ ?_
      · intro hc
        rw [if_pos hc] at h
        refine zw_push hm_81 dX7_thingAt_20 (v := .inr (.inr none)) rfl ?_
        refine zw_aret hm_81 dX7_thingAt_21 ?_
        show ma_wp X d w 118 25 [(0, .inr (.inr (some 75))), (1, .inl l1)] [.inr (.inr none), .inr (.inr (some 75))] S _
        refine zw_cv hm_118 dX10_comeFromRoots_25 v_10_70_10 hm_119 [.inr (.inr none)] [] rfl (zT_rt hS s_75 rfl) ⟨by omega, by omega⟩ rfl (zw_mono h (zv_go ?_ ?_))
        · intro S3 hv
          obtain ⟨hS3, h⟩ := hv
          refine zw_sto hm_118 dX10_comeFromRoots_28 [(1, .inl (l1 + (1 : Int32))), (0, .inr (.inr (some 75)))] rfl rfl rfl ?_
          refine zw_goto hm_118 dX10_comeFromRoots_31 (t := 2) rfl ?_
          exact zw_sub (ma_nd_of (ks := [0, 1]) rfl (by decide)) (ma_nd_of (ks := [1, 0]) rfl (by decide)) (ma_le_cons rfl (ma_le_cons rfl (ma_le_nil _))) h
        · intro x S9 hx
          exact ⟨by decide, hx⟩
      · intro hc
        rw [if_neg hc] at h
        refine zw_push hm_81 dX7_thingAt_11 (v := .inr (.inr (some 69))) rfl ?_
        refine zw_gf hm_81 dX7_thingAt_12 (v := .inr (.inr (some 70))) (zT_is hS s_69) (zT_t hS s_69) rfl f_7_11_7 (zT_f hS r_69_0) ?_
        refine zw_push hm_81 dX7_thingAt_15 (v := .inl (mI S 72 l1.toNatClampNeg)) rfl ?_
        obtain ⟨hg, h⟩ := h
        refine zw_aa hm_81 dX7_thingAt_16 (zT_is hS s_70) (zT_h hS s_70) rfl rfl hg rfl ?_
        show ma_wp X (d - 1) (w - 21) 81 17 [(0, .inr (.inr (some 69))), (1, .inl (mI S 72 l1.toNatClampNeg))] [.inr (.inr (mR S 70 (mI S 72 l1.toNatClampNeg).toNatClampNeg))] S _
        refine zw_goto hm_81 dX7_thingAt_17 (t := 21) rfl ?_
        refine zw_aret hm_81 dX7_thingAt_21 ?_
        show ma_wp X d w 118 25 [(0, .inr (.inr (some 75))), (1, .inl l1)] [.inr (.inr (mR S 70 (mI S 72 l1.toNatClampNeg).toNatClampNeg)), .inr (.inr (some 75))] S _
        refine zw_cv hm_118 dX10_comeFromRoots_25 v_10_70_10 hm_119 [.inr (.inr (mR S 70 (mI S 72 l1.toNatClampNeg).toNatClampNeg))] [] rfl (zT_rt hS s_75 rfl) ⟨by omega, by omega⟩ rfl (zw_mono h (zv_go ?_ ?_))
        · intro S5 hv
          obtain ⟨hS5, h⟩ := hv
          refine zw_sto hm_118 dX10_comeFromRoots_28 [(1, .inl (l1 + (1 : Int32))), (0, .inr (.inr (some 75)))] rfl rfl rfl ?_
          refine zw_goto hm_118 dX10_comeFromRoots_31 (t := 2) rfl ?_
          exact zw_sub (ma_nd_of (ks := [0, 1]) rfl (by decide)) (ma_nd_of (ks := [1, 0]) rfl (by decide)) (ma_le_cons rfl (ma_le_cons rfl (ma_le_nil _))) h
        · intro x S9 hx
          exact ⟨by decide, hx⟩
theorem g_118_75_sk_36 {X : Nat × (Nat → Int32)} {d w : Nat} {S : ma_S} {Q : Option ma_V ⊕ Nat → ma_S → Prop} (l1 : Int32) (hd : 1 ≤ d) (hw : 21 ≤ w) (hS : zT S) (h : if (mI S 69 5) ≤ l1 then (ma_wp X d w 118 75 [(0, .inr (.inr (some 75))), (1, .inl (0 : Int32))] [] S Q) else ((0 ≤ l1 ∧ l1.toNatClampNeg < 512) ∧ (if (mI S 74 l1.toNatClampNeg) < 0 then (ma_wp X (d - 1) (w - 21) 119 0 [(0, .inr (.inr (some 75))), (1, .inr (.inr none))] [] S (zv (fun S1 => zT S1 ∧ (ma_wp X d w 118 36 [(0, .inr (.inr (some 75))), (1, .inl (l1 + (1 : Int32)))] [] S1 Q)) (fun x S9 => Q (.inr x) S9))) else (if (512 : Int32) ≤ (mI S 74 l1.toNatClampNeg) then (ma_wp X (d - 1) (w - 21) 119 0 [(0, .inr (.inr (some 75))), (1, .inr (.inr none))] [] S (zv (fun S3 => zT S3 ∧ (ma_wp X d w 118 36 [(0, .inr (.inr (some 75))), (1, .inl (l1 + (1 : Int32)))] [] S3 Q)) (fun x S9 => Q (.inr x) S9))) else ((0 ≤ (mI S 74 l1.toNatClampNeg) ∧ (mI S 74 l1.toNatClampNeg).toNatClampNeg < 512) ∧ (ma_wp X (d - 1) (w - 21) 119 0 [(0, .inr (.inr (some 75))), (1, .inr (.inr (mR S 70 (mI S 74 l1.toNatClampNeg).toNatClampNeg)))] [] S (zv (fun S5 => zT S5 ∧ (ma_wp X d w 118 36 [(0, .inr (.inr (some 75))), (1, .inl (l1 + (1 : Int32)))] [] S5 Q)) (fun x S9 => Q (.inr x) S9)))))))) : ma_wp X d w 118 36 [(0, .inr (.inr (some 75))), (1, .inl l1)] [] S Q := by
  refine zw_push hm_118 dX10_comeFromRoots_36 (v := .inl l1) rfl ?_
  refine zw_push hm_118 dX10_comeFromRoots_37 (v := .inr (.inr (some 75))) rfl ?_
  refine zw_gf hm_118 dX10_comeFromRoots_38 (v := .inr (.inr (some 69))) (zT_is hS s_75) (zT_t hS s_75) rfl f_10_18_10 (zT_f hS r_75_0) ?_
  refine zw_gf hm_118 dX10_comeFromRoots_41 (v := .inl (mI S 69 5)) (zT_is hS s_69) (zT_t hS s_69) rfl f_10_74_7 rfl ?_
  refine zw_if2 hm_118 dX10_comeFromRoots_44 (t := 73) rfl zc2_ge ?_ ?_
  · intro hc
    rw [if_pos hc] at h
    refine zw_push hm_118 dX10_comeFromRoots_73 (v := .inl (0 : Int32)) rfl ?_
    refine zw_sto hm_118 dX10_comeFromRoots_74 [(1, .inl (0 : Int32)), (0, .inr (.inr (some 75)))] rfl rfl rfl ?_
    exact zw_sub (ma_nd_of (ks := [0, 1]) rfl (by decide)) (ma_nd_of (ks := [1, 0]) rfl (by decide)) (ma_le_cons rfl (ma_le_cons rfl (ma_le_nil _))) h
  · intro hc
    rw [if_neg hc] at h
    refine zw_push hm_118 dX10_comeFromRoots_47 (v := .inr (.inr (some 75))) rfl ?_
    refine zw_push hm_118 dX10_comeFromRoots_48 (v := .inr (.inr (some 75))) rfl ?_
    refine zw_gf hm_118 dX10_comeFromRoots_49 (v := .inr (.inr (some 69))) (zT_is hS s_75) (zT_t hS s_75) rfl f_10_18_10 (zT_f hS r_75_0) ?_
    refine zw_push hm_118 dX10_comeFromRoots_52 (v := .inr (.inr (some 75))) rfl ?_
    refine zw_gf hm_118 dX10_comeFromRoots_53 (v := .inr (.inr (some 69))) (zT_is hS s_75) (zT_t hS s_75) rfl f_10_18_10 (zT_f hS r_75_0) ?_
    refine zw_gf hm_118 dX10_comeFromRoots_56 (v := .inr (.inr (some 74))) (zT_is hS s_69) (zT_t hS s_69) rfl f_10_77_7 (zT_f hS r_69_4) ?_
    refine zw_push hm_118 dX10_comeFromRoots_59 (v := .inl l1) rfl ?_
    obtain ⟨hg, h⟩ := h
    refine zw_ia hm_118 dX10_comeFromRoots_60 (zT_is hS s_74) (zT_h hS s_74) rfl hg ?_
    show ma_wp X d w 118 61 [(0, .inr (.inr (some 75))), (1, .inl l1)] [.inl (mI S 74 l1.toNatClampNeg), .inr (.inr (some 69)), .inr (.inr (some 75))] S _
    refine zw_cv hm_118 dX10_comeFromRoots_61 v_10_66_7 hm_81 [.inl (mI S 74 l1.toNatClampNeg)] [.inr (.inr (some 75))] rfl (zT_rt hS s_69 rfl) ⟨by omega, by omega⟩ rfl ?_
    show ma_wp X (d - 1) (w - 21) 81 0 [(0, .inr (.inr (some 69))), (1, .inl (mI S 74 l1.toNatClampNeg))] [] S _
    refine zw_push hm_81 dX7_thingAt_0 (v := .inl (mI S 74 l1.toNatClampNeg)) rfl ?_
    refine zw_if0 hm_81 dX7_thingAt_1 (t := 20) rfl zc0_lt ?_ ?_
    · intro hc
      rw [if_pos hc] at h
      refine zw_push hm_81 dX7_thingAt_20 (v := .inr (.inr none)) rfl ?_
      refine zw_aret hm_81 dX7_thingAt_21 ?_
      show ma_wp X d w 118 64 [(0, .inr (.inr (some 75))), (1, .inl l1)] [.inr (.inr none), .inr (.inr (some 75))] S _
      refine zw_cv hm_118 dX10_comeFromRoots_64 v_10_70_10 hm_119 [.inr (.inr none)] [] rfl (zT_rt hS s_75 rfl) ⟨by omega, by omega⟩ rfl (zw_mono h (zv_go ?_ ?_))
      · intro S1 hv
        obtain ⟨hS1, h⟩ := hv
        refine zw_sto hm_118 dX10_comeFromRoots_67 [(1, .inl (l1 + (1 : Int32))), (0, .inr (.inr (some 75)))] rfl rfl rfl ?_
        refine zw_goto hm_118 dX10_comeFromRoots_70 (t := 36) rfl ?_
        exact zw_sub (ma_nd_of (ks := [0, 1]) rfl (by decide)) (ma_nd_of (ks := [1, 0]) rfl (by decide)) (ma_le_cons rfl (ma_le_cons rfl (ma_le_nil _))) h
      · intro x S9 hx
        exact ⟨by decide, hx⟩
    · intro hc
      rw [if_neg hc] at h
      refine zw_push hm_81 dX7_thingAt_4 (v := .inl (mI S 74 l1.toNatClampNeg)) rfl ?_
      refine zw_push hm_81 dX7_thingAt_5 (v := .inl (512 : Int32)) rfl ?_
      refine zw_if2 hm_81 dX7_thingAt_8 (t := 20) rfl zc2_ge ?_ ?_
      · intro hc
        rw [if_pos hc] at h
        refine zw_push hm_81 dX7_thingAt_20 (v := .inr (.inr none)) rfl ?_
        refine zw_aret hm_81 dX7_thingAt_21 ?_
        show ma_wp X d w 118 64 [(0, .inr (.inr (some 75))), (1, .inl l1)] [.inr (.inr none), .inr (.inr (some 75))] S _
        refine zw_cv hm_118 dX10_comeFromRoots_64 v_10_70_10 hm_119 [.inr (.inr none)] [] rfl (zT_rt hS s_75 rfl) ⟨by omega, by omega⟩ rfl (zw_mono h (zv_go ?_ ?_))
        · intro S3 hv
          obtain ⟨hS3, h⟩ := hv
          refine zw_sto hm_118 dX10_comeFromRoots_67 [(1, .inl (l1 + (1 : Int32))), (0, .inr (.inr (some 75)))] rfl rfl rfl ?_
          refine zw_goto hm_118 dX10_comeFromRoots_70 (t := 36) rfl ?_
          exact zw_sub (ma_nd_of (ks := [0, 1]) rfl (by decide)) (ma_nd_of (ks := [1, 0]) rfl (by decide)) (ma_le_cons rfl (ma_le_cons rfl (ma_le_nil _))) h
        · intro x S9 hx
          exact ⟨by decide, hx⟩
      · intro hc
        rw [if_neg hc] at h
        refine zw_push hm_81 dX7_thingAt_11 (v := .inr (.inr (some 69))) rfl ?_
        refine zw_gf hm_81 dX7_thingAt_12 (v := .inr (.inr (some 70))) (zT_is hS s_69) (zT_t hS s_69) rfl f_7_11_7 (zT_f hS r_69_0) ?_
        refine zw_push hm_81 dX7_thingAt_15 (v := .inl (mI S 74 l1.toNatClampNeg)) rfl ?_
        obtain ⟨hg, h⟩ := h
        refine zw_aa hm_81 dX7_thingAt_16 (zT_is hS s_70) (zT_h hS s_70) rfl rfl hg rfl ?_
        show ma_wp X (d - 1) (w - 21) 81 17 [(0, .inr (.inr (some 69))), (1, .inl (mI S 74 l1.toNatClampNeg))] [.inr (.inr (mR S 70 (mI S 74 l1.toNatClampNeg).toNatClampNeg))] S _
        refine zw_goto hm_81 dX7_thingAt_17 (t := 21) rfl ?_
        refine zw_aret hm_81 dX7_thingAt_21 ?_
        show ma_wp X d w 118 64 [(0, .inr (.inr (some 75))), (1, .inl l1)] [.inr (.inr (mR S 70 (mI S 74 l1.toNatClampNeg).toNatClampNeg)), .inr (.inr (some 75))] S _
        refine zw_cv hm_118 dX10_comeFromRoots_64 v_10_70_10 hm_119 [.inr (.inr (mR S 70 (mI S 74 l1.toNatClampNeg).toNatClampNeg))] [] rfl (zT_rt hS s_75 rfl) ⟨by omega, by omega⟩ rfl (zw_mono h (zv_go ?_ ?_))
        · intro S5 hv
          obtain ⟨hS5, h⟩ := hv
          refine zw_sto hm_118 dX10_comeFromRoots_67 [(1, .inl (l1 + (1 : Int32))), (0, .inr (.inr (some 75)))] rfl rfl rfl ?_
          refine zw_goto hm_118 dX10_comeFromRoots_70 (t := 36) rfl ?_
          exact zw_sub (ma_nd_of (ks := [0, 1]) rfl (by decide)) (ma_nd_of (ks := [1, 0]) rfl (by decide)) (ma_le_cons rfl (ma_le_cons rfl (ma_le_nil _))) h
        · intro x S9 hx
          exact ⟨by decide, hx⟩
theorem g_118_75_sk_75 {X : Nat × (Nat → Int32)} {d w : Nat} {S : ma_S} {Q : Option ma_V ⊕ Nat → ma_S → Prop} (l1 : Int32) (hd : 1 ≤ d) (hw : 21 ≤ w) (hS : zT S) (h : if (mI S 69 6) ≤ l1 then (Q (.inl none) S) else (if l1 < 0 then (ma_wp X d w 118 75 [(0, .inr (.inr (some 75))), (1, .inl (l1 + (1 : Int32)))] [] S Q) else (if (512 : Int32) ≤ l1 then (ma_wp X d w 118 75 [(0, .inr (.inr (some 75))), (1, .inl (l1 + (1 : Int32)))] [] S Q) else ((0 ≤ l1 ∧ l1.toNatClampNeg < 512) ∧ (((mR S 70 l1.toNatClampNeg) = none → ma_wp X d w 118 75 [(0, .inr (.inr (some 75))), (1, .inl (l1 + (1 : Int32)))] [] S Q) ∧ (∀ c1, (mR S 70 l1.toNatClampNeg) = some c1 → (126 ≤ c1 ∧ c1 < mN S) ∧ (if (mI S c1 7) ≤ 0 then (ma_wp X d w 118 75 [(0, .inr (.inr (some 75))), (1, .inl (l1 + (1 : Int32)))] [] S Q) else (ma_wp X (d - 1) (w - 21) 119 0 [(0, .inr (.inr (some 75))), (1, .inr (.inr (some c1)))] [] S (zv (fun S2 => zT S2 ∧ (ma_wp X d w 118 75 [(0, .inr (.inr (some 75))), (1, .inl (l1 + (1 : Int32)))] [] S2 Q)) (fun x S9 => Q (.inr x) S9)))))))))) : ma_wp X d w 118 75 [(0, .inr (.inr (some 75))), (1, .inl l1)] [] S Q := by
  refine zw_push hm_118 dX10_comeFromRoots_75 (v := .inl l1) rfl ?_
  refine zw_push hm_118 dX10_comeFromRoots_76 (v := .inr (.inr (some 75))) rfl ?_
  refine zw_gf hm_118 dX10_comeFromRoots_77 (v := .inr (.inr (some 69))) (zT_is hS s_75) (zT_t hS s_75) rfl f_10_18_10 (zT_f hS r_75_0) ?_
  refine zw_gf hm_118 dX10_comeFromRoots_80 (v := .inl (mI S 69 6)) (zT_is hS s_69) (zT_t hS s_69) rfl f_10_80_7 rfl ?_
  refine zw_if2 hm_118 dX10_comeFromRoots_83 (t := 117) rfl zc2_ge ?_ ?_
  · intro hc
    rw [if_pos hc] at h
    exact zw_vret hm_118 dX10_comeFromRoots_117 h
  · intro hc
    rw [if_neg hc] at h
    refine zw_push hm_118 dX10_comeFromRoots_86 (v := .inr (.inr (some 75))) rfl ?_
    refine zw_gf hm_118 dX10_comeFromRoots_87 (v := .inr (.inr (some 69))) (zT_is hS s_75) (zT_t hS s_75) rfl f_10_18_10 (zT_f hS r_75_0) ?_
    refine zw_push hm_118 dX10_comeFromRoots_90 (v := .inl l1) rfl ?_
    refine zw_cv hm_118 dX10_comeFromRoots_91 v_10_66_7 hm_81 [.inl l1] [] rfl (zT_rt hS s_69 rfl) ⟨by omega, by omega⟩ rfl ?_
    show ma_wp X (d - 1) (w - 21) 81 0 [(0, .inr (.inr (some 69))), (1, .inl l1)] [] S _
    refine zw_push hm_81 dX7_thingAt_0 (v := .inl l1) rfl ?_
    refine zw_if0 hm_81 dX7_thingAt_1 (t := 20) rfl zc0_lt ?_ ?_
    · intro hc
      rw [if_pos hc] at h
      refine zw_push hm_81 dX7_thingAt_20 (v := .inr (.inr none)) rfl ?_
      refine zw_aret hm_81 dX7_thingAt_21 ?_
      show ma_wp X d w 118 94 [(0, .inr (.inr (some 75))), (1, .inl l1)] [.inr (.inr none)] S _
      refine zw_sto hm_118 dX10_comeFromRoots_94 [(2, .inr (.inr none)), (0, .inr (.inr (some 75))), (1, .inl l1)] rfl rfl rfl ?_
      refine zw_push hm_118 dX10_comeFromRoots_95 (v := .inr (.inr none)) rfl ?_
      refine zw_ifnull hm_118 dX10_comeFromRoots_96 (t := 111) rfl (fun _ => ?_) (fun _ z => by cases z)
      refine zw_sto hm_118 dX10_comeFromRoots_111 [(1, .inl (l1 + (1 : Int32))), (2, .inr (.inr none)), (0, .inr (.inr (some 75)))] rfl rfl rfl ?_
      refine zw_goto hm_118 dX10_comeFromRoots_114 (t := 75) rfl ?_
      exact zw_sub (ma_nd_of (ks := [0, 1]) rfl (by decide)) (ma_nd_of (ks := [1, 2, 0]) rfl (by decide)) (ma_le_cons rfl (ma_le_cons rfl (ma_le_nil _))) h
    · intro hc
      rw [if_neg hc] at h
      refine zw_push hm_81 dX7_thingAt_4 (v := .inl l1) rfl ?_
      refine zw_push hm_81 dX7_thingAt_5 (v := .inl (512 : Int32)) rfl ?_
      refine zw_if2 hm_81 dX7_thingAt_8 (t := 20) rfl zc2_ge ?_ ?_
      · intro hc
        rw [if_pos hc] at h
        refine zw_push hm_81 dX7_thingAt_20 (v := .inr (.inr none)) rfl ?_
        refine zw_aret hm_81 dX7_thingAt_21 ?_
        show ma_wp X d w 118 94 [(0, .inr (.inr (some 75))), (1, .inl l1)] [.inr (.inr none)] S _
        refine zw_sto hm_118 dX10_comeFromRoots_94 [(2, .inr (.inr none)), (0, .inr (.inr (some 75))), (1, .inl l1)] rfl rfl rfl ?_
        refine zw_push hm_118 dX10_comeFromRoots_95 (v := .inr (.inr none)) rfl ?_
        refine zw_ifnull hm_118 dX10_comeFromRoots_96 (t := 111) rfl (fun _ => ?_) (fun _ z => by cases z)
        refine zw_sto hm_118 dX10_comeFromRoots_111 [(1, .inl (l1 + (1 : Int32))), (2, .inr (.inr none)), (0, .inr (.inr (some 75)))] rfl rfl rfl ?_
        refine zw_goto hm_118 dX10_comeFromRoots_114 (t := 75) rfl ?_
        exact zw_sub (ma_nd_of (ks := [0, 1]) rfl (by decide)) (ma_nd_of (ks := [1, 2, 0]) rfl (by decide)) (ma_le_cons rfl (ma_le_cons rfl (ma_le_nil _))) h
      · intro hc
        rw [if_neg hc] at h
        refine zw_push hm_81 dX7_thingAt_11 (v := .inr (.inr (some 69))) rfl ?_
        refine zw_gf hm_81 dX7_thingAt_12 (v := .inr (.inr (some 70))) (zT_is hS s_69) (zT_t hS s_69) rfl f_7_11_7 (zT_f hS r_69_0) ?_
        refine zw_push hm_81 dX7_thingAt_15 (v := .inl l1) rfl ?_
        obtain ⟨hg, h⟩ := h
        refine zw_aa hm_81 dX7_thingAt_16 (zT_is hS s_70) (zT_h hS s_70) rfl rfl hg rfl ?_
        show ma_wp X (d - 1) (w - 21) 81 17 [(0, .inr (.inr (some 69))), (1, .inl l1)] [.inr (.inr (mR S 70 l1.toNatClampNeg))] S _
        refine zw_goto hm_81 dX7_thingAt_17 (t := 21) rfl ?_
        refine zw_aret hm_81 dX7_thingAt_21 ?_
        show ma_wp X d w 118 94 [(0, .inr (.inr (some 75))), (1, .inl l1)] [.inr (.inr (mR S 70 l1.toNatClampNeg))] S _
        refine zw_sto hm_118 dX10_comeFromRoots_94 [(2, .inr (.inr (mR S 70 l1.toNatClampNeg))), (0, .inr (.inr (some 75))), (1, .inl l1)] rfl rfl rfl ?_
        refine zw_push hm_118 dX10_comeFromRoots_95 (v := .inr (.inr (mR S 70 l1.toNatClampNeg))) rfl ?_
        refine zw_ifnull hm_118 dX10_comeFromRoots_96 (t := 111) rfl ?_ ?_
        · intro hc
          have h := h.1 hc
          (try rw [hc])
          show ma_wp X d w 118 111 [(2, .inr (.inr none)), (0, .inr (.inr (some 75))), (1, .inl l1)] [] S _
          refine zw_sto hm_118 dX10_comeFromRoots_111 [(1, .inl (l1 + (1 : Int32))), (2, .inr (.inr none)), (0, .inr (.inr (some 75)))] rfl rfl rfl ?_
          refine zw_goto hm_118 dX10_comeFromRoots_114 (t := 75) rfl ?_
          exact zw_sub (ma_nd_of (ks := [0, 1]) rfl (by decide)) (ma_nd_of (ks := [1, 2, 0]) rfl (by decide)) (ma_le_cons rfl (ma_le_cons rfl (ma_le_nil _))) h
        · intro c1 hc
          have h := h.2 c1 hc
          (try rw [hc])
          show ma_wp X d w 118 99 [(2, .inr (.inr (some c1))), (0, .inr (.inr (some 75))), (1, .inl l1)] [] S _
          refine zw_push hm_118 dX10_comeFromRoots_99 (v := .inr (.inr (some c1))) rfl ?_
          obtain ⟨hg, h⟩ := h
          refine zw_gf hm_118 dX10_comeFromRoots_100 (v := .inl (mI S c1 7)) (zT_tis hS hg) (zT_tt hS hg) rfl f_10_83_9 rfl ?_
          refine zw_if0 hm_118 dX10_comeFromRoots_103 (t := 111) rfl zc0_le ?_ ?_
          · intro hc
            rw [if_pos hc] at h
            refine zw_sto hm_118 dX10_comeFromRoots_111 [(1, .inl (l1 + (1 : Int32))), (2, .inr (.inr (some c1))), (0, .inr (.inr (some 75)))] rfl rfl rfl ?_
            refine zw_goto hm_118 dX10_comeFromRoots_114 (t := 75) rfl ?_
            exact zw_sub (ma_nd_of (ks := [0, 1]) rfl (by decide)) (ma_nd_of (ks := [1, 2, 0]) rfl (by decide)) (ma_le_cons rfl (ma_le_cons rfl (ma_le_nil _))) h
          · intro hc
            rw [if_neg hc] at h
            refine zw_push hm_118 dX10_comeFromRoots_106 (v := .inr (.inr (some 75))) rfl ?_
            refine zw_push hm_118 dX10_comeFromRoots_107 (v := .inr (.inr (some c1))) rfl ?_
            refine zw_cv hm_118 dX10_comeFromRoots_108 v_10_70_10 hm_119 [.inr (.inr (some c1))] [] rfl (zT_rt hS s_75 rfl) ⟨by omega, by omega⟩ rfl (zw_mono h (zv_go ?_ ?_))
            · intro S2 hv
              obtain ⟨hS2, h⟩ := hv
              refine zw_sto hm_118 dX10_comeFromRoots_111 [(1, .inl (l1 + (1 : Int32))), (2, .inr (.inr (some c1))), (0, .inr (.inr (some 75)))] rfl rfl rfl ?_
              refine zw_goto hm_118 dX10_comeFromRoots_114 (t := 75) rfl ?_
              exact zw_sub (ma_nd_of (ks := [0, 1]) rfl (by decide)) (ma_nd_of (ks := [1, 2, 0]) rfl (by decide)) (ma_le_cons rfl (ma_le_cons rfl (ma_le_nil _))) h
            · intro x S9 hx
              exact ⟨by decide, hx⟩
theorem lp_118_75_sk_75 {X : Nat × (Nat → Int32)} {d w : Nat} {f : Nat → Nat → Int32} {r : Nat → Nat → Option Nat} {C Z N : Nat} {Q : Option ma_V ⊕ Nat → ma_S → Prop} {ab : Nat→Nat→Int32} {R : zRT} {a8 : Nat→Nat→Int32} {kk : Nat→Int32} (hd : 1 ≤ d) (hw : 21 ≤ w) (K : ∀ S₉, zI f r C Z N S₉ → (xB S₉ R) → (aS 75 S₉ = aRo ab 0) → (aS 88 S₉ = a8) → (kC S₉ = kk) → Q (.inl none) S₉) : ∀ (n : Nat) (S : ma_S) (l1 : Int32), (512 - l1.toInt).toNat = n → zI f r C Z N S → (0 ≤ l1.toInt) → (xB S R) → (aHo (aS 75 S) l1 = aRo ab 0) → (aS 88 S = a8) → (kC S = kk) → ma_wp X d w 118 75 [(0, .inr (.inr (some 75))), (1, .inl l1)] [] S Q := by
  intro n
  induction n using Nat.strongRecOn with
  | _ n IH =>
    intro S l1 hmu hI  hi0 hi1 hi2 hi3 hi4
    refine g_118_75_sk_75 l1 (by omega) (by omega) (zG_T hI) ?_
    have r6 := congrArg Int32.toInt (aS_I (W := 75) (S := S) (c := 69) (c₉ := 69) (k := 6) rfl rfl)
    have f1 := zG_s hI (0) (512) (c := 69) (k := 6) (by decide)
    have b2 := i_bd l1
    refine zd (fun h3 => ?_) (fun h3 => ?_)
    · skip
      have g4 := i_le h3
      exact K _ hI (show xB S R from by first | (exact (xC_o (W := 75) hi1).2)) (show aS 75 S = aRo ab 0 from by first | (exact (aHo_st (by omega)).symm.trans hi2)) (show aS 88 S = a8 from by first | (exact (xC_o (W := 88) hi1).1.trans hi3)) (show kC S = kk from by first | (exact (xK_o (W := 75) hi1 hi4).2))
    · skip
      have g5 := i_nle h3
      have li6 : (0 : Int32).toInt = 0 := rfl
      refine zd (fun h7 => ?_) (fun h7 => ?_)
      · skip
        have g8 := i_lt h7
        first | have e9 : (l1 + (1 : Int32)).toInt = l1.toInt + (1) := i_addk rfl (by omega) (by omega) | have b10 := i_bd (l1 + (1 : Int32))
        exact IH _ (by omega) _ ((l1 + (1 : Int32))) rfl hI (by omega) (show xB S R from by first | (exact (xC_o (W := 75) hi1).2)) (show aHo (aS 75 S) ((l1 + (1 : Int32))) = aRo ab 0 from by first | (exact (aHo_n (by omega) (fun z => by omega)).symm.trans hi2)) (show aS 88 S = a8 from by first | (exact (xC_o (W := 88) hi1).1.trans hi3)) (show kC S = kk from by first | (exact (xK_o (W := 75) hi1 hi4).2))
      · skip
        have g11 := i_nlt h7
        have li12 : (512 : Int32).toInt = 512 := rfl
        refine zd (fun h13 => ?_) (fun h13 => ?_)
        · skip
          have g14 := i_le h13
          first | have e15 : (l1 + (1 : Int32)).toInt = l1.toInt + (1) := i_addk rfl (by omega) (by omega) | have b16 := i_bd (l1 + (1 : Int32))
          exact IH _ (by omega) _ ((l1 + (1 : Int32))) rfl hI (by omega) (show xB S R from by first | (exact (xC_o (W := 75) hi1).2)) (show aHo (aS 75 S) ((l1 + (1 : Int32))) = aRo ab 0 from by first | (exact (aHo_n (by omega) (fun z => by omega)).symm.trans hi2)) (show aS 88 S = a8 from by first | (exact (xC_o (W := 88) hi1).1.trans hi3)) (show kC S = kk from by first | (exact (xK_o (W := 75) hi1 hi4).2))
        · skip
          have g17 := i_nle h13
          refine ⟨i_ix (by omega) (by omega), ?_⟩
          refine ⟨fun hc => ?_, fun c1 hc => ?_⟩
          · skip
            have rn_c1 : zTa R l1 = none := (ta_rd (y := l1) hi1 (by omega) (by omega)).symm.trans hc
            first | have e18 : (l1 + (1 : Int32)).toInt = l1.toInt + (1) := i_addk rfl (by omega) (by omega) | have b19 := i_bd (l1 + (1 : Int32))
            exact IH _ (by omega) _ ((l1 + (1 : Int32))) rfl hI (by omega) (show xB S R from by first | (exact (xC_o (W := 75) hi1).2)) (show aHo (aS 75 S) ((l1 + (1 : Int32))) = aRo ab 0 from by first | (exact (aHo_n (by omega) (fun z => xB_nt (W := 75) hi1 rn_c1 ⟨z.1, z.2.1, z.2.2.1⟩)).symm.trans hi2)) (show aS 88 S = a8 from by first | (exact (xC_o (W := 88) hi1).1.trans hi3)) (show kC S = kk from by first | (exact (xK_o (W := 75) hi1 hi4).2))
          · skip
            have th_c1 := (fun _ z => zG_70 hI (c := 70) (by decide) z) c1 hc
            have rg_c1 : zTa R l1 = some c1 := (ta_rd (y := l1) hi1 (by omega) (by omega)).symm.trans hc
            refine ⟨zG_n hI th_c1, ?_⟩
            have b20 := i_bd (mI S c1 7)
            refine zd (fun h21 => ?_) (fun h21 => ?_)
            · skip
              have g22 := i_le h21
              first | have e23 : (l1 + (1 : Int32)).toInt = l1.toInt + (1) := i_addk rfl (by omega) (by omega) | have b24 := i_bd (l1 + (1 : Int32))
              exact IH _ (by omega) _ ((l1 + (1 : Int32))) rfl hI (by omega) (show xB S R from by first | (exact (xC_o (W := 75) hi1).2)) (show aHo (aS 75 S) ((l1 + (1 : Int32))) = aRo ab 0 from by first | (have ty := xB_th (W := 75) hi1 rg_c1; have e7 := congrArg Int32.toInt ty.2.2.2.2.2.2.1; exact (aHo_n (by omega) (fun z => by have q := z.2.2.2; omega)).symm.trans hi2)) (show aS 88 S = a8 from by first | (exact (xC_o (W := 88) hi1).1.trans hi3)) (show kC S = kk from by first | (exact (xK_o (W := 75) hi1 hi4).2))
            · skip
              have g25 := i_nle h21
              refine sp_119_75_sk (ab := (aS 75 S)) (R := R) (y := (l1)) (a8 := a8) (kk := kk) ((some c1)) (by omega) (by omega) hI (fun _ z => by cases z; exact th_c1) (show xB S R from by first | (exact (xC_o (W := 75) hi1).2)) (show aS 75 S = (aS 75 S) from by first | (exact rfl)) (show (some c1) = zTa R (l1) from by first | (exact rg_c1.symm)) (show aS 88 S = a8 from by first | (exact (xC_o (W := 88) hi1).1.trans hi3)) (show kC S = kk from by first | (exact (xK_o (W := 75) hi1 hi4).2)) (fun S2 hI_S2 rp0_S2 rp1_S2 rp2_S2 rp3_S2 => zv_n ⟨zG_T hI_S2, ?_⟩)
              have rp0_S2 : xB S2 R := rp0_S2
              have rp1_S2 : aS 75 S2 = aCm (aS 75 S) (l1) := rp1_S2
              have rp2_S2 : aS 88 S2 = a8 := rp2_S2
              have rp3_S2 : kC S2 = kk := rp3_S2
              first | have e26 : (l1 + (1 : Int32)).toInt = l1.toInt + (1) := i_addk rfl (by omega) (by omega) | have b27 := i_bd (l1 + (1 : Int32))
              exact IH _ (by omega) _ ((l1 + (1 : Int32))) rfl hI_S2 (by omega) (show xB S2 R from by first | (exact (xC_o (W := 75) rp0_S2).2)) (show aHo (aS 75 S2) ((l1 + (1 : Int32))) = aRo ab 0 from by first | (have ty := xB_th (W := 75) hi1 rg_c1; have e7 := congrArg Int32.toInt ty.2.2.2.2.2.2.1; rw [rp1_S2]; exact (aHo_y (by omega) ⟨ty.1, ty.2.1, (by rw [ty.2.2.2.2.2.2.2.2]; decide), (by omega)⟩).symm.trans hi2)) (show aS 88 S2 = a8 from by first | (exact (xC_o (W := 88) rp0_S2).1.trans rp2_S2)) (show kC S2 = kk from by first | (exact (xK_o (W := 75) rp0_S2 rp3_S2).2))
theorem lp_118_75_sk_36 {X : Nat × (Nat → Int32)} {d w : Nat} {f : Nat → Nat → Int32} {r : Nat → Nat → Option Nat} {C Z N : Nat} {Q : Option ma_V ⊕ Nat → ma_S → Prop} {ab : Nat→Nat→Int32} {R : zRT} {a8 : Nat→Nat→Int32} {kk : Nat→Int32} (hd : 1 ≤ d) (hw : 21 ≤ w) (K : ∀ S₉, zI f r C Z N S₉ → (xB S₉ R) → (aS 75 S₉ = aRo ab 0) → (aS 88 S₉ = a8) → (kC S₉ = kk) → Q (.inl none) S₉) : ∀ (n : Nat) (S : ma_S) (l1 : Int32), (512 - l1.toInt).toNat = n → zI f r C Z N S → (0 ≤ l1.toInt) → (xB S R) → (aWi (aS 75 S) l1 = aRo ab 0) → (aS 88 S = a8) → (kC S = kk) → ma_wp X d w 118 36 [(0, .inr (.inr (some 75))), (1, .inl l1)] [] S Q := by
  intro n
  induction n using Nat.strongRecOn with
  | _ n IH =>
    intro S l1 hmu hI  hi0 hi1 hi2 hi3 hi4
    refine g_118_75_sk_36 l1 (by omega) (by omega) (zG_T hI) ?_
    have r5 := congrArg Int32.toInt (aS_I (W := 75) (S := S) (c := 69) (c₉ := 69) (k := 5) rfl rfl)
    have f1 := zG_s hI (0) (512) (c := 69) (k := 5) (by decide)
    have b2 := i_bd l1
    refine zd (fun h3 => ?_) (fun h3 => ?_)
    · skip
      have g4 := i_le h3
      have li5 : (0 : Int32).toInt = 0 := rfl
      exact lp_118_75_sk_75 (by omega) (by omega) K _ _ ((0 : Int32)) rfl hI (by omega) (show xB S R from by first | (exact (xC_o (W := 75) hi1).2)) (show aHo (aS 75 S) ((0 : Int32)) = aRo ab 0 from by first | (exact (aWi_st (by omega)).symm.trans hi2)) (show aS 88 S = a8 from by first | (exact (xC_o (W := 88) hi1).1.trans hi3)) (show kC S = kk from by first | (exact (xK_o (W := 75) hi1 hi4).2))
    · skip
      have g6 := i_nle h3
      refine ⟨i_ix (by omega) (by omega), ?_⟩
      have b7 := i_bd (mI S 74 l1.toNatClampNeg)
      have li8 : (0 : Int32).toInt = 0 := rfl
      refine zd (fun h9 => ?_) (fun h9 => ?_)
      · skip
        have g10 := i_lt h9
        refine sp_119_75_sk (ab := (aS 75 S)) (R := R) (y := ((mI S 74 l1.toNatClampNeg))) (a8 := a8) (kk := kk) (none) (by omega) (by omega) hI (fun _ z => by cases z) (show xB S R from by first | (exact (xC_o (W := 75) hi1).2)) (show aS 75 S = (aS 75 S) from by first | (exact rfl)) (show none = zTa R ((mI S 74 l1.toNatClampNeg)) from by first | (exact ta_no (by omega))) (show aS 88 S = a8 from by first | (exact (xC_o (W := 88) hi1).1.trans hi3)) (show kC S = kk from by first | (exact (xK_o (W := 75) hi1 hi4).2)) (fun S1 hI_S1 rp0_S1 rp1_S1 rp2_S1 rp3_S1 => zv_n ⟨zG_T hI_S1, ?_⟩)
        have rp0_S1 : xB S1 R := rp0_S1
        have rp1_S1 : aS 75 S1 = aCm (aS 75 S) ((mI S 74 l1.toNatClampNeg)) := rp1_S1
        have rp2_S1 : aS 88 S1 = a8 := rp2_S1
        have rp3_S1 : kC S1 = kk := rp3_S1
        first | have e11 : (l1 + (1 : Int32)).toInt = l1.toInt + (1) := i_addk rfl (by omega) (by omega) | have b12 := i_bd (l1 + (1 : Int32))
        exact IH _ (by omega) _ ((l1 + (1 : Int32))) rfl hI_S1 (by omega) (show xB S1 R from by first | (exact (xC_o (W := 75) rp0_S1).2)) (show aWi (aS 75 S1) ((l1 + (1 : Int32))) = aRo ab 0 from by first | (rw [rp1_S1, ← (aS_I (W := 75) (S := S) (c := 74) (c₉ := 74) (k := l1.toNatClampNeg) rfl rfl)]; exact (aWi_go (by omega)).symm.trans hi2)) (show aS 88 S1 = a8 from by first | (exact (xC_o (W := 88) rp0_S1).1.trans rp2_S1)) (show kC S1 = kk from by first | (exact (xK_o (W := 75) rp0_S1 rp3_S1).2))
      · skip
        have g13 := i_nlt h9
        have li14 : (512 : Int32).toInt = 512 := rfl
        refine zd (fun h15 => ?_) (fun h15 => ?_)
        · skip
          have g16 := i_le h15
          refine sp_119_75_sk (ab := (aS 75 S)) (R := R) (y := ((mI S 74 l1.toNatClampNeg))) (a8 := a8) (kk := kk) (none) (by omega) (by omega) hI (fun _ z => by cases z) (show xB S R from by first | (exact (xC_o (W := 75) hi1).2)) (show aS 75 S = (aS 75 S) from by first | (exact rfl)) (show none = zTa R ((mI S 74 l1.toNatClampNeg)) from by first | (exact ta_no (by omega))) (show aS 88 S = a8 from by first | (exact (xC_o (W := 88) hi1).1.trans hi3)) (show kC S = kk from by first | (exact (xK_o (W := 75) hi1 hi4).2)) (fun S3 hI_S3 rp0_S3 rp1_S3 rp2_S3 rp3_S3 => zv_n ⟨zG_T hI_S3, ?_⟩)
          have rp0_S3 : xB S3 R := rp0_S3
          have rp1_S3 : aS 75 S3 = aCm (aS 75 S) ((mI S 74 l1.toNatClampNeg)) := rp1_S3
          have rp2_S3 : aS 88 S3 = a8 := rp2_S3
          have rp3_S3 : kC S3 = kk := rp3_S3
          first | have e17 : (l1 + (1 : Int32)).toInt = l1.toInt + (1) := i_addk rfl (by omega) (by omega) | have b18 := i_bd (l1 + (1 : Int32))
          exact IH _ (by omega) _ ((l1 + (1 : Int32))) rfl hI_S3 (by omega) (show xB S3 R from by first | (exact (xC_o (W := 75) rp0_S3).2)) (show aWi (aS 75 S3) ((l1 + (1 : Int32))) = aRo ab 0 from by first | (rw [rp1_S3, ← (aS_I (W := 75) (S := S) (c := 74) (c₉ := 74) (k := l1.toNatClampNeg) rfl rfl)]; exact (aWi_go (by omega)).symm.trans hi2)) (show aS 88 S3 = a8 from by first | (exact (xC_o (W := 88) rp0_S3).1.trans rp2_S3)) (show kC S3 = kk from by first | (exact (xK_o (W := 75) rp0_S3 rp3_S3).2))
        · skip
          have g19 := i_nle h15
          refine ⟨i_ix (by omega) (by omega), ?_⟩
          refine sp_119_75_sk (ab := (aS 75 S)) (R := R) (y := ((mI S 74 l1.toNatClampNeg))) (a8 := a8) (kk := kk) ((mR S 70 (mI S 74 l1.toNatClampNeg).toNatClampNeg)) (by omega) (by omega) hI (fun _ z => zG_70 hI (c := 70) (by decide) z) (show xB S R from by first | (exact (xC_o (W := 75) hi1).2)) (show aS 75 S = (aS 75 S) from by first | (exact rfl)) (show (mR S 70 (mI S 74 l1.toNatClampNeg).toNatClampNeg) = zTa R ((mI S 74 l1.toNatClampNeg)) from by first | (exact ta_rd hi1 (by omega) (by omega))) (show aS 88 S = a8 from by first | (exact (xC_o (W := 88) hi1).1.trans hi3)) (show kC S = kk from by first | (exact (xK_o (W := 75) hi1 hi4).2)) (fun S5 hI_S5 rp0_S5 rp1_S5 rp2_S5 rp3_S5 => zv_n ⟨zG_T hI_S5, ?_⟩)
          have rp0_S5 : xB S5 R := rp0_S5
          have rp1_S5 : aS 75 S5 = aCm (aS 75 S) ((mI S 74 l1.toNatClampNeg)) := rp1_S5
          have rp2_S5 : aS 88 S5 = a8 := rp2_S5
          have rp3_S5 : kC S5 = kk := rp3_S5
          first | have e20 : (l1 + (1 : Int32)).toInt = l1.toInt + (1) := i_addk rfl (by omega) (by omega) | have b21 := i_bd (l1 + (1 : Int32))
          exact IH _ (by omega) _ ((l1 + (1 : Int32))) rfl hI_S5 (by omega) (show xB S5 R from by first | (exact (xC_o (W := 75) rp0_S5).2)) (show aWi (aS 75 S5) ((l1 + (1 : Int32))) = aRo ab 0 from by first | (rw [rp1_S5, ← (aS_I (W := 75) (S := S) (c := 74) (c₉ := 74) (k := l1.toNatClampNeg) rfl rfl)]; exact (aWi_go (by omega)).symm.trans hi2)) (show aS 88 S5 = a8 from by first | (exact (xC_o (W := 88) rp0_S5).1.trans rp2_S5)) (show kC S5 = kk from by first | (exact (xK_o (W := 75) rp0_S5 rp3_S5).2))
theorem lp_118_75_sk_2 {X : Nat × (Nat → Int32)} {d w : Nat} {f : Nat → Nat → Int32} {r : Nat → Nat → Option Nat} {C Z N : Nat} {Q : Option ma_V ⊕ Nat → ma_S → Prop} {ab : Nat→Nat→Int32} {R : zRT} {a8 : Nat→Nat→Int32} {kk : Nat→Int32} (hd : 1 ≤ d) (hw : 21 ≤ w) (K : ∀ S₉, zI f r C Z N S₉ → (xB S₉ R) → (aS 75 S₉ = aRo ab 0) → (aS 88 S₉ = a8) → (kC S₉ = kk) → Q (.inl none) S₉) : ∀ (n : Nat) (S : ma_S) (l1 : Int32), (16 - l1.toInt).toNat = n → zI f r C Z N S → (0 ≤ l1.toInt) → (xB S R) → (aRo (aS 75 S) l1 = aRo ab 0) → (aS 88 S = a8) → (kC S = kk) → ma_wp X d w 118 2 [(0, .inr (.inr (some 75))), (1, .inl l1)] [] S Q := by
  intro n
  induction n using Nat.strongRecOn with
  | _ n IH =>
    intro S l1 hmu hI  hi0 hi1 hi2 hi3 hi4
    refine g_118_75_sk_2 l1 (by omega) (by omega) (zG_T hI) ?_
    have li1 : (16 : Int32).toInt = 16 := rfl
    have b2 := i_bd l1
    refine zd (fun h3 => ?_) (fun h3 => ?_)
    · skip
      have g4 := i_le h3
      have li5 : (0 : Int32).toInt = 0 := rfl
      exact lp_118_75_sk_36 (by omega) (by omega) K _ _ ((0 : Int32)) rfl hI (by omega) (show xB S R from by first | (exact (xC_o (W := 75) hi1).2)) (show aWi (aS 75 S) ((0 : Int32)) = aRo ab 0 from by first | (exact (aRo_st (by omega)).symm.trans hi2)) (show aS 88 S = a8 from by first | (exact (xC_o (W := 88) hi1).1.trans hi3)) (show kC S = kk from by first | (exact (xK_o (W := 75) hi1 hi4).2))
    · skip
      have g6 := i_nle h3
      refine ⟨i_ix (by omega) (by omega), ?_⟩
      have b7 := i_bd (mI S 72 l1.toNatClampNeg)
      have li8 : (0 : Int32).toInt = 0 := rfl
      refine zd (fun h9 => ?_) (fun h9 => ?_)
      · skip
        have g10 := i_lt h9
        refine sp_119_75_sk (ab := (aS 75 S)) (R := R) (y := ((mI S 72 l1.toNatClampNeg))) (a8 := a8) (kk := kk) (none) (by omega) (by omega) hI (fun _ z => by cases z) (show xB S R from by first | (exact (xC_o (W := 75) hi1).2)) (show aS 75 S = (aS 75 S) from by first | (exact rfl)) (show none = zTa R ((mI S 72 l1.toNatClampNeg)) from by first | (exact ta_no (by omega))) (show aS 88 S = a8 from by first | (exact (xC_o (W := 88) hi1).1.trans hi3)) (show kC S = kk from by first | (exact (xK_o (W := 75) hi1 hi4).2)) (fun S1 hI_S1 rp0_S1 rp1_S1 rp2_S1 rp3_S1 => zv_n ⟨zG_T hI_S1, ?_⟩)
        have rp0_S1 : xB S1 R := rp0_S1
        have rp1_S1 : aS 75 S1 = aCm (aS 75 S) ((mI S 72 l1.toNatClampNeg)) := rp1_S1
        have rp2_S1 : aS 88 S1 = a8 := rp2_S1
        have rp3_S1 : kC S1 = kk := rp3_S1
        first | have e11 : (l1 + (1 : Int32)).toInt = l1.toInt + (1) := i_addk rfl (by omega) (by omega) | have b12 := i_bd (l1 + (1 : Int32))
        exact IH _ (by omega) _ ((l1 + (1 : Int32))) rfl hI_S1 (by omega) (show xB S1 R from by first | (exact (xC_o (W := 75) rp0_S1).2)) (show aRo (aS 75 S1) ((l1 + (1 : Int32))) = aRo ab 0 from by first | (rw [rp1_S1, ← (aS_I (W := 75) (S := S) (c := 72) (c₉ := 72) (k := l1.toNatClampNeg) rfl rfl)]; exact (aRo_go (by omega)).symm.trans hi2)) (show aS 88 S1 = a8 from by first | (exact (xC_o (W := 88) rp0_S1).1.trans rp2_S1)) (show kC S1 = kk from by first | (exact (xK_o (W := 75) rp0_S1 rp3_S1).2))
      · skip
        have g13 := i_nlt h9
        have li14 : (512 : Int32).toInt = 512 := rfl
        refine zd (fun h15 => ?_) (fun h15 => ?_)
        · skip
          have g16 := i_le h15
          refine sp_119_75_sk (ab := (aS 75 S)) (R := R) (y := ((mI S 72 l1.toNatClampNeg))) (a8 := a8) (kk := kk) (none) (by omega) (by omega) hI (fun _ z => by cases z) (show xB S R from by first | (exact (xC_o (W := 75) hi1).2)) (show aS 75 S = (aS 75 S) from by first | (exact rfl)) (show none = zTa R ((mI S 72 l1.toNatClampNeg)) from by first | (exact ta_no (by omega))) (show aS 88 S = a8 from by first | (exact (xC_o (W := 88) hi1).1.trans hi3)) (show kC S = kk from by first | (exact (xK_o (W := 75) hi1 hi4).2)) (fun S3 hI_S3 rp0_S3 rp1_S3 rp2_S3 rp3_S3 => zv_n ⟨zG_T hI_S3, ?_⟩)
          have rp0_S3 : xB S3 R := rp0_S3
          have rp1_S3 : aS 75 S3 = aCm (aS 75 S) ((mI S 72 l1.toNatClampNeg)) := rp1_S3
          have rp2_S3 : aS 88 S3 = a8 := rp2_S3
          have rp3_S3 : kC S3 = kk := rp3_S3
          first | have e17 : (l1 + (1 : Int32)).toInt = l1.toInt + (1) := i_addk rfl (by omega) (by omega) | have b18 := i_bd (l1 + (1 : Int32))
          exact IH _ (by omega) _ ((l1 + (1 : Int32))) rfl hI_S3 (by omega) (show xB S3 R from by first | (exact (xC_o (W := 75) rp0_S3).2)) (show aRo (aS 75 S3) ((l1 + (1 : Int32))) = aRo ab 0 from by first | (rw [rp1_S3, ← (aS_I (W := 75) (S := S) (c := 72) (c₉ := 72) (k := l1.toNatClampNeg) rfl rfl)]; exact (aRo_go (by omega)).symm.trans hi2)) (show aS 88 S3 = a8 from by first | (exact (xC_o (W := 88) rp0_S3).1.trans rp2_S3)) (show kC S3 = kk from by first | (exact (xK_o (W := 75) rp0_S3 rp3_S3).2))
        · skip
          have g19 := i_nle h15
          refine ⟨i_ix (by omega) (by omega), ?_⟩
          refine sp_119_75_sk (ab := (aS 75 S)) (R := R) (y := ((mI S 72 l1.toNatClampNeg))) (a8 := a8) (kk := kk) ((mR S 70 (mI S 72 l1.toNatClampNeg).toNatClampNeg)) (by omega) (by omega) hI (fun _ z => zG_70 hI (c := 70) (by decide) z) (show xB S R from by first | (exact (xC_o (W := 75) hi1).2)) (show aS 75 S = (aS 75 S) from by first | (exact rfl)) (show (mR S 70 (mI S 72 l1.toNatClampNeg).toNatClampNeg) = zTa R ((mI S 72 l1.toNatClampNeg)) from by first | (exact ta_rd hi1 (by omega) (by omega))) (show aS 88 S = a8 from by first | (exact (xC_o (W := 88) hi1).1.trans hi3)) (show kC S = kk from by first | (exact (xK_o (W := 75) hi1 hi4).2)) (fun S5 hI_S5 rp0_S5 rp1_S5 rp2_S5 rp3_S5 => zv_n ⟨zG_T hI_S5, ?_⟩)
          have rp0_S5 : xB S5 R := rp0_S5
          have rp1_S5 : aS 75 S5 = aCm (aS 75 S) ((mI S 72 l1.toNatClampNeg)) := rp1_S5
          have rp2_S5 : aS 88 S5 = a8 := rp2_S5
          have rp3_S5 : kC S5 = kk := rp3_S5
          first | have e20 : (l1 + (1 : Int32)).toInt = l1.toInt + (1) := i_addk rfl (by omega) (by omega) | have b21 := i_bd (l1 + (1 : Int32))
          exact IH _ (by omega) _ ((l1 + (1 : Int32))) rfl hI_S5 (by omega) (show xB S5 R from by first | (exact (xC_o (W := 75) rp0_S5).2)) (show aRo (aS 75 S5) ((l1 + (1 : Int32))) = aRo ab 0 from by first | (rw [rp1_S5, ← (aS_I (W := 75) (S := S) (c := 72) (c₉ := 72) (k := l1.toNatClampNeg) rfl rfl)]; exact (aRo_go (by omega)).symm.trans hi2)) (show aS 88 S5 = a8 from by first | (exact (xC_o (W := 88) rp0_S5).1.trans rp2_S5)) (show kC S5 = kk from by first | (exact (xK_o (W := 75) rp0_S5 rp3_S5).2))
theorem sp_118_75_sk {X : Nat × (Nat → Int32)} {d w : Nat} {f : Nat → Nat → Int32} {r : Nat → Nat → Option Nat} {C Z N : Nat} {Q : Option ma_V ⊕ Nat → ma_S → Prop} {ab : Nat→Nat→Int32} {R : zRT} {a8 : Nat→Nat→Int32} {kk : Nat→Int32} {S : ma_S}  (hd : 1 ≤ d) (hw : 21 ≤ w) (hI : zI f r C Z N S) (hpre0 : xB S R) (hpre1 : aS 75 S = ab) (hpre2 : aS 88 S = a8) (hpre3 : kC S = kk) (K : ∀ S₉, zI f r C Z N S₉ → (xB S₉ R) → (aS 75 S₉ = aRo ab 0) → (aS 88 S₉ = a8) → (kC S₉ = kk) → Q (.inl none) S₉) : ma_wp X d w 118 0 [(0, .inr (.inr (some 75)))] [] S Q := by
  refine g_118_75_sk_0  (by omega) (by omega) (zG_T hI) ?_
  have li1 : (0 : Int32).toInt = 0 := rfl
  exact lp_118_75_sk_2 (by omega) (by omega) K _ _ ((0 : Int32)) rfl hI (by omega) (show xB S R from by first | (exact (xC_o (W := 75) hpre0).2)) (show aRo (aS 75 S) ((0 : Int32)) = aRo ab 0 from by first | (rw [hpre1])) (show aS 88 S = a8 from by first | (exact (xC_o (W := 88) hpre0).1.trans hpre2)) (show kC S = kk from by first | (exact (xK_o (W := 75) hpre0 hpre3).2))

/-! from 95.m17 -/
/-! COUNTS, the class (written by wip/tools/gen20k.py) -/
theorem g_120_75_sk_0 {X : Nat × (Nat → Int32)} {d w : Nat} {S : ma_S} {Q : Option ma_V ⊕ Nat → ma_S → Prop} (m : Int32) (hd : 1 ≤ d) (hw : 25 ≤ w) (hS : zT S) (h : ma_wp X d w 120 2 [(0, .inr (.inr (some 75))), (1, .inl m), (2, .inl (0 : Int32))] [] S Q) : ma_wp X d w 120 0 [(0, .inr (.inr (some 75))), (1, .inl m)] [] S Q := by
  refine zw_push hm_120 dX10_spread_0 (v := .inl (0 : Int32)) rfl ?_
  refine zw_sto hm_120 dX10_spread_1 [(2, .inl (0 : Int32)), (0, .inr (.inr (some 75))), (1, .inl m)] rfl rfl rfl ?_
  exact zw_sub (ma_nd_of (ks := [0, 1, 2]) rfl (by decide)) (ma_nd_of (ks := [2, 0, 1]) rfl (by decide)) (ma_le_cons rfl (ma_le_cons rfl (ma_le_cons rfl (ma_le_nil _)))) h
theorem g_120_75_sk_2 {X : Nat × (Nat → Int32)} {d w : Nat} {S : ma_S} {Q : Option ma_V ⊕ Nat → ma_S → Prop} (l1 : Int32) (l2 : Int32) (hd : 1 ≤ d) (hw : 25 ≤ w) (hS : zT S) (h : if l1 ≤ l2 then (Q (.inl (some (.inl l2))) S) else (if (mI S 75 4) ≤ (mI S 75 3) then (Q (.inl (some (.inl l2))) S) else ((0 ≤ (mI S 75 3) ∧ (mI S 75 3).toNatClampNeg < 512) ∧ (if (mI S 76 (mI S 75 3).toNatClampNeg) < 0 then (ma_wp X d w 120 2 [(0, .inr (.inr (some 75))), (1, .inl l1), (2, .inl (l2 + (1 : Int32)))] [] (ma_put S 75 3 (.inl ((mI S 75 3) + (1 : Int32)))) Q) else (if (512 : Int32) ≤ (mI S 76 (mI S 75 3).toNatClampNeg) then (ma_wp X d w 120 2 [(0, .inr (.inr (some 75))), (1, .inl l1), (2, .inl (l2 + (1 : Int32)))] [] (ma_put S 75 3 (.inl ((mI S 75 3) + (1 : Int32)))) Q) else ((0 ≤ (mI S 76 (mI S 75 3).toNatClampNeg) ∧ (mI S 76 (mI S 75 3).toNatClampNeg).toNatClampNeg < 512) ∧ (((mR S 70 (mI S 76 (mI S 75 3).toNatClampNeg).toNatClampNeg) = none → ma_wp X d w 120 2 [(0, .inr (.inr (some 75))), (1, .inl l1), (2, .inl (l2 + (1 : Int32)))] [] (ma_put S 75 3 (.inl ((mI S 75 3) + (1 : Int32)))) Q) ∧ (∀ c1, (mR S 70 (mI S 76 (mI S 75 3).toNatClampNeg).toNatClampNeg) = some c1 → (126 ≤ c1 ∧ c1 < mN (ma_put S 75 3 (.inl ((mI S 75 3) + (1 : Int32))))) ∧ (if (512 : Int32) ≤ (mI (ma_put S 75 3 (.inl ((mI S 75 3) + (1 : Int32)))) c1 0) then (ma_wp X d w 120 57 [(0, .inr (.inr (some 75))), (1, .inl l1), (2, .inl l2), (3, .inr (.inr (some c1))), (4, .inl (0 : Int32))] [] (ma_put S 75 3 (.inl ((mI S 75 3) + (1 : Int32)))) Q) else ((126 ≤ c1 ∧ c1 < mN (ma_put S 75 3 (.inl ((mI S 75 3) + (1 : Int32))))) ∧ ((0 ≤ (mI (ma_put S 75 3 (.inl ((mI S 75 3) + (1 : Int32)))) c1 0) ∧ (mI (ma_put S 75 3 (.inl ((mI S 75 3) + (1 : Int32)))) c1 0).toNatClampNeg < 512) ∧ (ma_wp X d w 120 57 [(0, .inr (.inr (some 75))), (1, .inl l1), (2, .inl l2), (3, .inr (.inr (some c1))), (4, .inl (0 : Int32))] [] (ma_put (ma_put S 75 3 (.inl ((mI S 75 3) + (1 : Int32)))) 77 (mI (ma_put S 75 3 (.inl ((mI S 75 3) + (1 : Int32)))) c1 0).toNatClampNeg (.inl (2 : Int32))) Q)))))))))))) : ma_wp X d w 120 2 [(0, .inr (.inr (some 75))), (1, .inl l1), (2, .inl l2)] [] S Q := by
  refine zw_push hm_120 dX10_spread_2 (v := .inl l2) rfl ?_
  refine zw_push hm_120 dX10_spread_3 (v := .inl l1) rfl ?_
  refine zw_if2 hm_120 dX10_spread_4 (t := 94) rfl zc2_ge ?_ ?_
  · intro hc
    rw [if_pos hc] at h
    refine zw_push hm_120 dX10_spread_94 (v := .inl l2) rfl ?_
    exact zw_iret hm_120 dX10_spread_95 h
  · intro hc
    rw [if_neg hc] at h
    refine zw_push hm_120 dX10_spread_7 (v := .inr (.inr (some 75))) rfl ?_
    refine zw_gf hm_120 dX10_spread_8 (v := .inl (mI S 75 3)) (zT_is hS s_75) (zT_t hS s_75) rfl f_10_28_10 rfl ?_
    refine zw_push hm_120 dX10_spread_11 (v := .inr (.inr (some 75))) rfl ?_
    refine zw_gf hm_120 dX10_spread_12 (v := .inl (mI S 75 4)) (zT_is hS s_75) (zT_t hS s_75) rfl f_10_32_10 rfl ?_
    refine zw_if2 hm_120 dX10_spread_15 (t := 94) rfl zc2_ge ?_ ?_
    · intro hc
      rw [if_pos hc] at h
      refine zw_push hm_120 dX10_spread_94 (v := .inl l2) rfl ?_
      exact zw_iret hm_120 dX10_spread_95 h
    · intro hc
      rw [if_neg hc] at h
      refine zw_push hm_120 dX10_spread_18 (v := .inr (.inr (some 75))) rfl ?_
      refine zw_gf hm_120 dX10_spread_19 (v := .inr (.inr (some 69))) (zT_is hS s_75) (zT_t hS s_75) rfl f_10_18_10 (zT_f hS r_75_0) ?_
      refine zw_push hm_120 dX10_spread_22 (v := .inr (.inr (some 75))) rfl ?_
      refine zw_gf hm_120 dX10_spread_23 (v := .inr (.inr (some 76))) (zT_is hS s_75) (zT_t hS s_75) rfl f_10_9_10 (zT_f hS r_75_1) ?_
      refine zw_push hm_120 dX10_spread_26 (v := .inr (.inr (some 75))) rfl ?_
      refine zw_gf hm_120 dX10_spread_27 (v := .inl (mI S 75 3)) (zT_is hS s_75) (zT_t hS s_75) rfl f_10_28_10 rfl ?_
      obtain ⟨hg, h⟩ := h
      refine zw_ia hm_120 dX10_spread_30 (zT_is hS s_76) (zT_h hS s_76) rfl hg ?_
      show ma_wp X d w 120 31 [(0, .inr (.inr (some 75))), (1, .inl l1), (2, .inl l2)] [.inl (mI S 76 (mI S 75 3).toNatClampNeg), .inr (.inr (some 69))] S _
      refine zw_cv hm_120 dX10_spread_31 v_10_66_7 hm_81 [.inl (mI S 76 (mI S 75 3).toNatClampNeg)] [] rfl (zT_rt hS s_69 rfl) ⟨by omega, by omega⟩ rfl ?_
      show ma_wp X (d - 1) (w - 21) 81 0 [(0, .inr (.inr (some 69))), (1, .inl (mI S 76 (mI S 75 3).toNatClampNeg))] [] S _
      refine zw_push hm_81 dX7_thingAt_0 (v := .inl (mI S 76 (mI S 75 3).toNatClampNeg)) rfl ?_
      refine zw_if0 hm_81 dX7_thingAt_1 (t := 20) rfl zc0_lt ?_ ?_
      · intro hc
        rw [if_pos hc] at h
        refine zw_push hm_81 dX7_thingAt_20 (v := .inr (.inr none)) rfl ?_
        refine zw_aret hm_81 dX7_thingAt_21 ?_
        show ma_wp X d w 120 34 [(0, .inr (.inr (some 75))), (1, .inl l1), (2, .inl l2)] [.inr (.inr none)] S _
        refine zw_sto hm_120 dX10_spread_34 [(3, .inr (.inr none)), (0, .inr (.inr (some 75))), (1, .inl l1), (2, .inl l2)] rfl rfl rfl ?_
        refine zw_push hm_120 dX10_spread_35 (v := .inr (.inr (some 75))) rfl ?_
        refine zw_stk hm_120 dX10_spread_36 (st₉ := [.inr (.inr (some 75)), .inr (.inr (some 75))]) rfl rfl ?_
        refine zw_gf hm_120 dX10_spread_37 (v := .inl (mI S 75 3)) (zT_is hS s_75) (zT_t hS s_75) rfl f_10_28_10 rfl ?_
        refine zw_push hm_120 dX10_spread_40 (v := .inl (1 : Int32)) rfl ?_
        refine zw_stk hm_120 dX10_spread_41 (st₉ := [.inl ((mI S 75 3) + (1 : Int32)), .inr (.inr (some 75))]) rfl rfl ?_
        refine zw_pf hm_120 dX10_spread_42 (zT_is hS s_75) (zT_t hS s_75) p_10_28_10 zk_int ?_
        refine zw_push hm_120 dX10_spread_45 (v := .inr (.inr none)) rfl ?_
        refine zw_ifnull hm_120 dX10_spread_46 (t := 88) rfl (fun _ => ?_) (fun _ z => by cases z)
        refine zw_sto hm_120 dX10_spread_88 [(2, .inl (l2 + (1 : Int32))), (3, .inr (.inr none)), (0, .inr (.inr (some 75))), (1, .inl l1)] rfl rfl rfl ?_
        refine zw_goto hm_120 dX10_spread_91 (t := 2) rfl ?_
        exact zw_sub (ma_nd_of (ks := [0, 1, 2]) rfl (by decide)) (ma_nd_of (ks := [2, 3, 0, 1]) rfl (by decide)) (ma_le_cons rfl (ma_le_cons rfl (ma_le_cons rfl (ma_le_nil _)))) h
      · intro hc
        rw [if_neg hc] at h
        refine zw_push hm_81 dX7_thingAt_4 (v := .inl (mI S 76 (mI S 75 3).toNatClampNeg)) rfl ?_
        refine zw_push hm_81 dX7_thingAt_5 (v := .inl (512 : Int32)) rfl ?_
        refine zw_if2 hm_81 dX7_thingAt_8 (t := 20) rfl zc2_ge ?_ ?_
        · intro hc
          rw [if_pos hc] at h
          refine zw_push hm_81 dX7_thingAt_20 (v := .inr (.inr none)) rfl ?_
          refine zw_aret hm_81 dX7_thingAt_21 ?_
          show ma_wp X d w 120 34 [(0, .inr (.inr (some 75))), (1, .inl l1), (2, .inl l2)] [.inr (.inr none)] S _
          refine zw_sto hm_120 dX10_spread_34 [(3, .inr (.inr none)), (0, .inr (.inr (some 75))), (1, .inl l1), (2, .inl l2)] rfl rfl rfl ?_
          refine zw_push hm_120 dX10_spread_35 (v := .inr (.inr (some 75))) rfl ?_
          refine zw_stk hm_120 dX10_spread_36 (st₉ := [.inr (.inr (some 75)), .inr (.inr (some 75))]) rfl rfl ?_
          refine zw_gf hm_120 dX10_spread_37 (v := .inl (mI S 75 3)) (zT_is hS s_75) (zT_t hS s_75) rfl f_10_28_10 rfl ?_
          refine zw_push hm_120 dX10_spread_40 (v := .inl (1 : Int32)) rfl ?_
          refine zw_stk hm_120 dX10_spread_41 (st₉ := [.inl ((mI S 75 3) + (1 : Int32)), .inr (.inr (some 75))]) rfl rfl ?_
          refine zw_pf hm_120 dX10_spread_42 (zT_is hS s_75) (zT_t hS s_75) p_10_28_10 zk_int ?_
          refine zw_push hm_120 dX10_spread_45 (v := .inr (.inr none)) rfl ?_
          refine zw_ifnull hm_120 dX10_spread_46 (t := 88) rfl (fun _ => ?_) (fun _ z => by cases z)
          refine zw_sto hm_120 dX10_spread_88 [(2, .inl (l2 + (1 : Int32))), (3, .inr (.inr none)), (0, .inr (.inr (some 75))), (1, .inl l1)] rfl rfl rfl ?_
          refine zw_goto hm_120 dX10_spread_91 (t := 2) rfl ?_
          exact zw_sub (ma_nd_of (ks := [0, 1, 2]) rfl (by decide)) (ma_nd_of (ks := [2, 3, 0, 1]) rfl (by decide)) (ma_le_cons rfl (ma_le_cons rfl (ma_le_cons rfl (ma_le_nil _)))) h
        · intro hc
          rw [if_neg hc] at h
          refine zw_push hm_81 dX7_thingAt_11 (v := .inr (.inr (some 69))) rfl ?_
          refine zw_gf hm_81 dX7_thingAt_12 (v := .inr (.inr (some 70))) (zT_is hS s_69) (zT_t hS s_69) rfl f_7_11_7 (zT_f hS r_69_0) ?_
          refine zw_push hm_81 dX7_thingAt_15 (v := .inl (mI S 76 (mI S 75 3).toNatClampNeg)) rfl ?_
          obtain ⟨hg, h⟩ := h
          refine zw_aa hm_81 dX7_thingAt_16 (zT_is hS s_70) (zT_h hS s_70) rfl rfl hg rfl ?_
          show ma_wp X (d - 1) (w - 21) 81 17 [(0, .inr (.inr (some 69))), (1, .inl (mI S 76 (mI S 75 3).toNatClampNeg))] [.inr (.inr (mR S 70 (mI S 76 (mI S 75 3).toNatClampNeg).toNatClampNeg))] S _
          refine zw_goto hm_81 dX7_thingAt_17 (t := 21) rfl ?_
          refine zw_aret hm_81 dX7_thingAt_21 ?_
          show ma_wp X d w 120 34 [(0, .inr (.inr (some 75))), (1, .inl l1), (2, .inl l2)] [.inr (.inr (mR S 70 (mI S 76 (mI S 75 3).toNatClampNeg).toNatClampNeg))] S _
          refine zw_sto hm_120 dX10_spread_34 [(3, .inr (.inr (mR S 70 (mI S 76 (mI S 75 3).toNatClampNeg).toNatClampNeg))), (0, .inr (.inr (some 75))), (1, .inl l1), (2, .inl l2)] rfl rfl rfl ?_
          refine zw_push hm_120 dX10_spread_35 (v := .inr (.inr (some 75))) rfl ?_
          refine zw_stk hm_120 dX10_spread_36 (st₉ := [.inr (.inr (some 75)), .inr (.inr (some 75))]) rfl rfl ?_
          refine zw_gf hm_120 dX10_spread_37 (v := .inl (mI S 75 3)) (zT_is hS s_75) (zT_t hS s_75) rfl f_10_28_10 rfl ?_
          refine zw_push hm_120 dX10_spread_40 (v := .inl (1 : Int32)) rfl ?_
          refine zw_stk hm_120 dX10_spread_41 (st₉ := [.inl ((mI S 75 3) + (1 : Int32)), .inr (.inr (some 75))]) rfl rfl ?_
          refine zw_pf hm_120 dX10_spread_42 (zT_is hS s_75) (zT_t hS s_75) p_10_28_10 zk_int ?_
          refine zw_push hm_120 dX10_spread_45 (v := .inr (.inr (mR S 70 (mI S 76 (mI S 75 3).toNatClampNeg).toNatClampNeg))) rfl ?_
          refine zw_ifnull hm_120 dX10_spread_46 (t := 88) rfl ?_ ?_
          · intro hc
            have h := h.1 hc
            (try rw [hc])
            show ma_wp X d w 120 88 [(3, .inr (.inr none)), (0, .inr (.inr (some 75))), (1, .inl l1), (2, .inl l2)] [] (ma_put S 75 3 (.inl ((mI S 75 3) + (1 : Int32)))) _
            refine zw_sto hm_120 dX10_spread_88 [(2, .inl (l2 + (1 : Int32))), (3, .inr (.inr none)), (0, .inr (.inr (some 75))), (1, .inl l1)] rfl rfl rfl ?_
            refine zw_goto hm_120 dX10_spread_91 (t := 2) rfl ?_
            exact zw_sub (ma_nd_of (ks := [0, 1, 2]) rfl (by decide)) (ma_nd_of (ks := [2, 3, 0, 1]) rfl (by decide)) (ma_le_cons rfl (ma_le_cons rfl (ma_le_cons rfl (ma_le_nil _)))) h
          · intro c1 hc
            have h := h.2 c1 hc
            (try rw [hc])
            show ma_wp X d w 120 49 [(3, .inr (.inr (some c1))), (0, .inr (.inr (some 75))), (1, .inl l1), (2, .inl l2)] [] (ma_put S 75 3 (.inl ((mI S 75 3) + (1 : Int32)))) _
            refine zw_push hm_120 dX10_spread_49 (v := .inr (.inr (some 75))) rfl ?_
            refine zw_push hm_120 dX10_spread_50 (v := .inr (.inr (some c1))) rfl ?_
            refine zw_cv hm_120 dX10_spread_51 v_10_86_10 hm_121 [.inr (.inr (some c1))] [] rfl (zT_rt (zT_pi hS) s_75 rfl) ⟨by omega, by omega⟩ rfl ?_
            show ma_wp X (d - 1) (w - 21) 121 0 [(0, .inr (.inr (some 75))), (1, .inr (.inr (some c1)))] [] (ma_put S 75 3 (.inl ((mI S 75 3) + (1 : Int32)))) _
            refine zw_push hm_121 dX10_blacken_0 (v := .inr (.inr (some c1))) rfl ?_
            obtain ⟨hg, h⟩ := h
            refine zw_gf hm_121 dX10_blacken_1 (v := .inl (mI (ma_put S 75 3 (.inl ((mI S 75 3) + (1 : Int32)))) c1 0)) (zT_tis (zT_pi hS) hg) (zT_tt (zT_pi hS) hg) rfl f_10_58_9 rfl ?_
            refine zw_push hm_121 dX10_blacken_4 (v := .inl (512 : Int32)) rfl ?_
            refine zw_if2 hm_121 dX10_blacken_7 (t := 20) rfl zc2_ge ?_ ?_
            · intro hc
              rw [if_pos hc] at h
              refine zw_vret hm_121 dX10_blacken_20 ?_
              show ma_wp X d w 120 54 [(3, .inr (.inr (some c1))), (0, .inr (.inr (some 75))), (1, .inl l1), (2, .inl l2)] [] (ma_put S 75 3 (.inl ((mI S 75 3) + (1 : Int32)))) _
              refine zw_push hm_120 dX10_spread_54 (v := .inl (0 : Int32)) rfl ?_
              refine zw_sto hm_120 dX10_spread_55 [(4, .inl (0 : Int32)), (3, .inr (.inr (some c1))), (0, .inr (.inr (some 75))), (1, .inl l1), (2, .inl l2)] rfl rfl rfl ?_
              exact zw_sub (ma_nd_of (ks := [0, 1, 2, 3, 4]) rfl (by decide)) (ma_nd_of (ks := [4, 3, 0, 1, 2]) rfl (by decide)) (ma_le_cons rfl (ma_le_cons rfl (ma_le_cons rfl (ma_le_cons rfl (ma_le_cons rfl (ma_le_nil _)))))) h
            · intro hc
              rw [if_neg hc] at h
              refine zw_push hm_121 dX10_blacken_10 (v := .inr (.inr (some 75))) rfl ?_
              refine zw_gf hm_121 dX10_blacken_11 (v := .inr (.inr (some 77))) (zT_is (zT_pi hS) s_75) (zT_t (zT_pi hS) s_75) rfl f_10_15_10 (zT_f (zT_pi hS) r_75_2) ?_
              refine zw_push hm_121 dX10_blacken_14 (v := .inr (.inr (some c1))) rfl ?_
              obtain ⟨hg, h⟩ := h
              refine zw_gf hm_121 dX10_blacken_15 (v := .inl (mI (ma_put S 75 3 (.inl ((mI S 75 3) + (1 : Int32)))) c1 0)) (zT_tis (zT_pi hS) hg) (zT_tt (zT_pi hS) hg) rfl f_10_58_9 rfl ?_
              refine zw_push hm_121 dX10_blacken_18 (v := .inl (2 : Int32)) rfl ?_
              obtain ⟨hg, h⟩ := h
              refine zw_ias hm_121 dX10_blacken_19 (zT_is (zT_pi hS) s_77) (zT_h (zT_pi hS) s_77) rfl hg ?_
              refine zw_vret hm_121 dX10_blacken_20 ?_
              show ma_wp X d w 120 54 [(3, .inr (.inr (some c1))), (0, .inr (.inr (some 75))), (1, .inl l1), (2, .inl l2)] [] (ma_put (ma_put S 75 3 (.inl ((mI S 75 3) + (1 : Int32)))) 77 (mI (ma_put S 75 3 (.inl ((mI S 75 3) + (1 : Int32)))) c1 0).toNatClampNeg (.inl (2 : Int32))) _
              refine zw_push hm_120 dX10_spread_54 (v := .inl (0 : Int32)) rfl ?_
              refine zw_sto hm_120 dX10_spread_55 [(4, .inl (0 : Int32)), (3, .inr (.inr (some c1))), (0, .inr (.inr (some 75))), (1, .inl l1), (2, .inl l2)] rfl rfl rfl ?_
              exact zw_sub (ma_nd_of (ks := [0, 1, 2, 3, 4]) rfl (by decide)) (ma_nd_of (ks := [4, 3, 0, 1, 2]) rfl (by decide)) (ma_le_cons rfl (ma_le_cons rfl (ma_le_cons rfl (ma_le_cons rfl (ma_le_cons rfl (ma_le_nil _)))))) h
theorem g_120_75_sk_57 {X : Nat × (Nat → Int32)} {d w : Nat} {S : ma_S} {Q : Option ma_V ⊕ Nat → ma_S → Prop} (l1 : Int32) (l2 : Int32) (l3 : Nat) (l4 : Int32) (hd : 1 ≤ d) (hw : 25 ≤ w) (hS : zT S) (h : (126 ≤ l3 ∧ l3 < mN S) ∧ (if ((mI S l3 2) - (1 : Int32)) ≤ l4 then (ma_wp X d w 120 2 [(0, .inr (.inr (some 75))), (1, .inl l1), (2, .inl (l2 + (1 : Int32)))] [] S Q) else (ma_wp X (d - 1) (w - 25) 82 0 [(0, .inr (.inr (some 69))), (1, .inr (.inr (some l3))), (2, .inl l4)] [] S (zo (fun v2 S1 => zT S1 ∧ (ma_wp X (d - 1) (w - 21) 119 0 [(0, .inr (.inr (some 75))), (1, .inr (.inr v2))] [] S1 (zv (fun S3 => zT S3 ∧ (ma_wp X d w 120 57 [(0, .inr (.inr (some 75))), (1, .inl l1), (2, .inl l2), (3, .inr (.inr (some l3))), (4, .inl (l4 + (1 : Int32)))] [] S3 Q)) (fun x S9 => Q (.inr x) S9)))) (fun x S9 => Q (.inr x) S9))))) : ma_wp X d w 120 57 [(0, .inr (.inr (some 75))), (1, .inl l1), (2, .inl l2), (3, .inr (.inr (some l3))), (4, .inl l4)] [] S Q := by
  refine zw_push hm_120 dX10_spread_57 (v := .inl l4) rfl ?_
  refine zw_push hm_120 dX10_spread_59 (v := .inr (.inr (some l3))) rfl ?_
  obtain ⟨hg, h⟩ := h
  refine zw_gf hm_120 dX10_spread_60 (v := .inl (mI S l3 2)) (zT_tis hS hg) (zT_tt hS hg) rfl f_10_89_9 rfl ?_
  refine zw_push hm_120 dX10_spread_63 (v := .inl (1 : Int32)) rfl ?_
  refine zw_stk hm_120 dX10_spread_64 (st₉ := [.inl ((mI S l3 2) - (1 : Int32)), .inl l4]) rfl rfl ?_
  refine zw_if2 hm_120 dX10_spread_65 (t := 88) rfl zc2_ge ?_ ?_
  · intro hc
    rw [if_pos hc] at h
    refine zw_sto hm_120 dX10_spread_88 [(2, .inl (l2 + (1 : Int32))), (0, .inr (.inr (some 75))), (1, .inl l1), (3, .inr (.inr (some l3))), (4, .inl l4)] rfl rfl rfl ?_
    refine zw_goto hm_120 dX10_spread_91 (t := 2) rfl ?_
    exact zw_sub (ma_nd_of (ks := [0, 1, 2]) rfl (by decide)) (ma_nd_of (ks := [2, 0, 1, 3, 4]) rfl (by decide)) (ma_le_cons rfl (ma_le_cons rfl (ma_le_cons rfl (ma_le_nil _)))) h
  · intro hc
    rw [if_neg hc] at h
    refine zw_push hm_120 dX10_spread_68 (v := .inr (.inr (some 75))) rfl ?_
    refine zw_push hm_120 dX10_spread_69 (v := .inr (.inr (some 75))) rfl ?_
    refine zw_gf hm_120 dX10_spread_70 (v := .inr (.inr (some 69))) (zT_is hS s_75) (zT_t hS s_75) rfl f_10_18_10 (zT_f hS r_75_0) ?_
    refine zw_push hm_120 dX10_spread_73 (v := .inr (.inr (some l3))) rfl ?_
    refine zw_push hm_120 dX10_spread_74 (v := .inl l4) rfl ?_
    refine zw_cv hm_120 dX10_spread_76 v_10_92_7 hm_82 [.inl l4, .inr (.inr (some l3))] [.inr (.inr (some 75))] rfl (zT_rt hS s_69 rfl) ⟨by omega, by omega⟩ rfl (zw_mono h (zo_go ?_ ?_))
    · intro v2 S1 hv
      obtain ⟨hS1, h⟩ := hv
      refine zw_cv hm_120 dX10_spread_79 v_10_70_10 hm_119 [.inr (.inr v2)] [] rfl (zT_rt hS1 s_75 rfl) ⟨by omega, by omega⟩ rfl (zw_mono h (zv_go ?_ ?_))
      · intro S3 hv
        obtain ⟨hS3, h⟩ := hv
        refine zw_sto hm_120 dX10_spread_82 [(4, .inl (l4 + (1 : Int32))), (0, .inr (.inr (some 75))), (1, .inl l1), (2, .inl l2), (3, .inr (.inr (some l3)))] rfl rfl rfl ?_
        refine zw_goto hm_120 dX10_spread_85 (t := 57) rfl ?_
        exact zw_sub (ma_nd_of (ks := [0, 1, 2, 3, 4]) rfl (by decide)) (ma_nd_of (ks := [4, 0, 1, 2, 3]) rfl (by decide)) (ma_le_cons rfl (ma_le_cons rfl (ma_le_cons rfl (ma_le_cons rfl (ma_le_cons rfl (ma_le_nil _)))))) h
      · intro x S9 hx
        exact ⟨by decide, hx⟩
    · intro x S9 hx
      exact ⟨by decide, hx⟩
theorem lp_120_75_sk_57 {X : Nat × (Nat → Int32)} {d w : Nat} {f : Nat → Nat → Int32} {r : Nat → Nat → Option Nat} {C Z N : Nat} {Q : Option ma_V ⊕ Nat → ma_S → Prop} {ab : Nat→Nat→Int32} {R : zRT} {a8 : Nat→Nat→Int32} {kk : Nat→Int32} {m : Int32} (hd : 1 ≤ d) (hw : 25 ≤ w) (K : ∀ v S₉, zI f r C Z N S₉ → (True) → (xB S₉ R) → (aS 75 S₉ = aSp m.toInt.toNat ab ∧ v.toInt = (aSn m.toInt.toNat ab : Int)) → (aS 88 S₉ = a8) → (kC S₉ = kk) → Q (.inl (some (.inl v))) S₉) {nB : Nat} (OUT : ∀ (S₉ : ma_S) (l1 : Int32) (l2 : Int32), (l1.toInt - l2.toInt).toNat < nB → zI f r C Z N S₉ → (0 ≤ l2.toInt) → (l2.toInt ≤ l1.toInt) → (xB S₉ R) → (zSr (l1.toInt - l2.toInt).toNat (aS 75 S₉) l2.toInt m.toInt.toNat ab) → (aS 88 S₉ = a8) → (kC S₉ = kk) → ma_wp X d w 120 2 [(0, .inr (.inr (some 75))), (1, .inl l1), (2, .inl l2)] [] S₉ Q) : ∀ (n : Nat) (S : ma_S) (l1 : Int32) (l2 : Int32) (l3 : Nat) (l4 : Int32), (61 - l4.toInt).toNat = n → zI f r C Z N S → (126 ≤ l3 ∧ l3 < N) → (l2.toInt < l1.toInt) → ((l1.toInt - l2.toInt).toNat = nB) → (0 ≤ l2.toInt) → (0 ≤ l4.toInt) → (xB S R) → (zTa R (mI S l3 0) = some l3) → (zSr (l1.toInt - l2.toInt - 1).toNat (aCw (aS 75 S) (mI S l3 0).toNatClampNeg l4) (l2.toInt + 1) m.toInt.toNat ab) → (aS 88 S = a8) → (kC S = kk) → ma_wp X d w 120 57 [(0, .inr (.inr (some 75))), (1, .inl l1), (2, .inl l2), (3, .inr (.inr (some l3))), (4, .inl l4)] [] S Q := by
  intro n
  induction n using Nat.strongRecOn with
  | _ n IH =>
    intro S l1 l2 l3 l4 hmu hI th_l3 hi0 hi1 hi2 hi3 hi4 hi5 hi6 hi7 hi8
    refine g_120_75_sk_57 l1 l2 l3 l4 (by omega) (by omega) (zG_T hI) ?_
    refine ⟨zG_n hI th_l3, ?_⟩
    have f1 := zG_th hI th_l3
    first | have e2 : ((mI S l3 2) - (1 : Int32)).toInt = (mI S l3 2).toInt - (1) := i_subk rfl (by omega) (by omega) | have b3 := i_bd ((mI S l3 2) - (1 : Int32))
    have b4 := i_bd l4
    refine zd (fun h5 => ?_) (fun h5 => ?_)
    · skip
      have g6 := i_le h5
      have b7 := i_bd l1
      have b8 := i_bd l2
      first | have e9 : (l2 + (1 : Int32)).toInt = l2.toInt + (1) := i_addk rfl (by omega) (by omega) | have b10 := i_bd (l2 + (1 : Int32))
      exact OUT _ (l1) ((l2 + (1 : Int32))) (by omega) hI (by omega) (by omega) (show xB S R from by first | (exact (xC_o (W := 75) hi4).2)) (show zSr ((l1).toInt - ((l2 + (1 : Int32))).toInt).toNat (aS 75 S) ((l2 + (1 : Int32))).toInt m.toInt.toNat ab from by first | (have q := hi6; rw [aCw_st (by rw [← (xB_th (W := 75) hi4 hi5).2.2.2.2.1]; omega)] at q; exact zSr_k q (by omega) (by omega))) (show aS 88 S = a8 from by first | (exact (xC_o (W := 88) hi4).1.trans hi7)) (show kC S = kk from by first | (exact (xK_o (W := 75) hi4 hi8).2))
    · skip
      have g11 := i_nle h5
      refine sp_82_69_s (R := R) (W := 75) (y := (mI S l3 0)) l3 (l4) (by omega) (by omega) hI th_l3 (show xB S R from by first | (exact (xC_o (W := 75) hi4).2)) (show zTa R (mI S l3 0) = some l3 from by first | (exact hi5)) (by omega) (fun v2 S1 eS_S1 hq_v2 rp0_S1 => zo_n ⟨(by rw [eS_S1]; exact zG_T hI), ?_⟩)
      replace eS_S1 := eS_S1.symm; subst eS_S1
      have rp0_S1 : v2 = zTa R (aRef (aS 75 S) (mI S l3 0).toNatClampNeg l4) := rp0_S1
      refine sp_119_75_sk (ab := (aS 75 S)) (R := R) (y := ((aRef (aS 75 S) (mI S l3 0).toNatClampNeg l4))) (a8 := a8) (kk := kk) (v2) (by omega) (by omega) hI hq_v2 (show xB S R from by first | (exact (xC_o (W := 75) hi4).2)) (show aS 75 S = (aS 75 S) from by first | (exact rfl)) (show v2 = zTa R ((aRef (aS 75 S) (mI S l3 0).toNatClampNeg l4)) from by first | (exact rp0_S1)) (show aS 88 S = a8 from by first | (exact (xC_o (W := 88) hi4).1.trans hi7)) (show kC S = kk from by first | (exact (xK_o (W := 75) hi4 hi8).2)) (fun S3 hI_S3 rp0_S3 rp1_S3 rp2_S3 rp3_S3 => zv_n ⟨zG_T hI_S3, ?_⟩)
      have rp0_S3 : xB S3 R := rp0_S3
      have rp1_S3 : aS 75 S3 = aCm (aS 75 S) ((aRef (aS 75 S) (mI S l3 0).toNatClampNeg l4)) := rp1_S3
      have rp2_S3 : aS 88 S3 = a8 := rp2_S3
      have rp3_S3 : kC S3 = kk := rp3_S3
      have b12 := i_bd l1
      have b13 := i_bd l2
      first | have e14 : (l4 + (1 : Int32)).toInt = l4.toInt + (1) := i_addk rfl (by omega) (by omega) | have b15 := i_bd (l4 + (1 : Int32))
      exact IH _ (by omega) _ (l1) (l2) l3 ((l4 + (1 : Int32))) rfl hI_S3 th_l3 (by omega) (by omega) (by omega) (by omega) (show xB S3 R from by first | (exact (xC_o (W := 75) rp0_S3).2)) (show zTa R (mI S3 l3 0) = some l3 from by first | (exact rg_up rp0_S3 hi5) | (exact hi5)) (show zSr ((l1).toInt - (l2).toInt - 1).toNat (aCw (aS 75 S3) (mI S3 l3 0).toNatClampNeg ((l4 + (1 : Int32)))) ((l2).toInt + 1) m.toInt.toNat ab from by first | (rw [rp1_S3, (xB_th (W := 75) rp0_S3 hi5).2.2.1, ← aCw_go (by rw [← (xB_th (W := 75) hi4 hi5).2.2.2.2.1]; omega)]; exact hi6)) (show aS 88 S3 = a8 from by first | (exact (xC_o (W := 88) rp0_S3).1.trans rp2_S3)) (show kC S3 = kk from by first | (exact (xK_o (W := 75) rp0_S3 rp3_S3).2))
theorem lp_120_75_sk_2 {X : Nat × (Nat → Int32)} {d w : Nat} {f : Nat → Nat → Int32} {r : Nat → Nat → Option Nat} {C Z N : Nat} {Q : Option ma_V ⊕ Nat → ma_S → Prop} {ab : Nat→Nat→Int32} {R : zRT} {a8 : Nat→Nat→Int32} {kk : Nat→Int32} {m : Int32} (hd : 1 ≤ d) (hw : 25 ≤ w) (K : ∀ v S₉, zI f r C Z N S₉ → (True) → (xB S₉ R) → (aS 75 S₉ = aSp m.toInt.toNat ab ∧ v.toInt = (aSn m.toInt.toNat ab : Int)) → (aS 88 S₉ = a8) → (kC S₉ = kk) → Q (.inl (some (.inl v))) S₉) : ∀ (n : Nat) (S : ma_S) (l1 : Int32) (l2 : Int32), (l1.toInt - l2.toInt).toNat = n → zI f r C Z N S → (0 ≤ l2.toInt) → (l2.toInt ≤ l1.toInt) → (xB S R) → (zSr (l1.toInt - l2.toInt).toNat (aS 75 S) l2.toInt m.toInt.toNat ab) → (aS 88 S = a8) → (kC S = kk) → ma_wp X d w 120 2 [(0, .inr (.inr (some 75))), (1, .inl l1), (2, .inl l2)] [] S Q := by
  intro n
  induction n using Nat.strongRecOn with
  | _ n IH =>
    intro S l1 l2 hmu hI  hi0 hi1 hi2 hi3 hi4 hi5
    refine g_120_75_sk_2 l1 l2 (by omega) (by omega) (zG_T hI) ?_
    have r3 := congrArg Int32.toInt (aS_I (W := 75) (S := S) (c := 75) (c₉ := 75) (k := 3) rfl rfl)
    have r4 := congrArg Int32.toInt (aS_I (W := 75) (S := S) (c := 75) (c₉ := 75) (k := 4) rfl rfl)
    have b1 := i_bd l1
    have b2 := i_bd l2
    refine zd (fun h3 => ?_) (fun h3 => ?_)
    · skip
      have g4 := i_le h3
      exact K (l2) _ hI trivial (show xB S R from by first | (exact (xC_o (W := 75) hi2).2)) (show aS 75 S = aSp m.toInt.toNat ab ∧ l2.toInt = (aSn m.toInt.toNat ab : Int) from by first | (exact zSr_st hi3 (Or.inl (by omega))) | (exact zSr_st hi3 (Or.inr (by omega)))) (show aS 88 S = a8 from by first | (exact (xC_o (W := 88) hi2).1.trans hi4)) (show kC S = kk from by first | (exact (xK_o (W := 75) hi2 hi5).2))
    · skip
      have g5 := i_nle h3
      have f6 := zG_s hI (0) (512) (c := 75) (k := 4) (by decide)
      have f7 := zG_s hI (0) (512) (c := 75) (k := 3) (by decide)
      refine zd (fun h8 => ?_) (fun h8 => ?_)
      · skip
        have g9 := i_le h8
        exact K (l2) _ hI trivial (show xB S R from by first | (exact (xC_o (W := 75) hi2).2)) (show aS 75 S = aSp m.toInt.toNat ab ∧ l2.toInt = (aSn m.toInt.toNat ab : Int) from by first | (exact zSr_st hi3 (Or.inl (by omega))) | (exact zSr_st hi3 (Or.inr (by omega)))) (show aS 88 S = a8 from by first | (exact (xC_o (W := 88) hi2).1.trans hi4)) (show kC S = kk from by first | (exact (xK_o (W := 75) hi2 hi5).2))
      · skip
        have g10 := i_nle h8
        refine ⟨i_ix (by omega) (by omega), ?_⟩
        have b11 := i_bd (mI S 76 (mI S 75 3).toNatClampNeg)
        have li12 : (0 : Int32).toInt = 0 := rfl
        refine zd (fun h13 => ?_) (fun h13 => ?_)
        · skip
          have g14 := i_lt h13
          first | have e16 : ((mI S 75 3) + (1 : Int32)).toInt = (mI S 75 3).toInt + (1) := i_addk rfl (by omega) (by omega) | have b17 := i_bd ((mI S 75 3) + (1 : Int32))
          have hI15 : zI f r C Z N (ma_put S 75 3 (.inl ((mI S 75 3) + (1 : Int32)))) := zG_sp hI (0) (512) rfl (by decide) (by decide) (by decide) trivial (by omega) (by omega)
          first | have e18 : (l2 + (1 : Int32)).toInt = l2.toInt + (1) := i_addk rfl (by omega) (by omega) | have b19 := i_bd (l2 + (1 : Int32))
          exact IH _ (by omega) _ (l1) ((l2 + (1 : Int32))) rfl hI15 (by omega) (by omega) (show xB (ma_put S 75 3 (.inl ((mI S 75 3) + (1 : Int32)))) R from by first | (exact (xC_p (c := 75) (k := 3) (x := ((mI S 75 3) + (1 : Int32))) (xC_o (W := 75) hi2) 75 xW75 rfl rfl).2)) (show zSr ((l1).toInt - ((l2 + (1 : Int32))).toInt).toNat (aS 75 (ma_put S 75 3 (.inl ((mI S 75 3) + (1 : Int32))))) ((l2 + (1 : Int32))).toInt m.toInt.toNat ab from by first | (have q := zSr_go hi3 (show _ = (l1.toInt - (l2 + (1 : Int32)).toInt).toNat + 1 by omega) (by omega); rw [aPop_n (a := aS 75 S) (y := mI S 76 (mI S 75 3).toNatClampNeg) rfl (fun z => by omega)] at q; rw [(aS_I (W := 75) (S := S) (c := 75) (c₉ := 75) (k := 3) rfl rfl)] at q; rw [(xC_p (c := 75) (k := 3) (x := ((mI S 75 3) + (1 : Int32))) (xC_o (W := 75) hi2) 75 xW75 rfl rfl).1]; exact zSr_k q (by omega) (by omega))) (show aS 88 (ma_put S 75 3 (.inl ((mI S 75 3) + (1 : Int32)))) = a8 from by first | (exact (xC_n (c := 75) (k := 3) (x := ((mI S 75 3) + (1 : Int32))) (xC_o (W := 88) hi2) ⟨by decide, Or.inr ⟨rfl, Or.inl (by decide)⟩⟩).1.trans hi4)) (show kC (ma_put S 75 3 (.inl ((mI S 75 3) + (1 : Int32)))) = kk from by first | (exact (xK_p (c := 75) (k := 3) (x := ((mI S 75 3) + (1 : Int32))) (xK_o (W := 75) hi2 hi5) 75 xW75 rfl rfl).2))
        · skip
          have g20 := i_nlt h13
          have li21 : (512 : Int32).toInt = 512 := rfl
          refine zd (fun h22 => ?_) (fun h22 => ?_)
          · skip
            have g23 := i_le h22
            first | have e25 : ((mI S 75 3) + (1 : Int32)).toInt = (mI S 75 3).toInt + (1) := i_addk rfl (by omega) (by omega) | have b26 := i_bd ((mI S 75 3) + (1 : Int32))
            have hI24 : zI f r C Z N (ma_put S 75 3 (.inl ((mI S 75 3) + (1 : Int32)))) := zG_sp hI (0) (512) rfl (by decide) (by decide) (by decide) trivial (by omega) (by omega)
            first | have e27 : (l2 + (1 : Int32)).toInt = l2.toInt + (1) := i_addk rfl (by omega) (by omega) | have b28 := i_bd (l2 + (1 : Int32))
            exact IH _ (by omega) _ (l1) ((l2 + (1 : Int32))) rfl hI24 (by omega) (by omega) (show xB (ma_put S 75 3 (.inl ((mI S 75 3) + (1 : Int32)))) R from by first | (exact (xC_p (c := 75) (k := 3) (x := ((mI S 75 3) + (1 : Int32))) (xC_o (W := 75) hi2) 75 xW75 rfl rfl).2)) (show zSr ((l1).toInt - ((l2 + (1 : Int32))).toInt).toNat (aS 75 (ma_put S 75 3 (.inl ((mI S 75 3) + (1 : Int32))))) ((l2 + (1 : Int32))).toInt m.toInt.toNat ab from by first | (have q := zSr_go hi3 (show _ = (l1.toInt - (l2 + (1 : Int32)).toInt).toNat + 1 by omega) (by omega); rw [aPop_n (a := aS 75 S) (y := mI S 76 (mI S 75 3).toNatClampNeg) rfl (fun z => by omega)] at q; rw [(aS_I (W := 75) (S := S) (c := 75) (c₉ := 75) (k := 3) rfl rfl)] at q; rw [(xC_p (c := 75) (k := 3) (x := ((mI S 75 3) + (1 : Int32))) (xC_o (W := 75) hi2) 75 xW75 rfl rfl).1]; exact zSr_k q (by omega) (by omega))) (show aS 88 (ma_put S 75 3 (.inl ((mI S 75 3) + (1 : Int32)))) = a8 from by first | (exact (xC_n (c := 75) (k := 3) (x := ((mI S 75 3) + (1 : Int32))) (xC_o (W := 88) hi2) ⟨by decide, Or.inr ⟨rfl, Or.inl (by decide)⟩⟩).1.trans hi4)) (show kC (ma_put S 75 3 (.inl ((mI S 75 3) + (1 : Int32)))) = kk from by first | (exact (xK_p (c := 75) (k := 3) (x := ((mI S 75 3) + (1 : Int32))) (xK_o (W := 75) hi2 hi5) 75 xW75 rfl rfl).2))
          · skip
            have g29 := i_nle h22
            refine ⟨i_ix (by omega) (by omega), ?_⟩
            refine ⟨fun hc => ?_, fun c1 hc => ?_⟩
            · skip
              have rn_c1 : zTa R ((mI S 76 (mI S 75 3).toNatClampNeg)) = none := (ta_rd (y := ((mI S 76 (mI S 75 3).toNatClampNeg))) hi2 (by omega) (by omega)).symm.trans hc
              first | have e31 : ((mI S 75 3) + (1 : Int32)).toInt = (mI S 75 3).toInt + (1) := i_addk rfl (by omega) (by omega) | have b32 := i_bd ((mI S 75 3) + (1 : Int32))
              have hI30 : zI f r C Z N (ma_put S 75 3 (.inl ((mI S 75 3) + (1 : Int32)))) := zG_sp hI (0) (512) rfl (by decide) (by decide) (by decide) trivial (by omega) (by omega)
              first | have e33 : (l2 + (1 : Int32)).toInt = l2.toInt + (1) := i_addk rfl (by omega) (by omega) | have b34 := i_bd (l2 + (1 : Int32))
              exact IH _ (by omega) _ (l1) ((l2 + (1 : Int32))) rfl hI30 (by omega) (by omega) (show xB (ma_put S 75 3 (.inl ((mI S 75 3) + (1 : Int32)))) R from by first | (exact (xC_p (c := 75) (k := 3) (x := ((mI S 75 3) + (1 : Int32))) (xC_o (W := 75) hi2) 75 xW75 rfl rfl).2)) (show zSr ((l1).toInt - ((l2 + (1 : Int32))).toInt).toNat (aS 75 (ma_put S 75 3 (.inl ((mI S 75 3) + (1 : Int32))))) ((l2 + (1 : Int32))).toInt m.toInt.toNat ab from by first | (have q := zSr_go hi3 (show _ = (l1.toInt - (l2 + (1 : Int32)).toInt).toNat + 1 by omega) (by omega); rw [aPop_n (a := aS 75 S) (y := mI S 76 (mI S 75 3).toNatClampNeg) rfl (fun z => xB_nt (W := 75) hi2 rn_c1 z)] at q; rw [(aS_I (W := 75) (S := S) (c := 75) (c₉ := 75) (k := 3) rfl rfl)] at q; rw [(xC_p (c := 75) (k := 3) (x := ((mI S 75 3) + (1 : Int32))) (xC_o (W := 75) hi2) 75 xW75 rfl rfl).1]; exact zSr_k q (by omega) (by omega))) (show aS 88 (ma_put S 75 3 (.inl ((mI S 75 3) + (1 : Int32)))) = a8 from by first | (exact (xC_n (c := 75) (k := 3) (x := ((mI S 75 3) + (1 : Int32))) (xC_o (W := 88) hi2) ⟨by decide, Or.inr ⟨rfl, Or.inl (by decide)⟩⟩).1.trans hi4)) (show kC (ma_put S 75 3 (.inl ((mI S 75 3) + (1 : Int32)))) = kk from by first | (exact (xK_p (c := 75) (k := 3) (x := ((mI S 75 3) + (1 : Int32))) (xK_o (W := 75) hi2 hi5) 75 xW75 rfl rfl).2))
            · skip
              have th_c1 := (fun _ z => zG_70 hI (c := 70) (by decide) z) c1 hc
              have rg_c1 : zTa R ((mI S 76 (mI S 75 3).toNatClampNeg)) = some c1 := (ta_rd (y := ((mI S 76 (mI S 75 3).toNatClampNeg))) hi2 (by omega) (by omega)).symm.trans hc
              first | have e36 : ((mI S 75 3) + (1 : Int32)).toInt = (mI S 75 3).toInt + (1) := i_addk rfl (by omega) (by omega) | have b37 := i_bd ((mI S 75 3) + (1 : Int32))
              have hI35 : zI f r C Z N (ma_put S 75 3 (.inl ((mI S 75 3) + (1 : Int32)))) := zG_sp hI (0) (512) rfl (by decide) (by decide) (by decide) trivial (by omega) (by omega)
              refine ⟨zG_n hI35 th_c1, ?_⟩
              have f38 := zG_th hI th_c1
              have q39 : (mI (ma_put S 75 3 (.inl ((mI S 75 3) + (1 : Int32)))) c1 0).toInt = (mI S c1 0).toInt := zp_fx th_c1.1 (by decide)
              have f40 := zG_th hI35 th_c1
              refine zd (fun h41 => ?_) (fun h41 => ?_)
              · skip
                have g42 := i_le h41
                exact lp_120_75_sk_57 (by omega) (by omega) K (fun _ _ _ z1 z2 z3 z4 z5 z6 z7 z8 => IH _ z1 _ _ _ rfl z2 z3 z4 z5 z6 z7 z8) _ _ (l1) (l2) c1 ((0 : Int32)) rfl hI35 th_c1 (by omega) (by omega) (by omega) (by omega) (show xB (ma_put S 75 3 (.inl ((mI S 75 3) + (1 : Int32)))) R from by first | (exact (xC_p (c := 75) (k := 3) (x := ((mI S 75 3) + (1 : Int32))) (xC_o (W := 75) hi2) 75 xW75 rfl rfl).2)) (show zTa R (mI (ma_put S 75 3 (.inl ((mI S 75 3) + (1 : Int32)))) c1 0) = some c1 from by first | (exact rg_up (xC_p (c := 75) (k := 3) (x := ((mI S 75 3) + (1 : Int32))) (xC_o (W := 75) hi2) 75 xW75 rfl rfl).2 rg_c1)) (show zSr ((l1).toInt - (l2).toInt - 1).toNat (aCw (aS 75 (ma_put S 75 3 (.inl ((mI S 75 3) + (1 : Int32))))) (mI (ma_put S 75 3 (.inl ((mI S 75 3) + (1 : Int32)))) c1 0).toNatClampNeg ((0 : Int32))) ((l2).toInt + 1) m.toInt.toNat ab from by first | (exfalso; omega) | (have ty := xB_th (W := 75) hi2 rg_c1; have q := zSr_go hi3 (show _ = (l1.toInt - l2.toInt - 1).toNat + 1 by omega) (by omega); rw [aPop_y (a := aS 75 S) (y := ((mI S 76 (mI S 75 3).toNatClampNeg))) rfl ty.1 ty.2.1 (by rw [ty.2.2.2.2.2.2.2.2]; decide), (aS_I (W := 75) (S := S) (c := 75) (c₉ := 75) (k := 3) rfl rfl)] at q; rw [(xC_p (c := 75) (k := 3) (x := ((mI S 75 3) + (1 : Int32))) (xC_o (W := 75) hi2) 75 xW75 rfl rfl).1]; (try simp only [zp_e (c₉ := 75) th_c1.1 (by decide)]); rw [ty.2.2.1]; exact q)) (show aS 88 (ma_put S 75 3 (.inl ((mI S 75 3) + (1 : Int32)))) = a8 from by first | (exact (xC_n (c := 75) (k := 3) (x := ((mI S 75 3) + (1 : Int32))) (xC_o (W := 88) hi2) ⟨by decide, Or.inr ⟨rfl, Or.inl (by decide)⟩⟩).1.trans hi4)) (show kC (ma_put S 75 3 (.inl ((mI S 75 3) + (1 : Int32)))) = kk from by first | (exact (xK_p (c := 75) (k := 3) (x := ((mI S 75 3) + (1 : Int32))) (xK_o (W := 75) hi2 hi5) 75 xW75 rfl rfl).2))
              · skip
                have g43 := i_nle h41
                refine ⟨zG_n hI35 th_c1, ?_⟩
                refine ⟨i_ix (by omega) (by omega), ?_⟩
                have hI44 : zI f r C Z N (ma_put (ma_put S 75 3 (.inl ((mI S 75 3) + (1 : Int32)))) 77 (mI (ma_put S 75 3 (.inl ((mI S 75 3) + (1 : Int32)))) c1 0).toNatClampNeg (.inl (2 : Int32))) := zG_fa hI35 rfl (by decide) (by decide) (by decide) trivial
                exact lp_120_75_sk_57 (by omega) (by omega) K (fun _ _ _ z1 z2 z3 z4 z5 z6 z7 z8 => IH _ z1 _ _ _ rfl z2 z3 z4 z5 z6 z7 z8) _ _ (l1) (l2) c1 ((0 : Int32)) rfl hI44 th_c1 (by omega) (by omega) (by omega) (by omega) (show xB (ma_put (ma_put S 75 3 (.inl ((mI S 75 3) + (1 : Int32)))) 77 (mI (ma_put S 75 3 (.inl ((mI S 75 3) + (1 : Int32)))) c1 0).toNatClampNeg (.inl (2 : Int32))) R from by first | (exact (xC_p (c := 77) (k := (mI (ma_put S 75 3 (.inl ((mI S 75 3) + (1 : Int32)))) c1 0).toNatClampNeg) (x := (2 : Int32)) (xC_p (c := 75) (k := 3) (x := ((mI S 75 3) + (1 : Int32))) (xC_o (W := 75) hi2) 75 xW75 rfl rfl) 77 xW75 rfl rfl).2)) (show zTa R (mI (ma_put (ma_put S 75 3 (.inl ((mI S 75 3) + (1 : Int32)))) 77 (mI (ma_put S 75 3 (.inl ((mI S 75 3) + (1 : Int32)))) c1 0).toNatClampNeg (.inl (2 : Int32))) c1 0) = some c1 from by first | (exact rg_up (xC_p (c := 77) (k := (mI (ma_put S 75 3 (.inl ((mI S 75 3) + (1 : Int32)))) c1 0).toNatClampNeg) (x := (2 : Int32)) (xC_p (c := 75) (k := 3) (x := ((mI S 75 3) + (1 : Int32))) (xC_o (W := 75) hi2) 75 xW75 rfl rfl) 77 xW75 rfl rfl).2 rg_c1)) (show zSr ((l1).toInt - (l2).toInt - 1).toNat (aCw (aS 75 (ma_put (ma_put S 75 3 (.inl ((mI S 75 3) + (1 : Int32)))) 77 (mI (ma_put S 75 3 (.inl ((mI S 75 3) + (1 : Int32)))) c1 0).toNatClampNeg (.inl (2 : Int32)))) (mI (ma_put (ma_put S 75 3 (.inl ((mI S 75 3) + (1 : Int32)))) 77 (mI (ma_put S 75 3 (.inl ((mI S 75 3) + (1 : Int32)))) c1 0).toNatClampNeg (.inl (2 : Int32))) c1 0).toNatClampNeg ((0 : Int32))) ((l2).toInt + 1) m.toInt.toNat ab from by first | (exfalso; omega) | (have ty := xB_th (W := 75) hi2 rg_c1; have q := zSr_go hi3 (show _ = (l1.toInt - l2.toInt - 1).toNat + 1 by omega) (by omega); rw [aPop_y (a := aS 75 S) (y := ((mI S 76 (mI S 75 3).toNatClampNeg))) rfl ty.1 ty.2.1 (by rw [ty.2.2.2.2.2.2.2.2]; decide), (aS_I (W := 75) (S := S) (c := 75) (c₉ := 75) (k := 3) rfl rfl)] at q; rw [(xC_p (c := 77) (k := (mI (ma_put S 75 3 (.inl ((mI S 75 3) + (1 : Int32)))) c1 0).toNatClampNeg) (x := (2 : Int32)) (xC_p (c := 75) (k := 3) (x := ((mI S 75 3) + (1 : Int32))) (xC_o (W := 75) hi2) 75 xW75 rfl rfl) 77 xW75 rfl rfl).1]; (try simp only [zp_e (c₉ := 75) th_c1.1 (by decide), zp_e (c₉ := 77) th_c1.1 (by decide)]); rw [ty.2.2.1]; exact q)) (show aS 88 (ma_put (ma_put S 75 3 (.inl ((mI S 75 3) + (1 : Int32)))) 77 (mI (ma_put S 75 3 (.inl ((mI S 75 3) + (1 : Int32)))) c1 0).toNatClampNeg (.inl (2 : Int32))) = a8 from by first | (exact (xC_n (c := 77) (k := (mI (ma_put S 75 3 (.inl ((mI S 75 3) + (1 : Int32)))) c1 0).toNatClampNeg) (x := (2 : Int32)) (xC_n (c := 75) (k := 3) (x := ((mI S 75 3) + (1 : Int32))) (xC_o (W := 88) hi2) ⟨by decide, Or.inr ⟨rfl, Or.inl (by decide)⟩⟩) ⟨by decide, Or.inr ⟨rfl, Or.inl (by decide)⟩⟩).1.trans hi4)) (show kC (ma_put (ma_put S 75 3 (.inl ((mI S 75 3) + (1 : Int32)))) 77 (mI (ma_put S 75 3 (.inl ((mI S 75 3) + (1 : Int32)))) c1 0).toNatClampNeg (.inl (2 : Int32))) = kk from by first | (exact (xK_p (c := 77) (k := (mI (ma_put S 75 3 (.inl ((mI S 75 3) + (1 : Int32)))) c1 0).toNatClampNeg) (x := (2 : Int32)) (xK_p (c := 75) (k := 3) (x := ((mI S 75 3) + (1 : Int32))) (xK_o (W := 75) hi2 hi5) 75 xW75 rfl rfl) 77 xW75 rfl rfl).2))
theorem sp_120_75_sk {X : Nat × (Nat → Int32)} {d w : Nat} {f : Nat → Nat → Int32} {r : Nat → Nat → Option Nat} {C Z N : Nat} {Q : Option ma_V ⊕ Nat → ma_S → Prop} {ab : Nat→Nat→Int32} {R : zRT} {a8 : Nat→Nat→Int32} {kk : Nat→Int32} {S : ma_S} (m : Int32) (hd : 1 ≤ d) (hw : 25 ≤ w) (hI : zI f r C Z N S) (hpre0 : xB S R) (hpre1 : aS 75 S = ab) (hpre2 : 0 ≤ m.toInt) (hpre3 : aS 88 S = a8) (hpre4 : kC S = kk) (K : ∀ v S₉, zI f r C Z N S₉ → (True) → (xB S₉ R) → (aS 75 S₉ = aSp m.toInt.toNat ab ∧ v.toInt = (aSn m.toInt.toNat ab : Int)) → (aS 88 S₉ = a8) → (kC S₉ = kk) → Q (.inl (some (.inl v))) S₉) : ma_wp X d w 120 0 [(0, .inr (.inr (some 75))), (1, .inl m)] [] S Q := by
  refine g_120_75_sk_0 m (by omega) (by omega) (zG_T hI) ?_
  have b1 := i_bd m
  have li2 : (0 : Int32).toInt = 0 := rfl
  exact lp_120_75_sk_2 (by omega) (by omega) K _ _ (m) ((0 : Int32)) rfl hI (by omega) (by omega) (show xB S R from by first | (exact (xC_o (W := 75) hpre0).2)) (show zSr ((m).toInt - ((0 : Int32)).toInt).toNat (aS 75 S) ((0 : Int32)).toInt m.toInt.toNat ab from by first | (rw [hpre1, show (_ - (0 : Int32).toInt).toNat = m.toInt.toNat from by omega]; exact ⟨rfl, by omega⟩)) (show aS 88 S = a8 from by first | (exact (xC_o (W := 88) hpre0).1.trans hpre3)) (show kC S = kk from by first | (exact (xK_o (W := 75) hpre0 hpre4).2))

/-! from 95.m18 -/
/-! COUNTS, the class (written by wip/tools/gen20k.py) -/
theorem g_116_75_sk_0 {X : Nat × (Nat → Int32)} {d w : Nat} {S : ma_S} {Q : Option ma_V ⊕ Nat → ma_S → Prop}  (hd : 2 ≤ d) (hw : 49 ≤ w) (hS : zT S) (h : ma_wp X (d - 1) (w - 21) 117 0 [(0, .inr (.inr (some 75))), (1, .inl (0 : Int32))] [] S (zv (fun S1 => zT S1 ∧ (ma_wp X (d - 1) (w - 22) 118 0 [(0, .inr (.inr (some 75)))] [] S1 (zv (fun S3 => zT S3 ∧ (ma_wp X (d - 1) (w - 24) 120 0 [(0, .inr (.inr (some 75))), (1, .inl (512 : Int32))] [] S3 (zi (fun v6 S5 => zT S5 ∧ (Q (.inl none) S5)) (fun x S9 => Q (.inr x) S9)))) (fun x S9 => Q (.inr x) S9)))) (fun x S9 => Q (.inr x) S9))) : ma_wp X d w 116 0 [(0, .inr (.inr (some 75)))] [] S Q := by
  refine zw_push hm_116 dX10_reachAll_0 (v := .inr (.inr (some 75))) rfl ?_
  refine zw_push hm_116 dX10_reachAll_1 (v := .inl (0 : Int32)) rfl ?_
  refine zw_cv hm_116 dX10_reachAll_2 v_10_38_10 hm_117 [.inl (0 : Int32)] [] rfl (zT_rt hS s_75 rfl) ⟨by omega, by omega⟩ rfl (zw_mono h (zv_go ?_ ?_))
  · intro S1 hv
    obtain ⟨hS1, h⟩ := hv
    refine zw_push hm_116 dX10_reachAll_5 (v := .inr (.inr (some 75))) rfl ?_
    refine zw_cv hm_116 dX10_reachAll_6 v_10_42_10 hm_118 [] [] rfl (zT_rt hS1 s_75 rfl) ⟨by omega, by omega⟩ rfl (zw_mono h (zv_go ?_ ?_))
    · intro S3 hv
      obtain ⟨hS3, h⟩ := hv
      refine zw_push hm_116 dX10_reachAll_9 (v := .inr (.inr (some 75))) rfl ?_
      refine zw_push hm_116 dX10_reachAll_10 (v := .inl (512 : Int32)) rfl ?_
      refine zw_cv hm_116 dX10_reachAll_13 v_10_45_10 hm_120 [.inl (512 : Int32)] [] rfl (zT_rt hS3 s_75 rfl) ⟨by omega, by omega⟩ rfl (zw_mono h (zi_go ?_ ?_))
      · intro v6 S5 hv
        obtain ⟨hS5, h⟩ := hv
        refine zw_stk hm_116 dX10_reachAll_16 (st₉ := []) rfl rfl ?_
        exact zw_vret hm_116 dX10_reachAll_17 h
      · intro x S9 hx
        exact ⟨by decide, hx⟩
    · intro x S9 hx
      exact ⟨by decide, hx⟩
  · intro x S9 hx
    exact ⟨by decide, hx⟩
theorem sp_116_75_sk {X : Nat × (Nat → Int32)} {d w : Nat} {f : Nat → Nat → Int32} {r : Nat → Nat → Option Nat} {C Z N : Nat} {Q : Option ma_V ⊕ Nat → ma_S → Prop} {ab : Nat→Nat→Int32} {R : zRT} {a8 : Nat→Nat→Int32} {kk : Nat→Int32} {S : ma_S}  (hd : 2 ≤ d) (hw : 49 ≤ w) (hI : zI f r C Z N S) (hpre0 : xB S R) (hpre1 : aS 75 S = ab) (hpre2 : aS 88 S = a8) (hpre3 : kC S = kk) (K : ∀ S₉, zI f r C Z N S₉ → (xB S₉ R) → (aS 75 S₉ = aSp 512 (aRo (aWh ab 0) 0)) → (aS 88 S₉ = a8) → (kC S₉ = kk) → Q (.inl none) S₉) : ma_wp X d w 116 0 [(0, .inr (.inr (some 75)))] [] S Q := by
  refine g_116_75_sk_0  (by omega) (by omega) (zG_T hI) ?_
  have li1 : (0 : Int32).toInt = 0 := rfl
  refine sp_117_75_sk (ab := (aS 75 S)) (R := R) (a8 := a8) (kk := kk) ((0 : Int32)) (by omega) (by omega) hI (show xB S R from by first | (exact (xC_o (W := 75) hpre0).2)) (show aS 75 S = (aS 75 S) from by first | (exact rfl)) (show aS 88 S = a8 from by first | (exact (xC_o (W := 88) hpre0).1.trans hpre2)) (show kC S = kk from by first | (exact (xK_o (W := 75) hpre0 hpre3).2)) (fun S1 hI_S1 rp0_S1 rp1_S1 rp2_S1 rp3_S1 => zv_n ⟨zG_T hI_S1, ?_⟩)
  have rp0_S1 : xB S1 R := rp0_S1
  have rp1_S1 : aS 75 S1 = aWh (aS 75 S) (0 : Int32) := rp1_S1
  have rp2_S1 : aS 88 S1 = a8 := rp2_S1
  have rp3_S1 : kC S1 = kk := rp3_S1
  refine sp_118_75_sk (ab := (aS 75 S1)) (R := R) (a8 := a8) (kk := kk) (by omega) (by omega) hI_S1 (show xB S1 R from by first | (exact (xC_o (W := 75) rp0_S1).2)) (show aS 75 S1 = (aS 75 S1) from by first | (exact rfl)) (show aS 88 S1 = a8 from by first | (exact (xC_o (W := 88) rp0_S1).1.trans rp2_S1)) (show kC S1 = kk from by first | (exact (xK_o (W := 75) rp0_S1 rp3_S1).2)) (fun S3 hI_S3 rp0_S3 rp1_S3 rp2_S3 rp3_S3 => zv_n ⟨zG_T hI_S3, ?_⟩)
  have rp0_S3 : xB S3 R := rp0_S3
  have rp1_S3 : aS 75 S3 = aRo (aS 75 S1) 0 := rp1_S3
  have rp2_S3 : aS 88 S3 = a8 := rp2_S3
  have rp3_S3 : kC S3 = kk := rp3_S3
  have li2 : (512 : Int32).toInt = 512 := rfl
  refine sp_120_75_sk (ab := (aS 75 S3)) (R := R) (a8 := a8) (kk := kk) ((512 : Int32)) (by omega) (by omega) hI_S3 (show xB S3 R from by first | (exact (xC_o (W := 75) rp0_S3).2)) (show aS 75 S3 = (aS 75 S3) from by first | (exact rfl)) (by omega) (show aS 88 S3 = a8 from by first | (exact (xC_o (W := 88) rp0_S3).1.trans rp2_S3)) (show kC S3 = kk from by first | (exact (xK_o (W := 75) rp0_S3 rp3_S3).2)) (fun v6 S5 hI_S5 hp_v6 rp0_S5 rp1_S5 rp2_S5 rp3_S5 => zi_n ⟨zG_T hI_S5, ?_⟩)
  have rp0_S5 : xB S5 R := rp0_S5
  have rp1_S5 : aS 75 S5 = aSp (512 : Int32).toInt.toNat (aS 75 S3) ∧ v6.toInt = (aSn (512 : Int32).toInt.toNat (aS 75 S3) : Int) := rp1_S5
  have rp2_S5 : aS 88 S5 = a8 := rp2_S5
  have rp3_S5 : kC S5 = kk := rp3_S5
  exact K _ hI_S5 (show xB S5 R from by first | (exact (xC_o (W := 75) rp0_S5).2)) (show aS 75 S5 = aSp 512 (aRo (aWh ab 0) 0) from by first | (rw [rp1_S5.1, rp1_S3, rp1_S1, hpre1]; rfl)) (show aS 88 S5 = a8 from by first | (exact (xC_o (W := 88) rp0_S5).1.trans rp2_S5)) (show kC S5 = kk from by first | (exact (xK_o (W := 75) rp0_S5 rp3_S5).2))
theorem g_85_69_sk_0 {X : Nat × (Nat → Int32)} {d w : Nat} {S : ma_S} {Q : Option ma_V ⊕ Nat → ma_S → Prop} (t : Nat) (hd : 0 ≤ d) (hw : 0 ≤ w) (hS : zT S) (h : ma_wp X d w 85 2 [(0, .inr (.inr (some 69))), (1, .inr (.inr (some t))), (2, .inl (0 : Int32))] [] S Q) : ma_wp X d w 85 0 [(0, .inr (.inr (some 69))), (1, .inr (.inr (some t)))] [] S Q := by
  refine zw_push hm_85 dX7_clearWeak_0 (v := .inl (0 : Int32)) rfl ?_
  refine zw_sto hm_85 dX7_clearWeak_1 [(2, .inl (0 : Int32)), (0, .inr (.inr (some 69))), (1, .inr (.inr (some t)))] rfl rfl rfl ?_
  exact zw_sub (ma_nd_of (ks := [0, 1, 2]) rfl (by decide)) (ma_nd_of (ks := [2, 0, 1]) rfl (by decide)) (ma_le_cons rfl (ma_le_cons rfl (ma_le_cons rfl (ma_le_nil _)))) h
theorem g_85_69_sk_2 {X : Nat × (Nat → Int32)} {d w : Nat} {S : ma_S} {Q : Option ma_V ⊕ Nat → ma_S → Prop} (l1 : Nat) (l2 : Int32) (hd : 0 ≤ d) (hw : 0 ≤ w) (hS : zT S) (h : if (16 : Int32) ≤ l2 then (Q (.inl none) S) else ((0 ≤ l2 ∧ l2.toNatClampNeg < 16) ∧ ((126 ≤ l1 ∧ l1 < mN S) ∧ (if (mI S 73 l2.toNatClampNeg) = (mI S l1 0) then ((0 ≤ l2 ∧ l2.toNatClampNeg < 16) ∧ (ma_wp X d w 85 2 [(0, .inr (.inr (some 69))), (1, .inr (.inr (some l1))), (2, .inl (l2 + (1 : Int32)))] [] (ma_put S 73 l2.toNatClampNeg (.inl (-1 : Int32))) Q)) else (ma_wp X d w 85 2 [(0, .inr (.inr (some 69))), (1, .inr (.inr (some l1))), (2, .inl (l2 + (1 : Int32)))] [] S Q))))) : ma_wp X d w 85 2 [(0, .inr (.inr (some 69))), (1, .inr (.inr (some l1))), (2, .inl l2)] [] S Q := by
  refine zw_push hm_85 dX7_clearWeak_2 (v := .inl l2) rfl ?_
  refine zw_push hm_85 dX7_clearWeak_3 (v := .inl (16 : Int32)) rfl ?_
  refine zw_if2 hm_85 dX7_clearWeak_5 (t := 34) rfl zc2_ge ?_ ?_
  · intro hc
    rw [if_pos hc] at h
    exact zw_vret hm_85 dX7_clearWeak_34 h
  · intro hc
    rw [if_neg hc] at h
    refine zw_push hm_85 dX7_clearWeak_8 (v := .inr (.inr (some 69))) rfl ?_
    refine zw_gf hm_85 dX7_clearWeak_9 (v := .inr (.inr (some 73))) (zT_is hS s_69) (zT_t hS s_69) rfl f_7_24_7 (zT_f hS r_69_3) ?_
    refine zw_push hm_85 dX7_clearWeak_12 (v := .inl l2) rfl ?_
    obtain ⟨hg, h⟩ := h
    refine zw_ia hm_85 dX7_clearWeak_13 (zT_is hS s_73) (zT_h hS s_73) rfl hg ?_
    show ma_wp X d w 85 14 [(0, .inr (.inr (some 69))), (1, .inr (.inr (some l1))), (2, .inl l2)] [.inl (mI S 73 l2.toNatClampNeg)] S _
    refine zw_push hm_85 dX7_clearWeak_14 (v := .inr (.inr (some l1))) rfl ?_
    obtain ⟨hg, h⟩ := h
    refine zw_gf hm_85 dX7_clearWeak_15 (v := .inl (mI S l1 0)) (zT_tis hS hg) (zT_tt hS hg) rfl f_7_67_9 rfl ?_
    refine zw_if2 hm_85 dX7_clearWeak_18 (t := 28) rfl zc2_ne ?_ ?_
    · intro hc
      rw [if_neg hc] at h
      refine zw_sto hm_85 dX7_clearWeak_28 [(2, .inl (l2 + (1 : Int32))), (0, .inr (.inr (some 69))), (1, .inr (.inr (some l1)))] rfl rfl rfl ?_
      refine zw_goto hm_85 dX7_clearWeak_31 (t := 2) rfl ?_
      exact zw_sub (ma_nd_of (ks := [0, 1, 2]) rfl (by decide)) (ma_nd_of (ks := [2, 0, 1]) rfl (by decide)) (ma_le_cons rfl (ma_le_cons rfl (ma_le_cons rfl (ma_le_nil _)))) h
    · intro hc
      rw [if_pos (Classical.not_not.mp hc)] at h
      refine zw_push hm_85 dX7_clearWeak_21 (v := .inr (.inr (some 69))) rfl ?_
      refine zw_gf hm_85 dX7_clearWeak_22 (v := .inr (.inr (some 73))) (zT_is hS s_69) (zT_t hS s_69) rfl f_7_24_7 (zT_f hS r_69_3) ?_
      refine zw_push hm_85 dX7_clearWeak_25 (v := .inl l2) rfl ?_
      refine zw_push hm_85 dX7_clearWeak_26 (v := .inl (-1 : Int32)) rfl ?_
      obtain ⟨hg, h⟩ := h
      refine zw_ias hm_85 dX7_clearWeak_27 (zT_is hS s_73) (zT_h hS s_73) rfl hg ?_
      refine zw_sto hm_85 dX7_clearWeak_28 [(2, .inl (l2 + (1 : Int32))), (0, .inr (.inr (some 69))), (1, .inr (.inr (some l1)))] rfl rfl rfl ?_
      refine zw_goto hm_85 dX7_clearWeak_31 (t := 2) rfl ?_
      exact zw_sub (ma_nd_of (ks := [0, 1, 2]) rfl (by decide)) (ma_nd_of (ks := [2, 0, 1]) rfl (by decide)) (ma_le_cons rfl (ma_le_cons rfl (ma_le_cons rfl (ma_le_nil _)))) h
theorem lp_85_69_sk_2 {X : Nat × (Nat → Int32)} {d w : Nat} {f : Nat → Nat → Int32} {r : Nat → Nat → Option Nat} {C Z N : Nat} {Q : Option ma_V ⊕ Nat → ma_S → Prop} {ab : Nat→Nat→Int32} {R : zRT} {W : Nat} {kk : Nat→Int32} {y : Int32} {n0 : Nat→Nat→Int32} (hd : 0 ≤ d) (hw : 0 ≤ w) (K : ∀ S₉, zI f r C Z N S₉ → (xB S₉ R) → (aS W S₉ = zUw ab y 16) → (kC S₉ = kk) → (zN0 S₉ = n0) → Q (.inl none) S₉) : ∀ (n : Nat) (S : ma_S) (l1 : Nat) (l2 : Int32), (16 - l2.toInt).toNat = n → zI f r C Z N S → (126 ≤ l1 ∧ l1 < N) → (0 ≤ l2.toInt) → (l2.toInt ≤ 16) → (xB S R) → (xW W) → (zTa R y = some l1) → (aS W S = zUw ab y l2.toInt) → (kC S = kk) → (zN0 S = n0) → ma_wp X d w 85 2 [(0, .inr (.inr (some 69))), (1, .inr (.inr (some l1))), (2, .inl l2)] [] S Q := by
  intro n
  induction n using Nat.strongRecOn with
  | _ n IH =>
    intro S l1 l2 hmu hI th_l1 hi0 hi1 hi2 hi3 hi4 hi5 hi6 hi7
    refine g_85_69_sk_2 l1 l2 (by omega) (by omega) (zG_T hI) ?_
    have li1 : (16 : Int32).toInt = 16 := rfl
    have b2 := i_bd l2
    refine zd (fun h3 => ?_) (fun h3 => ?_)
    · skip
      have g4 := i_le h3
      exact K _ hI (show xB S R from by first | (exact (xC_o (W := 75) hi2).2)) (show aS W S = zUw ab y 16 from by first | (rw [hi5, show l2.toInt = 16 from by omega])) (show kC S = kk from by first | (exact (xK_o (W := W) hi2 hi6).2)) (show zN0 S = n0 from by first | (exact hi7))
    · skip
      have g5 := i_nle h3
      refine ⟨i_ix (by omega) (by omega), ?_⟩
      refine ⟨zG_n hI th_l1, ?_⟩
      have b6 := i_bd (mI S 73 l2.toNatClampNeg)
      have f7 := zG_th hI th_l1
      refine zd (fun h8 => ?_) (fun h8 => ?_)
      · skip
        have g9 := i_eq h8
        refine ⟨i_ix (by omega) (by omega), ?_⟩
        have hI10 : zI f r C Z N (ma_put S 73 l2.toNatClampNeg (.inl (-1 : Int32))) := zG_fa hI rfl (by decide) (by decide) (by decide) trivial
        first | have e11 : (l2 + (1 : Int32)).toInt = l2.toInt + (1) := i_addk rfl (by omega) (by omega) | have b12 := i_bd (l2 + (1 : Int32))
        exact IH _ (by omega) _ l1 ((l2 + (1 : Int32))) rfl hI10 th_l1 (by omega) (by omega) (show xB (ma_put S 73 l2.toNatClampNeg (.inl (-1 : Int32))) R from by first | (exact (xC_p (c := 73) (k := l2.toNatClampNeg) (x := (-1 : Int32)) (xC_o (W := 75) hi2) 73 xW75 rfl rfl).2)) (show xW W from by first | (exact hi3) | (exact xW88) | (exact xW75)) (show zTa R y = some l1 from by first | (exact hi4)) (show aS W (ma_put S 73 l2.toNatClampNeg (.inl (-1 : Int32))) = zUw ab y ((l2 + (1 : Int32))).toInt from by first | (have q : mI S 73 l2.toNatClampNeg = ab 73 l2.toNatClampNeg := (((aS_I (W := W) (S := S) (c := 73) (c₉ := 73) (k := l2.toNatClampNeg) rfl (zcw_s (by decide))).symm.trans (congrFun (congrFun hi5 73) l2.toNatClampNeg)).trans zUw_r); refine (xC_p (c := 73) (k := l2.toNatClampNeg) (x := (-1 : Int32)) (xC_o (W := W) hi2) 73 hi3 rfl (zcw_s (by decide))).1.trans ?_; (try simp only [zp_e (c₉ := 73) th_l1.1 (by decide)]); rw [hi5]; refine zUw_y (by omega) (by omega) ?_; rw [← q, ← (xB_th (W := W) hi2 hi4).2.2.1]; assumption)) (show kC (ma_put S 73 l2.toNatClampNeg (.inl (-1 : Int32))) = kk from by first | (exact (xK_p (c := 73) (k := l2.toNatClampNeg) (x := (-1 : Int32)) (xK_o (W := W) hi2 hi6) 73 hi3 rfl (zcw_s (by decide))).2)) (show zN0 (ma_put S 73 l2.toNatClampNeg (.inl (-1 : Int32))) = n0 from by first | (exact ((n0_p (c := 73) (by decide)).trans hi7)))
      · skip
        have g13 := i_ne h8
        first | have e14 : (l2 + (1 : Int32)).toInt = l2.toInt + (1) := i_addk rfl (by omega) (by omega) | have b15 := i_bd (l2 + (1 : Int32))
        exact IH _ (by omega) _ l1 ((l2 + (1 : Int32))) rfl hI th_l1 (by omega) (by omega) (show xB S R from by first | (exact (xC_o (W := 75) hi2).2)) (show xW W from by first | (exact hi3) | (exact xW88) | (exact xW75)) (show zTa R y = some l1 from by first | (exact hi4)) (show aS W S = zUw ab y ((l2 + (1 : Int32))).toInt from by first | (have q : mI S 73 l2.toNatClampNeg = ab 73 l2.toNatClampNeg := (((aS_I (W := W) (S := S) (c := 73) (c₉ := 73) (k := l2.toNatClampNeg) rfl (zcw_s (by decide))).symm.trans (congrFun (congrFun hi5 73) l2.toNatClampNeg)).trans zUw_r); refine hi5.trans (zUw_n (by omega) (by omega) (fun z => ?_)); rw [← q, ← (xB_th (W := W) hi2 hi4).2.2.1] at z; exact absurd z (by assumption))) (show kC S = kk from by first | (exact (xK_o (W := W) hi2 hi6).2)) (show zN0 S = n0 from by first | (exact hi7))
theorem sp_85_69_sk {X : Nat × (Nat → Int32)} {d w : Nat} {f : Nat → Nat → Int32} {r : Nat → Nat → Option Nat} {C Z N : Nat} {Q : Option ma_V ⊕ Nat → ma_S → Prop} {ab : Nat→Nat→Int32} {R : zRT} {W : Nat} {kk : Nat→Int32} {y : Int32} {n0 : Nat→Nat→Int32} {S : ma_S} (t : Nat) (hd : 0 ≤ d) (hw : 0 ≤ w) (hI : zI f r C Z N S) (th_t : 126 ≤ t ∧ t < N) (hpre0 : xB S R) (hpre1 : aS W S = ab) (hpre2 : xW W) (hpre3 : zTa R y = some t) (hpre4 : kC S = kk) (hpre5 : zN0 S = n0) (K : ∀ S₉, zI f r C Z N S₉ → (xB S₉ R) → (aS W S₉ = zUw ab y 16) → (kC S₉ = kk) → (zN0 S₉ = n0) → Q (.inl none) S₉) : ma_wp X d w 85 0 [(0, .inr (.inr (some 69))), (1, .inr (.inr (some t)))] [] S Q := by
  refine g_85_69_sk_0 t (by omega) (by omega) (zG_T hI) ?_
  have li1 : (0 : Int32).toInt = 0 := rfl
  exact lp_85_69_sk_2 (by omega) (by omega) K _ _ t ((0 : Int32)) rfl hI th_t (by omega) (by omega) (show xB S R from by first | (exact (xC_o (W := 75) hpre0).2)) (show xW W from by first | (exact hpre2) | (exact xW88) | (exact xW75)) (show zTa R y = some t from by first | (exact hpre3)) (show aS W S = zUw ab y ((0 : Int32)).toInt from by first | (rw [hpre1]; exact zUw_0.symm)) (show kC S = kk from by first | (exact (xK_o (W := W) hpre0 hpre4).2)) (show zN0 S = n0 from by first | (exact hpre5))

/-! from 95.m19 -/
/-! COUNTS, the class (written by wip/tools/gen20k.py) -/
theorem g_84_69_sk_0 {X : Nat × (Nat → Int32)} {d w : Nat} {S : ma_S} {Q : Option ma_V ⊕ Nat → ma_S → Prop} (t : Nat) (hd : 1 ≤ d) (hw : 22 ≤ w) (hS : zT S) (h : ma_wp X (d - 1) (w - 22) 85 0 [(0, .inr (.inr (some 69))), (1, .inr (.inr (some t)))] [] S (zv (fun S1 => zT S1 ∧ ((126 ≤ t ∧ t < mN S1) ∧ (if (512 : Int32) ≤ (mI (ma_put S1 t 8 (.inl (0 : Int32))) 69 5) then (Q (.inl none) (ma_put S1 t 8 (.inl (0 : Int32)))) else ((126 ≤ t ∧ t < mN (ma_put S1 t 8 (.inl (0 : Int32)))) ∧ ((0 ≤ (mI (ma_put S1 t 8 (.inl (0 : Int32))) 69 5) ∧ (mI (ma_put S1 t 8 (.inl (0 : Int32))) 69 5).toNatClampNeg < 512) ∧ ((126 ≤ t ∧ t < mN (ma_put (ma_put (ma_put S1 t 8 (.inl (0 : Int32))) 74 (mI (ma_put S1 t 8 (.inl (0 : Int32))) 69 5).toNatClampNeg (.inl (mI (ma_put S1 t 8 (.inl (0 : Int32))) t 0))) 69 5 (.inl ((mI (ma_put S1 t 8 (.inl (0 : Int32))) 69 5) + (1 : Int32))))) ∧ ((126 ≤ t ∧ t < mN (ma_put (ma_put (ma_put S1 t 8 (.inl (0 : Int32))) 74 (mI (ma_put S1 t 8 (.inl (0 : Int32))) 69 5).toNatClampNeg (.inl (mI (ma_put S1 t 8 (.inl (0 : Int32))) t 0))) 69 5 (.inl ((mI (ma_put S1 t 8 (.inl (0 : Int32))) 69 5) + (1 : Int32))))) ∧ (Q (.inl none) (ma_put (ma_put (ma_put (ma_put S1 t 8 (.inl (0 : Int32))) 74 (mI (ma_put S1 t 8 (.inl (0 : Int32))) 69 5).toNatClampNeg (.inl (mI (ma_put S1 t 8 (.inl (0 : Int32))) t 0))) 69 5 (.inl ((mI (ma_put S1 t 8 (.inl (0 : Int32))) 69 5) + (1 : Int32)))) t 6 (.inl ((mI (ma_put (ma_put (ma_put S1 t 8 (.inl (0 : Int32))) 74 (mI (ma_put S1 t 8 (.inl (0 : Int32))) 69 5).toNatClampNeg (.inl (mI (ma_put S1 t 8 (.inl (0 : Int32))) t 0))) 69 5 (.inl ((mI (ma_put S1 t 8 (.inl (0 : Int32))) 69 5) + (1 : Int32)))) t 6) + (1 : Int32)))))))))))) (fun x S9 => Q (.inr x) S9))) : ma_wp X d w 84 0 [(0, .inr (.inr (some 69))), (1, .inr (.inr (some t)))] [] S Q := by
  refine zw_push hm_84 dX7_grant_0 (v := .inr (.inr (some 69))) rfl ?_
  refine zw_push hm_84 dX7_grant_1 (v := .inr (.inr (some t))) rfl ?_
  refine zw_cv hm_84 dX7_grant_2 v_7_104_7 hm_85 [.inr (.inr (some t))] [] rfl (zT_rt hS s_69 rfl) ⟨by omega, by omega⟩ rfl (zw_mono h (zv_go ?_ ?_))
  · intro S1 hv
    obtain ⟨hS1, h⟩ := hv
    refine zw_push hm_84 dX7_grant_5 (v := .inr (.inr (some t))) rfl ?_
    refine zw_push hm_84 dX7_grant_6 (v := .inl (0 : Int32)) rfl ?_
    obtain ⟨hg, h⟩ := h
    refine zw_pf hm_84 dX7_grant_7 (zT_tis hS1 hg) (zT_tt hS1 hg) p_7_108_9 (zk_bool (by decide)) ?_
    refine zw_push hm_84 dX7_grant_10 (v := .inr (.inr (some 69))) rfl ?_
    refine zw_gf hm_84 dX7_grant_11 (v := .inl (mI (ma_put S1 t 8 (.inl (0 : Int32))) 69 5)) (zT_is (zT_pi hS1) s_69) (zT_t (zT_pi hS1) s_69) rfl f_7_36_7 rfl ?_
    refine zw_push hm_84 dX7_grant_14 (v := .inl (512 : Int32)) rfl ?_
    refine zw_if2 hm_84 dX7_grant_17 (t := 53) rfl zc2_ge ?_ ?_
    · intro hc
      rw [if_pos hc] at h
      exact zw_vret hm_84 dX7_grant_53 h
    · intro hc
      rw [if_neg hc] at h
      refine zw_push hm_84 dX7_grant_20 (v := .inr (.inr (some 69))) rfl ?_
      refine zw_gf hm_84 dX7_grant_21 (v := .inr (.inr (some 74))) (zT_is (zT_pi hS1) s_69) (zT_t (zT_pi hS1) s_69) rfl f_7_27_7 (zT_f (zT_pi hS1) r_69_4) ?_
      refine zw_push hm_84 dX7_grant_24 (v := .inr (.inr (some 69))) rfl ?_
      refine zw_gf hm_84 dX7_grant_25 (v := .inl (mI (ma_put S1 t 8 (.inl (0 : Int32))) 69 5)) (zT_is (zT_pi hS1) s_69) (zT_t (zT_pi hS1) s_69) rfl f_7_36_7 rfl ?_
      refine zw_push hm_84 dX7_grant_28 (v := .inr (.inr (some t))) rfl ?_
      obtain ⟨hg, h⟩ := h
      refine zw_gf hm_84 dX7_grant_29 (v := .inl (mI (ma_put S1 t 8 (.inl (0 : Int32))) t 0)) (zT_tis (zT_pi hS1) hg) (zT_tt (zT_pi hS1) hg) rfl f_7_67_9 rfl ?_
      obtain ⟨hg, h⟩ := h
      refine zw_ias hm_84 dX7_grant_32 (zT_is (zT_pi hS1) s_74) (zT_h (zT_pi hS1) s_74) rfl hg ?_
      refine zw_push hm_84 dX7_grant_33 (v := .inr (.inr (some 69))) rfl ?_
      refine zw_stk hm_84 dX7_grant_34 (st₉ := [.inr (.inr (some 69)), .inr (.inr (some 69))]) rfl rfl ?_
      refine zw_gf hm_84 dX7_grant_35 (v := .inl (mI (ma_put S1 t 8 (.inl (0 : Int32))) 69 5)) (zT_is (zT_pi (zT_pi hS1)) s_69) (zT_t (zT_pi (zT_pi hS1)) s_69) rfl f_7_36_7 rfl ?_
      refine zw_push hm_84 dX7_grant_38 (v := .inl (1 : Int32)) rfl ?_
      refine zw_stk hm_84 dX7_grant_39 (st₉ := [.inl ((mI (ma_put S1 t 8 (.inl (0 : Int32))) 69 5) + (1 : Int32)), .inr (.inr (some 69))]) rfl rfl ?_
      refine zw_pf hm_84 dX7_grant_40 (zT_is (zT_pi (zT_pi hS1)) s_69) (zT_t (zT_pi (zT_pi hS1)) s_69) p_7_36_7 zk_int ?_
      refine zw_push hm_84 dX7_grant_43 (v := .inr (.inr (some t))) rfl ?_
      refine zw_stk hm_84 dX7_grant_44 (st₉ := [.inr (.inr (some t)), .inr (.inr (some t))]) rfl rfl ?_
      obtain ⟨hg, h⟩ := h
      refine zw_gf hm_84 dX7_grant_45 (v := .inl (mI (ma_put (ma_put (ma_put S1 t 8 (.inl (0 : Int32))) 74 (mI (ma_put S1 t 8 (.inl (0 : Int32))) 69 5).toNatClampNeg (.inl (mI (ma_put S1 t 8 (.inl (0 : Int32))) t 0))) 69 5 (.inl ((mI (ma_put S1 t 8 (.inl (0 : Int32))) 69 5) + (1 : Int32)))) t 6)) (zT_tis (zT_pi (zT_pi (zT_pi hS1))) hg) (zT_tt (zT_pi (zT_pi (zT_pi hS1))) hg) rfl f_7_98_9 rfl ?_
      refine zw_push hm_84 dX7_grant_48 (v := .inl (1 : Int32)) rfl ?_
      refine zw_stk hm_84 dX7_grant_49 (st₉ := [.inl ((mI (ma_put (ma_put (ma_put S1 t 8 (.inl (0 : Int32))) 74 (mI (ma_put S1 t 8 (.inl (0 : Int32))) 69 5).toNatClampNeg (.inl (mI (ma_put S1 t 8 (.inl (0 : Int32))) t 0))) 69 5 (.inl ((mI (ma_put S1 t 8 (.inl (0 : Int32))) 69 5) + (1 : Int32)))) t 6) + (1 : Int32)), .inr (.inr (some t))]) rfl rfl ?_
      obtain ⟨hg, h⟩ := h
      refine zw_pf hm_84 dX7_grant_50 (zT_tis (zT_pi (zT_pi (zT_pi hS1))) hg) (zT_tt (zT_pi (zT_pi (zT_pi hS1))) hg) p_7_98_9 zk_int ?_
      exact zw_vret hm_84 dX7_grant_53 h
  · intro x S9 hx
    exact ⟨by decide, hx⟩
theorem sp_84_69_sk {X : Nat × (Nat → Int32)} {d w : Nat} {f : Nat → Nat → Int32} {r : Nat → Nat → Option Nat} {C Z N : Nat} {Q : Option ma_V ⊕ Nat → ma_S → Prop} {ab : Nat→Nat→Int32} {R : zRT} {W : Nat} {kk : Nat→Int32} {y : Int32} {n0 : Nat→Nat→Int32} {S : ma_S} (t : Nat) (hd : 1 ≤ d) (hw : 22 ≤ w) (hI : zI f r C Z N S) (th_t : 126 ≤ t ∧ t < N) (hpre0 : xB S R) (hpre1 : aS W S = ab) (hpre2 : xW W) (hpre3 : zTa R y = some t) (hpre4 : kC S = kk) (hpre5 : zN0 S = n0) (K : ∀ S₉, zI f r C Z N S₉ → (xB S₉ R) → (aS W S₉ = aGr ab y) → (∀ n, xAl ab n → kC S₉ n = kk n + (if (ab 69 5).toInt < 512 then Int32.ofNat (cIs y n) else 0)) → (zN0 S₉ = n0) → Q (.inl none) S₉) : ma_wp X d w 84 0 [(0, .inr (.inr (some 69))), (1, .inr (.inr (some t)))] [] S Q := by
  refine g_84_69_sk_0 t (by omega) (by omega) (zG_T hI) ?_
  refine sp_85_69_sk (ab := (aS W S)) (R := R) (W := W) (y := y) (kk := (kC S)) (n0 := n0) t (by omega) (by omega) hI th_t (show xB S R from by first | (exact (xC_o (W := 75) hpre0).2)) (show aS W S = (aS W S) from by first | (exact rfl)) (show xW W from by first | (exact hpre2) | (exact xW88) | (exact xW75)) (show zTa R y = some t from by first | (exact hpre3)) (show kC S = (kC S) from by first | (exact rfl)) (show zN0 S = n0 from by first | (exact hpre5)) (fun S1 hI_S1 rp0_S1 rp1_S1 rp2_S1 rp3_S1 => zv_n ⟨zG_T hI_S1, ?_⟩)
  have rp0_S1 : xB S1 R := rp0_S1
  have rp1_S1 : aS W S1 = zUw (aS W S) y 16 := rp1_S1
  have rp2_S1 : kC S1 = (kC S) := rp2_S1
  have rp3_S1 : zN0 S1 = n0 := rp3_S1
  refine ⟨zG_n hI_S1 th_t, ?_⟩
  have li1 : (512 : Int32).toInt = 512 := rfl
  have f2 := zG_s hI_S1 (0) (512) (c := 69) (k := 5) (by decide)
  have q3 : (mI (ma_put S1 t 8 (.inl (0 : Int32))) 69 5).toInt = (mI S1 69 5).toInt := zp_th th_t.1 (by decide)
  have hI5 : zI f r C Z N (ma_put S1 t 8 (.inl (0 : Int32))) := zG_tf hI_S1 th_t.1 zI_t (by decide) (by decide) trivial (by decide) (by decide) (by decide)
  have f4 := zG_s hI5 (0) (512) (c := 69) (k := 5) (by decide)
  refine zd (fun h6 => ?_) (fun h6 => ?_)
  · skip
    have g7 := i_le h6
    exact K _ hI5 (show xB (ma_put S1 t 8 (.inl (0 : Int32))) R from by first | (exact (xC_t (k := 8) (x := (0 : Int32)) (xC_o (W := 75) rp0_S1) xW75 hpre3 rfl).2)) (show aS W (ma_put S1 t 8 (.inl (0 : Int32))) = aGr ab y from by first | (have ty := xB_th (W := W) rp0_S1 hpre3; refine (xC_t (k := 8) (x := (0 : Int32)) (xC_o (W := W) rp0_S1) hpre2 hpre3 rfl).1.trans ?_; (try simp only [zp_i (c := 69) (c₉ := t) (k₉ := 8) th_t.1 (by decide), zp_i (c := 71) (c₉ := t) (k₉ := 8) th_t.1 (by decide), zp_i (c := 72) (c₉ := t) (k₉ := 8) th_t.1 (by decide), zp_i (c := 73) (c₉ := t) (k₉ := 8) th_t.1 (by decide), zp_i (c := 74) (c₉ := t) (k₉ := 8) th_t.1 (by decide), zp_i (c := 75) (c₉ := t) (k₉ := 8) th_t.1 (by decide), zp_i (c := 76) (c₉ := t) (k₉ := 8) th_t.1 (by decide), zp_i (c := 77) (c₉ := t) (k₉ := 8) th_t.1 (by decide), zp_i (c := 87) (c₉ := t) (k₉ := 8) th_t.1 (by decide), zp_i (c := 88) (c₉ := t) (k₉ := 8) th_t.1 (by decide), zp_i (c := 89) (c₉ := t) (k₉ := 8) th_t.1 (by decide), zp_i (c := 90) (c₉ := t) (k₉ := 8) th_t.1 (by decide), zp_f (k := 0) (c₉ := t) (k₉ := 8) (by decide), zp_f (k := 1) (c₉ := t) (k₉ := 8) (by decide), zp_f (k := 2) (c₉ := t) (k₉ := 8) (by decide), zp_f (k := 4) (c₉ := t) (k₉ := 8) (by decide), zp_f (k := 7) (c₉ := t) (k₉ := 8) (by decide)]); rw [rp1_S1, hpre1]; have e5 : aS W S1 69 5 = ab 69 5 := (by rw [rp1_S1, hpre1]; exact zUw_o (by decide)); have e5b : mI S1 69 5 = ab 69 5 := e5; have e5i := congrArg Int32.toInt e5b; rw [ty.2.2.1, e5b]; exact (if_pos (by omega)).symm) | (have ty := xB_th (W := W) rp0_S1 hpre3; refine (xC_t (k := 8) (x := (0 : Int32)) (xC_o (W := W) rp0_S1) hpre2 hpre3 rfl).1.trans ?_; (try simp only [zp_i (c := 69) (c₉ := t) (k₉ := 8) th_t.1 (by decide), zp_i (c := 71) (c₉ := t) (k₉ := 8) th_t.1 (by decide), zp_i (c := 72) (c₉ := t) (k₉ := 8) th_t.1 (by decide), zp_i (c := 73) (c₉ := t) (k₉ := 8) th_t.1 (by decide), zp_i (c := 74) (c₉ := t) (k₉ := 8) th_t.1 (by decide), zp_i (c := 75) (c₉ := t) (k₉ := 8) th_t.1 (by decide), zp_i (c := 76) (c₉ := t) (k₉ := 8) th_t.1 (by decide), zp_i (c := 77) (c₉ := t) (k₉ := 8) th_t.1 (by decide), zp_i (c := 87) (c₉ := t) (k₉ := 8) th_t.1 (by decide), zp_i (c := 88) (c₉ := t) (k₉ := 8) th_t.1 (by decide), zp_i (c := 89) (c₉ := t) (k₉ := 8) th_t.1 (by decide), zp_i (c := 90) (c₉ := t) (k₉ := 8) th_t.1 (by decide), zp_f (k := 0) (c₉ := t) (k₉ := 8) (by decide), zp_f (k := 1) (c₉ := t) (k₉ := 8) (by decide), zp_f (k := 2) (c₉ := t) (k₉ := 8) (by decide), zp_f (k := 4) (c₉ := t) (k₉ := 8) (by decide), zp_f (k := 7) (c₉ := t) (k₉ := 8) (by decide)]); rw [rp1_S1, hpre1]; have e5 : aS W S1 69 5 = ab 69 5 := (by rw [rp1_S1, hpre1]; exact zUw_o (by decide)); have e5b : mI S1 69 5 = ab 69 5 := e5; have e5i := congrArg Int32.toInt e5b; exact (if_neg (by omega)).symm)) (show ∀ n, xAl ab n → kC (ma_put S1 t 8 (.inl (0 : Int32))) n = kk n + (if (ab 69 5).toInt < 512 then Int32.ofNat (cIs y n) else 0) from by first | (intro n hn; have e5 : aS W S1 69 5 = ab 69 5 := (by rw [rp1_S1, hpre1]; exact zUw_o (by decide)); have e5b : mI S1 69 5 = ab 69 5 := e5; have e5i := congrArg Int32.toInt e5b; refine (congrFun (xK_t (k := 8) (x := (0 : Int32)) (xK_o (W := W) rp0_S1 (rp2_S1.trans hpre4)) hpre2 hpre3 rfl (by decide)).2 n).trans ?_; rw [if_neg (by omega)]; exact (Int32.add_zero _).symm)) (show zN0 (ma_put S1 t 8 (.inl (0 : Int32))) = n0 from by first | (exact ((n0_t (k := 8) (by decide)).trans rp3_S1)))
  · skip
    have g8 := i_nle h6
    refine ⟨zG_n hI5 th_t, ?_⟩
    refine ⟨i_ix (by omega) (by omega), ?_⟩
    have hI9 : zI f r C Z N (ma_put (ma_put S1 t 8 (.inl (0 : Int32))) 74 (mI (ma_put S1 t 8 (.inl (0 : Int32))) 69 5).toNatClampNeg (.inl (mI (ma_put S1 t 8 (.inl (0 : Int32))) t 0))) := zG_fa hI5 rfl (by decide) (by decide) (by decide) trivial
    first | have e11 : ((mI (ma_put S1 t 8 (.inl (0 : Int32))) 69 5) + (1 : Int32)).toInt = (mI (ma_put S1 t 8 (.inl (0 : Int32))) 69 5).toInt + (1) := i_addk rfl (by omega) (by omega) | have b12 := i_bd ((mI (ma_put S1 t 8 (.inl (0 : Int32))) 69 5) + (1 : Int32))
    have hI10 : zI f r C Z N (ma_put (ma_put (ma_put S1 t 8 (.inl (0 : Int32))) 74 (mI (ma_put S1 t 8 (.inl (0 : Int32))) 69 5).toNatClampNeg (.inl (mI (ma_put S1 t 8 (.inl (0 : Int32))) t 0))) 69 5 (.inl ((mI (ma_put S1 t 8 (.inl (0 : Int32))) 69 5) + (1 : Int32)))) := zG_sp hI9 (0) (512) rfl (by decide) (by decide) (by decide) trivial (by omega) (by omega)
    refine ⟨zG_n hI10 th_t, ?_⟩
    refine ⟨zG_n hI10 th_t, ?_⟩
    have hI13 : zI f r C Z N (ma_put (ma_put (ma_put (ma_put S1 t 8 (.inl (0 : Int32))) 74 (mI (ma_put S1 t 8 (.inl (0 : Int32))) 69 5).toNatClampNeg (.inl (mI (ma_put S1 t 8 (.inl (0 : Int32))) t 0))) 69 5 (.inl ((mI (ma_put S1 t 8 (.inl (0 : Int32))) 69 5) + (1 : Int32)))) t 6 (.inl ((mI (ma_put (ma_put (ma_put S1 t 8 (.inl (0 : Int32))) 74 (mI (ma_put S1 t 8 (.inl (0 : Int32))) 69 5).toNatClampNeg (.inl (mI (ma_put S1 t 8 (.inl (0 : Int32))) t 0))) 69 5 (.inl ((mI (ma_put S1 t 8 (.inl (0 : Int32))) 69 5) + (1 : Int32)))) t 6) + (1 : Int32)))) := zG_tf hI10 th_t.1 zI_t (by decide) (by decide) trivial (by decide) (by decide) (by decide)
    exact K _ hI13 (show xB (ma_put (ma_put (ma_put (ma_put S1 t 8 (.inl (0 : Int32))) 74 (mI (ma_put S1 t 8 (.inl (0 : Int32))) 69 5).toNatClampNeg (.inl (mI (ma_put S1 t 8 (.inl (0 : Int32))) t 0))) 69 5 (.inl ((mI (ma_put S1 t 8 (.inl (0 : Int32))) 69 5) + (1 : Int32)))) t 6 (.inl ((mI (ma_put (ma_put (ma_put S1 t 8 (.inl (0 : Int32))) 74 (mI (ma_put S1 t 8 (.inl (0 : Int32))) 69 5).toNatClampNeg (.inl (mI (ma_put S1 t 8 (.inl (0 : Int32))) t 0))) 69 5 (.inl ((mI (ma_put S1 t 8 (.inl (0 : Int32))) 69 5) + (1 : Int32)))) t 6) + (1 : Int32)))) R from by first | (exact (xC_6 (k := 6) (x := ((mI (ma_put (ma_put (ma_put S1 t 8 (.inl (0 : Int32))) 74 (mI (ma_put S1 t 8 (.inl (0 : Int32))) 69 5).toNatClampNeg (.inl (mI (ma_put S1 t 8 (.inl (0 : Int32))) t 0))) 69 5 (.inl ((mI (ma_put S1 t 8 (.inl (0 : Int32))) 69 5) + (1 : Int32)))) t 6) + (1 : Int32))) (xC_p (c := 69) (k := 5) (x := ((mI (ma_put S1 t 8 (.inl (0 : Int32))) 69 5) + (1 : Int32))) (xC_p (c := 74) (k := (mI (ma_put S1 t 8 (.inl (0 : Int32))) 69 5).toNatClampNeg) (x := (mI (ma_put S1 t 8 (.inl (0 : Int32))) t 0)) (xC_t (k := 8) (x := (0 : Int32)) (xC_o (W := 75) rp0_S1) xW75 hpre3 rfl) 74 xW75 rfl rfl) 69 xW75 rfl rfl) xW75 th_t.1 rfl (by decide)).2)) (show aS W (ma_put (ma_put (ma_put (ma_put S1 t 8 (.inl (0 : Int32))) 74 (mI (ma_put S1 t 8 (.inl (0 : Int32))) 69 5).toNatClampNeg (.inl (mI (ma_put S1 t 8 (.inl (0 : Int32))) t 0))) 69 5 (.inl ((mI (ma_put S1 t 8 (.inl (0 : Int32))) 69 5) + (1 : Int32)))) t 6 (.inl ((mI (ma_put (ma_put (ma_put S1 t 8 (.inl (0 : Int32))) 74 (mI (ma_put S1 t 8 (.inl (0 : Int32))) 69 5).toNatClampNeg (.inl (mI (ma_put S1 t 8 (.inl (0 : Int32))) t 0))) 69 5 (.inl ((mI (ma_put S1 t 8 (.inl (0 : Int32))) 69 5) + (1 : Int32)))) t 6) + (1 : Int32)))) = aGr ab y from by first | (have ty := xB_th (W := W) rp0_S1 hpre3; refine (xC_6 (k := 6) (x := ((mI (ma_put (ma_put (ma_put S1 t 8 (.inl (0 : Int32))) 74 (mI (ma_put S1 t 8 (.inl (0 : Int32))) 69 5).toNatClampNeg (.inl (mI (ma_put S1 t 8 (.inl (0 : Int32))) t 0))) 69 5 (.inl ((mI (ma_put S1 t 8 (.inl (0 : Int32))) 69 5) + (1 : Int32)))) t 6) + (1 : Int32))) (xC_p (c := 69) (k := 5) (x := ((mI (ma_put S1 t 8 (.inl (0 : Int32))) 69 5) + (1 : Int32))) (xC_p (c := 74) (k := (mI (ma_put S1 t 8 (.inl (0 : Int32))) 69 5).toNatClampNeg) (x := (mI (ma_put S1 t 8 (.inl (0 : Int32))) t 0)) (xC_t (k := 8) (x := (0 : Int32)) (xC_o (W := W) rp0_S1) hpre2 hpre3 rfl) 74 hpre2 rfl (zcw_s (by decide))) 69 hpre2 rfl (zcw_s (by decide))) hpre2 th_t.1 rfl (by decide)).1.trans ?_; (try simp only [zp_e (c₉ := 69) th_t.1 (by decide), zp_e (c₉ := 74) th_t.1 (by decide), zp_i (c := 69) (c₉ := t) (k₉ := 6) th_t.1 (by decide), zp_i (c := 71) (c₉ := t) (k₉ := 6) th_t.1 (by decide), zp_i (c := 72) (c₉ := t) (k₉ := 6) th_t.1 (by decide), zp_i (c := 73) (c₉ := t) (k₉ := 6) th_t.1 (by decide), zp_i (c := 74) (c₉ := t) (k₉ := 6) th_t.1 (by decide), zp_i (c := 75) (c₉ := t) (k₉ := 6) th_t.1 (by decide), zp_i (c := 76) (c₉ := t) (k₉ := 6) th_t.1 (by decide), zp_i (c := 77) (c₉ := t) (k₉ := 6) th_t.1 (by decide), zp_i (c := 87) (c₉ := t) (k₉ := 6) th_t.1 (by decide), zp_i (c := 88) (c₉ := t) (k₉ := 6) th_t.1 (by decide), zp_i (c := 89) (c₉ := t) (k₉ := 6) th_t.1 (by decide), zp_i (c := 90) (c₉ := t) (k₉ := 6) th_t.1 (by decide), zp_f (k := 0) (c₉ := t) (k₉ := 6) (by decide), zp_f (k := 1) (c₉ := t) (k₉ := 6) (by decide), zp_f (k := 2) (c₉ := t) (k₉ := 6) (by decide), zp_f (k := 4) (c₉ := t) (k₉ := 6) (by decide), zp_f (k := 7) (c₉ := t) (k₉ := 6) (by decide), zp_f (k := 8) (c₉ := t) (k₉ := 6) (by decide), zp_i (c := 69) (c₉ := t) (k₉ := 8) th_t.1 (by decide), zp_i (c := 71) (c₉ := t) (k₉ := 8) th_t.1 (by decide), zp_i (c := 72) (c₉ := t) (k₉ := 8) th_t.1 (by decide), zp_i (c := 73) (c₉ := t) (k₉ := 8) th_t.1 (by decide), zp_i (c := 74) (c₉ := t) (k₉ := 8) th_t.1 (by decide), zp_i (c := 75) (c₉ := t) (k₉ := 8) th_t.1 (by decide), zp_i (c := 76) (c₉ := t) (k₉ := 8) th_t.1 (by decide), zp_i (c := 77) (c₉ := t) (k₉ := 8) th_t.1 (by decide), zp_i (c := 87) (c₉ := t) (k₉ := 8) th_t.1 (by decide), zp_i (c := 88) (c₉ := t) (k₉ := 8) th_t.1 (by decide), zp_i (c := 89) (c₉ := t) (k₉ := 8) th_t.1 (by decide), zp_i (c := 90) (c₉ := t) (k₉ := 8) th_t.1 (by decide), zp_f (k := 0) (c₉ := t) (k₉ := 8) (by decide), zp_f (k := 1) (c₉ := t) (k₉ := 8) (by decide), zp_f (k := 2) (c₉ := t) (k₉ := 8) (by decide), zp_f (k := 4) (c₉ := t) (k₉ := 8) (by decide), zp_f (k := 7) (c₉ := t) (k₉ := 8) (by decide)]); rw [rp1_S1, hpre1]; have e5 : aS W S1 69 5 = ab 69 5 := (by rw [rp1_S1, hpre1]; exact zUw_o (by decide)); have e5b : mI S1 69 5 = ab 69 5 := e5; have e5i := congrArg Int32.toInt e5b; rw [ty.2.2.1, e5b]; exact (if_pos (by omega)).symm) | (have ty := xB_th (W := W) rp0_S1 hpre3; refine (xC_6 (k := 6) (x := ((mI (ma_put (ma_put (ma_put S1 t 8 (.inl (0 : Int32))) 74 (mI (ma_put S1 t 8 (.inl (0 : Int32))) 69 5).toNatClampNeg (.inl (mI (ma_put S1 t 8 (.inl (0 : Int32))) t 0))) 69 5 (.inl ((mI (ma_put S1 t 8 (.inl (0 : Int32))) 69 5) + (1 : Int32)))) t 6) + (1 : Int32))) (xC_p (c := 69) (k := 5) (x := ((mI (ma_put S1 t 8 (.inl (0 : Int32))) 69 5) + (1 : Int32))) (xC_p (c := 74) (k := (mI (ma_put S1 t 8 (.inl (0 : Int32))) 69 5).toNatClampNeg) (x := (mI (ma_put S1 t 8 (.inl (0 : Int32))) t 0)) (xC_t (k := 8) (x := (0 : Int32)) (xC_o (W := W) rp0_S1) hpre2 hpre3 rfl) 74 hpre2 rfl (zcw_s (by decide))) 69 hpre2 rfl (zcw_s (by decide))) hpre2 th_t.1 rfl (by decide)).1.trans ?_; (try simp only [zp_e (c₉ := 69) th_t.1 (by decide), zp_e (c₉ := 74) th_t.1 (by decide), zp_i (c := 69) (c₉ := t) (k₉ := 6) th_t.1 (by decide), zp_i (c := 71) (c₉ := t) (k₉ := 6) th_t.1 (by decide), zp_i (c := 72) (c₉ := t) (k₉ := 6) th_t.1 (by decide), zp_i (c := 73) (c₉ := t) (k₉ := 6) th_t.1 (by decide), zp_i (c := 74) (c₉ := t) (k₉ := 6) th_t.1 (by decide), zp_i (c := 75) (c₉ := t) (k₉ := 6) th_t.1 (by decide), zp_i (c := 76) (c₉ := t) (k₉ := 6) th_t.1 (by decide), zp_i (c := 77) (c₉ := t) (k₉ := 6) th_t.1 (by decide), zp_i (c := 87) (c₉ := t) (k₉ := 6) th_t.1 (by decide), zp_i (c := 88) (c₉ := t) (k₉ := 6) th_t.1 (by decide), zp_i (c := 89) (c₉ := t) (k₉ := 6) th_t.1 (by decide), zp_i (c := 90) (c₉ := t) (k₉ := 6) th_t.1 (by decide), zp_f (k := 0) (c₉ := t) (k₉ := 6) (by decide), zp_f (k := 1) (c₉ := t) (k₉ := 6) (by decide), zp_f (k := 2) (c₉ := t) (k₉ := 6) (by decide), zp_f (k := 4) (c₉ := t) (k₉ := 6) (by decide), zp_f (k := 7) (c₉ := t) (k₉ := 6) (by decide), zp_f (k := 8) (c₉ := t) (k₉ := 6) (by decide), zp_i (c := 69) (c₉ := t) (k₉ := 8) th_t.1 (by decide), zp_i (c := 71) (c₉ := t) (k₉ := 8) th_t.1 (by decide), zp_i (c := 72) (c₉ := t) (k₉ := 8) th_t.1 (by decide), zp_i (c := 73) (c₉ := t) (k₉ := 8) th_t.1 (by decide), zp_i (c := 74) (c₉ := t) (k₉ := 8) th_t.1 (by decide), zp_i (c := 75) (c₉ := t) (k₉ := 8) th_t.1 (by decide), zp_i (c := 76) (c₉ := t) (k₉ := 8) th_t.1 (by decide), zp_i (c := 77) (c₉ := t) (k₉ := 8) th_t.1 (by decide), zp_i (c := 87) (c₉ := t) (k₉ := 8) th_t.1 (by decide), zp_i (c := 88) (c₉ := t) (k₉ := 8) th_t.1 (by decide), zp_i (c := 89) (c₉ := t) (k₉ := 8) th_t.1 (by decide), zp_i (c := 90) (c₉ := t) (k₉ := 8) th_t.1 (by decide), zp_f (k := 0) (c₉ := t) (k₉ := 8) (by decide), zp_f (k := 1) (c₉ := t) (k₉ := 8) (by decide), zp_f (k := 2) (c₉ := t) (k₉ := 8) (by decide), zp_f (k := 4) (c₉ := t) (k₉ := 8) (by decide), zp_f (k := 7) (c₉ := t) (k₉ := 8) (by decide)]); rw [rp1_S1, hpre1]; have e5 : aS W S1 69 5 = ab 69 5 := (by rw [rp1_S1, hpre1]; exact zUw_o (by decide)); have e5b : mI S1 69 5 = ab 69 5 := e5; have e5i := congrArg Int32.toInt e5b; exact (if_neg (by omega)).symm)) (show ∀ n, xAl ab n → kC (ma_put (ma_put (ma_put (ma_put S1 t 8 (.inl (0 : Int32))) 74 (mI (ma_put S1 t 8 (.inl (0 : Int32))) 69 5).toNatClampNeg (.inl (mI (ma_put S1 t 8 (.inl (0 : Int32))) t 0))) 69 5 (.inl ((mI (ma_put S1 t 8 (.inl (0 : Int32))) 69 5) + (1 : Int32)))) t 6 (.inl ((mI (ma_put (ma_put (ma_put S1 t 8 (.inl (0 : Int32))) 74 (mI (ma_put S1 t 8 (.inl (0 : Int32))) 69 5).toNatClampNeg (.inl (mI (ma_put S1 t 8 (.inl (0 : Int32))) t 0))) 69 5 (.inl ((mI (ma_put S1 t 8 (.inl (0 : Int32))) 69 5) + (1 : Int32)))) t 6) + (1 : Int32)))) n = kk n + (if (ab 69 5).toInt < 512 then Int32.ofNat (cIs y n) else 0) from by first | (intro n hn; have e5 : aS W S1 69 5 = ab 69 5 := (by rw [rp1_S1, hpre1]; exact zUw_o (by decide)); have e5b : mI S1 69 5 = ab 69 5 := e5; have e5i := congrArg Int32.toInt e5b; refine (congrFun (xK_6 (x := ((mI (ma_put (ma_put (ma_put S1 t 8 (.inl (0 : Int32))) 74 (mI (ma_put S1 t 8 (.inl (0 : Int32))) 69 5).toNatClampNeg (.inl (mI (ma_put S1 t 8 (.inl (0 : Int32))) t 0))) 69 5 (.inl ((mI (ma_put S1 t 8 (.inl (0 : Int32))) 69 5) + (1 : Int32)))) t 6) + (1 : Int32))) (xK_p (c := 69) (k := 5) (x := ((mI (ma_put S1 t 8 (.inl (0 : Int32))) 69 5) + (1 : Int32))) (xK_p (c := 74) (k := (mI (ma_put S1 t 8 (.inl (0 : Int32))) 69 5).toNatClampNeg) (x := (mI (ma_put S1 t 8 (.inl (0 : Int32))) t 0)) (xK_t (k := 8) (x := (0 : Int32)) (xK_o (W := W) rp0_S1 (rp2_S1.trans hpre4)) hpre2 hpre3 rfl (by decide)) 74 hpre2 rfl (zcw_s (by decide))) 69 hpre2 rfl (zcw_s (by decide))) hpre2 hpre3 th_t.1).2 n).trans ?_; have k63 := xK_y (xK_p (c := 69) (k := 5) (x := ((mI (ma_put S1 t 8 (.inl (0 : Int32))) 69 5) + (1 : Int32))) (xK_p (c := 74) (k := (mI (ma_put S1 t 8 (.inl (0 : Int32))) 69 5).toNatClampNeg) (x := (mI (ma_put S1 t 8 (.inl (0 : Int32))) t 0)) (xK_t (k := 8) (x := (0 : Int32)) (xK_o (W := W) rp0_S1 (rp2_S1.trans hpre4)) hpre2 hpre3 rfl (by decide)) 74 hpre2 rfl (zcw_s (by decide))) 69 hpre2 rfl (zcw_s (by decide))) hpre3; rw [k63, KU_1 (zTa_p hpre3).1 hn.1, if_pos (by omega)])) (show zN0 (ma_put (ma_put (ma_put (ma_put S1 t 8 (.inl (0 : Int32))) 74 (mI (ma_put S1 t 8 (.inl (0 : Int32))) 69 5).toNatClampNeg (.inl (mI (ma_put S1 t 8 (.inl (0 : Int32))) t 0))) 69 5 (.inl ((mI (ma_put S1 t 8 (.inl (0 : Int32))) 69 5) + (1 : Int32)))) t 6 (.inl ((mI (ma_put (ma_put (ma_put S1 t 8 (.inl (0 : Int32))) 74 (mI (ma_put S1 t 8 (.inl (0 : Int32))) 69 5).toNatClampNeg (.inl (mI (ma_put S1 t 8 (.inl (0 : Int32))) t 0))) 69 5 (.inl ((mI (ma_put S1 t 8 (.inl (0 : Int32))) 69 5) + (1 : Int32)))) t 6) + (1 : Int32)))) = n0 from by first | (exact ((n0_t (k := 6) (by decide)).trans ((n0_p (c := 69) (by decide)).trans ((n0_p (c := 74) (by decide)).trans ((n0_t (k := 8) (by decide)).trans rp3_S1))))))

/-! from 95.m20 -/
/-! COUNTS, the class (written by wip/tools/gen20k.py) -/
theorem g_88_69_sk_0 {X : Nat × (Nat → Int32)} {d w : Nat} {S : ma_S} {Q : Option ma_V ⊕ Nat → ma_S → Prop} (x : Int32) (z : Int32) (hd : 0 ≤ d) (hw : 0 ≤ w) (hS : zT S) (h : ma_wp X d w 88 2 [(0, .inr (.inr (some 69))), (2, .inl z), (3, .inl x)] [] S Q) : ma_wp X d w 88 0 [(0, .inr (.inr (some 69))), (1, .inl x), (2, .inl z)] [] S Q := by
  refine zw_push hm_88 dX7_freeWords_0 (v := .inl x) rfl ?_
  refine zw_sto hm_88 dX7_freeWords_1 [(3, .inl x), (0, .inr (.inr (some 69))), (1, .inl x), (2, .inl z)] rfl rfl rfl ?_
  exact zw_sub (ma_nd_of (ks := [0, 2, 3]) rfl (by decide)) (ma_nd_of (ks := [3, 0, 1, 2]) rfl (by decide)) (ma_le_cons rfl (ma_le_cons rfl (ma_le_cons rfl (ma_le_nil _)))) h
theorem g_88_69_sk_2 {X : Nat × (Nat → Int32)} {d w : Nat} {S : ma_S} {Q : Option ma_V ⊕ Nat → ma_S → Prop} (l2 : Int32) (l3 : Int32) (hd : 0 ≤ d) (hw : 0 ≤ w) (hS : zT S) (h : if l3 < 0 then (Q (.inl none) S) else (if l2 ≤ l3 then (Q (.inl none) S) else (if (4500 : Int32) ≤ l3 then (Q (.inl none) S) else ((0 ≤ l3 ∧ l3.toNatClampNeg < 4500) ∧ (ma_wp X d w 88 2 [(0, .inr (.inr (some 69))), (2, .inl l2), (3, .inl (l3 + (1 : Int32)))] [] (ma_put S 71 l3.toNatClampNeg (.inl (-1 : Int32))) Q))))) : ma_wp X d w 88 2 [(0, .inr (.inr (some 69))), (2, .inl l2), (3, .inl l3)] [] S Q := by
  refine zw_push hm_88 dX7_freeWords_2 (v := .inl l3) rfl ?_
  refine zw_if0 hm_88 dX7_freeWords_3 (t := 31) rfl zc0_lt ?_ ?_
  · intro hc
    rw [if_pos hc] at h
    exact zw_vret hm_88 dX7_freeWords_31 h
  · intro hc
    rw [if_neg hc] at h
    refine zw_push hm_88 dX7_freeWords_6 (v := .inl l3) rfl ?_
    refine zw_push hm_88 dX7_freeWords_7 (v := .inl l2) rfl ?_
    refine zw_if2 hm_88 dX7_freeWords_8 (t := 31) rfl zc2_ge ?_ ?_
    · intro hc
      rw [if_pos hc] at h
      exact zw_vret hm_88 dX7_freeWords_31 h
    · intro hc
      rw [if_neg hc] at h
      refine zw_push hm_88 dX7_freeWords_11 (v := .inl l3) rfl ?_
      refine zw_push hm_88 dX7_freeWords_12 (v := .inl (4500 : Int32)) rfl ?_
      refine zw_if2 hm_88 dX7_freeWords_15 (t := 31) rfl zc2_ge ?_ ?_
      · intro hc
        rw [if_pos hc] at h
        exact zw_vret hm_88 dX7_freeWords_31 h
      · intro hc
        rw [if_neg hc] at h
        refine zw_push hm_88 dX7_freeWords_18 (v := .inr (.inr (some 69))) rfl ?_
        refine zw_gf hm_88 dX7_freeWords_19 (v := .inr (.inr (some 71))) (zT_is hS s_69) (zT_t hS s_69) rfl f_7_17_7 (zT_f hS r_69_1) ?_
        refine zw_push hm_88 dX7_freeWords_22 (v := .inl l3) rfl ?_
        refine zw_push hm_88 dX7_freeWords_23 (v := .inl (-1 : Int32)) rfl ?_
        obtain ⟨hg, h⟩ := h
        refine zw_ias hm_88 dX7_freeWords_24 (zT_is hS s_71) (zT_h hS s_71) rfl hg ?_
        refine zw_sto hm_88 dX7_freeWords_25 [(3, .inl (l3 + (1 : Int32))), (0, .inr (.inr (some 69))), (2, .inl l2)] rfl rfl rfl ?_
        refine zw_goto hm_88 dX7_freeWords_28 (t := 2) rfl ?_
        exact zw_sub (ma_nd_of (ks := [0, 2, 3]) rfl (by decide)) (ma_nd_of (ks := [3, 0, 2]) rfl (by decide)) (ma_le_cons rfl (ma_le_cons rfl (ma_le_cons rfl (ma_le_nil _)))) h
theorem lp_88_69_sk_2 {X : Nat × (Nat → Int32)} {d w : Nat} {f : Nat → Nat → Int32} {r : Nat → Nat → Option Nat} {C Z N : Nat} {Q : Option ma_V ⊕ Nat → ma_S → Prop} {ab : Nat→Nat→Int32} {R : zRT} {W : Nat} {kk : Nat→Int32} {n0 : Nat→Nat→Int32} {x : Int32} {z : Int32} (hd : 0 ≤ d) (hw : 0 ≤ w) (K : ∀ S₉, zI f r C Z N S₉ → (xB S₉ R) → (aS W S₉ = zFr ab x.toInt (zMin z.toInt)) → (kC S₉ = kk) → (zN0 S₉ = n0) → Q (.inl none) S₉) : ∀ (n : Nat) (S : ma_S) (l2 : Int32) (l3 : Int32), (4500 - l3.toInt).toNat = n → zI f r C Z N S → (x.toInt ≤ l3.toInt) → (l2.toInt = z.toInt) → (0 ≤ x.toInt) → (l3.toInt = x.toInt ∨ (l3.toInt ≤ z.toInt ∧ l3.toInt ≤ 4500)) → (xB S R) → (xW W) → (aS W S = zFr ab x.toInt l3.toInt) → (kC S = kk) → (zN0 S = n0) → ma_wp X d w 88 2 [(0, .inr (.inr (some 69))), (2, .inl l2), (3, .inl l3)] [] S Q := by
  intro n
  induction n using Nat.strongRecOn with
  | _ n IH =>
    intro S l2 l3 hmu hI  hi0 hi1 hi2 hi3 hi4 hi5 hi6 hi7 hi8
    refine g_88_69_sk_2 l2 l3 (by omega) (by omega) (zG_T hI) ?_
    have b1 := i_bd l3
    have li2 : (0 : Int32).toInt = 0 := rfl
    refine zd (fun h3 => ?_) (fun h3 => ?_)
    · skip
      have g4 := i_lt h3
      exact K _ hI (show xB S R from by first | (exact (xC_o (W := 75) hi4).2)) (show aS W S = zFr ab x.toInt (zMin z.toInt) from by first | (rw [hi6]; exact zFr_e (by unfold zMin; split <;> omega))) (show kC S = kk from by first | (exact (xK_o (W := W) hi4 hi7).2)) (show zN0 S = n0 from by first | (exact hi8))
    · skip
      have g5 := i_nlt h3
      have b6 := i_bd l2
      refine zd (fun h7 => ?_) (fun h7 => ?_)
      · skip
        have g8 := i_le h7
        exact K _ hI (show xB S R from by first | (exact (xC_o (W := 75) hi4).2)) (show aS W S = zFr ab x.toInt (zMin z.toInt) from by first | (rw [hi6]; exact zFr_e (by unfold zMin; split <;> omega))) (show kC S = kk from by first | (exact (xK_o (W := W) hi4 hi7).2)) (show zN0 S = n0 from by first | (exact hi8))
      · skip
        have g9 := i_nle h7
        have li10 : (4500 : Int32).toInt = 4500 := rfl
        refine zd (fun h11 => ?_) (fun h11 => ?_)
        · skip
          have g12 := i_le h11
          exact K _ hI (show xB S R from by first | (exact (xC_o (W := 75) hi4).2)) (show aS W S = zFr ab x.toInt (zMin z.toInt) from by first | (rw [hi6]; exact zFr_e (by unfold zMin; split <;> omega))) (show kC S = kk from by first | (exact (xK_o (W := W) hi4 hi7).2)) (show zN0 S = n0 from by first | (exact hi8))
        · skip
          have g13 := i_nle h11
          refine ⟨i_ix (by omega) (by omega), ?_⟩
          have hI14 : zI f r C Z N (ma_put S 71 l3.toNatClampNeg (.inl (-1 : Int32))) := zG_fa hI rfl (by decide) (by decide) (by decide) trivial
          first | have e15 : (l3 + (1 : Int32)).toInt = l3.toInt + (1) := i_addk rfl (by omega) (by omega) | have b16 := i_bd (l3 + (1 : Int32))
          exact IH _ (by omega) _ (l2) ((l3 + (1 : Int32))) rfl hI14 (by omega) (by omega) (by omega) (by omega) (show xB (ma_put S 71 l3.toNatClampNeg (.inl (-1 : Int32))) R from by first | (exact (xC_p (c := 71) (k := l3.toNatClampNeg) (x := (-1 : Int32)) (xC_o (W := 75) hi4) 71 xW75 rfl rfl).2)) (show xW W from by first | (exact hi5) | (exact xW88) | (exact xW75)) (show aS W (ma_put S 71 l3.toNatClampNeg (.inl (-1 : Int32))) = zFr ab x.toInt ((l3 + (1 : Int32))).toInt from by first | (refine (xC_p (c := 71) (k := l3.toNatClampNeg) (x := (-1 : Int32)) (xC_o (W := W) hi4) 71 hi5 rfl (zcw_s (by decide))).1.trans ?_; skip; rw [hi6]; exact zFr_s (by omega) (by omega) (by omega))) (show kC (ma_put S 71 l3.toNatClampNeg (.inl (-1 : Int32))) = kk from by first | (exact (xK_p (c := 71) (k := l3.toNatClampNeg) (x := (-1 : Int32)) (xK_o (W := W) hi4 hi7) 71 hi5 rfl (zcw_s (by decide))).2)) (show zN0 (ma_put S 71 l3.toNatClampNeg (.inl (-1 : Int32))) = n0 from by first | (exact ((n0_p (c := 71) (by decide)).trans hi8)))
theorem sp_88_69_sk {X : Nat × (Nat → Int32)} {d w : Nat} {f : Nat → Nat → Int32} {r : Nat → Nat → Option Nat} {C Z N : Nat} {Q : Option ma_V ⊕ Nat → ma_S → Prop} {ab : Nat→Nat→Int32} {R : zRT} {W : Nat} {kk : Nat→Int32} {n0 : Nat→Nat→Int32} {S : ma_S} (x : Int32) (z : Int32) (hd : 0 ≤ d) (hw : 0 ≤ w) (hI : zI f r C Z N S) (hpre0 : xB S R) (hpre1 : aS W S = ab) (hpre2 : xW W) (hpre3 : 0 ≤ x.toInt) (hpre4 : kC S = kk) (hpre5 : zN0 S = n0) (K : ∀ S₉, zI f r C Z N S₉ → (xB S₉ R) → (aS W S₉ = zFr ab x.toInt (zMin z.toInt)) → (kC S₉ = kk) → (zN0 S₉ = n0) → Q (.inl none) S₉) : ma_wp X d w 88 0 [(0, .inr (.inr (some 69))), (1, .inl x), (2, .inl z)] [] S Q := by
  refine g_88_69_sk_0 x z (by omega) (by omega) (zG_T hI) ?_
  have b1 := i_bd z
  have b2 := i_bd x
  exact lp_88_69_sk_2 (by omega) (by omega) K _ _ (z) (x) rfl hI (by omega) (by omega) (by omega) (by omega) (show xB S R from by first | (exact (xC_o (W := 75) hpre0).2)) (show xW W from by first | (exact hpre2) | (exact xW88) | (exact xW75)) (show aS W S = zFr ab x.toInt (x).toInt from by first | (rw [hpre1]; exact (zFr_0 (Int.le_refl _)).symm)) (show kC S = kk from by first | (exact (xK_o (W := W) hpre0 hpre4).2)) (show zN0 S = n0 from by first | (exact hpre5))
theorem uw_ref {a : Nat → Nat → Int32} {y i : Int32} {n : Nat} {e : Int} : aRef (zUw a y e) n i = aRef a n i := rf_cg (funext (fun _ => zUw_o (by omega))) (funext (fun _ => zUw_o (by decide))) (funext (fun _ => zUw_o (by decide)))
theorem uw_al {a : Nat → Nat → Int32} {y : Int32} {n : Nat} {e : Int} : xAl (zUw a y e) n ↔ xAl a n := by
  unfold xAl
  rw [zUw_o (by decide)]

/-! from 95.m21 -/
/-! COUNTS, the class (written by wip/tools/gen20k.py) -/
theorem g_87_69_sk_0 {X : Nat × (Nat → Int32)} {d w : Nat} {S : ma_S} {Q : Option ma_V ⊕ Nat → ma_S → Prop} (t : Nat) (hd : 1 ≤ d) (hw : 25 ≤ w) (hS : zT S) (h : ma_wp X (d - 1) (w - 22) 85 0 [(0, .inr (.inr (some 69))), (1, .inr (.inr (some t)))] [] S (zv (fun S1 => zT S1 ∧ (ma_wp X d w 87 7 [(0, .inr (.inr (some 69))), (1, .inr (.inr (some t))), (2, .inl (0 : Int32))] [] S1 Q)) (fun x S9 => Q (.inr x) S9))) : ma_wp X d w 87 0 [(0, .inr (.inr (some 69))), (1, .inr (.inr (some t)))] [] S Q := by
  refine zw_push hm_87 dX7_remove_0 (v := .inr (.inr (some 69))) rfl ?_
  refine zw_push hm_87 dX7_remove_1 (v := .inr (.inr (some t))) rfl ?_
  refine zw_cv hm_87 dX7_remove_2 v_7_104_7 hm_85 [.inr (.inr (some t))] [] rfl (zT_rt hS s_69 rfl) ⟨by omega, by omega⟩ rfl (zw_mono h (zv_go ?_ ?_))
  · intro S1 hv
    obtain ⟨hS1, h⟩ := hv
    refine zw_push hm_87 dX7_remove_5 (v := .inl (0 : Int32)) rfl ?_
    refine zw_sto hm_87 dX7_remove_6 [(2, .inl (0 : Int32)), (0, .inr (.inr (some 69))), (1, .inr (.inr (some t)))] rfl rfl rfl ?_
    exact zw_sub (ma_nd_of (ks := [0, 1, 2]) rfl (by decide)) (ma_nd_of (ks := [2, 0, 1]) rfl (by decide)) (ma_le_cons rfl (ma_le_cons rfl (ma_le_cons rfl (ma_le_nil _)))) h
  · intro x S9 hx
    exact ⟨by decide, hx⟩
theorem g_87_69_sk_7 {X : Nat × (Nat → Int32)} {d w : Nat} {S : ma_S} {Q : Option ma_V ⊕ Nat → ma_S → Prop} (l1 : Nat) (l2 : Int32) (hd : 1 ≤ d) (hw : 25 ≤ w) (hS : zT S) (h : (126 ≤ l1 ∧ l1 < mN S) ∧ (if ((mI S l1 2) - (1 : Int32)) ≤ l2 then ((126 ≤ l1 ∧ l1 < mN S) ∧ ((126 ≤ l1 ∧ l1 < mN S) ∧ ((126 ≤ l1 ∧ l1 < mN S) ∧ (ma_wp X (d - 1) (w - 23) 88 0 [(0, .inr (.inr (some 69))), (1, .inl (mI S l1 4)), (2, .inl ((mI S l1 4) + (mI S l1 2)))] [] S (zv (fun S1 => zT S1 ∧ ((126 ≤ l1 ∧ l1 < mN S1) ∧ (if (512 : Int32) ≤ (mI S1 l1 0) then ((126 ≤ l1 ∧ l1 < mN (ma_put S1 69 7 (.inl ((mI S1 69 7) - (1 : Int32))))) ∧ ((126 ≤ l1 ∧ l1 < mN (ma_put (ma_put S1 69 7 (.inl ((mI S1 69 7) - (1 : Int32)))) 69 8 (.inl ((mI S1 69 8) - (mI (ma_put S1 69 7 (.inl ((mI S1 69 7) - (1 : Int32)))) l1 2))))) ∧ (Q (.inl none) (ma_put (ma_put (ma_put S1 69 7 (.inl ((mI S1 69 7) - (1 : Int32)))) 69 8 (.inl ((mI S1 69 8) - (mI (ma_put S1 69 7 (.inl ((mI S1 69 7) - (1 : Int32)))) l1 2)))) 69 11 (.inl ((mI S1 69 11) + (mI (ma_put (ma_put S1 69 7 (.inl ((mI S1 69 7) - (1 : Int32)))) 69 8 (.inl ((mI S1 69 8) - (mI (ma_put S1 69 7 (.inl ((mI S1 69 7) - (1 : Int32)))) l1 2)))) l1 2))))))) else ((126 ≤ l1 ∧ l1 < mN S1) ∧ ((0 ≤ (mI S1 l1 0) ∧ (mI S1 l1 0).toNatClampNeg < 512) ∧ ((126 ≤ l1 ∧ l1 < mN (ma_put (ma_put S1 70 (mI S1 l1 0).toNatClampNeg (.inr (.inr none))) 69 7 (.inl ((mI S1 69 7) - (1 : Int32))))) ∧ ((126 ≤ l1 ∧ l1 < mN (ma_put (ma_put (ma_put S1 70 (mI S1 l1 0).toNatClampNeg (.inr (.inr none))) 69 7 (.inl ((mI S1 69 7) - (1 : Int32)))) 69 8 (.inl ((mI S1 69 8) - (mI (ma_put (ma_put S1 70 (mI S1 l1 0).toNatClampNeg (.inr (.inr none))) 69 7 (.inl ((mI S1 69 7) - (1 : Int32)))) l1 2))))) ∧ (Q (.inl none) (ma_put (ma_put (ma_put (ma_put S1 70 (mI S1 l1 0).toNatClampNeg (.inr (.inr none))) 69 7 (.inl ((mI S1 69 7) - (1 : Int32)))) 69 8 (.inl ((mI S1 69 8) - (mI (ma_put (ma_put S1 70 (mI S1 l1 0).toNatClampNeg (.inr (.inr none))) 69 7 (.inl ((mI S1 69 7) - (1 : Int32)))) l1 2)))) 69 11 (.inl ((mI S1 69 11) + (mI (ma_put (ma_put (ma_put S1 70 (mI S1 l1 0).toNatClampNeg (.inr (.inr none))) 69 7 (.inl ((mI S1 69 7) - (1 : Int32)))) 69 8 (.inl ((mI S1 69 8) - (mI (ma_put (ma_put S1 70 (mI S1 l1 0).toNatClampNeg (.inr (.inr none))) 69 7 (.inl ((mI S1 69 7) - (1 : Int32)))) l1 2)))) l1 2)))))))))))) (fun x S9 => Q (.inr x) S9)))))) else (ma_wp X (d - 1) (w - 25) 82 0 [(0, .inr (.inr (some 69))), (1, .inr (.inr (some l1))), (2, .inl l2)] [] S (zo (fun v4 S3 => zT S3 ∧ ((v4 = none → ma_wp X d w 87 7 [(0, .inr (.inr (some 69))), (1, .inr (.inr (some l1))), (2, .inl (l2 + (1 : Int32)))] [] S3 Q) ∧ (∀ c5, v4 = some c5 → (126 ≤ c5 ∧ c5 < mN S3) ∧ ((126 ≤ c5 ∧ c5 < mN S3) ∧ (ma_wp X d w 87 7 [(0, .inr (.inr (some 69))), (1, .inr (.inr (some l1))), (2, .inl (l2 + (1 : Int32)))] [] (ma_put S3 c5 6 (.inl ((mI S3 c5 6) - (1 : Int32)))) Q))))) (fun x S9 => Q (.inr x) S9))))) : ma_wp X d w 87 7 [(0, .inr (.inr (some 69))), (1, .inr (.inr (some l1))), (2, .inl l2)] [] S Q := by
  refine zw_push hm_87 dX7_remove_7 (v := .inl l2) rfl ?_
  refine zw_push hm_87 dX7_remove_8 (v := .inr (.inr (some l1))) rfl ?_
  obtain ⟨hg, h⟩ := h
  refine zw_gf hm_87 dX7_remove_9 (v := .inl (mI S l1 2)) (zT_tis hS hg) (zT_tt hS hg) rfl f_7_64_9 rfl ?_
  refine zw_push hm_87 dX7_remove_12 (v := .inl (1 : Int32)) rfl ?_
  refine zw_stk hm_87 dX7_remove_13 (st₉ := [.inl ((mI S l1 2) - (1 : Int32)), .inl l2]) rfl rfl ?_
  refine zw_if2 hm_87 dX7_remove_14 (t := 44) rfl zc2_ge ?_ ?_
  · intro hc
    rw [if_pos hc] at h
    refine zw_push hm_87 dX7_remove_44 (v := .inr (.inr (some 69))) rfl ?_
    refine zw_push hm_87 dX7_remove_45 (v := .inr (.inr (some l1))) rfl ?_
    obtain ⟨hg, h⟩ := h
    refine zw_gf hm_87 dX7_remove_46 (v := .inl (mI S l1 4)) (zT_tis hS hg) (zT_tt hS hg) rfl f_7_61_9 rfl ?_
    refine zw_push hm_87 dX7_remove_49 (v := .inr (.inr (some l1))) rfl ?_
    obtain ⟨hg, h⟩ := h
    refine zw_gf hm_87 dX7_remove_50 (v := .inl (mI S l1 4)) (zT_tis hS hg) (zT_tt hS hg) rfl f_7_61_9 rfl ?_
    refine zw_push hm_87 dX7_remove_53 (v := .inr (.inr (some l1))) rfl ?_
    obtain ⟨hg, h⟩ := h
    refine zw_gf hm_87 dX7_remove_54 (v := .inl (mI S l1 2)) (zT_tis hS hg) (zT_tt hS hg) rfl f_7_64_9 rfl ?_
    refine zw_stk hm_87 dX7_remove_57 (st₉ := [.inl ((mI S l1 4) + (mI S l1 2)), .inl (mI S l1 4), .inr (.inr (some 69))]) rfl rfl ?_
    refine zw_cv hm_87 dX7_remove_58 v_7_112_7 hm_88 [.inl ((mI S l1 4) + (mI S l1 2)), .inl (mI S l1 4)] [] rfl (zT_rt hS s_69 rfl) ⟨by omega, by omega⟩ rfl (zw_mono h (zv_go ?_ ?_))
    · intro S1 hv
      obtain ⟨hS1, h⟩ := hv
      refine zw_push hm_87 dX7_remove_61 (v := .inr (.inr (some l1))) rfl ?_
      obtain ⟨hg, h⟩ := h
      refine zw_gf hm_87 dX7_remove_62 (v := .inl (mI S1 l1 0)) (zT_tis hS1 hg) (zT_tt hS1 hg) rfl f_7_67_9 rfl ?_
      refine zw_push hm_87 dX7_remove_65 (v := .inl (512 : Int32)) rfl ?_
      refine zw_if2 hm_87 dX7_remove_68 (t := 81) rfl zc2_ge ?_ ?_
      · intro hc
        rw [if_pos hc] at h
        refine zw_push hm_87 dX7_remove_81 (v := .inr (.inr (some 69))) rfl ?_
        refine zw_stk hm_87 dX7_remove_82 (st₉ := [.inr (.inr (some 69)), .inr (.inr (some 69))]) rfl rfl ?_
        refine zw_gf hm_87 dX7_remove_83 (v := .inl (mI S1 69 7)) (zT_is hS1 s_69) (zT_t hS1 s_69) rfl f_7_43_7 rfl ?_
        refine zw_push hm_87 dX7_remove_86 (v := .inl (1 : Int32)) rfl ?_
        refine zw_stk hm_87 dX7_remove_87 (st₉ := [.inl ((mI S1 69 7) - (1 : Int32)), .inr (.inr (some 69))]) rfl rfl ?_
        refine zw_pf hm_87 dX7_remove_88 (zT_is hS1 s_69) (zT_t hS1 s_69) p_7_43_7 zk_int ?_
        refine zw_push hm_87 dX7_remove_91 (v := .inr (.inr (some 69))) rfl ?_
        refine zw_stk hm_87 dX7_remove_92 (st₉ := [.inr (.inr (some 69)), .inr (.inr (some 69))]) rfl rfl ?_
        refine zw_gf hm_87 dX7_remove_93 (v := .inl (mI S1 69 8)) (zT_is (zT_pi hS1) s_69) (zT_t (zT_pi hS1) s_69) rfl f_7_46_7 rfl ?_
        refine zw_push hm_87 dX7_remove_96 (v := .inr (.inr (some l1))) rfl ?_
        obtain ⟨hg, h⟩ := h
        refine zw_gf hm_87 dX7_remove_97 (v := .inl (mI (ma_put S1 69 7 (.inl ((mI S1 69 7) - (1 : Int32)))) l1 2)) (zT_tis (zT_pi hS1) hg) (zT_tt (zT_pi hS1) hg) rfl f_7_64_9 rfl ?_
        refine zw_stk hm_87 dX7_remove_100 (st₉ := [.inl ((mI S1 69 8) - (mI (ma_put S1 69 7 (.inl ((mI S1 69 7) - (1 : Int32)))) l1 2)), .inr (.inr (some 69))]) rfl rfl ?_
        refine zw_pf hm_87 dX7_remove_101 (zT_is (zT_pi hS1) s_69) (zT_t (zT_pi hS1) s_69) p_7_46_7 zk_int ?_
        refine zw_push hm_87 dX7_remove_104 (v := .inr (.inr (some 69))) rfl ?_
        refine zw_stk hm_87 dX7_remove_105 (st₉ := [.inr (.inr (some 69)), .inr (.inr (some 69))]) rfl rfl ?_
        refine zw_gf hm_87 dX7_remove_106 (v := .inl (mI S1 69 11)) (zT_is (zT_pi (zT_pi hS1)) s_69) (zT_t (zT_pi (zT_pi hS1)) s_69) rfl f_7_55_7 rfl ?_
        refine zw_push hm_87 dX7_remove_109 (v := .inr (.inr (some l1))) rfl ?_
        obtain ⟨hg, h⟩ := h
        refine zw_gf hm_87 dX7_remove_110 (v := .inl (mI (ma_put (ma_put S1 69 7 (.inl ((mI S1 69 7) - (1 : Int32)))) 69 8 (.inl ((mI S1 69 8) - (mI (ma_put S1 69 7 (.inl ((mI S1 69 7) - (1 : Int32)))) l1 2)))) l1 2)) (zT_tis (zT_pi (zT_pi hS1)) hg) (zT_tt (zT_pi (zT_pi hS1)) hg) rfl f_7_64_9 rfl ?_
        refine zw_stk hm_87 dX7_remove_113 (st₉ := [.inl ((mI S1 69 11) + (mI (ma_put (ma_put S1 69 7 (.inl ((mI S1 69 7) - (1 : Int32)))) 69 8 (.inl ((mI S1 69 8) - (mI (ma_put S1 69 7 (.inl ((mI S1 69 7) - (1 : Int32)))) l1 2)))) l1 2)), .inr (.inr (some 69))]) rfl rfl ?_
        refine zw_pf hm_87 dX7_remove_114 (zT_is (zT_pi (zT_pi hS1)) s_69) (zT_t (zT_pi (zT_pi hS1)) s_69) p_7_55_7 zk_int ?_
        exact zw_vret hm_87 dX7_remove_117 h
      · intro hc
        rw [if_neg hc] at h
        refine zw_push hm_87 dX7_remove_71 (v := .inr (.inr (some 69))) rfl ?_
        refine zw_gf hm_87 dX7_remove_72 (v := .inr (.inr (some 70))) (zT_is hS1 s_69) (zT_t hS1 s_69) rfl f_7_11_7 (zT_f hS1 r_69_0) ?_
        refine zw_push hm_87 dX7_remove_75 (v := .inr (.inr (some l1))) rfl ?_
        obtain ⟨hg, h⟩ := h
        refine zw_gf hm_87 dX7_remove_76 (v := .inl (mI S1 l1 0)) (zT_tis hS1 hg) (zT_tt hS1 hg) rfl f_7_67_9 rfl ?_
        refine zw_push hm_87 dX7_remove_79 (v := .inr (.inr none)) rfl ?_
        obtain ⟨hg, h⟩ := h
        refine zw_aas hm_87 dX7_remove_80 (zT_is hS1 s_70) (zT_h hS1 s_70) rfl hg (fun _ z => by cases z) ?_
        refine zw_push hm_87 dX7_remove_81 (v := .inr (.inr (some 69))) rfl ?_
        refine zw_stk hm_87 dX7_remove_82 (st₉ := [.inr (.inr (some 69)), .inr (.inr (some 69))]) rfl rfl ?_
        refine zw_gf hm_87 dX7_remove_83 (v := .inl (mI S1 69 7)) (zT_is (zT_pr hS1 (zfi_row (by decide +kernel))) s_69) (zT_t (zT_pr hS1 (zfi_row (by decide +kernel))) s_69) rfl f_7_43_7 rfl ?_
        refine zw_push hm_87 dX7_remove_86 (v := .inl (1 : Int32)) rfl ?_
        refine zw_stk hm_87 dX7_remove_87 (st₉ := [.inl ((mI S1 69 7) - (1 : Int32)), .inr (.inr (some 69))]) rfl rfl ?_
        refine zw_pf hm_87 dX7_remove_88 (zT_is (zT_pr hS1 (zfi_row (by decide +kernel))) s_69) (zT_t (zT_pr hS1 (zfi_row (by decide +kernel))) s_69) p_7_43_7 zk_int ?_
        refine zw_push hm_87 dX7_remove_91 (v := .inr (.inr (some 69))) rfl ?_
        refine zw_stk hm_87 dX7_remove_92 (st₉ := [.inr (.inr (some 69)), .inr (.inr (some 69))]) rfl rfl ?_
        refine zw_gf hm_87 dX7_remove_93 (v := .inl (mI S1 69 8)) (zT_is (zT_pi (zT_pr hS1 (zfi_row (by decide +kernel)))) s_69) (zT_t (zT_pi (zT_pr hS1 (zfi_row (by decide +kernel)))) s_69) rfl f_7_46_7 rfl ?_
        refine zw_push hm_87 dX7_remove_96 (v := .inr (.inr (some l1))) rfl ?_
        obtain ⟨hg, h⟩ := h
        refine zw_gf hm_87 dX7_remove_97 (v := .inl (mI (ma_put (ma_put S1 70 (mI S1 l1 0).toNatClampNeg (.inr (.inr none))) 69 7 (.inl ((mI S1 69 7) - (1 : Int32)))) l1 2)) (zT_tis (zT_pi (zT_pr hS1 (zfi_row (by decide +kernel)))) hg) (zT_tt (zT_pi (zT_pr hS1 (zfi_row (by decide +kernel)))) hg) rfl f_7_64_9 rfl ?_
        refine zw_stk hm_87 dX7_remove_100 (st₉ := [.inl ((mI S1 69 8) - (mI (ma_put (ma_put S1 70 (mI S1 l1 0).toNatClampNeg (.inr (.inr none))) 69 7 (.inl ((mI S1 69 7) - (1 : Int32)))) l1 2)), .inr (.inr (some 69))]) rfl rfl ?_
        refine zw_pf hm_87 dX7_remove_101 (zT_is (zT_pi (zT_pr hS1 (zfi_row (by decide +kernel)))) s_69) (zT_t (zT_pi (zT_pr hS1 (zfi_row (by decide +kernel)))) s_69) p_7_46_7 zk_int ?_
        refine zw_push hm_87 dX7_remove_104 (v := .inr (.inr (some 69))) rfl ?_
        refine zw_stk hm_87 dX7_remove_105 (st₉ := [.inr (.inr (some 69)), .inr (.inr (some 69))]) rfl rfl ?_
        refine zw_gf hm_87 dX7_remove_106 (v := .inl (mI S1 69 11)) (zT_is (zT_pi (zT_pi (zT_pr hS1 (zfi_row (by decide +kernel))))) s_69) (zT_t (zT_pi (zT_pi (zT_pr hS1 (zfi_row (by decide +kernel))))) s_69) rfl f_7_55_7 rfl ?_
        refine zw_push hm_87 dX7_remove_109 (v := .inr (.inr (some l1))) rfl ?_
        obtain ⟨hg, h⟩ := h
        refine zw_gf hm_87 dX7_remove_110 (v := .inl (mI (ma_put (ma_put (ma_put S1 70 (mI S1 l1 0).toNatClampNeg (.inr (.inr none))) 69 7 (.inl ((mI S1 69 7) - (1 : Int32)))) 69 8 (.inl ((mI S1 69 8) - (mI (ma_put (ma_put S1 70 (mI S1 l1 0).toNatClampNeg (.inr (.inr none))) 69 7 (.inl ((mI S1 69 7) - (1 : Int32)))) l1 2)))) l1 2)) (zT_tis (zT_pi (zT_pi (zT_pr hS1 (zfi_row (by decide +kernel))))) hg) (zT_tt (zT_pi (zT_pi (zT_pr hS1 (zfi_row (by decide +kernel))))) hg) rfl f_7_64_9 rfl ?_
        refine zw_stk hm_87 dX7_remove_113 (st₉ := [.inl ((mI S1 69 11) + (mI (ma_put (ma_put (ma_put S1 70 (mI S1 l1 0).toNatClampNeg (.inr (.inr none))) 69 7 (.inl ((mI S1 69 7) - (1 : Int32)))) 69 8 (.inl ((mI S1 69 8) - (mI (ma_put (ma_put S1 70 (mI S1 l1 0).toNatClampNeg (.inr (.inr none))) 69 7 (.inl ((mI S1 69 7) - (1 : Int32)))) l1 2)))) l1 2)), .inr (.inr (some 69))]) rfl rfl ?_
        refine zw_pf hm_87 dX7_remove_114 (zT_is (zT_pi (zT_pi (zT_pr hS1 (zfi_row (by decide +kernel))))) s_69) (zT_t (zT_pi (zT_pi (zT_pr hS1 (zfi_row (by decide +kernel))))) s_69) p_7_55_7 zk_int ?_
        exact zw_vret hm_87 dX7_remove_117 h
    · intro x S9 hx
      exact ⟨by decide, hx⟩
  · intro hc
    rw [if_neg hc] at h
    refine zw_push hm_87 dX7_remove_17 (v := .inr (.inr (some 69))) rfl ?_
    refine zw_push hm_87 dX7_remove_18 (v := .inr (.inr (some l1))) rfl ?_
    refine zw_push hm_87 dX7_remove_19 (v := .inl l2) rfl ?_
    refine zw_cv hm_87 dX7_remove_20 v_7_78_7 hm_82 [.inl l2, .inr (.inr (some l1))] [] rfl (zT_rt hS s_69 rfl) ⟨by omega, by omega⟩ rfl (zw_mono h (zo_go ?_ ?_))
    · intro v4 S3 hv
      obtain ⟨hS3, h⟩ := hv
      refine zw_sto hm_87 dX7_remove_23 [(3, .inr (.inr v4)), (0, .inr (.inr (some 69))), (1, .inr (.inr (some l1))), (2, .inl l2)] rfl rfl rfl ?_
      refine zw_push hm_87 dX7_remove_24 (v := .inr (.inr v4)) rfl ?_
      refine zw_ifnull hm_87 dX7_remove_25 (t := 38) rfl ?_ ?_
      · intro hc
        have h := h.1 hc
        (try rw [hc])
        show ma_wp X d w 87 38 [(3, .inr (.inr none)), (0, .inr (.inr (some 69))), (1, .inr (.inr (some l1))), (2, .inl l2)] [] S3 _
        refine zw_sto hm_87 dX7_remove_38 [(2, .inl (l2 + (1 : Int32))), (3, .inr (.inr none)), (0, .inr (.inr (some 69))), (1, .inr (.inr (some l1)))] rfl rfl rfl ?_
        refine zw_goto hm_87 dX7_remove_41 (t := 7) rfl ?_
        exact zw_sub (ma_nd_of (ks := [0, 1, 2]) rfl (by decide)) (ma_nd_of (ks := [2, 3, 0, 1]) rfl (by decide)) (ma_le_cons rfl (ma_le_cons rfl (ma_le_cons rfl (ma_le_nil _)))) h
      · intro c5 hc
        have h := h.2 c5 hc
        (try rw [hc])
        show ma_wp X d w 87 28 [(3, .inr (.inr (some c5))), (0, .inr (.inr (some 69))), (1, .inr (.inr (some l1))), (2, .inl l2)] [] S3 _
        refine zw_push hm_87 dX7_remove_28 (v := .inr (.inr (some c5))) rfl ?_
        refine zw_stk hm_87 dX7_remove_29 (st₉ := [.inr (.inr (some c5)), .inr (.inr (some c5))]) rfl rfl ?_
        obtain ⟨hg, h⟩ := h
        refine zw_gf hm_87 dX7_remove_30 (v := .inl (mI S3 c5 6)) (zT_tis hS3 hg) (zT_tt hS3 hg) rfl f_7_98_9 rfl ?_
        refine zw_push hm_87 dX7_remove_33 (v := .inl (1 : Int32)) rfl ?_
        refine zw_stk hm_87 dX7_remove_34 (st₉ := [.inl ((mI S3 c5 6) - (1 : Int32)), .inr (.inr (some c5))]) rfl rfl ?_
        obtain ⟨hg, h⟩ := h
        refine zw_pf hm_87 dX7_remove_35 (zT_tis hS3 hg) (zT_tt hS3 hg) p_7_98_9 zk_int ?_
        refine zw_sto hm_87 dX7_remove_38 [(2, .inl (l2 + (1 : Int32))), (3, .inr (.inr (some c5))), (0, .inr (.inr (some 69))), (1, .inr (.inr (some l1)))] rfl rfl rfl ?_
        refine zw_goto hm_87 dX7_remove_41 (t := 7) rfl ?_
        exact zw_sub (ma_nd_of (ks := [0, 1, 2]) rfl (by decide)) (ma_nd_of (ks := [2, 3, 0, 1]) rfl (by decide)) (ma_le_cons rfl (ma_le_cons rfl (ma_le_cons rfl (ma_le_nil _)))) h
    · intro x S9 hx
      exact ⟨by decide, hx⟩
theorem lp_87_69_sk_7 {X : Nat × (Nat → Int32)} {d w : Nat} {f : Nat → Nat → Int32} {r : Nat → Nat → Option Nat} {C Z N : Nat} {Q : Option ma_V ⊕ Nat → ma_S → Prop} {ab : Nat→Nat→Int32} {R : zRT} {W : Nat} {kk : Nat→Int32} {y : Int32} {n0 : Nat→Nat→Int32} (hd : 1 ≤ d) (hw : 25 ≤ w) (K : ∀ S₉, zI f r C Z N S₉ → (xB S₉ (zRu R y.toNatClampNeg none)) → (aS W S₉ = aRm ab y) → (∀ n, xAl ab n → n ≠ y.toNatClampNeg → kC S₉ n = kk n - Int32.ofNat (cOb ab y.toNatClampNeg n)) → (zN0 S₉ = n0) → Q (.inl none) S₉) : ∀ (n : Nat) (S : ma_S) (l1 : Nat) (l2 : Int32), (61 - l2.toInt).toNat = n → zI f r C Z N S → (126 ≤ l1 ∧ l1 < N) → (0 ≤ l2.toInt) → (l2.toInt ≤ 60) → (xB S R) → (xW W) → (zTa R y = some l1) → (aS W S = zUw ab y 16) → (l2.toInt ≤ (ab 128 y.toNatClampNeg).toInt - 1) → (∀ n, xAl ab n → kC S n = kk n - Int32.ofNat (cSu (fun i => cIs (aRef ab y.toNatClampNeg (Int32.ofNat i)) n) l2.toInt.toNat)) → (zN0 S = n0) → ma_wp X d w 87 7 [(0, .inr (.inr (some 69))), (1, .inr (.inr (some l1))), (2, .inl l2)] [] S Q := by
  intro n
  induction n using Nat.strongRecOn with
  | _ n IH =>
    intro S l1 l2 hmu hI th_l1 hi0 hi1 hi2 hi3 hi4 hi5 hi6 hi7 hi8
    refine g_87_69_sk_7 l1 l2 (by omega) (by omega) (zG_T hI) ?_
    refine ⟨zG_n hI th_l1, ?_⟩
    have f1 := zG_th hI th_l1
    first | have e2 : ((mI S l1 2) - (1 : Int32)).toInt = (mI S l1 2).toInt - (1) := i_subk rfl (by omega) (by omega) | have b3 := i_bd ((mI S l1 2) - (1 : Int32))
    have b4 := i_bd l2
    refine zd (fun h5 => ?_) (fun h5 => ?_)
    · skip
      have g6 := i_le h5
      refine ⟨zG_n hI th_l1, ?_⟩
      refine ⟨zG_n hI th_l1, ?_⟩
      refine ⟨zG_n hI th_l1, ?_⟩
      have f7 := zG_th hI th_l1
      first | have e8 : ((mI S l1 4) + (mI S l1 2)).toInt = (mI S l1 4).toInt + (mI S l1 2).toInt := i_add (by omega) (by omega) | have b9 := i_bd ((mI S l1 4) + (mI S l1 2))
      refine sp_88_69_sk (ab := (aS W S)) (R := R) (W := W) (kk := (kC S)) (n0 := n0) ((mI S l1 4)) (((mI S l1 4) + (mI S l1 2))) (by omega) (by omega) hI (show xB S R from by first | (exact (xC_o (W := 75) hi2).2)) (show aS W S = (aS W S) from by first | (exact rfl)) (show xW W from by first | (exact hi3) | (exact xW88) | (exact xW75)) (by omega) (show kC S = (kC S) from by first | (exact rfl)) (show zN0 S = n0 from by first | (exact hi8)) (fun S1 hI_S1 rp0_S1 rp1_S1 rp2_S1 rp3_S1 => zv_n ⟨zG_T hI_S1, ?_⟩)
      have rp0_S1 : xB S1 R := rp0_S1
      have rp1_S1 : aS W S1 = zFr (aS W S) (mI S l1 4).toInt (zMin ((mI S l1 4) + (mI S l1 2)).toInt) := rp1_S1
      have rp2_S1 : kC S1 = (kC S) := rp2_S1
      have rp3_S1 : zN0 S1 = n0 := rp3_S1
      refine ⟨zG_n hI_S1 th_l1, ?_⟩
      have li10 : (512 : Int32).toInt = 512 := rfl
      have f11 := zG_th hI_S1 th_l1
      refine zd (fun h12 => ?_) (fun h12 => ?_)
      · skip
        have g13 := i_le h12
        have hI14 : zI f r C Z N (ma_put S1 69 7 (.inl ((mI S1 69 7) - (1 : Int32)))) := zG_fr hI_S1 rfl (by decide) (by decide) (by decide) trivial
        refine ⟨zG_n hI14 th_l1, ?_⟩
        have hI15 : zI f r C Z N (ma_put (ma_put S1 69 7 (.inl ((mI S1 69 7) - (1 : Int32)))) 69 8 (.inl ((mI S1 69 8) - (mI (ma_put S1 69 7 (.inl ((mI S1 69 7) - (1 : Int32)))) l1 2)))) := zG_fr hI14 rfl (by decide) (by decide) (by decide) trivial
        refine ⟨zG_n hI15 th_l1, ?_⟩
        have hI16 : zI f r C Z N (ma_put (ma_put (ma_put S1 69 7 (.inl ((mI S1 69 7) - (1 : Int32)))) 69 8 (.inl ((mI S1 69 8) - (mI (ma_put S1 69 7 (.inl ((mI S1 69 7) - (1 : Int32)))) l1 2)))) 69 11 (.inl ((mI S1 69 11) + (mI (ma_put (ma_put S1 69 7 (.inl ((mI S1 69 7) - (1 : Int32)))) 69 8 (.inl ((mI S1 69 8) - (mI (ma_put S1 69 7 (.inl ((mI S1 69 7) - (1 : Int32)))) l1 2)))) l1 2)))) := zG_fr hI15 rfl (by decide) (by decide) (by decide) trivial
        exact K _ hI16 (show xB (ma_put (ma_put (ma_put S1 69 7 (.inl ((mI S1 69 7) - (1 : Int32)))) 69 8 (.inl ((mI S1 69 8) - (mI (ma_put S1 69 7 (.inl ((mI S1 69 7) - (1 : Int32)))) l1 2)))) 69 11 (.inl ((mI S1 69 11) + (mI (ma_put (ma_put S1 69 7 (.inl ((mI S1 69 7) - (1 : Int32)))) 69 8 (.inl ((mI S1 69 8) - (mI (ma_put S1 69 7 (.inl ((mI S1 69 7) - (1 : Int32)))) l1 2)))) l1 2)))) (zRu R y.toNatClampNeg none) from by first | (exfalso; omega) | (have ty := xB_th (W := W) rp0_S1 hi4; rw [← ty.2.2.1]; exact (xC_p (c := 69) (k := 11) (x := ((mI S1 69 11) + (mI (ma_put (ma_put S1 69 7 (.inl ((mI S1 69 7) - (1 : Int32)))) 69 8 (.inl ((mI S1 69 8) - (mI (ma_put S1 69 7 (.inl ((mI S1 69 7) - (1 : Int32)))) l1 2)))) l1 2))) (xC_p (c := 69) (k := 8) (x := ((mI S1 69 8) - (mI (ma_put S1 69 7 (.inl ((mI S1 69 7) - (1 : Int32)))) l1 2))) (xC_n (c := 69) (k := 7) (x := ((mI S1 69 7) - (1 : Int32))) (xC_o (W := W) rp0_S1) (zir_W hi3 rfl (by decide))) 69 hi3 rfl (zcw_s (by decide))) 69 hi3 rfl (zcw_s (by decide))).2)) (show aS W (ma_put (ma_put (ma_put S1 69 7 (.inl ((mI S1 69 7) - (1 : Int32)))) 69 8 (.inl ((mI S1 69 8) - (mI (ma_put S1 69 7 (.inl ((mI S1 69 7) - (1 : Int32)))) l1 2)))) 69 11 (.inl ((mI S1 69 11) + (mI (ma_put (ma_put S1 69 7 (.inl ((mI S1 69 7) - (1 : Int32)))) 69 8 (.inl ((mI S1 69 8) - (mI (ma_put S1 69 7 (.inl ((mI S1 69 7) - (1 : Int32)))) l1 2)))) l1 2)))) = aRm ab y from by first | (exfalso; omega) | (have t0 := xB_th (W := W) hi2 hi4; have t2 := xB_th (W := W) rp0_S1 hi4; have f4 : mI S l1 4 = ab 130 y.toNatClampNeg := t0.2.2.2.2.2.1.trans (by rw [hi5]; exact zUw_o (by decide)); have f2 : mI S l1 2 = ab 128 y.toNatClampNeg := t0.2.2.2.2.1.trans (by rw [hi5]; exact zUw_o (by decide)); have g2 : mI S1 l1 2 = ab 128 y.toNatClampNeg := t2.2.2.2.2.1.trans (by rw [rp1_S1, zFr_o (by decide), hi5, zUw_o (by decide)]); have g8 : mI S1 69 8 = ab 69 8 := (aS_I (W := W) (S := S1) (c := 69) (c₉ := 69) (k := 8) rfl (zcw_s (by decide))).symm.trans (by rw [rp1_S1, zFr_o (by decide), hi5, zUw_o (by decide)]); have g11 : mI S1 69 11 = ab 69 11 := (aS_I (W := W) (S := S1) (c := 69) (c₉ := 69) (k := 11) rfl (zcw_s (by decide))).symm.trans (by rw [rp1_S1, zFr_o (by decide), hi5, zUw_o (by decide)]); refine (xC_p (c := 69) (k := 11) (x := ((mI S1 69 11) + (mI (ma_put (ma_put S1 69 7 (.inl ((mI S1 69 7) - (1 : Int32)))) 69 8 (.inl ((mI S1 69 8) - (mI (ma_put S1 69 7 (.inl ((mI S1 69 7) - (1 : Int32)))) l1 2)))) l1 2))) (xC_p (c := 69) (k := 8) (x := ((mI S1 69 8) - (mI (ma_put S1 69 7 (.inl ((mI S1 69 7) - (1 : Int32)))) l1 2))) (xC_n (c := 69) (k := 7) (x := ((mI S1 69 7) - (1 : Int32))) (xC_o (W := W) rp0_S1) (zir_W hi3 rfl (by decide))) 69 hi3 rfl (zcw_s (by decide))) 69 hi3 rfl (zcw_s (by decide))).1.trans ?_; (try simp only [zp_e (c₉ := 69) th_l1.1 (by decide)]); rw [rp1_S1, hi5, f4, f2, g2, g8, g11, t2.2.2.1]; rfl)) (show ∀ n, xAl ab n → n ≠ y.toNatClampNeg → kC (ma_put (ma_put (ma_put S1 69 7 (.inl ((mI S1 69 7) - (1 : Int32)))) 69 8 (.inl ((mI S1 69 8) - (mI (ma_put S1 69 7 (.inl ((mI S1 69 7) - (1 : Int32)))) l1 2)))) 69 11 (.inl ((mI S1 69 11) + (mI (ma_put (ma_put S1 69 7 (.inl ((mI S1 69 7) - (1 : Int32)))) 69 8 (.inl ((mI S1 69 8) - (mI (ma_put S1 69 7 (.inl ((mI S1 69 7) - (1 : Int32)))) l1 2)))) l1 2)))) n = kk n - Int32.ofNat (cOb ab y.toNatClampNeg n) from by first | (exfalso; omega) | (intro n hn hne; have t0 := xB_th (W := W) hi2 hi4; have f2 : mI S l1 2 = ab 128 y.toNatClampNeg := t0.2.2.2.2.1.trans (by rw [hi5]; exact zUw_o (by decide)); have f2i := congrArg Int32.toInt f2; have rn := (xB_th (W := W) rp0_S1 hi4).2.2.1; refine (congrFun (xK_p (c := 69) (k := 11) (x := ((mI S1 69 11) + (mI (ma_put (ma_put S1 69 7 (.inl ((mI S1 69 7) - (1 : Int32)))) 69 8 (.inl ((mI S1 69 8) - (mI (ma_put S1 69 7 (.inl ((mI S1 69 7) - (1 : Int32)))) l1 2)))) l1 2))) (xK_p (c := 69) (k := 8) (x := ((mI S1 69 8) - (mI (ma_put S1 69 7 (.inl ((mI S1 69 7) - (1 : Int32)))) l1 2))) (xK_n (c := 69) (k := 7) (x := ((mI S1 69 7) - (1 : Int32))) (xK_o (W := W) rp0_S1 rp2_S1) (zir_W hi3 rfl (by decide))) 69 hi3 rfl (zcw_s (by decide))) 69 hi3 rfl (zcw_s (by decide))).2 n).trans ?_; rw [rn]; refine (if_neg hne).trans ((hi7 n hn).trans ?_); unfold cOb; rw [show l2.toInt.toNat = ((ab 128 y.toNatClampNeg).toInt - 1).toNat from (by have ls := hi6; omega)])) (show zN0 (ma_put (ma_put (ma_put S1 69 7 (.inl ((mI S1 69 7) - (1 : Int32)))) 69 8 (.inl ((mI S1 69 8) - (mI (ma_put S1 69 7 (.inl ((mI S1 69 7) - (1 : Int32)))) l1 2)))) 69 11 (.inl ((mI S1 69 11) + (mI (ma_put (ma_put S1 69 7 (.inl ((mI S1 69 7) - (1 : Int32)))) 69 8 (.inl ((mI S1 69 8) - (mI (ma_put S1 69 7 (.inl ((mI S1 69 7) - (1 : Int32)))) l1 2)))) l1 2)))) = n0 from by first | (exact ((n0_p (c := 69) (by decide)).trans ((n0_p (c := 69) (by decide)).trans ((n0_p (c := 69) (by decide)).trans rp3_S1)))))
      · skip
        have g17 := i_nle h12
        refine ⟨zG_n hI_S1 th_l1, ?_⟩
        refine ⟨i_ix (by omega) (by omega), ?_⟩
        have hI18 : zI f r C Z N (ma_put S1 70 (mI S1 l1 0).toNatClampNeg (.inr (.inr none))) := zG_rf hI_S1 (by decide) (by decide +kernel) (fun _ z => by cases z)
        have hI19 : zI f r C Z N (ma_put (ma_put S1 70 (mI S1 l1 0).toNatClampNeg (.inr (.inr none))) 69 7 (.inl ((mI S1 69 7) - (1 : Int32)))) := zG_fr hI18 rfl (by decide) (by decide) (by decide) trivial
        refine ⟨zG_n hI19 th_l1, ?_⟩
        have hI20 : zI f r C Z N (ma_put (ma_put (ma_put S1 70 (mI S1 l1 0).toNatClampNeg (.inr (.inr none))) 69 7 (.inl ((mI S1 69 7) - (1 : Int32)))) 69 8 (.inl ((mI S1 69 8) - (mI (ma_put (ma_put S1 70 (mI S1 l1 0).toNatClampNeg (.inr (.inr none))) 69 7 (.inl ((mI S1 69 7) - (1 : Int32)))) l1 2)))) := zG_fr hI19 rfl (by decide) (by decide) (by decide) trivial
        refine ⟨zG_n hI20 th_l1, ?_⟩
        have hI21 : zI f r C Z N (ma_put (ma_put (ma_put (ma_put S1 70 (mI S1 l1 0).toNatClampNeg (.inr (.inr none))) 69 7 (.inl ((mI S1 69 7) - (1 : Int32)))) 69 8 (.inl ((mI S1 69 8) - (mI (ma_put (ma_put S1 70 (mI S1 l1 0).toNatClampNeg (.inr (.inr none))) 69 7 (.inl ((mI S1 69 7) - (1 : Int32)))) l1 2)))) 69 11 (.inl ((mI S1 69 11) + (mI (ma_put (ma_put (ma_put S1 70 (mI S1 l1 0).toNatClampNeg (.inr (.inr none))) 69 7 (.inl ((mI S1 69 7) - (1 : Int32)))) 69 8 (.inl ((mI S1 69 8) - (mI (ma_put (ma_put S1 70 (mI S1 l1 0).toNatClampNeg (.inr (.inr none))) 69 7 (.inl ((mI S1 69 7) - (1 : Int32)))) l1 2)))) l1 2)))) := zG_fr hI20 rfl (by decide) (by decide) (by decide) trivial
        exact K _ hI21 (show xB (ma_put (ma_put (ma_put (ma_put S1 70 (mI S1 l1 0).toNatClampNeg (.inr (.inr none))) 69 7 (.inl ((mI S1 69 7) - (1 : Int32)))) 69 8 (.inl ((mI S1 69 8) - (mI (ma_put (ma_put S1 70 (mI S1 l1 0).toNatClampNeg (.inr (.inr none))) 69 7 (.inl ((mI S1 69 7) - (1 : Int32)))) l1 2)))) 69 11 (.inl ((mI S1 69 11) + (mI (ma_put (ma_put (ma_put S1 70 (mI S1 l1 0).toNatClampNeg (.inr (.inr none))) 69 7 (.inl ((mI S1 69 7) - (1 : Int32)))) 69 8 (.inl ((mI S1 69 8) - (mI (ma_put (ma_put S1 70 (mI S1 l1 0).toNatClampNeg (.inr (.inr none))) 69 7 (.inl ((mI S1 69 7) - (1 : Int32)))) l1 2)))) l1 2)))) (zRu R y.toNatClampNeg none) from by first | (exfalso; omega) | (have ty := xB_th (W := W) rp0_S1 hi4; rw [← ty.2.2.1]; exact (xC_p (c := 69) (k := 11) (x := ((mI S1 69 11) + (mI (ma_put (ma_put (ma_put S1 70 (mI S1 l1 0).toNatClampNeg (.inr (.inr none))) 69 7 (.inl ((mI S1 69 7) - (1 : Int32)))) 69 8 (.inl ((mI S1 69 8) - (mI (ma_put (ma_put S1 70 (mI S1 l1 0).toNatClampNeg (.inr (.inr none))) 69 7 (.inl ((mI S1 69 7) - (1 : Int32)))) l1 2)))) l1 2))) (xC_p (c := 69) (k := 8) (x := ((mI S1 69 8) - (mI (ma_put (ma_put S1 70 (mI S1 l1 0).toNatClampNeg (.inr (.inr none))) 69 7 (.inl ((mI S1 69 7) - (1 : Int32)))) l1 2))) (xC_n (c := 69) (k := 7) (x := ((mI S1 69 7) - (1 : Int32))) (xC_0 (xC_o (W := W) rp0_S1) (n := (mI S1 l1 0).toNatClampNeg)) (zir_W hi3 rfl (by decide))) 69 hi3 rfl (zcw_s (by decide))) 69 hi3 rfl (zcw_s (by decide))).2)) (show aS W (ma_put (ma_put (ma_put (ma_put S1 70 (mI S1 l1 0).toNatClampNeg (.inr (.inr none))) 69 7 (.inl ((mI S1 69 7) - (1 : Int32)))) 69 8 (.inl ((mI S1 69 8) - (mI (ma_put (ma_put S1 70 (mI S1 l1 0).toNatClampNeg (.inr (.inr none))) 69 7 (.inl ((mI S1 69 7) - (1 : Int32)))) l1 2)))) 69 11 (.inl ((mI S1 69 11) + (mI (ma_put (ma_put (ma_put S1 70 (mI S1 l1 0).toNatClampNeg (.inr (.inr none))) 69 7 (.inl ((mI S1 69 7) - (1 : Int32)))) 69 8 (.inl ((mI S1 69 8) - (mI (ma_put (ma_put S1 70 (mI S1 l1 0).toNatClampNeg (.inr (.inr none))) 69 7 (.inl ((mI S1 69 7) - (1 : Int32)))) l1 2)))) l1 2)))) = aRm ab y from by first | (exfalso; omega) | (have t0 := xB_th (W := W) hi2 hi4; have t2 := xB_th (W := W) rp0_S1 hi4; have f4 : mI S l1 4 = ab 130 y.toNatClampNeg := t0.2.2.2.2.2.1.trans (by rw [hi5]; exact zUw_o (by decide)); have f2 : mI S l1 2 = ab 128 y.toNatClampNeg := t0.2.2.2.2.1.trans (by rw [hi5]; exact zUw_o (by decide)); have g2 : mI S1 l1 2 = ab 128 y.toNatClampNeg := t2.2.2.2.2.1.trans (by rw [rp1_S1, zFr_o (by decide), hi5, zUw_o (by decide)]); have g8 : mI S1 69 8 = ab 69 8 := (aS_I (W := W) (S := S1) (c := 69) (c₉ := 69) (k := 8) rfl (zcw_s (by decide))).symm.trans (by rw [rp1_S1, zFr_o (by decide), hi5, zUw_o (by decide)]); have g11 : mI S1 69 11 = ab 69 11 := (aS_I (W := W) (S := S1) (c := 69) (c₉ := 69) (k := 11) rfl (zcw_s (by decide))).symm.trans (by rw [rp1_S1, zFr_o (by decide), hi5, zUw_o (by decide)]); refine (xC_p (c := 69) (k := 11) (x := ((mI S1 69 11) + (mI (ma_put (ma_put (ma_put S1 70 (mI S1 l1 0).toNatClampNeg (.inr (.inr none))) 69 7 (.inl ((mI S1 69 7) - (1 : Int32)))) 69 8 (.inl ((mI S1 69 8) - (mI (ma_put (ma_put S1 70 (mI S1 l1 0).toNatClampNeg (.inr (.inr none))) 69 7 (.inl ((mI S1 69 7) - (1 : Int32)))) l1 2)))) l1 2))) (xC_p (c := 69) (k := 8) (x := ((mI S1 69 8) - (mI (ma_put (ma_put S1 70 (mI S1 l1 0).toNatClampNeg (.inr (.inr none))) 69 7 (.inl ((mI S1 69 7) - (1 : Int32)))) l1 2))) (xC_n (c := 69) (k := 7) (x := ((mI S1 69 7) - (1 : Int32))) (xC_0 (xC_o (W := W) rp0_S1) (n := (mI S1 l1 0).toNatClampNeg)) (zir_W hi3 rfl (by decide))) 69 hi3 rfl (zcw_s (by decide))) 69 hi3 rfl (zcw_s (by decide))).1.trans ?_; (try simp only [zp_e (c₉ := 69) th_l1.1 (by decide), zp_e (c₉ := 70) th_l1.1 (by decide), zp_r]); rw [rp1_S1, hi5, f4, f2, g2, g8, g11, t2.2.2.1]; rfl)) (show ∀ n, xAl ab n → n ≠ y.toNatClampNeg → kC (ma_put (ma_put (ma_put (ma_put S1 70 (mI S1 l1 0).toNatClampNeg (.inr (.inr none))) 69 7 (.inl ((mI S1 69 7) - (1 : Int32)))) 69 8 (.inl ((mI S1 69 8) - (mI (ma_put (ma_put S1 70 (mI S1 l1 0).toNatClampNeg (.inr (.inr none))) 69 7 (.inl ((mI S1 69 7) - (1 : Int32)))) l1 2)))) 69 11 (.inl ((mI S1 69 11) + (mI (ma_put (ma_put (ma_put S1 70 (mI S1 l1 0).toNatClampNeg (.inr (.inr none))) 69 7 (.inl ((mI S1 69 7) - (1 : Int32)))) 69 8 (.inl ((mI S1 69 8) - (mI (ma_put (ma_put S1 70 (mI S1 l1 0).toNatClampNeg (.inr (.inr none))) 69 7 (.inl ((mI S1 69 7) - (1 : Int32)))) l1 2)))) l1 2)))) n = kk n - Int32.ofNat (cOb ab y.toNatClampNeg n) from by first | (exfalso; omega) | (intro n hn hne; have t0 := xB_th (W := W) hi2 hi4; have f2 : mI S l1 2 = ab 128 y.toNatClampNeg := t0.2.2.2.2.1.trans (by rw [hi5]; exact zUw_o (by decide)); have f2i := congrArg Int32.toInt f2; have rn := (xB_th (W := W) rp0_S1 hi4).2.2.1; refine (congrFun (xK_p (c := 69) (k := 11) (x := ((mI S1 69 11) + (mI (ma_put (ma_put (ma_put S1 70 (mI S1 l1 0).toNatClampNeg (.inr (.inr none))) 69 7 (.inl ((mI S1 69 7) - (1 : Int32)))) 69 8 (.inl ((mI S1 69 8) - (mI (ma_put (ma_put S1 70 (mI S1 l1 0).toNatClampNeg (.inr (.inr none))) 69 7 (.inl ((mI S1 69 7) - (1 : Int32)))) l1 2)))) l1 2))) (xK_p (c := 69) (k := 8) (x := ((mI S1 69 8) - (mI (ma_put (ma_put S1 70 (mI S1 l1 0).toNatClampNeg (.inr (.inr none))) 69 7 (.inl ((mI S1 69 7) - (1 : Int32)))) l1 2))) (xK_n (c := 69) (k := 7) (x := ((mI S1 69 7) - (1 : Int32))) (xK_0 (xK_o (W := W) rp0_S1 rp2_S1) (n := (mI S1 l1 0).toNatClampNeg)) (zir_W hi3 rfl (by decide))) 69 hi3 rfl (zcw_s (by decide))) 69 hi3 rfl (zcw_s (by decide))).2 n).trans ?_; rw [rn]; refine (if_neg hne).trans ((hi7 n hn).trans ?_); unfold cOb; rw [show l2.toInt.toNat = ((ab 128 y.toNatClampNeg).toInt - 1).toNat from (by have ls := hi6; omega)])) (show zN0 (ma_put (ma_put (ma_put (ma_put S1 70 (mI S1 l1 0).toNatClampNeg (.inr (.inr none))) 69 7 (.inl ((mI S1 69 7) - (1 : Int32)))) 69 8 (.inl ((mI S1 69 8) - (mI (ma_put (ma_put S1 70 (mI S1 l1 0).toNatClampNeg (.inr (.inr none))) 69 7 (.inl ((mI S1 69 7) - (1 : Int32)))) l1 2)))) 69 11 (.inl ((mI S1 69 11) + (mI (ma_put (ma_put (ma_put S1 70 (mI S1 l1 0).toNatClampNeg (.inr (.inr none))) 69 7 (.inl ((mI S1 69 7) - (1 : Int32)))) 69 8 (.inl ((mI S1 69 8) - (mI (ma_put (ma_put S1 70 (mI S1 l1 0).toNatClampNeg (.inr (.inr none))) 69 7 (.inl ((mI S1 69 7) - (1 : Int32)))) l1 2)))) l1 2)))) = n0 from by first | (exact ((n0_p (c := 69) (by decide)).trans ((n0_p (c := 69) (by decide)).trans ((n0_p (c := 69) (by decide)).trans (n0_r.trans rp3_S1))))))
    · skip
      have g22 := i_nle h5
      refine sp_82_69_s (R := R) (W := W) (y := y) l1 (l2) (by omega) (by omega) hI th_l1 (show xB S R from by first | (exact (xC_o (W := 75) hi2).2)) (show zTa R y = some l1 from by first | (exact hi4)) (by omega) (fun v4 S3 eS_S3 hq_v4 rp0_S3 => zo_n ⟨(by rw [eS_S3]; exact zG_T hI), ?_⟩)
      replace eS_S3 := eS_S3.symm; subst eS_S3
      have rp0_S3 : v4 = zTa R (aRef (aS W S) y.toNatClampNeg l2) := rp0_S3
      refine ⟨fun hc => ?_, fun c5 hc => ?_⟩
      · skip
        have rn_c5 : zTa R (aRef (aS W S) y.toNatClampNeg l2) = none := rp0_S3.symm.trans hc
        first | have e23 : (l2 + (1 : Int32)).toInt = l2.toInt + (1) := i_addk rfl (by omega) (by omega) | have b24 := i_bd (l2 + (1 : Int32))
        exact IH _ (by omega) _ l1 ((l2 + (1 : Int32))) rfl hI th_l1 (by omega) (by omega) (show xB S R from by first | (exact (xC_o (W := 75) hi2).2)) (show xW W from by first | (exact hi3) | (exact xW88) | (exact xW75)) (show zTa R y = some l1 from by first | (exact hi4)) (show aS W S = zUw ab y 16 from by first | (exact hi5)) (show ((l2 + (1 : Int32))).toInt ≤ (ab 128 y.toNatClampNeg).toInt - 1 from by first | (have t0 := xB_th (W := W) hi2 hi4; have f2 : mI S l1 2 = ab 128 y.toNatClampNeg := t0.2.2.2.2.1.trans (by rw [hi5]; exact zUw_o (by decide)); have f2i := congrArg Int32.toInt f2; omega)) (show ∀ n, xAl ab n → kC S n = kk n - Int32.ofNat (cSu (fun i => cIs (aRef ab y.toNatClampNeg (Int32.ofNat i)) n) ((l2 + (1 : Int32))).toInt.toNat) from by first | (intro n hn; have rfe : aRef (aS W S) y.toNatClampNeg l2 = aRef ab y.toNatClampNeg (Int32.ofNat l2.toInt.toNat) := (by rw [hi5, uw_ref, ofN_k (by omega)]); have hn2 : xAl (aS W S) n := (by rw [hi5, uw_al]; exact hn); refine (hi7 n hn).trans ?_; rw [← Su_1 (f := (fun i => cIs (aRef ab y.toNatClampNeg (Int32.ofNat i)) n)) (by omega) (by omega)]; show _ = _ - Int32.ofNat (cIs (aRef ab y.toNatClampNeg (Int32.ofNat l2.toInt.toNat)) n); rw [← rfe, is_no hi2 rn_c5 hn2]; exact (Int32.sub_zero _).symm)) (show zN0 S = n0 from by first | (exact hi8))
      · skip
        have th_c5 := hq_v4 c5 hc
        have rg_c5 : zTa R (aRef (aS W S) y.toNatClampNeg l2) = some c5 := rp0_S3.symm.trans hc
        subst hc
        refine ⟨zG_n hI th_c5, ?_⟩
        refine ⟨zG_n hI th_c5, ?_⟩
        have hI25 : zI f r C Z N (ma_put S c5 6 (.inl ((mI S c5 6) - (1 : Int32)))) := zG_tf hI th_c5.1 zI_t (by decide) (by decide) trivial (by decide) (by decide) (by decide)
        first | have e26 : (l2 + (1 : Int32)).toInt = l2.toInt + (1) := i_addk rfl (by omega) (by omega) | have b27 := i_bd (l2 + (1 : Int32))
        exact IH _ (by omega) _ l1 ((l2 + (1 : Int32))) rfl hI25 th_l1 (by omega) (by omega) (show xB (ma_put S c5 6 (.inl ((mI S c5 6) - (1 : Int32)))) R from by first | (exact (xC_6 (k := 6) (x := ((mI S c5 6) - (1 : Int32))) (xC_o (W := 75) hi2) xW75 th_c5.1 rfl (by decide)).2)) (show xW W from by first | (exact hi3) | (exact xW88) | (exact xW75)) (show zTa R y = some l1 from by first | (exact hi4)) (show aS W (ma_put S c5 6 (.inl ((mI S c5 6) - (1 : Int32)))) = zUw ab y 16 from by first | (exact (xC_6 (k := 6) (x := ((mI S c5 6) - (1 : Int32))) (xC_o (W := W) hi2) hi3 th_c5.1 rfl (by decide)).1.trans hi5)) (show ((l2 + (1 : Int32))).toInt ≤ (ab 128 y.toNatClampNeg).toInt - 1 from by first | (have t0 := xB_th (W := W) hi2 hi4; have f2 : mI S l1 2 = ab 128 y.toNatClampNeg := t0.2.2.2.2.1.trans (by rw [hi5]; exact zUw_o (by decide)); have f2i := congrArg Int32.toInt f2; omega)) (show ∀ n, xAl ab n → kC (ma_put S c5 6 (.inl ((mI S c5 6) - (1 : Int32)))) n = kk n - Int32.ofNat (cSu (fun i => cIs (aRef ab y.toNatClampNeg (Int32.ofNat i)) n) ((l2 + (1 : Int32))).toInt.toNat) from by first | (intro n hn; have rfe : aRef (aS W S) y.toNatClampNeg l2 = aRef ab y.toNatClampNeg (Int32.ofNat l2.toInt.toNat) := (by rw [hi5, uw_ref, ofN_k (by omega)]); have hn2 : xAl (aS W S) n := (by rw [hi5, uw_al]; exact hn); refine (congrFun (xK_6 (x := ((mI S c5 6) - (1 : Int32))) (xK_o (W := W) hi2 rfl) hi3 rg_c5 th_c5.1).2 n).trans ?_; have k60 := xK_y (xK_o (W := W) hi2 rfl) rg_c5; rw [k60, KU_2 (zTa_p rg_c5).1 hn.1, hi7 n hn, ← Su_1 (f := (fun i => cIs (aRef ab y.toNatClampNeg (Int32.ofNat i)) n)) (by omega) (by omega), rfe])) (show zN0 (ma_put S c5 6 (.inl ((mI S c5 6) - (1 : Int32)))) = n0 from by first | (exact ((n0_t (k := 6) (by decide)).trans hi8)))
theorem sp_87_69_sk {X : Nat × (Nat → Int32)} {d w : Nat} {f : Nat → Nat → Int32} {r : Nat → Nat → Option Nat} {C Z N : Nat} {Q : Option ma_V ⊕ Nat → ma_S → Prop} {ab : Nat→Nat→Int32} {R : zRT} {W : Nat} {kk : Nat→Int32} {y : Int32} {n0 : Nat→Nat→Int32} {S : ma_S} (t : Nat) (hd : 1 ≤ d) (hw : 25 ≤ w) (hI : zI f r C Z N S) (th_t : 126 ≤ t ∧ t < N) (hpre0 : xB S R) (hpre1 : aS W S = ab) (hpre2 : xW W) (hpre3 : zTa R y = some t) (hpre4 : kC S = kk) (hpre5 : zN0 S = n0) (K : ∀ S₉, zI f r C Z N S₉ → (xB S₉ (zRu R y.toNatClampNeg none)) → (aS W S₉ = aRm ab y) → (∀ n, xAl ab n → n ≠ y.toNatClampNeg → kC S₉ n = kk n - Int32.ofNat (cOb ab y.toNatClampNeg n)) → (zN0 S₉ = n0) → Q (.inl none) S₉) : ma_wp X d w 87 0 [(0, .inr (.inr (some 69))), (1, .inr (.inr (some t)))] [] S Q := by
  refine g_87_69_sk_0 t (by omega) (by omega) (zG_T hI) ?_
  refine sp_85_69_sk (ab := (aS W S)) (R := R) (W := W) (y := y) (kk := (kC S)) (n0 := n0) t (by omega) (by omega) hI th_t (show xB S R from by first | (exact (xC_o (W := 75) hpre0).2)) (show aS W S = (aS W S) from by first | (exact rfl)) (show xW W from by first | (exact hpre2) | (exact xW88) | (exact xW75)) (show zTa R y = some t from by first | (exact hpre3)) (show kC S = (kC S) from by first | (exact rfl)) (show zN0 S = n0 from by first | (exact hpre5)) (fun S1 hI_S1 rp0_S1 rp1_S1 rp2_S1 rp3_S1 => zv_n ⟨zG_T hI_S1, ?_⟩)
  have rp0_S1 : xB S1 R := rp0_S1
  have rp1_S1 : aS W S1 = zUw (aS W S) y 16 := rp1_S1
  have rp2_S1 : kC S1 = (kC S) := rp2_S1
  have rp3_S1 : zN0 S1 = n0 := rp3_S1
  have li1 : (0 : Int32).toInt = 0 := rfl
  exact lp_87_69_sk_7 (by omega) (by omega) K _ _ t ((0 : Int32)) rfl hI_S1 th_t (by omega) (by omega) (show xB S1 R from by first | (exact (xC_o (W := 75) rp0_S1).2)) (show xW W from by first | (exact hpre2) | (exact xW88) | (exact xW75)) (show zTa R y = some t from by first | (exact hpre3)) (show aS W S1 = zUw ab y 16 from by first | (rw [rp1_S1, hpre1])) (show ((0 : Int32)).toInt ≤ (ab 128 y.toNatClampNeg).toInt - 1 from by first | (have t0 := xB_th (W := W) hpre0 hpre3; have f2 := congrArg Int32.toInt t0.2.2.2.2.1; rw [hpre1] at f2; have th := zG_th hI th_t; have z0 : (0 : Int32).toInt = 0 := rfl; omega)) (show ∀ n, xAl ab n → kC S1 n = kk n - Int32.ofNat (cSu (fun i => cIs (aRef ab y.toNatClampNeg (Int32.ofNat i)) n) ((0 : Int32)).toInt.toNat) from by first | (intro n hn; rw [rp2_S1, hpre4]; exact (Int32.sub_zero _).symm)) (show zN0 S1 = n0 from by first | (exact rp3_S1))

/-! from 95.m22 -/
/-! COUNTS, the class (written by wip/tools/gen20k.py) -/
theorem sh_al {a : Nat → Nat → Int32} {n k : Nat} {x : Int32} {e : Int} : xAl (zSh (ma_u a 69 k x) e) n ↔ xAl a n := by
  unfold xAl
  rw [show zSh (ma_u a 69 k x) e 126 n = a 126 n from by
    show (if 126 = 74 ∧ _ then _ else ma_u a 69 k x 126 n) = _
    rw [if_neg (by omega), xu_o (by omega)]]
theorem g_98_69_sk_0 {X : Nat × (Nat → Int32)} {d w : Nat} {S : ma_S} {Q : Option ma_V ⊕ Nat → ma_S → Prop}  (hd : 1 ≤ d) (hw : 21 ≤ w) (hS : zT S) (h : if 0 < (mI S 69 5) then (if (mI S 74 0) < 0 then (ma_wp X d w 98 32 [(0, .inr (.inr (some 69))), (1, .inr (.inr none)), (2, .inl (0 : Int32))] [] (ma_put S 69 5 (.inl ((mI S 69 5) - (1 : Int32)))) Q) else (if (512 : Int32) ≤ (mI S 74 0) then (ma_wp X d w 98 32 [(0, .inr (.inr (some 69))), (1, .inr (.inr none)), (2, .inl (0 : Int32))] [] (ma_put S 69 5 (.inl ((mI S 69 5) - (1 : Int32)))) Q) else ((0 ≤ (mI S 74 0) ∧ (mI S 74 0).toNatClampNeg < 512) ∧ (ma_wp X d w 98 32 [(0, .inr (.inr (some 69))), (1, .inr (.inr (mR S 70 (mI S 74 0).toNatClampNeg))), (2, .inl (0 : Int32))] [] (ma_put S 69 5 (.inl ((mI S 69 5) - (1 : Int32)))) Q)))) else (Q (.inl (some (.inr (.inr none)))) S)) : ma_wp X d w 98 0 [(0, .inr (.inr (some 69)))] [] S Q := by
  refine zw_push hm_98 dX7_takeWish_0 (v := .inr (.inr (some 69))) rfl ?_
  refine zw_gf hm_98 dX7_takeWish_1 (v := .inl (mI S 69 5)) (zT_is hS s_69) (zT_t hS s_69) rfl f_7_36_7 rfl ?_
  refine zw_if0 hm_98 dX7_takeWish_4 (t := 9) rfl zc0_gt ?_ ?_
  · intro hc
    rw [if_pos hc] at h
    refine zw_push hm_98 dX7_takeWish_9 (v := .inr (.inr (some 69))) rfl ?_
    refine zw_push hm_98 dX7_takeWish_10 (v := .inr (.inr (some 69))) rfl ?_
    refine zw_gf hm_98 dX7_takeWish_11 (v := .inr (.inr (some 74))) (zT_is hS s_69) (zT_t hS s_69) rfl f_7_27_7 (zT_f hS r_69_4) ?_
    refine zw_push hm_98 dX7_takeWish_14 (v := .inl (0 : Int32)) rfl ?_
    refine zw_ia hm_98 dX7_takeWish_15 (zT_is hS s_74) (zT_h hS s_74) rfl ⟨by decide, by decide⟩ ?_
    show ma_wp X d w 98 16 [(0, .inr (.inr (some 69)))] [.inl (mI S 74 0), .inr (.inr (some 69))] S _
    refine zw_cv hm_98 dX7_takeWish_16 v_7_94_7 hm_81 [.inl (mI S 74 0)] [] rfl (zT_rt hS s_69 rfl) ⟨by omega, by omega⟩ rfl ?_
    show ma_wp X (d - 1) (w - 21) 81 0 [(0, .inr (.inr (some 69))), (1, .inl (mI S 74 0))] [] S _
    refine zw_push hm_81 dX7_thingAt_0 (v := .inl (mI S 74 0)) rfl ?_
    refine zw_if0 hm_81 dX7_thingAt_1 (t := 20) rfl zc0_lt ?_ ?_
    · intro hc
      rw [if_pos hc] at h
      refine zw_push hm_81 dX7_thingAt_20 (v := .inr (.inr none)) rfl ?_
      refine zw_aret hm_81 dX7_thingAt_21 ?_
      show ma_wp X d w 98 19 [(0, .inr (.inr (some 69)))] [.inr (.inr none)] S _
      refine zw_sto hm_98 dX7_takeWish_19 [(1, .inr (.inr none)), (0, .inr (.inr (some 69)))] rfl rfl rfl ?_
      refine zw_push hm_98 dX7_takeWish_20 (v := .inr (.inr (some 69))) rfl ?_
      refine zw_stk hm_98 dX7_takeWish_21 (st₉ := [.inr (.inr (some 69)), .inr (.inr (some 69))]) rfl rfl ?_
      refine zw_gf hm_98 dX7_takeWish_22 (v := .inl (mI S 69 5)) (zT_is hS s_69) (zT_t hS s_69) rfl f_7_36_7 rfl ?_
      refine zw_push hm_98 dX7_takeWish_25 (v := .inl (1 : Int32)) rfl ?_
      refine zw_stk hm_98 dX7_takeWish_26 (st₉ := [.inl ((mI S 69 5) - (1 : Int32)), .inr (.inr (some 69))]) rfl rfl ?_
      refine zw_pf hm_98 dX7_takeWish_27 (zT_is hS s_69) (zT_t hS s_69) p_7_36_7 zk_int ?_
      refine zw_push hm_98 dX7_takeWish_30 (v := .inl (0 : Int32)) rfl ?_
      refine zw_sto hm_98 dX7_takeWish_31 [(2, .inl (0 : Int32)), (1, .inr (.inr none)), (0, .inr (.inr (some 69)))] rfl rfl rfl ?_
      exact zw_sub (ma_nd_of (ks := [0, 1, 2]) rfl (by decide)) (ma_nd_of (ks := [2, 1, 0]) rfl (by decide)) (ma_le_cons rfl (ma_le_cons rfl (ma_le_cons rfl (ma_le_nil _)))) h
    · intro hc
      rw [if_neg hc] at h
      refine zw_push hm_81 dX7_thingAt_4 (v := .inl (mI S 74 0)) rfl ?_
      refine zw_push hm_81 dX7_thingAt_5 (v := .inl (512 : Int32)) rfl ?_
      refine zw_if2 hm_81 dX7_thingAt_8 (t := 20) rfl zc2_ge ?_ ?_
      · intro hc
        rw [if_pos hc] at h
        refine zw_push hm_81 dX7_thingAt_20 (v := .inr (.inr none)) rfl ?_
        refine zw_aret hm_81 dX7_thingAt_21 ?_
        show ma_wp X d w 98 19 [(0, .inr (.inr (some 69)))] [.inr (.inr none)] S _
        refine zw_sto hm_98 dX7_takeWish_19 [(1, .inr (.inr none)), (0, .inr (.inr (some 69)))] rfl rfl rfl ?_
        refine zw_push hm_98 dX7_takeWish_20 (v := .inr (.inr (some 69))) rfl ?_
        refine zw_stk hm_98 dX7_takeWish_21 (st₉ := [.inr (.inr (some 69)), .inr (.inr (some 69))]) rfl rfl ?_
        refine zw_gf hm_98 dX7_takeWish_22 (v := .inl (mI S 69 5)) (zT_is hS s_69) (zT_t hS s_69) rfl f_7_36_7 rfl ?_
        refine zw_push hm_98 dX7_takeWish_25 (v := .inl (1 : Int32)) rfl ?_
        refine zw_stk hm_98 dX7_takeWish_26 (st₉ := [.inl ((mI S 69 5) - (1 : Int32)), .inr (.inr (some 69))]) rfl rfl ?_
        refine zw_pf hm_98 dX7_takeWish_27 (zT_is hS s_69) (zT_t hS s_69) p_7_36_7 zk_int ?_
        refine zw_push hm_98 dX7_takeWish_30 (v := .inl (0 : Int32)) rfl ?_
        refine zw_sto hm_98 dX7_takeWish_31 [(2, .inl (0 : Int32)), (1, .inr (.inr none)), (0, .inr (.inr (some 69)))] rfl rfl rfl ?_
        exact zw_sub (ma_nd_of (ks := [0, 1, 2]) rfl (by decide)) (ma_nd_of (ks := [2, 1, 0]) rfl (by decide)) (ma_le_cons rfl (ma_le_cons rfl (ma_le_cons rfl (ma_le_nil _)))) h
      · intro hc
        rw [if_neg hc] at h
        refine zw_push hm_81 dX7_thingAt_11 (v := .inr (.inr (some 69))) rfl ?_
        refine zw_gf hm_81 dX7_thingAt_12 (v := .inr (.inr (some 70))) (zT_is hS s_69) (zT_t hS s_69) rfl f_7_11_7 (zT_f hS r_69_0) ?_
        refine zw_push hm_81 dX7_thingAt_15 (v := .inl (mI S 74 0)) rfl ?_
        obtain ⟨hg, h⟩ := h
        refine zw_aa hm_81 dX7_thingAt_16 (zT_is hS s_70) (zT_h hS s_70) rfl rfl hg rfl ?_
        show ma_wp X (d - 1) (w - 21) 81 17 [(0, .inr (.inr (some 69))), (1, .inl (mI S 74 0))] [.inr (.inr (mR S 70 (mI S 74 0).toNatClampNeg))] S _
        refine zw_goto hm_81 dX7_thingAt_17 (t := 21) rfl ?_
        refine zw_aret hm_81 dX7_thingAt_21 ?_
        show ma_wp X d w 98 19 [(0, .inr (.inr (some 69)))] [.inr (.inr (mR S 70 (mI S 74 0).toNatClampNeg))] S _
        refine zw_sto hm_98 dX7_takeWish_19 [(1, .inr (.inr (mR S 70 (mI S 74 0).toNatClampNeg))), (0, .inr (.inr (some 69)))] rfl rfl rfl ?_
        refine zw_push hm_98 dX7_takeWish_20 (v := .inr (.inr (some 69))) rfl ?_
        refine zw_stk hm_98 dX7_takeWish_21 (st₉ := [.inr (.inr (some 69)), .inr (.inr (some 69))]) rfl rfl ?_
        refine zw_gf hm_98 dX7_takeWish_22 (v := .inl (mI S 69 5)) (zT_is hS s_69) (zT_t hS s_69) rfl f_7_36_7 rfl ?_
        refine zw_push hm_98 dX7_takeWish_25 (v := .inl (1 : Int32)) rfl ?_
        refine zw_stk hm_98 dX7_takeWish_26 (st₉ := [.inl ((mI S 69 5) - (1 : Int32)), .inr (.inr (some 69))]) rfl rfl ?_
        refine zw_pf hm_98 dX7_takeWish_27 (zT_is hS s_69) (zT_t hS s_69) p_7_36_7 zk_int ?_
        refine zw_push hm_98 dX7_takeWish_30 (v := .inl (0 : Int32)) rfl ?_
        refine zw_sto hm_98 dX7_takeWish_31 [(2, .inl (0 : Int32)), (1, .inr (.inr (mR S 70 (mI S 74 0).toNatClampNeg))), (0, .inr (.inr (some 69)))] rfl rfl rfl ?_
        exact zw_sub (ma_nd_of (ks := [0, 1, 2]) rfl (by decide)) (ma_nd_of (ks := [2, 1, 0]) rfl (by decide)) (ma_le_cons rfl (ma_le_cons rfl (ma_le_cons rfl (ma_le_nil _)))) h
  · intro hc
    rw [if_neg hc] at h
    refine zw_push hm_98 dX7_takeWish_7 (v := .inr (.inr none)) rfl ?_
    exact zw_aret hm_98 dX7_takeWish_8 h
theorem g_98_69_sk_32 {X : Nat × (Nat → Int32)} {d w : Nat} {S : ma_S} {Q : Option ma_V ⊕ Nat → ma_S → Prop} (l1 : Option Nat) (l2 : Int32) (hd : 1 ≤ d) (hw : 21 ≤ w) (hS : zT S) (h : if (mI S 69 5) ≤ l2 then ((l1 = none → Q (.inl (some (.inr (.inr none)))) S) ∧ (∀ c1, l1 = some c1 → (126 ≤ c1 ∧ c1 < mN S) ∧ ((126 ≤ c1 ∧ c1 < mN S) ∧ (Q (.inl (some (.inr (.inr (some c1))))) (ma_put S c1 6 (.inl ((mI S c1 6) - (1 : Int32)))))))) else ((0 ≤ (l2 + (1 : Int32)) ∧ (l2 + (1 : Int32)).toNatClampNeg < 512) ∧ ((0 ≤ l2 ∧ l2.toNatClampNeg < 512) ∧ (ma_wp X d w 98 32 [(0, .inr (.inr (some 69))), (1, .inr (.inr l1)), (2, .inl (l2 + (1 : Int32)))] [] (ma_put S 74 l2.toNatClampNeg (.inl (mI S 74 (l2 + (1 : Int32)).toNatClampNeg))) Q)))) : ma_wp X d w 98 32 [(0, .inr (.inr (some 69))), (1, .inr (.inr l1)), (2, .inl l2)] [] S Q := by
  refine zw_push hm_98 dX7_takeWish_32 (v := .inl l2) rfl ?_
  refine zw_push hm_98 dX7_takeWish_33 (v := .inr (.inr (some 69))) rfl ?_
  refine zw_gf hm_98 dX7_takeWish_34 (v := .inl (mI S 69 5)) (zT_is hS s_69) (zT_t hS s_69) rfl f_7_36_7 rfl ?_
  refine zw_if2 hm_98 dX7_takeWish_37 (t := 60) rfl zc2_ge ?_ ?_
  · intro hc
    rw [if_pos hc] at h
    refine zw_push hm_98 dX7_takeWish_60 (v := .inr (.inr l1)) rfl ?_
    refine zw_ifnull hm_98 dX7_takeWish_61 (t := 74) rfl ?_ ?_
    · intro hc
      have h := h.1 hc
      (try rw [hc])
      show ma_wp X d w 98 74 [(0, .inr (.inr (some 69))), (1, .inr (.inr none)), (2, .inl l2)] [] S _
      refine zw_push hm_98 dX7_takeWish_74 (v := .inr (.inr none)) rfl ?_
      exact zw_aret hm_98 dX7_takeWish_75 h
    · intro c1 hc
      have h := h.2 c1 hc
      (try rw [hc])
      show ma_wp X d w 98 64 [(0, .inr (.inr (some 69))), (1, .inr (.inr (some c1))), (2, .inl l2)] [] S _
      refine zw_push hm_98 dX7_takeWish_64 (v := .inr (.inr (some c1))) rfl ?_
      refine zw_stk hm_98 dX7_takeWish_65 (st₉ := [.inr (.inr (some c1)), .inr (.inr (some c1))]) rfl rfl ?_
      obtain ⟨hg, h⟩ := h
      refine zw_gf hm_98 dX7_takeWish_66 (v := .inl (mI S c1 6)) (zT_tis hS hg) (zT_tt hS hg) rfl f_7_98_9 rfl ?_
      refine zw_push hm_98 dX7_takeWish_69 (v := .inl (1 : Int32)) rfl ?_
      refine zw_stk hm_98 dX7_takeWish_70 (st₉ := [.inl ((mI S c1 6) - (1 : Int32)), .inr (.inr (some c1))]) rfl rfl ?_
      obtain ⟨hg, h⟩ := h
      refine zw_pf hm_98 dX7_takeWish_71 (zT_tis hS hg) (zT_tt hS hg) p_7_98_9 zk_int ?_
      refine zw_push hm_98 dX7_takeWish_74 (v := .inr (.inr (some c1))) rfl ?_
      exact zw_aret hm_98 dX7_takeWish_75 h
  · intro hc
    rw [if_neg hc] at h
    refine zw_push hm_98 dX7_takeWish_40 (v := .inr (.inr (some 69))) rfl ?_
    refine zw_gf hm_98 dX7_takeWish_41 (v := .inr (.inr (some 74))) (zT_is hS s_69) (zT_t hS s_69) rfl f_7_27_7 (zT_f hS r_69_4) ?_
    refine zw_push hm_98 dX7_takeWish_44 (v := .inl l2) rfl ?_
    refine zw_push hm_98 dX7_takeWish_45 (v := .inr (.inr (some 69))) rfl ?_
    refine zw_gf hm_98 dX7_takeWish_46 (v := .inr (.inr (some 74))) (zT_is hS s_69) (zT_t hS s_69) rfl f_7_27_7 (zT_f hS r_69_4) ?_
    refine zw_push hm_98 dX7_takeWish_49 (v := .inl l2) rfl ?_
    refine zw_push hm_98 dX7_takeWish_50 (v := .inl (1 : Int32)) rfl ?_
    refine zw_stk hm_98 dX7_takeWish_51 (st₉ := [.inl (l2 + (1 : Int32)), .inr (.inr (some 74)), .inl l2, .inr (.inr (some 74))]) rfl rfl ?_
    obtain ⟨hg, h⟩ := h
    refine zw_ia hm_98 dX7_takeWish_52 (zT_is hS s_74) (zT_h hS s_74) rfl hg ?_
    show ma_wp X d w 98 53 [(0, .inr (.inr (some 69))), (1, .inr (.inr l1)), (2, .inl l2)] [.inl (mI S 74 (l2 + (1 : Int32)).toNatClampNeg), .inl l2, .inr (.inr (some 74))] S _
    obtain ⟨hg, h⟩ := h
    refine zw_ias hm_98 dX7_takeWish_53 (zT_is hS s_74) (zT_h hS s_74) rfl hg ?_
    refine zw_sto hm_98 dX7_takeWish_54 [(2, .inl (l2 + (1 : Int32))), (0, .inr (.inr (some 69))), (1, .inr (.inr l1))] rfl rfl rfl ?_
    refine zw_goto hm_98 dX7_takeWish_57 (t := 32) rfl ?_
    exact zw_sub (ma_nd_of (ks := [0, 1, 2]) rfl (by decide)) (ma_nd_of (ks := [2, 0, 1]) rfl (by decide)) (ma_le_cons rfl (ma_le_cons rfl (ma_le_cons rfl (ma_le_nil _)))) h
theorem lp_98_69_sk_32 {X : Nat × (Nat → Int32)} {d w : Nat} {f : Nat → Nat → Int32} {r : Nat → Nat → Option Nat} {C Z N : Nat} {Q : Option ma_V ⊕ Nat → ma_S → Prop} {ab : Nat→Nat→Int32} {R : zRT} {W : Nat} {kk : Nat→Int32} {n0 : Nat→Nat→Int32} (hd : 1 ≤ d) (hw : 21 ≤ w) (K : ∀ v S₉, zI f r C Z N S₉ → (∀ c, v = some c → 126 ≤ c ∧ c < N) → (xB S₉ R) → (v = zTa R (aTy ab) ∧ aS W S₉ = aTw ab) → (∀ n, xAl ab n → kC S₉ n = kk n - (if 0 < (ab 69 5).toInt then Int32.ofNat (cIs (ab 74 0) n) else 0)) → (zN0 S₉ = n0) → Q (.inl (some (.inr (.inr v)))) S₉) : ∀ (n : Nat) (S : ma_S) (l1 : Option Nat) (l2 : Int32), (512 - l2.toInt).toNat = n → zI f r C Z N S → (∀ c, l1 = some c → 126 ≤ c ∧ c < N) → (0 ≤ l2.toInt) → ((mI S 69 5).toInt ≤ 511) → (l2.toInt ≤ (mI S 69 5).toInt) → (xB S R) → (xW W) → (aS W S = zSh (ma_u ab 69 5 (ab 69 5 - 1)) l2.toInt) → (l1 = zTa R (ab 74 0)) → (0 < (ab 69 5).toInt ∧ (mI S 69 5).toInt = (ab 69 5).toInt - 1) → (kC S = kk) → (zN0 S = n0) → ma_wp X d w 98 32 [(0, .inr (.inr (some 69))), (1, .inr (.inr l1)), (2, .inl l2)] [] S Q := by
  intro n
  induction n using Nat.strongRecOn with
  | _ n IH =>
    intro S l1 l2 hmu hI th_l1 hi0 hi1 hi2 hi3 hi4 hi5 hi6 hi7 hi8 hi9
    refine g_98_69_sk_32 l1 l2 (by omega) (by omega) (zG_T hI) ?_
    have f1 := zG_s hI (0) (512) (c := 69) (k := 5) (by decide)
    have b2 := i_bd l2
    refine zd (fun h3 => ?_) (fun h3 => ?_)
    · skip
      have g4 := i_le h3
      refine ⟨fun hc => ?_, fun c1 hc => ?_⟩
      · skip
        have rn_c1 : zTa R (ab 74 0) = none := hi6.symm.trans hc
        exact K (none) _ hI (fun _ z => by cases z) (show xB S R from by first | (exact (xC_o (W := 75) hi3).2)) (show none = zTa R (aTy ab) ∧ aS W S = aTw ab from by first | (rw [aTy_y hi7.1, aTw_y hi7.1]; refine ⟨rn_c1.symm, (xC_o (W := W) hi3).1.trans ?_⟩; rw [hi5, show l2.toInt = (ab 69 5).toInt - 1 from (by have q := hi7; omega)])) (show ∀ n, xAl ab n → kC S n = kk n - (if 0 < (ab 69 5).toInt then Int32.ofNat (cIs (ab 74 0) n) else 0) from by first | (intro n hn; have tk := hi7; rw [if_pos tk.1]; refine (congrFun (xK_o (W := W) hi3 hi8).2 n).trans ?_; have hn2 : xAl (aS W S) n := (by rw [hi5, sh_al]; exact hn); rw [is_no hi3 rn_c1 hn2]; exact (Int32.sub_zero _).symm)) (show zN0 S = n0 from by first | (exact hi9))
      · skip
        have th_c1 := th_l1 c1 hc
        have rg_c1 : zTa R (ab 74 0) = some c1 := hi6.symm.trans hc
        subst hc
        refine ⟨zG_n hI th_c1, ?_⟩
        refine ⟨zG_n hI th_c1, ?_⟩
        have hI5 : zI f r C Z N (ma_put S c1 6 (.inl ((mI S c1 6) - (1 : Int32)))) := zG_tf hI th_c1.1 zI_t (by decide) (by decide) trivial (by decide) (by decide) (by decide)
        exact K ((some c1)) _ hI5 (fun _ z => by cases z; exact th_c1) (show xB (ma_put S c1 6 (.inl ((mI S c1 6) - (1 : Int32)))) R from by first | (exact (xC_6 (k := 6) (x := ((mI S c1 6) - (1 : Int32))) (xC_o (W := 75) hi3) xW75 th_c1.1 rfl (by decide)).2)) (show (some c1) = zTa R (aTy ab) ∧ aS W (ma_put S c1 6 (.inl ((mI S c1 6) - (1 : Int32)))) = aTw ab from by first | (rw [aTy_y hi7.1, aTw_y hi7.1]; refine ⟨rg_c1.symm, (xC_6 (k := 6) (x := ((mI S c1 6) - (1 : Int32))) (xC_o (W := W) hi3) hi4 th_c1.1 rfl (by decide)).1.trans ?_⟩; rw [hi5, show l2.toInt = (ab 69 5).toInt - 1 from (by have q := hi7; omega)])) (show ∀ n, xAl ab n → kC (ma_put S c1 6 (.inl ((mI S c1 6) - (1 : Int32)))) n = kk n - (if 0 < (ab 69 5).toInt then Int32.ofNat (cIs (ab 74 0) n) else 0) from by first | (intro n hn; have tk := hi7; rw [if_pos tk.1]; refine (congrFun (xK_6 (x := ((mI S c1 6) - (1 : Int32))) (xK_o (W := W) hi3 hi8) hi4 rg_c1 th_c1.1).2 n).trans ?_; have k60 := xK_y (xK_o (W := W) hi3 hi8) rg_c1; rw [k60, KU_2 (zTa_p rg_c1).1 hn.1])) (show zN0 (ma_put S c1 6 (.inl ((mI S c1 6) - (1 : Int32)))) = n0 from by first | (exact ((n0_t (k := 6) (by decide)).trans hi9)))
    · skip
      have g6 := i_nle h3
      first | have e7 : (l2 + (1 : Int32)).toInt = l2.toInt + (1) := i_addk rfl (by omega) (by omega) | have b8 := i_bd (l2 + (1 : Int32))
      refine ⟨i_ix (by omega) (by omega), ?_⟩
      refine ⟨i_ix (by omega) (by omega), ?_⟩
      have hI9 : zI f r C Z N (ma_put S 74 l2.toNatClampNeg (.inl (mI S 74 (l2 + (1 : Int32)).toNatClampNeg))) := zG_fa hI rfl (by decide) (by decide) (by decide) trivial
      exact IH _ (by omega) _ (l1) ((l2 + (1 : Int32))) rfl hI9 th_l1 (by omega) (show (mI S 69 5).toInt ≤ 511 from by omega) (show ((l2 + (1 : Int32))).toInt ≤ (mI S 69 5).toInt from by omega) (show xB (ma_put S 74 l2.toNatClampNeg (.inl (mI S 74 (l2 + (1 : Int32)).toNatClampNeg))) R from by first | (exact (xC_p (c := 74) (k := l2.toNatClampNeg) (x := (mI S 74 (l2 + (1 : Int32)).toNatClampNeg)) (xC_o (W := 75) hi3) 74 xW75 rfl rfl).2)) (show xW W from by first | (exact hi4) | (exact xW88) | (exact xW75)) (show aS W (ma_put S 74 l2.toNatClampNeg (.inl (mI S 74 (l2 + (1 : Int32)).toNatClampNeg))) = zSh (ma_u ab 69 5 (ab 69 5 - 1)) ((l2 + (1 : Int32))).toInt from by first | (refine (xC_p (c := 74) (k := l2.toNatClampNeg) (x := (mI S 74 (l2 + (1 : Int32)).toNatClampNeg)) (xC_o (W := W) hi3) 74 hi4 rfl (zcw_s (by decide))).1.trans ?_; skip; rw [hi5, ← zSh_s (by omega) (by omega)]; refine congrArg (ma_u _ 74 _) ?_; rw [← (aS_I (W := W) (S := S) (c := 74) (c₉ := 74) (k := (l2 + (1 : Int32)).toNatClampNeg) rfl (zcw_s (by decide))), hi5, zSh_r (by omega) (by omega)])) (show l1 = zTa R (ab 74 0) from by first | (exact hi6)) (show 0 < (ab 69 5).toInt ∧ (mI S 69 5).toInt = (ab 69 5).toInt - 1 from by first | (exact hi7)) (show kC (ma_put S 74 l2.toNatClampNeg (.inl (mI S 74 (l2 + (1 : Int32)).toNatClampNeg))) = kk from by first | (exact (xK_p (c := 74) (k := l2.toNatClampNeg) (x := (mI S 74 (l2 + (1 : Int32)).toNatClampNeg)) (xK_o (W := W) hi3 hi8) 74 hi4 rfl (zcw_s (by decide))).2)) (show zN0 (ma_put S 74 l2.toNatClampNeg (.inl (mI S 74 (l2 + (1 : Int32)).toNatClampNeg))) = n0 from by first | (exact ((n0_p (c := 74) (by decide)).trans hi9)))
theorem sp_98_69_sk {X : Nat × (Nat → Int32)} {d w : Nat} {f : Nat → Nat → Int32} {r : Nat → Nat → Option Nat} {C Z N : Nat} {Q : Option ma_V ⊕ Nat → ma_S → Prop} {ab : Nat→Nat→Int32} {R : zRT} {W : Nat} {kk : Nat→Int32} {n0 : Nat→Nat→Int32} {S : ma_S}  (hd : 1 ≤ d) (hw : 21 ≤ w) (hI : zI f r C Z N S) (hpre0 : xB S R) (hpre1 : aS W S = ab) (hpre2 : xW W) (hpre3 : kC S = kk) (hpre4 : zN0 S = n0) (K : ∀ v S₉, zI f r C Z N S₉ → (∀ c, v = some c → 126 ≤ c ∧ c < N) → (xB S₉ R) → (v = zTa R (aTy ab) ∧ aS W S₉ = aTw ab) → (∀ n, xAl ab n → kC S₉ n = kk n - (if 0 < (ab 69 5).toInt then Int32.ofNat (cIs (ab 74 0) n) else 0)) → (zN0 S₉ = n0) → Q (.inl (some (.inr (.inr v)))) S₉) : ma_wp X d w 98 0 [(0, .inr (.inr (some 69)))] [] S Q := by
  refine g_98_69_sk_0  (by omega) (by omega) (zG_T hI) ?_
  have li1 : (0 : Int32).toInt = 0 := rfl
  have f2 := zG_s hI (0) (512) (c := 69) (k := 5) (by decide)
  refine zd (fun h3 => ?_) (fun h3 => ?_)
  · skip
    have g4 := i_lt h3
    have b5 := i_bd (mI S 74 0)
    refine zd (fun h6 => ?_) (fun h6 => ?_)
    · skip
      have g7 := i_lt h6
      first | have e9 : ((mI S 69 5) - (1 : Int32)).toInt = (mI S 69 5).toInt - (1) := i_subk rfl (by omega) (by omega) | have b10 := i_bd ((mI S 69 5) - (1 : Int32))
      have hI8 : zI f r C Z N (ma_put S 69 5 (.inl ((mI S 69 5) - (1 : Int32)))) := zG_sp hI (0) (512) rfl (by decide) (by decide) (by decide) trivial (by omega) (by omega)
      exact lp_98_69_sk_32 (by omega) (by omega) K _ _ (none) ((0 : Int32)) rfl hI8 (fun _ z => by cases z) (by omega) (show ((mI S 69 5) - (1 : Int32)).toInt ≤ 511 from by omega) (show ((0 : Int32)).toInt ≤ ((mI S 69 5) - (1 : Int32)).toInt from by omega) (show xB (ma_put S 69 5 (.inl ((mI S 69 5) - (1 : Int32)))) R from by first | (exact (xC_p (c := 69) (k := 5) (x := ((mI S 69 5) - (1 : Int32))) (xC_o (W := 75) hpre0) 69 xW75 rfl rfl).2)) (show xW W from by first | (exact hpre2) | (exact xW88) | (exact xW75)) (show aS W (ma_put S 69 5 (.inl ((mI S 69 5) - (1 : Int32)))) = zSh (ma_u ab 69 5 (ab 69 5 - 1)) ((0 : Int32)).toInt from by first | (refine (xC_p (c := 69) (k := 5) (x := ((mI S 69 5) - (1 : Int32))) (xC_o (W := W) hpre0) 69 hpre2 rfl (zcw_s (by decide))).1.trans ?_; skip; rw [hpre1, zSh_0, ← hpre1, (aS_I (W := W) (S := S) (c := 69) (c₉ := 69) (k := 5) rfl (zcw_s (by decide)))]; rfl) | (refine (xC_p (c := 69) (k := 5) (x := ((mI S 69 5) - (1 : Int32))) (xC_o (W := W) hpre0) 69 hpre2 rfl (zcw_s (by decide))).1.trans ?_; skip; rw [show (0 : Int32).toInt = 0 from rfl, zSh_0, ← hpre1, (aS_I (W := W) (S := S) (c := 69) (c₉ := 69) (k := 5) rfl (zcw_s (by decide)))])) (show none = zTa R (ab 74 0) from by first | (rw [← hpre1, (aS_I (W := W) (S := S) (c := 74) (c₉ := 74) (k := 0) rfl (zcw_s (by decide)))]; exact ta_no (by omega))) (show 0 < (ab 69 5).toInt ∧ ((mI S 69 5) - (1 : Int32)).toInt = (ab 69 5).toInt - 1 from by first | (have q5 := congrArg Int32.toInt (aS_I (W := W) (S := S) (c := 69) (c₉ := 69) (k := 5) rfl (zcw_s (by decide))); rw [hpre1] at q5; omega)) (show kC (ma_put S 69 5 (.inl ((mI S 69 5) - (1 : Int32)))) = kk from by first | (exact (xK_p (c := 69) (k := 5) (x := ((mI S 69 5) - (1 : Int32))) (xK_o (W := W) hpre0 hpre3) 69 hpre2 rfl (zcw_s (by decide))).2)) (show zN0 (ma_put S 69 5 (.inl ((mI S 69 5) - (1 : Int32)))) = n0 from by first | (exact ((n0_p (c := 69) (by decide)).trans hpre4)))
    · skip
      have g11 := i_nlt h6
      have li12 : (512 : Int32).toInt = 512 := rfl
      refine zd (fun h13 => ?_) (fun h13 => ?_)
      · skip
        have g14 := i_le h13
        first | have e16 : ((mI S 69 5) - (1 : Int32)).toInt = (mI S 69 5).toInt - (1) := i_subk rfl (by omega) (by omega) | have b17 := i_bd ((mI S 69 5) - (1 : Int32))
        have hI15 : zI f r C Z N (ma_put S 69 5 (.inl ((mI S 69 5) - (1 : Int32)))) := zG_sp hI (0) (512) rfl (by decide) (by decide) (by decide) trivial (by omega) (by omega)
        exact lp_98_69_sk_32 (by omega) (by omega) K _ _ (none) ((0 : Int32)) rfl hI15 (fun _ z => by cases z) (by omega) (show ((mI S 69 5) - (1 : Int32)).toInt ≤ 511 from by omega) (show ((0 : Int32)).toInt ≤ ((mI S 69 5) - (1 : Int32)).toInt from by omega) (show xB (ma_put S 69 5 (.inl ((mI S 69 5) - (1 : Int32)))) R from by first | (exact (xC_p (c := 69) (k := 5) (x := ((mI S 69 5) - (1 : Int32))) (xC_o (W := 75) hpre0) 69 xW75 rfl rfl).2)) (show xW W from by first | (exact hpre2) | (exact xW88) | (exact xW75)) (show aS W (ma_put S 69 5 (.inl ((mI S 69 5) - (1 : Int32)))) = zSh (ma_u ab 69 5 (ab 69 5 - 1)) ((0 : Int32)).toInt from by first | (refine (xC_p (c := 69) (k := 5) (x := ((mI S 69 5) - (1 : Int32))) (xC_o (W := W) hpre0) 69 hpre2 rfl (zcw_s (by decide))).1.trans ?_; skip; rw [hpre1, zSh_0, ← hpre1, (aS_I (W := W) (S := S) (c := 69) (c₉ := 69) (k := 5) rfl (zcw_s (by decide)))]; rfl) | (refine (xC_p (c := 69) (k := 5) (x := ((mI S 69 5) - (1 : Int32))) (xC_o (W := W) hpre0) 69 hpre2 rfl (zcw_s (by decide))).1.trans ?_; skip; rw [show (0 : Int32).toInt = 0 from rfl, zSh_0, ← hpre1, (aS_I (W := W) (S := S) (c := 69) (c₉ := 69) (k := 5) rfl (zcw_s (by decide)))])) (show none = zTa R (ab 74 0) from by first | (rw [← hpre1, (aS_I (W := W) (S := S) (c := 74) (c₉ := 74) (k := 0) rfl (zcw_s (by decide)))]; exact ta_no (by omega))) (show 0 < (ab 69 5).toInt ∧ ((mI S 69 5) - (1 : Int32)).toInt = (ab 69 5).toInt - 1 from by first | (have q5 := congrArg Int32.toInt (aS_I (W := W) (S := S) (c := 69) (c₉ := 69) (k := 5) rfl (zcw_s (by decide))); rw [hpre1] at q5; omega)) (show kC (ma_put S 69 5 (.inl ((mI S 69 5) - (1 : Int32)))) = kk from by first | (exact (xK_p (c := 69) (k := 5) (x := ((mI S 69 5) - (1 : Int32))) (xK_o (W := W) hpre0 hpre3) 69 hpre2 rfl (zcw_s (by decide))).2)) (show zN0 (ma_put S 69 5 (.inl ((mI S 69 5) - (1 : Int32)))) = n0 from by first | (exact ((n0_p (c := 69) (by decide)).trans hpre4)))
      · skip
        have g18 := i_nle h13
        refine ⟨i_ix (by omega) (by omega), ?_⟩
        first | have e20 : ((mI S 69 5) - (1 : Int32)).toInt = (mI S 69 5).toInt - (1) := i_subk rfl (by omega) (by omega) | have b21 := i_bd ((mI S 69 5) - (1 : Int32))
        have hI19 : zI f r C Z N (ma_put S 69 5 (.inl ((mI S 69 5) - (1 : Int32)))) := zG_sp hI (0) (512) rfl (by decide) (by decide) (by decide) trivial (by omega) (by omega)
        exact lp_98_69_sk_32 (by omega) (by omega) K _ _ ((mR S 70 (mI S 74 0).toNatClampNeg)) ((0 : Int32)) rfl hI19 (fun _ z => zG_70 hI (c := 70) (by decide) z) (by omega) (show ((mI S 69 5) - (1 : Int32)).toInt ≤ 511 from by omega) (show ((0 : Int32)).toInt ≤ ((mI S 69 5) - (1 : Int32)).toInt from by omega) (show xB (ma_put S 69 5 (.inl ((mI S 69 5) - (1 : Int32)))) R from by first | (exact (xC_p (c := 69) (k := 5) (x := ((mI S 69 5) - (1 : Int32))) (xC_o (W := 75) hpre0) 69 xW75 rfl rfl).2)) (show xW W from by first | (exact hpre2) | (exact xW88) | (exact xW75)) (show aS W (ma_put S 69 5 (.inl ((mI S 69 5) - (1 : Int32)))) = zSh (ma_u ab 69 5 (ab 69 5 - 1)) ((0 : Int32)).toInt from by first | (refine (xC_p (c := 69) (k := 5) (x := ((mI S 69 5) - (1 : Int32))) (xC_o (W := W) hpre0) 69 hpre2 rfl (zcw_s (by decide))).1.trans ?_; skip; rw [hpre1, zSh_0, ← hpre1, (aS_I (W := W) (S := S) (c := 69) (c₉ := 69) (k := 5) rfl (zcw_s (by decide)))]; rfl) | (refine (xC_p (c := 69) (k := 5) (x := ((mI S 69 5) - (1 : Int32))) (xC_o (W := W) hpre0) 69 hpre2 rfl (zcw_s (by decide))).1.trans ?_; skip; rw [show (0 : Int32).toInt = 0 from rfl, zSh_0, ← hpre1, (aS_I (W := W) (S := S) (c := 69) (c₉ := 69) (k := 5) rfl (zcw_s (by decide)))])) (show (mR S 70 (mI S 74 0).toNatClampNeg) = zTa R (ab 74 0) from by first | (rw [← hpre1, (aS_I (W := W) (S := S) (c := 74) (c₉ := 74) (k := 0) rfl (zcw_s (by decide)))]; exact ta_rd hpre0 (by omega) (by omega))) (show 0 < (ab 69 5).toInt ∧ ((mI S 69 5) - (1 : Int32)).toInt = (ab 69 5).toInt - 1 from by first | (have q5 := congrArg Int32.toInt (aS_I (W := W) (S := S) (c := 69) (c₉ := 69) (k := 5) rfl (zcw_s (by decide))); rw [hpre1] at q5; omega)) (show kC (ma_put S 69 5 (.inl ((mI S 69 5) - (1 : Int32)))) = kk from by first | (exact (xK_p (c := 69) (k := 5) (x := ((mI S 69 5) - (1 : Int32))) (xK_o (W := W) hpre0 hpre3) 69 hpre2 rfl (zcw_s (by decide))).2)) (show zN0 (ma_put S 69 5 (.inl ((mI S 69 5) - (1 : Int32)))) = n0 from by first | (exact ((n0_p (c := 69) (by decide)).trans hpre4)))
  · skip
    have g22 := i_nlt h3
    exact K (none) _ hI (fun _ z => by cases z) (show xB S R from by first | (exact (xC_o (W := 75) hpre0).2)) (show none = zTa R (aTy ab) ∧ aS W S = aTw ab from by first | (have q5 := congrArg Int32.toInt (aS_I (W := W) (S := S) (c := 69) (c₉ := 69) (k := 5) rfl (zcw_s (by decide))); rw [hpre1] at q5; rw [aTy_n (by omega), aTw_n (by omega)]; exact ⟨ta_m1, hpre1⟩)) (show ∀ n, xAl ab n → kC S n = kk n - (if 0 < (ab 69 5).toInt then Int32.ofNat (cIs (ab 74 0) n) else 0) from by first | (intro n hn; have q5 := congrArg Int32.toInt (aS_I (W := W) (S := S) (c := 69) (c₉ := 69) (k := 5) rfl (zcw_s (by decide))); rw [hpre1] at q5; rw [if_neg (by omega), Int32.sub_zero]; exact congrFun hpre3 n)) (show zN0 S = n0 from by first | (exact hpre4))

/-! from 95.m23 -/
/-! COUNTS, the class (written by wip/tools/gen20k.py) -/
theorem g_93_sk_0 {X : Nat × (Nat → Int32)} {d w : Nat} {S : ma_S} {Q : Option ma_V ⊕ Nat → ma_S → Prop} (p : Option Nat) (q : Option Nat) (hd : 0 ≤ d) (hw : 0 ≤ w) (hS : zT S) (h : (q = none → (p = none → Q (.inl none) S) ∧ (∀ c2, p = some c2 → (126 ≤ c2 ∧ c2 < mN S) ∧ ((126 ≤ c2 ∧ c2 < mN S) ∧ (Q (.inl none) (ma_put S c2 6 (.inl ((mI S c2 6) - (1 : Int32)))))))) ∧ (∀ c1, q = some c1 → (126 ≤ c1 ∧ c1 < mN S) ∧ ((126 ≤ c1 ∧ c1 < mN S) ∧ ((p = none → Q (.inl none) (ma_put S c1 6 (.inl ((mI S c1 6) + (1 : Int32))))) ∧ (∀ c3, p = some c3 → (126 ≤ c3 ∧ c3 < mN (ma_put S c1 6 (.inl ((mI S c1 6) + (1 : Int32))))) ∧ ((126 ≤ c3 ∧ c3 < mN (ma_put S c1 6 (.inl ((mI S c1 6) + (1 : Int32))))) ∧ (Q (.inl none) (ma_put (ma_put S c1 6 (.inl ((mI S c1 6) + (1 : Int32)))) c3 6 (.inl ((mI (ma_put S c1 6 (.inl ((mI S c1 6) + (1 : Int32)))) c3 6) - (1 : Int32))))))))))) : ma_wp X d w 93 0 [(0, .inr (.inr p)), (1, .inr (.inr q))] [] S Q := by
  refine zw_push hm_93 dX7_changeCounts_0 (v := .inr (.inr q)) rfl ?_
  refine zw_ifnull hm_93 dX7_changeCounts_1 (t := 14) rfl ?_ ?_
  · intro hc
    have h := h.1 hc
    (try rw [hc])
    show ma_wp X d w 93 14 [(0, .inr (.inr p)), (1, .inr (.inr none))] [] S _
    refine zw_push hm_93 dX7_changeCounts_14 (v := .inr (.inr p)) rfl ?_
    refine zw_ifnull hm_93 dX7_changeCounts_15 (t := 28) rfl ?_ ?_
    · intro hc
      have h := h.1 hc
      (try rw [hc])
      show ma_wp X d w 93 28 [(0, .inr (.inr none)), (1, .inr (.inr none))] [] S _
      exact zw_vret hm_93 dX7_changeCounts_28 h
    · intro c2 hc
      have h := h.2 c2 hc
      (try rw [hc])
      show ma_wp X d w 93 18 [(0, .inr (.inr (some c2))), (1, .inr (.inr none))] [] S _
      refine zw_push hm_93 dX7_changeCounts_18 (v := .inr (.inr (some c2))) rfl ?_
      refine zw_stk hm_93 dX7_changeCounts_19 (st₉ := [.inr (.inr (some c2)), .inr (.inr (some c2))]) rfl rfl ?_
      obtain ⟨hg, h⟩ := h
      refine zw_gf hm_93 dX7_changeCounts_20 (v := .inl (mI S c2 6)) (zT_tis hS hg) (zT_tt hS hg) rfl f_7_98_9 rfl ?_
      refine zw_push hm_93 dX7_changeCounts_23 (v := .inl (1 : Int32)) rfl ?_
      refine zw_stk hm_93 dX7_changeCounts_24 (st₉ := [.inl ((mI S c2 6) - (1 : Int32)), .inr (.inr (some c2))]) rfl rfl ?_
      obtain ⟨hg, h⟩ := h
      refine zw_pf hm_93 dX7_changeCounts_25 (zT_tis hS hg) (zT_tt hS hg) p_7_98_9 zk_int ?_
      exact zw_vret hm_93 dX7_changeCounts_28 h
  · intro c1 hc
    have h := h.2 c1 hc
    (try rw [hc])
    show ma_wp X d w 93 4 [(0, .inr (.inr p)), (1, .inr (.inr (some c1)))] [] S _
    refine zw_push hm_93 dX7_changeCounts_4 (v := .inr (.inr (some c1))) rfl ?_
    refine zw_stk hm_93 dX7_changeCounts_5 (st₉ := [.inr (.inr (some c1)), .inr (.inr (some c1))]) rfl rfl ?_
    obtain ⟨hg, h⟩ := h
    refine zw_gf hm_93 dX7_changeCounts_6 (v := .inl (mI S c1 6)) (zT_tis hS hg) (zT_tt hS hg) rfl f_7_98_9 rfl ?_
    refine zw_push hm_93 dX7_changeCounts_9 (v := .inl (1 : Int32)) rfl ?_
    refine zw_stk hm_93 dX7_changeCounts_10 (st₉ := [.inl ((mI S c1 6) + (1 : Int32)), .inr (.inr (some c1))]) rfl rfl ?_
    obtain ⟨hg, h⟩ := h
    refine zw_pf hm_93 dX7_changeCounts_11 (zT_tis hS hg) (zT_tt hS hg) p_7_98_9 zk_int ?_
    refine zw_push hm_93 dX7_changeCounts_14 (v := .inr (.inr p)) rfl ?_
    refine zw_ifnull hm_93 dX7_changeCounts_15 (t := 28) rfl ?_ ?_
    · intro hc
      have h := h.1 hc
      (try rw [hc])
      show ma_wp X d w 93 28 [(0, .inr (.inr none)), (1, .inr (.inr (some c1)))] [] (ma_put S c1 6 (.inl ((mI S c1 6) + (1 : Int32)))) _
      exact zw_vret hm_93 dX7_changeCounts_28 h
    · intro c3 hc
      have h := h.2 c3 hc
      (try rw [hc])
      show ma_wp X d w 93 18 [(0, .inr (.inr (some c3))), (1, .inr (.inr (some c1)))] [] (ma_put S c1 6 (.inl ((mI S c1 6) + (1 : Int32)))) _
      refine zw_push hm_93 dX7_changeCounts_18 (v := .inr (.inr (some c3))) rfl ?_
      refine zw_stk hm_93 dX7_changeCounts_19 (st₉ := [.inr (.inr (some c3)), .inr (.inr (some c3))]) rfl rfl ?_
      obtain ⟨hg, h⟩ := h
      refine zw_gf hm_93 dX7_changeCounts_20 (v := .inl (mI (ma_put S c1 6 (.inl ((mI S c1 6) + (1 : Int32)))) c3 6)) (zT_tis (zT_pi hS) hg) (zT_tt (zT_pi hS) hg) rfl f_7_98_9 rfl ?_
      refine zw_push hm_93 dX7_changeCounts_23 (v := .inl (1 : Int32)) rfl ?_
      refine zw_stk hm_93 dX7_changeCounts_24 (st₉ := [.inl ((mI (ma_put S c1 6 (.inl ((mI S c1 6) + (1 : Int32)))) c3 6) - (1 : Int32)), .inr (.inr (some c3))]) rfl rfl ?_
      obtain ⟨hg, h⟩ := h
      refine zw_pf hm_93 dX7_changeCounts_25 (zT_tis (zT_pi hS) hg) (zT_tt (zT_pi hS) hg) p_7_98_9 zk_int ?_
      exact zw_vret hm_93 dX7_changeCounts_28 h
theorem sp_93_sk {X : Nat × (Nat → Int32)} {d w : Nat} {f : Nat → Nat → Int32} {r : Nat → Nat → Option Nat} {C Z N : Nat} {Q : Option ma_V ⊕ Nat → ma_S → Prop} {ab : Nat→Nat→Int32} {R : zRT} {W : Nat} {kk : Nat→Int32} {y1 : Int32} {y2 : Int32} {n0 : Nat→Nat→Int32} {S : ma_S} (p : Option Nat) (q : Option Nat) (hd : 0 ≤ d) (hw : 0 ≤ w) (hI : zI f r C Z N S) (hq_p : ∀ c, p = some c → 126 ≤ c ∧ c < N) (hq_q : ∀ c, q = some c → 126 ≤ c ∧ c < N) (hpre0 : xB S R) (hpre1 : aS W S = ab) (hpre2 : xW W) (hpre3 : p = zTa R y1) (hpre4 : q = zTa R y2) (hpre5 : kC S = kk) (hpre6 : zN0 S = n0) (K : ∀ S₉, zI f r C Z N S₉ → (xB S₉ R) → (aS W S₉ = ab) → (∀ n, xAl ab n → kC S₉ n = kk n + Int32.ofNat (cIs y2 n) - Int32.ofNat (cIs y1 n)) → (zN0 S₉ = n0) → Q (.inl none) S₉) : ma_wp X d w 93 0 [(0, .inr (.inr p)), (1, .inr (.inr q))] [] S Q := by
  refine g_93_sk_0 p q (by omega) (by omega) (zG_T hI) ?_
  refine ⟨fun hc => ?_, fun c1 hc => ?_⟩
  · skip
    have rn_c1 : zTa R y2 = none := hpre4.symm.trans hc
    refine ⟨fun hc => ?_, fun c2 hc => ?_⟩
    · skip
      have rn_c2 : zTa R y1 = none := hpre3.symm.trans hc
      exact K _ hI (show xB S R from by first | (exact (xC_o (W := 75) hpre0).2)) (show aS W S = ab from by first | (exact (xC_o (W := W) hpre0).1.trans hpre1)) (show ∀ n, xAl ab n → kC S n = kk n + Int32.ofNat (cIs y2 n) - Int32.ofNat (cIs y1 n) from by first | (intro n hn; rw [← hpre1] at hn; refine (congrFun (xK_o (W := W) hpre0 hpre5).2 n).trans ?_; rw [is_no hpre0 rn_c2 hn, is_no hpre0 rn_c1 hn]; exact ((congrArg (fun q => q - (0 : Int32)) (Int32.add_zero _)).trans (Int32.sub_zero _)).symm) | (intro n hn; rw [← hpre1] at hn; refine (congrFun (xK_o (W := W) hpre0 hpre5).2 n).trans ?_; rw [is_no hpre0 rn_c2 hn, is_no hpre0 rn_c1 hn])) (show zN0 S = n0 from by first | (exact hpre6))
    · skip
      have th_c2 := hq_p c2 hc
      have rg_c2 : zTa R y1 = some c2 := hpre3.symm.trans hc
      subst hc
      refine ⟨zG_n hI th_c2, ?_⟩
      refine ⟨zG_n hI th_c2, ?_⟩
      have hI1 : zI f r C Z N (ma_put S c2 6 (.inl ((mI S c2 6) - (1 : Int32)))) := zG_tf hI th_c2.1 zI_t (by decide) (by decide) trivial (by decide) (by decide) (by decide)
      exact K _ hI1 (show xB (ma_put S c2 6 (.inl ((mI S c2 6) - (1 : Int32)))) R from by first | (exact (xC_6 (k := 6) (x := ((mI S c2 6) - (1 : Int32))) (xC_o (W := 75) hpre0) xW75 th_c2.1 rfl (by decide)).2)) (show aS W (ma_put S c2 6 (.inl ((mI S c2 6) - (1 : Int32)))) = ab from by first | (exact (xC_6 (k := 6) (x := ((mI S c2 6) - (1 : Int32))) (xC_o (W := W) hpre0) hpre2 th_c2.1 rfl (by decide)).1.trans hpre1)) (show ∀ n, xAl ab n → kC (ma_put S c2 6 (.inl ((mI S c2 6) - (1 : Int32)))) n = kk n + Int32.ofNat (cIs y2 n) - Int32.ofNat (cIs y1 n) from by first | (intro n hn; rw [← hpre1] at hn; refine (congrFun (xK_6 (x := ((mI S c2 6) - (1 : Int32))) (xK_o (W := W) hpre0 hpre5) hpre2 rg_c2 th_c2.1).2 n).trans ?_; have k60 := xK_y (xK_o (W := W) hpre0 hpre5) rg_c2; rw [k60, KU_2 (zTa_p rg_c2).1 hn.1, is_no hpre0 rn_c1 hn]; exact (congrArg (fun q => q - _) (Int32.add_zero _)).symm) | (intro n hn; rw [← hpre1] at hn; refine (congrFun (xK_6 (x := ((mI S c2 6) - (1 : Int32))) (xK_o (W := W) hpre0 hpre5) hpre2 rg_c2 th_c2.1).2 n).trans ?_; have k60 := xK_y (xK_o (W := W) hpre0 hpre5) rg_c2; rw [k60, KU_2 (zTa_p rg_c2).1 hn.1, is_no hpre0 rn_c1 hn])) (show zN0 (ma_put S c2 6 (.inl ((mI S c2 6) - (1 : Int32)))) = n0 from by first | (exact ((n0_t (k := 6) (by decide)).trans hpre6)))
  · skip
    have th_c1 := hq_q c1 hc
    have rg_c1 : zTa R y2 = some c1 := hpre4.symm.trans hc
    subst hc
    refine ⟨zG_n hI th_c1, ?_⟩
    refine ⟨zG_n hI th_c1, ?_⟩
    refine ⟨fun hc => ?_, fun c3 hc => ?_⟩
    · skip
      have rn_c3 : zTa R y1 = none := hpre3.symm.trans hc
      have hI2 : zI f r C Z N (ma_put S c1 6 (.inl ((mI S c1 6) + (1 : Int32)))) := zG_tf hI th_c1.1 zI_t (by decide) (by decide) trivial (by decide) (by decide) (by decide)
      exact K _ hI2 (show xB (ma_put S c1 6 (.inl ((mI S c1 6) + (1 : Int32)))) R from by first | (exact (xC_6 (k := 6) (x := ((mI S c1 6) + (1 : Int32))) (xC_o (W := 75) hpre0) xW75 th_c1.1 rfl (by decide)).2)) (show aS W (ma_put S c1 6 (.inl ((mI S c1 6) + (1 : Int32)))) = ab from by first | (exact (xC_6 (k := 6) (x := ((mI S c1 6) + (1 : Int32))) (xC_o (W := W) hpre0) hpre2 th_c1.1 rfl (by decide)).1.trans hpre1)) (show ∀ n, xAl ab n → kC (ma_put S c1 6 (.inl ((mI S c1 6) + (1 : Int32)))) n = kk n + Int32.ofNat (cIs y2 n) - Int32.ofNat (cIs y1 n) from by first | (intro n hn; rw [← hpre1] at hn; refine (congrFun (xK_6 (x := ((mI S c1 6) + (1 : Int32))) (xK_o (W := W) hpre0 hpre5) hpre2 rg_c1 th_c1.1).2 n).trans ?_; have k60 := xK_y (xK_o (W := W) hpre0 hpre5) rg_c1; rw [k60, is_no hpre0 rn_c3 hn, KU_1 (zTa_p rg_c1).1 hn.1]; exact (Int32.sub_zero _).symm) | (intro n hn; rw [← hpre1] at hn; refine (congrFun (xK_6 (x := ((mI S c1 6) + (1 : Int32))) (xK_o (W := W) hpre0 hpre5) hpre2 rg_c1 th_c1.1).2 n).trans ?_; have k60 := xK_y (xK_o (W := W) hpre0 hpre5) rg_c1; rw [k60, is_no hpre0 rn_c3 hn, KU_1 (zTa_p rg_c1).1 hn.1])) (show zN0 (ma_put S c1 6 (.inl ((mI S c1 6) + (1 : Int32)))) = n0 from by first | (exact ((n0_t (k := 6) (by decide)).trans hpre6)))
    · skip
      have th_c3 := hq_p c3 hc
      have rg_c3 : zTa R y1 = some c3 := hpre3.symm.trans hc
      subst hc
      have hI3 : zI f r C Z N (ma_put S c1 6 (.inl ((mI S c1 6) + (1 : Int32)))) := zG_tf hI th_c1.1 zI_t (by decide) (by decide) trivial (by decide) (by decide) (by decide)
      refine ⟨zG_n hI3 th_c3, ?_⟩
      refine ⟨zG_n hI3 th_c3, ?_⟩
      have hI4 : zI f r C Z N (ma_put (ma_put S c1 6 (.inl ((mI S c1 6) + (1 : Int32)))) c3 6 (.inl ((mI (ma_put S c1 6 (.inl ((mI S c1 6) + (1 : Int32)))) c3 6) - (1 : Int32)))) := zG_tf hI3 th_c3.1 zI_t (by decide) (by decide) trivial (by decide) (by decide) (by decide)
      exact K _ hI4 (show xB (ma_put (ma_put S c1 6 (.inl ((mI S c1 6) + (1 : Int32)))) c3 6 (.inl ((mI (ma_put S c1 6 (.inl ((mI S c1 6) + (1 : Int32)))) c3 6) - (1 : Int32)))) R from by first | (exact (xC_6 (k := 6) (x := ((mI (ma_put S c1 6 (.inl ((mI S c1 6) + (1 : Int32)))) c3 6) - (1 : Int32))) (xC_6 (k := 6) (x := ((mI S c1 6) + (1 : Int32))) (xC_o (W := 75) hpre0) xW75 th_c1.1 rfl (by decide)) xW75 th_c3.1 rfl (by decide)).2)) (show aS W (ma_put (ma_put S c1 6 (.inl ((mI S c1 6) + (1 : Int32)))) c3 6 (.inl ((mI (ma_put S c1 6 (.inl ((mI S c1 6) + (1 : Int32)))) c3 6) - (1 : Int32)))) = ab from by first | (exact (xC_6 (k := 6) (x := ((mI (ma_put S c1 6 (.inl ((mI S c1 6) + (1 : Int32)))) c3 6) - (1 : Int32))) (xC_6 (k := 6) (x := ((mI S c1 6) + (1 : Int32))) (xC_o (W := W) hpre0) hpre2 th_c1.1 rfl (by decide)) hpre2 th_c3.1 rfl (by decide)).1.trans hpre1)) (show ∀ n, xAl ab n → kC (ma_put (ma_put S c1 6 (.inl ((mI S c1 6) + (1 : Int32)))) c3 6 (.inl ((mI (ma_put S c1 6 (.inl ((mI S c1 6) + (1 : Int32)))) c3 6) - (1 : Int32)))) n = kk n + Int32.ofNat (cIs y2 n) - Int32.ofNat (cIs y1 n) from by first | (intro n hn; rw [← hpre1] at hn; refine (congrFun (xK_6 (x := ((mI (ma_put S c1 6 (.inl ((mI S c1 6) + (1 : Int32)))) c3 6) - (1 : Int32))) (xK_6 (x := ((mI S c1 6) + (1 : Int32))) (xK_o (W := W) hpre0 hpre5) hpre2 rg_c1 th_c1.1) hpre2 rg_c3 th_c3.1).2 n).trans ?_; have k61 := xK_y (xK_6 (x := ((mI S c1 6) + (1 : Int32))) (xK_o (W := W) hpre0 hpre5) hpre2 rg_c1 th_c1.1) rg_c3; have k60 := xK_y (xK_o (W := W) hpre0 hpre5) rg_c1; rw [k61, k60, KU_2 (zTa_p rg_c3).1 hn.1, KU_1 (zTa_p rg_c1).1 hn.1]) | (intro n hn; rw [← hpre1] at hn; refine (congrFun (xK_6 (x := ((mI (ma_put S c1 6 (.inl ((mI S c1 6) + (1 : Int32)))) c3 6) - (1 : Int32))) (xK_6 (x := ((mI S c1 6) + (1 : Int32))) (xK_o (W := W) hpre0 hpre5) hpre2 rg_c1 th_c1.1) hpre2 rg_c3 th_c3.1).2 n).trans ?_; have k61 := xK_y (xK_6 (x := ((mI S c1 6) + (1 : Int32))) (xK_o (W := W) hpre0 hpre5) hpre2 rg_c1 th_c1.1) rg_c3; have k60 := xK_y (xK_o (W := W) hpre0 hpre5) rg_c1; rw [k61, k60, KU_2 (zTa_p rg_c3).1 hn.1, KU_1 (zTa_p rg_c1).1 hn.1])) (show zN0 (ma_put (ma_put S c1 6 (.inl ((mI S c1 6) + (1 : Int32)))) c3 6 (.inl ((mI (ma_put S c1 6 (.inl ((mI S c1 6) + (1 : Int32)))) c3 6) - (1 : Int32)))) = n0 from by first | (exact ((n0_t (k := 6) (by decide)).trans ((n0_t (k := 6) (by decide)).trans hpre6))))
theorem g_95_69_sk_0 {X : Nat × (Nat → Int32)} {d w : Nat} {S : ma_S} {Q : Option ma_V ⊕ Nat → ma_S → Prop} (t : Nat) (i : Int32) (x : Int32) (hd : 0 ≤ d) (hw : 0 ≤ w) (hS : zT S) (h : (126 ≤ t ∧ t < mN S) ∧ (if (((mI S t 4) + (1 : Int32)) + i) < 0 then (Q (.inl (some (.inl (-1 : Int32)))) S) else (if (((mI S t 4) + (1 : Int32)) + i) < (4500 : Int32) then ((0 ≤ (((mI S t 4) + (1 : Int32)) + i) ∧ (((mI S t 4) + (1 : Int32)) + i).toNatClampNeg < 4500) ∧ ((0 ≤ (((mI S t 4) + (1 : Int32)) + i) ∧ (((mI S t 4) + (1 : Int32)) + i).toNatClampNeg < 4500) ∧ (Q (.inl (some (.inl (mI S 71 (((mI S t 4) + (1 : Int32)) + i).toNatClampNeg)))) (ma_put S 71 (((mI S t 4) + (1 : Int32)) + i).toNatClampNeg (.inl x))))) else (Q (.inl (some (.inl (-1 : Int32)))) S)))) : ma_wp X d w 95 0 [(0, .inr (.inr (some 69))), (1, .inr (.inr (some t))), (2, .inl i), (3, .inl x)] [] S Q := by
  refine zw_push hm_95 dX7_changeInt_0 (v := .inr (.inr (some t))) rfl ?_
  obtain ⟨hg, h⟩ := h
  refine zw_gf hm_95 dX7_changeInt_1 (v := .inl (mI S t 4)) (zT_tis hS hg) (zT_tt hS hg) rfl f_7_61_9 rfl ?_
  refine zw_push hm_95 dX7_changeInt_4 (v := .inl (1 : Int32)) rfl ?_
  refine zw_stk hm_95 dX7_changeInt_5 (st₉ := [.inl ((mI S t 4) + (1 : Int32))]) rfl rfl ?_
  refine zw_push hm_95 dX7_changeInt_6 (v := .inl i) rfl ?_
  refine zw_stk hm_95 dX7_changeInt_7 (st₉ := [.inl (((mI S t 4) + (1 : Int32)) + i)]) rfl rfl ?_
  refine zw_sto hm_95 dX7_changeInt_8 [(4, .inl (((mI S t 4) + (1 : Int32)) + i)), (0, .inr (.inr (some 69))), (1, .inr (.inr (some t))), (2, .inl i), (3, .inl x)] rfl rfl rfl ?_
  refine zw_push hm_95 dX7_changeInt_10 (v := .inl (((mI S t 4) + (1 : Int32)) + i)) rfl ?_
  refine zw_if0 hm_95 dX7_changeInt_12 (t := 23) rfl zc0_lt ?_ ?_
  · intro hc
    rw [if_pos hc] at h
    refine zw_push hm_95 dX7_changeInt_23 (v := .inl (-1 : Int32)) rfl ?_
    exact zw_iret hm_95 dX7_changeInt_24 h
  · intro hc
    rw [if_neg hc] at h
    refine zw_push hm_95 dX7_changeInt_15 (v := .inl (((mI S t 4) + (1 : Int32)) + i)) rfl ?_
    refine zw_push hm_95 dX7_changeInt_17 (v := .inl (4500 : Int32)) rfl ?_
    refine zw_if2 hm_95 dX7_changeInt_20 (t := 25) rfl zc2_lt ?_ ?_
    · intro hc
      rw [if_pos hc] at h
      refine zw_push hm_95 dX7_changeInt_25 (v := .inr (.inr (some 69))) rfl ?_
      refine zw_gf hm_95 dX7_changeInt_26 (v := .inr (.inr (some 71))) (zT_is hS s_69) (zT_t hS s_69) rfl f_7_17_7 (zT_f hS r_69_1) ?_
      refine zw_push hm_95 dX7_changeInt_29 (v := .inl (((mI S t 4) + (1 : Int32)) + i)) rfl ?_
      obtain ⟨hg, h⟩ := h
      refine zw_ia hm_95 dX7_changeInt_31 (zT_is hS s_71) (zT_h hS s_71) rfl hg ?_
      show ma_wp X d w 95 32 [(4, .inl (((mI S t 4) + (1 : Int32)) + i)), (0, .inr (.inr (some 69))), (1, .inr (.inr (some t))), (2, .inl i), (3, .inl x)] [.inl (mI S 71 (((mI S t 4) + (1 : Int32)) + i).toNatClampNeg)] S _
      refine zw_sto hm_95 dX7_changeInt_32 [(5, .inl (mI S 71 (((mI S t 4) + (1 : Int32)) + i).toNatClampNeg)), (4, .inl (((mI S t 4) + (1 : Int32)) + i)), (0, .inr (.inr (some 69))), (1, .inr (.inr (some t))), (2, .inl i), (3, .inl x)] rfl rfl rfl ?_
      refine zw_push hm_95 dX7_changeInt_34 (v := .inr (.inr (some 69))) rfl ?_
      refine zw_gf hm_95 dX7_changeInt_35 (v := .inr (.inr (some 71))) (zT_is hS s_69) (zT_t hS s_69) rfl f_7_17_7 (zT_f hS r_69_1) ?_
      refine zw_push hm_95 dX7_changeInt_38 (v := .inl (((mI S t 4) + (1 : Int32)) + i)) rfl ?_
      refine zw_push hm_95 dX7_changeInt_40 (v := .inl x) rfl ?_
      obtain ⟨hg, h⟩ := h
      refine zw_ias hm_95 dX7_changeInt_41 (zT_is hS s_71) (zT_h hS s_71) rfl hg ?_
      refine zw_push hm_95 dX7_changeInt_42 (v := .inl (mI S 71 (((mI S t 4) + (1 : Int32)) + i).toNatClampNeg)) rfl ?_
      exact zw_iret hm_95 dX7_changeInt_44 h
    · intro hc
      rw [if_neg hc] at h
      refine zw_push hm_95 dX7_changeInt_23 (v := .inl (-1 : Int32)) rfl ?_
      exact zw_iret hm_95 dX7_changeInt_24 h
theorem sp_95_69_sk {X : Nat × (Nat → Int32)} {d w : Nat} {f : Nat → Nat → Int32} {r : Nat → Nat → Option Nat} {C Z N : Nat} {Q : Option ma_V ⊕ Nat → ma_S → Prop} {ab : Nat→Nat→Int32} {R : zRT} {W : Nat} {kk : Nat→Int32} {y : Int32} {n0 : Nat→Nat→Int32} {S : ma_S} (t : Nat) (i : Int32) (x : Int32) (hd : 0 ≤ d) (hw : 0 ≤ w) (hI : zI f r C Z N S) (th_t : 126 ≤ t ∧ t < N) (hpre0 : xB S R) (hpre1 : aS W S = ab) (hpre2 : xW W) (hpre3 : zTa R y = some t) (hpre4 : kC S = kk) (hpre5 : zN0 S = n0) (K : ∀ v S₉, zI f r C Z N S₉ → (True) → (xB S₉ R) → (aS W S₉ = aCi ab y.toNatClampNeg i x ∧ v = aWo ab y.toNatClampNeg i) → (kC S₉ = kk) → (zN0 S₉ = n0) → Q (.inl (some (.inl v))) S₉) : ma_wp X d w 95 0 [(0, .inr (.inr (some 69))), (1, .inr (.inr (some t))), (2, .inl i), (3, .inl x)] [] S Q := by
  refine g_95_69_sk_0 t i x (by omega) (by omega) (zG_T hI) ?_
  refine ⟨zG_n hI th_t, ?_⟩
  have f1 := zG_th hI th_t
  first | have e2 : ((mI S t 4) + (1 : Int32)).toInt = (mI S t 4).toInt + (1) := i_addk rfl (by omega) (by omega) | have b3 := i_bd ((mI S t 4) + (1 : Int32))
  have b4 := i_bd i
  first | have e5 : (((mI S t 4) + (1 : Int32)) + i).toInt = ((mI S t 4) + (1 : Int32)).toInt + i.toInt := i_add (by omega) (by omega) | have b6 := i_bd (((mI S t 4) + (1 : Int32)) + i)
  have li7 : (0 : Int32).toInt = 0 := rfl
  refine zd (fun h8 => ?_) (fun h8 => ?_)
  · skip
    have g9 := i_lt h8
    have li10 : (-1 : Int32).toInt = -1 := rfl
    exact K ((-1 : Int32)) _ hI trivial (show xB S R from by first | (exact (xC_o (W := 75) hpre0).2)) (show aS W S = aCi ab y.toNatClampNeg i x ∧ (-1 : Int32) = aWo ab y.toNatClampNeg i from by first | (have ty := xB_th (W := W) hpre0 hpre3; have e4 := ty.2.2.2.2.2.1; rw [hpre1] at e4; exact ⟨hpre1.trans (if_neg (by rw [← e4]; omega)).symm, (if_neg (by rw [← e4]; omega)).symm⟩)) (show kC S = kk from by first | (exact (xK_o (W := W) hpre0 hpre4).2)) (show zN0 S = n0 from by first | (exact hpre5))
  · skip
    have g11 := i_nlt h8
    have li12 : (4500 : Int32).toInt = 4500 := rfl
    refine zd (fun h13 => ?_) (fun h13 => ?_)
    · skip
      have g14 := i_lt h13
      refine ⟨i_ix (by omega) (by omega), ?_⟩
      refine ⟨i_ix (by omega) (by omega), ?_⟩
      have hI15 : zI f r C Z N (ma_put S 71 (((mI S t 4) + (1 : Int32)) + i).toNatClampNeg (.inl x)) := zG_fa hI rfl (by decide) (by decide) (by decide) trivial
      have b16 := i_bd (mI S 71 (((mI S t 4) + (1 : Int32)) + i).toNatClampNeg)
      exact K ((mI S 71 (((mI S t 4) + (1 : Int32)) + i).toNatClampNeg)) _ hI15 trivial (show xB (ma_put S 71 (((mI S t 4) + (1 : Int32)) + i).toNatClampNeg (.inl x)) R from by first | (exact (xC_p (c := 71) (k := (((mI S t 4) + (1 : Int32)) + i).toNatClampNeg) (x := x) (xC_o (W := 75) hpre0) 71 xW75 rfl rfl).2)) (show aS W (ma_put S 71 (((mI S t 4) + (1 : Int32)) + i).toNatClampNeg (.inl x)) = aCi ab y.toNatClampNeg i x ∧ (mI S 71 (((mI S t 4) + (1 : Int32)) + i).toNatClampNeg) = aWo ab y.toNatClampNeg i from by first | (have ty := xB_th (W := W) hpre0 hpre3; have e4 := ty.2.2.2.2.2.1; rw [hpre1] at e4; refine ⟨(xC_p (c := 71) (k := (((mI S t 4) + (1 : Int32)) + i).toNatClampNeg) (x := x) (xC_o (W := W) hpre0) 71 hpre2 rfl (zcw_s (by decide))).1.trans ?_, ?_⟩; (rw [hpre1, e4]; exact (if_pos ⟨by rw [← e4]; omega, by rw [← e4]; omega⟩).symm); (refine Eq.trans ?_ (if_pos ⟨by rw [← e4]; omega, by rw [← e4]; omega⟩).symm; rw [← hpre1, (aS_I (W := W) (S := S) (c := 71) (c₉ := 71)  rfl (zcw_s (by decide))), hpre1, ← e4]))) (show kC (ma_put S 71 (((mI S t 4) + (1 : Int32)) + i).toNatClampNeg (.inl x)) = kk from by first | (exact (xK_p (c := 71) (k := (((mI S t 4) + (1 : Int32)) + i).toNatClampNeg) (x := x) (xK_o (W := W) hpre0 hpre4) 71 hpre2 rfl (zcw_s (by decide))).2)) (show zN0 (ma_put S 71 (((mI S t 4) + (1 : Int32)) + i).toNatClampNeg (.inl x)) = n0 from by first | (exact ((n0_p (c := 71) (by decide)).trans hpre5)))
    · skip
      have g17 := i_nlt h13
      have li18 : (-1 : Int32).toInt = -1 := rfl
      exact K ((-1 : Int32)) _ hI trivial (show xB S R from by first | (exact (xC_o (W := 75) hpre0).2)) (show aS W S = aCi ab y.toNatClampNeg i x ∧ (-1 : Int32) = aWo ab y.toNatClampNeg i from by first | (have ty := xB_th (W := W) hpre0 hpre3; have e4 := ty.2.2.2.2.2.1; rw [hpre1] at e4; exact ⟨hpre1.trans (if_neg (by rw [← e4]; omega)).symm, (if_neg (by rw [← e4]; omega)).symm⟩)) (show kC S = kk from by first | (exact (xK_o (W := W) hpre0 hpre4).2)) (show zN0 S = n0 from by first | (exact hpre5))
theorem g_96_69_sk_0 {X : Nat × (Nat → Int32)} {d w : Nat} {S : ma_S} {Q : Option ma_V ⊕ Nat → ma_S → Prop} (t : Nat) (i : Int32) (hd : 0 ≤ d) (hw : 0 ≤ w) (hS : zT S) (h : (126 ≤ t ∧ t < mN S) ∧ (if (((mI S t 4) + (1 : Int32)) + i) < 0 then (Q (.inl (some (.inl (-1 : Int32)))) S) else (if (4500 : Int32) ≤ (((mI S t 4) + (1 : Int32)) + i) then (Q (.inl (some (.inl (-1 : Int32)))) S) else ((0 ≤ (((mI S t 4) + (1 : Int32)) + i) ∧ (((mI S t 4) + (1 : Int32)) + i).toNatClampNeg < 4500) ∧ (Q (.inl (some (.inl (mI S 71 (((mI S t 4) + (1 : Int32)) + i).toNatClampNeg)))) S))))) : ma_wp X d w 96 0 [(0, .inr (.inr (some 69))), (1, .inr (.inr (some t))), (2, .inl i)] [] S Q := by
  refine zw_push hm_96 dX7_wordOf_0 (v := .inr (.inr (some t))) rfl ?_
  obtain ⟨hg, h⟩ := h
  refine zw_gf hm_96 dX7_wordOf_1 (v := .inl (mI S t 4)) (zT_tis hS hg) (zT_tt hS hg) rfl f_7_61_9 rfl ?_
  refine zw_push hm_96 dX7_wordOf_4 (v := .inl (1 : Int32)) rfl ?_
  refine zw_stk hm_96 dX7_wordOf_5 (st₉ := [.inl ((mI S t 4) + (1 : Int32))]) rfl rfl ?_
  refine zw_push hm_96 dX7_wordOf_6 (v := .inl i) rfl ?_
  refine zw_stk hm_96 dX7_wordOf_7 (st₉ := [.inl (((mI S t 4) + (1 : Int32)) + i)]) rfl rfl ?_
  refine zw_sto hm_96 dX7_wordOf_8 [(3, .inl (((mI S t 4) + (1 : Int32)) + i)), (0, .inr (.inr (some 69))), (1, .inr (.inr (some t))), (2, .inl i)] rfl rfl rfl ?_
  refine zw_push hm_96 dX7_wordOf_9 (v := .inl (((mI S t 4) + (1 : Int32)) + i)) rfl ?_
  refine zw_if0 hm_96 dX7_wordOf_10 (t := 29) rfl zc0_lt ?_ ?_
  · intro hc
    rw [if_pos hc] at h
    refine zw_push hm_96 dX7_wordOf_29 (v := .inl (-1 : Int32)) rfl ?_
    exact zw_iret hm_96 dX7_wordOf_30 h
  · intro hc
    rw [if_neg hc] at h
    refine zw_push hm_96 dX7_wordOf_13 (v := .inl (((mI S t 4) + (1 : Int32)) + i)) rfl ?_
    refine zw_push hm_96 dX7_wordOf_14 (v := .inl (4500 : Int32)) rfl ?_
    refine zw_if2 hm_96 dX7_wordOf_17 (t := 29) rfl zc2_ge ?_ ?_
    · intro hc
      rw [if_pos hc] at h
      refine zw_push hm_96 dX7_wordOf_29 (v := .inl (-1 : Int32)) rfl ?_
      exact zw_iret hm_96 dX7_wordOf_30 h
    · intro hc
      rw [if_neg hc] at h
      refine zw_push hm_96 dX7_wordOf_20 (v := .inr (.inr (some 69))) rfl ?_
      refine zw_gf hm_96 dX7_wordOf_21 (v := .inr (.inr (some 71))) (zT_is hS s_69) (zT_t hS s_69) rfl f_7_17_7 (zT_f hS r_69_1) ?_
      refine zw_push hm_96 dX7_wordOf_24 (v := .inl (((mI S t 4) + (1 : Int32)) + i)) rfl ?_
      obtain ⟨hg, h⟩ := h
      refine zw_ia hm_96 dX7_wordOf_25 (zT_is hS s_71) (zT_h hS s_71) rfl hg ?_
      show ma_wp X d w 96 26 [(3, .inl (((mI S t 4) + (1 : Int32)) + i)), (0, .inr (.inr (some 69))), (1, .inr (.inr (some t))), (2, .inl i)] [.inl (mI S 71 (((mI S t 4) + (1 : Int32)) + i).toNatClampNeg)] S _
      refine zw_goto hm_96 dX7_wordOf_26 (t := 30) rfl ?_
      exact zw_iret hm_96 dX7_wordOf_30 h
theorem sp_96_69_sk {X : Nat × (Nat → Int32)} {d w : Nat} {f : Nat → Nat → Int32} {r : Nat → Nat → Option Nat} {C Z N : Nat} {Q : Option ma_V ⊕ Nat → ma_S → Prop} {ab : Nat→Nat→Int32} {R : zRT} {W : Nat} {kk : Nat→Int32} {y : Int32} {S : ma_S} (t : Nat) (i : Int32) (hd : 0 ≤ d) (hw : 0 ≤ w) (hI : zI f r C Z N S) (th_t : 126 ≤ t ∧ t < N) (hpre0 : xB S R) (hpre1 : aS W S = ab) (hpre2 : xW W) (hpre3 : zTa R y = some t) (hpre4 : kC S = kk) (K : ∀ v S₉, zI f r C Z N S₉ → (True) → (xB S₉ R) → (aS W S₉ = ab) → (v = aWo ab y.toNatClampNeg i) → (kC S₉ = kk) → Q (.inl (some (.inl v))) S₉) : ma_wp X d w 96 0 [(0, .inr (.inr (some 69))), (1, .inr (.inr (some t))), (2, .inl i)] [] S Q := by
  refine g_96_69_sk_0 t i (by omega) (by omega) (zG_T hI) ?_
  refine ⟨zG_n hI th_t, ?_⟩
  have f1 := zG_th hI th_t
  first | have e2 : ((mI S t 4) + (1 : Int32)).toInt = (mI S t 4).toInt + (1) := i_addk rfl (by omega) (by omega) | have b3 := i_bd ((mI S t 4) + (1 : Int32))
  have b4 := i_bd i
  first | have e5 : (((mI S t 4) + (1 : Int32)) + i).toInt = ((mI S t 4) + (1 : Int32)).toInt + i.toInt := i_add (by omega) (by omega) | have b6 := i_bd (((mI S t 4) + (1 : Int32)) + i)
  have li7 : (0 : Int32).toInt = 0 := rfl
  refine zd (fun h8 => ?_) (fun h8 => ?_)
  · skip
    have g9 := i_lt h8
    have li10 : (-1 : Int32).toInt = -1 := rfl
    exact K ((-1 : Int32)) _ hI trivial (show xB S R from by first | (exact (xC_o (W := 75) hpre0).2)) (show aS W S = ab from by first | (exact (xC_o (W := W) hpre0).1.trans hpre1)) (show (-1 : Int32) = aWo ab y.toNatClampNeg i from by first | (have ty := xB_th (W := W) hpre0 hpre3; have e4 := ty.2.2.2.2.2.1; rw [hpre1] at e4; exact (if_neg (by rw [← e4]; omega)).symm)) (show kC S = kk from by first | (exact (xK_o (W := W) hpre0 hpre4).2))
  · skip
    have g11 := i_nlt h8
    have li12 : (4500 : Int32).toInt = 4500 := rfl
    refine zd (fun h13 => ?_) (fun h13 => ?_)
    · skip
      have g14 := i_le h13
      have li15 : (-1 : Int32).toInt = -1 := rfl
      exact K ((-1 : Int32)) _ hI trivial (show xB S R from by first | (exact (xC_o (W := 75) hpre0).2)) (show aS W S = ab from by first | (exact (xC_o (W := W) hpre0).1.trans hpre1)) (show (-1 : Int32) = aWo ab y.toNatClampNeg i from by first | (have ty := xB_th (W := W) hpre0 hpre3; have e4 := ty.2.2.2.2.2.1; rw [hpre1] at e4; exact (if_neg (by rw [← e4]; omega)).symm)) (show kC S = kk from by first | (exact (xK_o (W := W) hpre0 hpre4).2))
    · skip
      have g16 := i_nle h13
      refine ⟨i_ix (by omega) (by omega), ?_⟩
      have b17 := i_bd (mI S 71 (((mI S t 4) + (1 : Int32)) + i).toNatClampNeg)
      exact K ((mI S 71 (((mI S t 4) + (1 : Int32)) + i).toNatClampNeg)) _ hI trivial (show xB S R from by first | (exact (xC_o (W := 75) hpre0).2)) (show aS W S = ab from by first | (exact (xC_o (W := W) hpre0).1.trans hpre1)) (show (mI S 71 (((mI S t 4) + (1 : Int32)) + i).toNatClampNeg) = aWo ab y.toNatClampNeg i from by first | (have ty := xB_th (W := W) hpre0 hpre3; have e4 := ty.2.2.2.2.2.1; rw [hpre1] at e4; refine Eq.trans ?_ (if_pos ⟨by rw [← e4]; omega, by rw [← e4]; omega⟩).symm; rw [← hpre1, (aS_I (W := W) (S := S) (c := 71) (c₉ := 71)  rfl (zcw_s (by decide))), hpre1, ← e4])) (show kC S = kk from by first | (exact (xK_o (W := W) hpre0 hpre4).2))

/-! from 95.m24 -/
/-! COUNTS, the class (written by wip/tools/gen20k.py) -/
theorem g_97_69_sk_0 {X : Nat × (Nat → Int32)} {d w : Nat} {S : ma_S} {Q : Option ma_V ⊕ Nat → ma_S → Prop} (t : Nat) (x : Int32) (hd : 0 ≤ d) (hw : 0 ≤ w) (hS : zT S) (h : (126 ≤ t ∧ t < mN S) ∧ ((126 ≤ t ∧ t < mN S) ∧ ((126 ≤ t ∧ t < mN (ma_put S t 7 (.inl ((mI S t 7) + x)))) ∧ ((126 ≤ t ∧ t < mN (ma_put S t 7 (.inl ((mI S t 7) + x)))) ∧ (Q (.inl none) (ma_put (ma_put S t 7 (.inl ((mI S t 7) + x))) t 6 (.inl ((mI (ma_put S t 7 (.inl ((mI S t 7) + x))) t 6) + x)))))))) : ma_wp X d w 97 0 [(0, .inr (.inr (some 69))), (1, .inr (.inr (some t))), (2, .inl x)] [] S Q := by
  refine zw_push hm_97 dX7_changeHolds_0 (v := .inr (.inr (some t))) rfl ?_
  refine zw_stk hm_97 dX7_changeHolds_1 (st₉ := [.inr (.inr (some t)), .inr (.inr (some t))]) rfl rfl ?_
  obtain ⟨hg, h⟩ := h
  refine zw_gf hm_97 dX7_changeHolds_2 (v := .inl (mI S t 7)) (zT_tis hS hg) (zT_tt hS hg) rfl f_7_101_9 rfl ?_
  refine zw_push hm_97 dX7_changeHolds_5 (v := .inl x) rfl ?_
  refine zw_stk hm_97 dX7_changeHolds_6 (st₉ := [.inl ((mI S t 7) + x), .inr (.inr (some t))]) rfl rfl ?_
  obtain ⟨hg, h⟩ := h
  refine zw_pf hm_97 dX7_changeHolds_7 (zT_tis hS hg) (zT_tt hS hg) p_7_101_9 zk_int ?_
  refine zw_push hm_97 dX7_changeHolds_10 (v := .inr (.inr (some t))) rfl ?_
  refine zw_stk hm_97 dX7_changeHolds_11 (st₉ := [.inr (.inr (some t)), .inr (.inr (some t))]) rfl rfl ?_
  obtain ⟨hg, h⟩ := h
  refine zw_gf hm_97 dX7_changeHolds_12 (v := .inl (mI (ma_put S t 7 (.inl ((mI S t 7) + x))) t 6)) (zT_tis (zT_pi hS) hg) (zT_tt (zT_pi hS) hg) rfl f_7_98_9 rfl ?_
  refine zw_push hm_97 dX7_changeHolds_15 (v := .inl x) rfl ?_
  refine zw_stk hm_97 dX7_changeHolds_16 (st₉ := [.inl ((mI (ma_put S t 7 (.inl ((mI S t 7) + x))) t 6) + x), .inr (.inr (some t))]) rfl rfl ?_
  obtain ⟨hg, h⟩ := h
  refine zw_pf hm_97 dX7_changeHolds_17 (zT_tis (zT_pi hS) hg) (zT_tt (zT_pi hS) hg) p_7_98_9 zk_int ?_
  exact zw_vret hm_97 dX7_changeHolds_20 h
theorem sp_97_69_sk {X : Nat × (Nat → Int32)} {d w : Nat} {f : Nat → Nat → Int32} {r : Nat → Nat → Option Nat} {C Z N : Nat} {Q : Option ma_V ⊕ Nat → ma_S → Prop} {ab : Nat→Nat→Int32} {R : zRT} {W : Nat} {kk : Nat→Int32} {y : Int32} {S : ma_S} (t : Nat) (x : Int32) (hd : 0 ≤ d) (hw : 0 ≤ w) (hI : zI f r C Z N S) (th_t : 126 ≤ t ∧ t < N) (hpre0 : xB S R) (hpre1 : aS W S = ab) (hpre2 : xW W) (hpre3 : zTa R y = some t) (hpre4 : kC S = kk) (K : ∀ S₉, zI f r C Z N S₉ → (xB S₉ R) → (aS W S₉ = ma_u ab 133 y.toNatClampNeg (ab 133 y.toNatClampNeg + x)) → (∀ n, kC S₉ n = kk n + (if n = y.toNatClampNeg then x else 0)) → Q (.inl none) S₉) : ma_wp X d w 97 0 [(0, .inr (.inr (some 69))), (1, .inr (.inr (some t))), (2, .inl x)] [] S Q := by
  refine g_97_69_sk_0 t x (by omega) (by omega) (zG_T hI) ?_
  refine ⟨zG_n hI th_t, ?_⟩
  refine ⟨zG_n hI th_t, ?_⟩
  have hI1 : zI f r C Z N (ma_put S t 7 (.inl ((mI S t 7) + x))) := zG_tf hI th_t.1 zI_t (by decide) (by decide) trivial (by decide) (by decide) (by decide)
  refine ⟨zG_n hI1 th_t, ?_⟩
  refine ⟨zG_n hI1 th_t, ?_⟩
  have hI2 : zI f r C Z N (ma_put (ma_put S t 7 (.inl ((mI S t 7) + x))) t 6 (.inl ((mI (ma_put S t 7 (.inl ((mI S t 7) + x))) t 6) + x))) := zG_tf hI1 th_t.1 zI_t (by decide) (by decide) trivial (by decide) (by decide) (by decide)
  exact K _ hI2 (show xB (ma_put (ma_put S t 7 (.inl ((mI S t 7) + x))) t 6 (.inl ((mI (ma_put S t 7 (.inl ((mI S t 7) + x))) t 6) + x))) R from by first | (exact (xC_6 (k := 6) (x := ((mI (ma_put S t 7 (.inl ((mI S t 7) + x))) t 6) + x)) (xC_t (k := 7) (x := ((mI S t 7) + x)) (xC_o (W := 75) hpre0) xW75 hpre3 rfl) xW75 th_t.1 rfl (by decide)).2)) (show aS W (ma_put (ma_put S t 7 (.inl ((mI S t 7) + x))) t 6 (.inl ((mI (ma_put S t 7 (.inl ((mI S t 7) + x))) t 6) + x))) = ma_u ab 133 y.toNatClampNeg (ab 133 y.toNatClampNeg + x) from by first | (have ty := xB_th (W := W) hpre0 hpre3; have e7 := ty.2.2.2.2.2.2.1; rw [hpre1] at e7; refine (xC_6 (k := 6) (x := ((mI (ma_put S t 7 (.inl ((mI S t 7) + x))) t 6) + x)) (xC_t (k := 7) (x := ((mI S t 7) + x)) (xC_o (W := W) hpre0) hpre2 hpre3 rfl) hpre2 th_t.1 rfl (by decide)).1.trans ?_; (try simp only [zp_i (c := 69) (c₉ := t) (k₉ := 6) th_t.1 (by decide), zp_i (c := 71) (c₉ := t) (k₉ := 6) th_t.1 (by decide), zp_i (c := 72) (c₉ := t) (k₉ := 6) th_t.1 (by decide), zp_i (c := 73) (c₉ := t) (k₉ := 6) th_t.1 (by decide), zp_i (c := 74) (c₉ := t) (k₉ := 6) th_t.1 (by decide), zp_i (c := 75) (c₉ := t) (k₉ := 6) th_t.1 (by decide), zp_i (c := 76) (c₉ := t) (k₉ := 6) th_t.1 (by decide), zp_i (c := 77) (c₉ := t) (k₉ := 6) th_t.1 (by decide), zp_i (c := 87) (c₉ := t) (k₉ := 6) th_t.1 (by decide), zp_i (c := 88) (c₉ := t) (k₉ := 6) th_t.1 (by decide), zp_i (c := 89) (c₉ := t) (k₉ := 6) th_t.1 (by decide), zp_i (c := 90) (c₉ := t) (k₉ := 6) th_t.1 (by decide), zp_f (k := 0) (c₉ := t) (k₉ := 6) (by decide), zp_f (k := 1) (c₉ := t) (k₉ := 6) (by decide), zp_f (k := 2) (c₉ := t) (k₉ := 6) (by decide), zp_f (k := 4) (c₉ := t) (k₉ := 6) (by decide), zp_f (k := 7) (c₉ := t) (k₉ := 6) (by decide), zp_f (k := 8) (c₉ := t) (k₉ := 6) (by decide), zp_i (c := 69) (c₉ := t) (k₉ := 7) th_t.1 (by decide), zp_i (c := 71) (c₉ := t) (k₉ := 7) th_t.1 (by decide), zp_i (c := 72) (c₉ := t) (k₉ := 7) th_t.1 (by decide), zp_i (c := 73) (c₉ := t) (k₉ := 7) th_t.1 (by decide), zp_i (c := 74) (c₉ := t) (k₉ := 7) th_t.1 (by decide), zp_i (c := 75) (c₉ := t) (k₉ := 7) th_t.1 (by decide), zp_i (c := 76) (c₉ := t) (k₉ := 7) th_t.1 (by decide), zp_i (c := 77) (c₉ := t) (k₉ := 7) th_t.1 (by decide), zp_i (c := 87) (c₉ := t) (k₉ := 7) th_t.1 (by decide), zp_i (c := 88) (c₉ := t) (k₉ := 7) th_t.1 (by decide), zp_i (c := 89) (c₉ := t) (k₉ := 7) th_t.1 (by decide), zp_i (c := 90) (c₉ := t) (k₉ := 7) th_t.1 (by decide), zp_f (k := 0) (c₉ := t) (k₉ := 7) (by decide), zp_f (k := 1) (c₉ := t) (k₉ := 7) (by decide), zp_f (k := 2) (c₉ := t) (k₉ := 7) (by decide), zp_f (k := 4) (c₉ := t) (k₉ := 7) (by decide), zp_f (k := 8) (c₉ := t) (k₉ := 7) (by decide)]); rw [hpre1, e7])) (show ∀ n, kC (ma_put (ma_put S t 7 (.inl ((mI S t 7) + x))) t 6 (.inl ((mI (ma_put S t 7 (.inl ((mI S t 7) + x))) t 6) + x))) n = kk n + (if n = y.toNatClampNeg then x else 0) from by first | (intro n; refine (congrFun (xK_6 (x := ((mI (ma_put S t 7 (.inl ((mI S t 7) + x))) t 6) + x)) (xK_t (k := 7) (x := ((mI S t 7) + x)) (xK_o (W := W) hpre0 hpre4) hpre2 hpre3 rfl (by decide)) hpre2 hpre3 th_t.1).2 n).trans ?_; have k61 := xK_y (xK_t (k := 7) (x := ((mI S t 7) + x)) (xK_o (W := W) hpre0 hpre4) hpre2 hpre3 rfl (by decide)) hpre3; rw [k61]; exact KU_x))

/-! from 95.m25 -/
/-! COUNTS, the class (written by wip/tools/gen20k.py) -/
theorem g_92_69_sk_0 {X : Nat × (Nat → Int32)} {d w : Nat} {S : ma_S} {Q : Option ma_V ⊕ Nat → ma_S → Prop} (i : Int32) (x : Option Nat) (hd : 1 ≤ d) (hw : 21 ≤ w) (hS : zT S) (h : if i < 0 then (Q (.inl (some (.inr (.inr none)))) S) else (if i < (16 : Int32) then ((0 ≤ i ∧ i.toNatClampNeg < 16) ∧ (if (mI S 72 i.toNatClampNeg) < 0 then ((x = none → (0 ≤ i ∧ i.toNatClampNeg < 16) ∧ (ma_wp X (d - 1) (w - 21) 93 0 [(0, .inr (.inr none)), (1, .inr (.inr none))] [] (ma_put S 72 i.toNatClampNeg (.inl (-1 : Int32))) (zv (fun S2 => zT S2 ∧ (Q (.inl (some (.inr (.inr none)))) S2)) (fun _ _ => False)))) ∧ (∀ c1, x = some c1 → (126 ≤ c1 ∧ c1 < mN S) ∧ ((0 ≤ i ∧ i.toNatClampNeg < 16) ∧ (ma_wp X (d - 1) (w - 21) 93 0 [(0, .inr (.inr none)), (1, .inr (.inr (some c1)))] [] (ma_put S 72 i.toNatClampNeg (.inl (mI S c1 0))) (zv (fun S4 => zT S4 ∧ (Q (.inl (some (.inr (.inr none)))) S4)) (fun _ _ => False)))))) else (if (512 : Int32) ≤ (mI S 72 i.toNatClampNeg) then ((x = none → (0 ≤ i ∧ i.toNatClampNeg < 16) ∧ (ma_wp X (d - 1) (w - 21) 93 0 [(0, .inr (.inr none)), (1, .inr (.inr none))] [] (ma_put S 72 i.toNatClampNeg (.inl (-1 : Int32))) (zv (fun S7 => zT S7 ∧ (Q (.inl (some (.inr (.inr none)))) S7)) (fun _ _ => False)))) ∧ (∀ c6, x = some c6 → (126 ≤ c6 ∧ c6 < mN S) ∧ ((0 ≤ i ∧ i.toNatClampNeg < 16) ∧ (ma_wp X (d - 1) (w - 21) 93 0 [(0, .inr (.inr none)), (1, .inr (.inr (some c6)))] [] (ma_put S 72 i.toNatClampNeg (.inl (mI S c6 0))) (zv (fun S9 => zT S9 ∧ (Q (.inl (some (.inr (.inr none)))) S9)) (fun _ _ => False)))))) else ((0 ≤ (mI S 72 i.toNatClampNeg) ∧ (mI S 72 i.toNatClampNeg).toNatClampNeg < 512) ∧ ((x = none → (0 ≤ i ∧ i.toNatClampNeg < 16) ∧ (ma_wp X (d - 1) (w - 21) 93 0 [(0, .inr (.inr (mR S 70 (mI S 72 i.toNatClampNeg).toNatClampNeg))), (1, .inr (.inr none))] [] (ma_put S 72 i.toNatClampNeg (.inl (-1 : Int32))) (zv (fun S12 => zT S12 ∧ (Q (.inl (some (.inr (.inr (mR S 70 (mI S 72 i.toNatClampNeg).toNatClampNeg))))) S12)) (fun _ _ => False)))) ∧ (∀ c11, x = some c11 → (126 ≤ c11 ∧ c11 < mN S) ∧ ((0 ≤ i ∧ i.toNatClampNeg < 16) ∧ (ma_wp X (d - 1) (w - 21) 93 0 [(0, .inr (.inr (mR S 70 (mI S 72 i.toNatClampNeg).toNatClampNeg))), (1, .inr (.inr (some c11)))] [] (ma_put S 72 i.toNatClampNeg (.inl (mI S c11 0))) (zv (fun S14 => zT S14 ∧ (Q (.inl (some (.inr (.inr (mR S 70 (mI S 72 i.toNatClampNeg).toNatClampNeg))))) S14)) (fun _ _ => False)))))))))) else (Q (.inl (some (.inr (.inr none)))) S))) : ma_wp X d w 92 0 [(0, .inr (.inr (some 69))), (1, .inl i), (2, .inr (.inr x))] [] S Q := by
  refine zw_push hm_92 dX7_changeRoot_0 (v := .inl i) rfl ?_
  refine zw_if0 hm_92 dX7_changeRoot_1 (t := 10) rfl zc0_lt ?_ ?_
  · intro hc
    rw [if_pos hc] at h
    refine zw_push hm_92 dX7_changeRoot_10 (v := .inr (.inr none)) rfl ?_
    exact zw_aret hm_92 dX7_changeRoot_11 h
  · intro hc
    rw [if_neg hc] at h
    refine zw_push hm_92 dX7_changeRoot_4 (v := .inl i) rfl ?_
    refine zw_push hm_92 dX7_changeRoot_5 (v := .inl (16 : Int32)) rfl ?_
    refine zw_if2 hm_92 dX7_changeRoot_7 (t := 12) rfl zc2_lt ?_ ?_
    · intro hc
      rw [if_pos hc] at h
      refine zw_push hm_92 dX7_changeRoot_12 (v := .inr (.inr (some 69))) rfl ?_
      refine zw_push hm_92 dX7_changeRoot_13 (v := .inr (.inr (some 69))) rfl ?_
      refine zw_gf hm_92 dX7_changeRoot_14 (v := .inr (.inr (some 72))) (zT_is hS s_69) (zT_t hS s_69) rfl f_7_21_7 (zT_f hS r_69_2) ?_
      refine zw_push hm_92 dX7_changeRoot_17 (v := .inl i) rfl ?_
      obtain ⟨hg, h⟩ := h
      refine zw_ia hm_92 dX7_changeRoot_18 (zT_is hS s_72) (zT_h hS s_72) rfl hg ?_
      show ma_wp X d w 92 19 [(0, .inr (.inr (some 69))), (1, .inl i), (2, .inr (.inr x))] [.inl (mI S 72 i.toNatClampNeg), .inr (.inr (some 69))] S _
      refine zw_cv hm_92 dX7_changeRoot_19 v_7_94_7 hm_81 [.inl (mI S 72 i.toNatClampNeg)] [] rfl (zT_rt hS s_69 rfl) ⟨by omega, by omega⟩ rfl ?_
      show ma_wp X (d - 1) (w - 21) 81 0 [(0, .inr (.inr (some 69))), (1, .inl (mI S 72 i.toNatClampNeg))] [] S _
      refine zw_push hm_81 dX7_thingAt_0 (v := .inl (mI S 72 i.toNatClampNeg)) rfl ?_
      refine zw_if0 hm_81 dX7_thingAt_1 (t := 20) rfl zc0_lt ?_ ?_
      · intro hc
        rw [if_pos hc] at h
        refine zw_push hm_81 dX7_thingAt_20 (v := .inr (.inr none)) rfl ?_
        refine zw_aret hm_81 dX7_thingAt_21 ?_
        show ma_wp X d w 92 22 [(0, .inr (.inr (some 69))), (1, .inl i), (2, .inr (.inr x))] [.inr (.inr none)] S _
        refine zw_sto hm_92 dX7_changeRoot_22 [(3, .inr (.inr none)), (0, .inr (.inr (some 69))), (1, .inl i), (2, .inr (.inr x))] rfl rfl rfl ?_
        refine zw_push hm_92 dX7_changeRoot_23 (v := .inr (.inr (some 69))) rfl ?_
        refine zw_gf hm_92 dX7_changeRoot_24 (v := .inr (.inr (some 72))) (zT_is hS s_69) (zT_t hS s_69) rfl f_7_21_7 (zT_f hS r_69_2) ?_
        refine zw_push hm_92 dX7_changeRoot_27 (v := .inl i) rfl ?_
        refine zw_push hm_92 dX7_changeRoot_28 (v := .inr (.inr x)) rfl ?_
        refine zw_cs hm_92 dX7_changeRoot_29 pn_7_82 sl_7_82 hm_146 [.inr (.inr x)] [.inl i, .inr (.inr (some 72))] rfl ⟨by omega, by omega⟩ rfl ?_
        show ma_wp X (d - 1) (w - 20) 146 0 [(0, .inr (.inr x))] [] S _
        refine zw_push hm_146 dX11_numberOf_0 (v := .inr (.inr x)) rfl ?_
        refine zw_ifnonnull hm_146 dX11_numberOf_1 (t := 8) rfl ?_ ?_
        · intro hc
          have h := h.1 hc
          (try rw [hc])
          show ma_wp X (d - 1) (w - 20) 146 4 [(0, .inr (.inr none))] [] S _
          refine zw_push hm_146 dX11_numberOf_4 (v := .inl (-1 : Int32)) rfl ?_
          refine zw_goto hm_146 dX11_numberOf_5 (t := 12) rfl ?_
          refine zw_iret hm_146 dX11_numberOf_12 ?_
          show ma_wp X d w 92 32 [(3, .inr (.inr none)), (0, .inr (.inr (some 69))), (1, .inl i), (2, .inr (.inr none))] [.inl (-1 : Int32), .inl i, .inr (.inr (some 72))] S _
          obtain ⟨hg, h⟩ := h
          refine zw_ias hm_92 dX7_changeRoot_32 (zT_is hS s_72) (zT_h hS s_72) rfl hg ?_
          refine zw_push hm_92 dX7_changeRoot_33 (v := .inr (.inr none)) rfl ?_
          refine zw_push hm_92 dX7_changeRoot_34 (v := .inr (.inr none)) rfl ?_
          refine zw_cs hm_92 dX7_changeRoot_35 pn_7_90 sl_7_90 hm_93 [.inr (.inr none), .inr (.inr none)] [] rfl ⟨by omega, by omega⟩ rfl (zw_mono h (zv_go ?_ ?_))
          · intro S2 hv
            obtain ⟨hS2, h⟩ := hv
            refine zw_push hm_92 dX7_changeRoot_38 (v := .inr (.inr none)) rfl ?_
            exact zw_aret hm_92 dX7_changeRoot_39 h
          · intro x S9 hx
            exact hx.elim
        · intro c1 hc
          have h := h.2 c1 hc
          (try rw [hc])
          show ma_wp X (d - 1) (w - 20) 146 8 [(0, .inr (.inr (some c1)))] [] S _
          refine zw_push hm_146 dX11_numberOf_8 (v := .inr (.inr (some c1))) rfl ?_
          obtain ⟨hg, h⟩ := h
          refine zw_gf hm_146 dX11_numberOf_9 (v := .inl (mI S c1 0)) (zT_tis hS hg) (zT_tt hS hg) rfl f_11_182_9 rfl ?_
          refine zw_iret hm_146 dX11_numberOf_12 ?_
          show ma_wp X d w 92 32 [(3, .inr (.inr none)), (0, .inr (.inr (some 69))), (1, .inl i), (2, .inr (.inr (some c1)))] [.inl (mI S c1 0), .inl i, .inr (.inr (some 72))] S _
          obtain ⟨hg, h⟩ := h
          refine zw_ias hm_92 dX7_changeRoot_32 (zT_is hS s_72) (zT_h hS s_72) rfl hg ?_
          refine zw_push hm_92 dX7_changeRoot_33 (v := .inr (.inr none)) rfl ?_
          refine zw_push hm_92 dX7_changeRoot_34 (v := .inr (.inr (some c1))) rfl ?_
          refine zw_cs hm_92 dX7_changeRoot_35 pn_7_90 sl_7_90 hm_93 [.inr (.inr (some c1)), .inr (.inr none)] [] rfl ⟨by omega, by omega⟩ rfl (zw_mono h (zv_go ?_ ?_))
          · intro S4 hv
            obtain ⟨hS4, h⟩ := hv
            refine zw_push hm_92 dX7_changeRoot_38 (v := .inr (.inr none)) rfl ?_
            exact zw_aret hm_92 dX7_changeRoot_39 h
          · intro x S9 hx
            exact hx.elim
      · intro hc
        rw [if_neg hc] at h
        refine zw_push hm_81 dX7_thingAt_4 (v := .inl (mI S 72 i.toNatClampNeg)) rfl ?_
        refine zw_push hm_81 dX7_thingAt_5 (v := .inl (512 : Int32)) rfl ?_
        refine zw_if2 hm_81 dX7_thingAt_8 (t := 20) rfl zc2_ge ?_ ?_
        · intro hc
          rw [if_pos hc] at h
          refine zw_push hm_81 dX7_thingAt_20 (v := .inr (.inr none)) rfl ?_
          refine zw_aret hm_81 dX7_thingAt_21 ?_
          show ma_wp X d w 92 22 [(0, .inr (.inr (some 69))), (1, .inl i), (2, .inr (.inr x))] [.inr (.inr none)] S _
          refine zw_sto hm_92 dX7_changeRoot_22 [(3, .inr (.inr none)), (0, .inr (.inr (some 69))), (1, .inl i), (2, .inr (.inr x))] rfl rfl rfl ?_
          refine zw_push hm_92 dX7_changeRoot_23 (v := .inr (.inr (some 69))) rfl ?_
          refine zw_gf hm_92 dX7_changeRoot_24 (v := .inr (.inr (some 72))) (zT_is hS s_69) (zT_t hS s_69) rfl f_7_21_7 (zT_f hS r_69_2) ?_
          refine zw_push hm_92 dX7_changeRoot_27 (v := .inl i) rfl ?_
          refine zw_push hm_92 dX7_changeRoot_28 (v := .inr (.inr x)) rfl ?_
          refine zw_cs hm_92 dX7_changeRoot_29 pn_7_82 sl_7_82 hm_146 [.inr (.inr x)] [.inl i, .inr (.inr (some 72))] rfl ⟨by omega, by omega⟩ rfl ?_
          show ma_wp X (d - 1) (w - 20) 146 0 [(0, .inr (.inr x))] [] S _
          refine zw_push hm_146 dX11_numberOf_0 (v := .inr (.inr x)) rfl ?_
          refine zw_ifnonnull hm_146 dX11_numberOf_1 (t := 8) rfl ?_ ?_
          · intro hc
            have h := h.1 hc
            (try rw [hc])
            show ma_wp X (d - 1) (w - 20) 146 4 [(0, .inr (.inr none))] [] S _
            refine zw_push hm_146 dX11_numberOf_4 (v := .inl (-1 : Int32)) rfl ?_
            refine zw_goto hm_146 dX11_numberOf_5 (t := 12) rfl ?_
            refine zw_iret hm_146 dX11_numberOf_12 ?_
            show ma_wp X d w 92 32 [(3, .inr (.inr none)), (0, .inr (.inr (some 69))), (1, .inl i), (2, .inr (.inr none))] [.inl (-1 : Int32), .inl i, .inr (.inr (some 72))] S _
            obtain ⟨hg, h⟩ := h
            refine zw_ias hm_92 dX7_changeRoot_32 (zT_is hS s_72) (zT_h hS s_72) rfl hg ?_
            refine zw_push hm_92 dX7_changeRoot_33 (v := .inr (.inr none)) rfl ?_
            refine zw_push hm_92 dX7_changeRoot_34 (v := .inr (.inr none)) rfl ?_
            refine zw_cs hm_92 dX7_changeRoot_35 pn_7_90 sl_7_90 hm_93 [.inr (.inr none), .inr (.inr none)] [] rfl ⟨by omega, by omega⟩ rfl (zw_mono h (zv_go ?_ ?_))
            · intro S7 hv
              obtain ⟨hS7, h⟩ := hv
              refine zw_push hm_92 dX7_changeRoot_38 (v := .inr (.inr none)) rfl ?_
              exact zw_aret hm_92 dX7_changeRoot_39 h
            · intro x S9 hx
              exact hx.elim
          · intro c6 hc
            have h := h.2 c6 hc
            (try rw [hc])
            show ma_wp X (d - 1) (w - 20) 146 8 [(0, .inr (.inr (some c6)))] [] S _
            refine zw_push hm_146 dX11_numberOf_8 (v := .inr (.inr (some c6))) rfl ?_
            obtain ⟨hg, h⟩ := h
            refine zw_gf hm_146 dX11_numberOf_9 (v := .inl (mI S c6 0)) (zT_tis hS hg) (zT_tt hS hg) rfl f_11_182_9 rfl ?_
            refine zw_iret hm_146 dX11_numberOf_12 ?_
            show ma_wp X d w 92 32 [(3, .inr (.inr none)), (0, .inr (.inr (some 69))), (1, .inl i), (2, .inr (.inr (some c6)))] [.inl (mI S c6 0), .inl i, .inr (.inr (some 72))] S _
            obtain ⟨hg, h⟩ := h
            refine zw_ias hm_92 dX7_changeRoot_32 (zT_is hS s_72) (zT_h hS s_72) rfl hg ?_
            refine zw_push hm_92 dX7_changeRoot_33 (v := .inr (.inr none)) rfl ?_
            refine zw_push hm_92 dX7_changeRoot_34 (v := .inr (.inr (some c6))) rfl ?_
            refine zw_cs hm_92 dX7_changeRoot_35 pn_7_90 sl_7_90 hm_93 [.inr (.inr (some c6)), .inr (.inr none)] [] rfl ⟨by omega, by omega⟩ rfl (zw_mono h (zv_go ?_ ?_))
            · intro S9 hv
              obtain ⟨hS9, h⟩ := hv
              refine zw_push hm_92 dX7_changeRoot_38 (v := .inr (.inr none)) rfl ?_
              exact zw_aret hm_92 dX7_changeRoot_39 h
            · intro x S9 hx
              exact hx.elim
        · intro hc
          rw [if_neg hc] at h
          refine zw_push hm_81 dX7_thingAt_11 (v := .inr (.inr (some 69))) rfl ?_
          refine zw_gf hm_81 dX7_thingAt_12 (v := .inr (.inr (some 70))) (zT_is hS s_69) (zT_t hS s_69) rfl f_7_11_7 (zT_f hS r_69_0) ?_
          refine zw_push hm_81 dX7_thingAt_15 (v := .inl (mI S 72 i.toNatClampNeg)) rfl ?_
          obtain ⟨hg, h⟩ := h
          refine zw_aa hm_81 dX7_thingAt_16 (zT_is hS s_70) (zT_h hS s_70) rfl rfl hg rfl ?_
          show ma_wp X (d - 1) (w - 21) 81 17 [(0, .inr (.inr (some 69))), (1, .inl (mI S 72 i.toNatClampNeg))] [.inr (.inr (mR S 70 (mI S 72 i.toNatClampNeg).toNatClampNeg))] S _
          refine zw_goto hm_81 dX7_thingAt_17 (t := 21) rfl ?_
          refine zw_aret hm_81 dX7_thingAt_21 ?_
          show ma_wp X d w 92 22 [(0, .inr (.inr (some 69))), (1, .inl i), (2, .inr (.inr x))] [.inr (.inr (mR S 70 (mI S 72 i.toNatClampNeg).toNatClampNeg))] S _
          refine zw_sto hm_92 dX7_changeRoot_22 [(3, .inr (.inr (mR S 70 (mI S 72 i.toNatClampNeg).toNatClampNeg))), (0, .inr (.inr (some 69))), (1, .inl i), (2, .inr (.inr x))] rfl rfl rfl ?_
          refine zw_push hm_92 dX7_changeRoot_23 (v := .inr (.inr (some 69))) rfl ?_
          refine zw_gf hm_92 dX7_changeRoot_24 (v := .inr (.inr (some 72))) (zT_is hS s_69) (zT_t hS s_69) rfl f_7_21_7 (zT_f hS r_69_2) ?_
          refine zw_push hm_92 dX7_changeRoot_27 (v := .inl i) rfl ?_
          refine zw_push hm_92 dX7_changeRoot_28 (v := .inr (.inr x)) rfl ?_
          refine zw_cs hm_92 dX7_changeRoot_29 pn_7_82 sl_7_82 hm_146 [.inr (.inr x)] [.inl i, .inr (.inr (some 72))] rfl ⟨by omega, by omega⟩ rfl ?_
          show ma_wp X (d - 1) (w - 20) 146 0 [(0, .inr (.inr x))] [] S _
          refine zw_push hm_146 dX11_numberOf_0 (v := .inr (.inr x)) rfl ?_
          refine zw_ifnonnull hm_146 dX11_numberOf_1 (t := 8) rfl ?_ ?_
          · intro hc
            have h := h.1 hc
            (try rw [hc])
            show ma_wp X (d - 1) (w - 20) 146 4 [(0, .inr (.inr none))] [] S _
            refine zw_push hm_146 dX11_numberOf_4 (v := .inl (-1 : Int32)) rfl ?_
            refine zw_goto hm_146 dX11_numberOf_5 (t := 12) rfl ?_
            refine zw_iret hm_146 dX11_numberOf_12 ?_
            show ma_wp X d w 92 32 [(3, .inr (.inr (mR S 70 (mI S 72 i.toNatClampNeg).toNatClampNeg))), (0, .inr (.inr (some 69))), (1, .inl i), (2, .inr (.inr none))] [.inl (-1 : Int32), .inl i, .inr (.inr (some 72))] S _
            obtain ⟨hg, h⟩ := h
            refine zw_ias hm_92 dX7_changeRoot_32 (zT_is hS s_72) (zT_h hS s_72) rfl hg ?_
            refine zw_push hm_92 dX7_changeRoot_33 (v := .inr (.inr (mR S 70 (mI S 72 i.toNatClampNeg).toNatClampNeg))) rfl ?_
            refine zw_push hm_92 dX7_changeRoot_34 (v := .inr (.inr none)) rfl ?_
            refine zw_cs hm_92 dX7_changeRoot_35 pn_7_90 sl_7_90 hm_93 [.inr (.inr none), .inr (.inr (mR S 70 (mI S 72 i.toNatClampNeg).toNatClampNeg))] [] rfl ⟨by omega, by omega⟩ rfl (zw_mono h (zv_go ?_ ?_))
            · intro S12 hv
              obtain ⟨hS12, h⟩ := hv
              refine zw_push hm_92 dX7_changeRoot_38 (v := .inr (.inr (mR S 70 (mI S 72 i.toNatClampNeg).toNatClampNeg))) rfl ?_
              exact zw_aret hm_92 dX7_changeRoot_39 h
            · intro x S9 hx
              exact hx.elim
          · intro c11 hc
            have h := h.2 c11 hc
            (try rw [hc])
            show ma_wp X (d - 1) (w - 20) 146 8 [(0, .inr (.inr (some c11)))] [] S _
            refine zw_push hm_146 dX11_numberOf_8 (v := .inr (.inr (some c11))) rfl ?_
            obtain ⟨hg, h⟩ := h
            refine zw_gf hm_146 dX11_numberOf_9 (v := .inl (mI S c11 0)) (zT_tis hS hg) (zT_tt hS hg) rfl f_11_182_9 rfl ?_
            refine zw_iret hm_146 dX11_numberOf_12 ?_
            show ma_wp X d w 92 32 [(3, .inr (.inr (mR S 70 (mI S 72 i.toNatClampNeg).toNatClampNeg))), (0, .inr (.inr (some 69))), (1, .inl i), (2, .inr (.inr (some c11)))] [.inl (mI S c11 0), .inl i, .inr (.inr (some 72))] S _
            obtain ⟨hg, h⟩ := h
            refine zw_ias hm_92 dX7_changeRoot_32 (zT_is hS s_72) (zT_h hS s_72) rfl hg ?_
            refine zw_push hm_92 dX7_changeRoot_33 (v := .inr (.inr (mR S 70 (mI S 72 i.toNatClampNeg).toNatClampNeg))) rfl ?_
            refine zw_push hm_92 dX7_changeRoot_34 (v := .inr (.inr (some c11))) rfl ?_
            refine zw_cs hm_92 dX7_changeRoot_35 pn_7_90 sl_7_90 hm_93 [.inr (.inr (some c11)), .inr (.inr (mR S 70 (mI S 72 i.toNatClampNeg).toNatClampNeg))] [] rfl ⟨by omega, by omega⟩ rfl (zw_mono h (zv_go ?_ ?_))
            · intro S14 hv
              obtain ⟨hS14, h⟩ := hv
              refine zw_push hm_92 dX7_changeRoot_38 (v := .inr (.inr (mR S 70 (mI S 72 i.toNatClampNeg).toNatClampNeg))) rfl ?_
              exact zw_aret hm_92 dX7_changeRoot_39 h
            · intro x S9 hx
              exact hx.elim
    · intro hc
      rw [if_neg hc] at h
      refine zw_push hm_92 dX7_changeRoot_10 (v := .inr (.inr none)) rfl ?_
      exact zw_aret hm_92 dX7_changeRoot_11 h
theorem sp_92_69_sk {X : Nat × (Nat → Int32)} {d w : Nat} {f : Nat → Nat → Int32} {r : Nat → Nat → Option Nat} {C Z N : Nat} {Q : Option ma_V ⊕ Nat → ma_S → Prop} {ab : Nat→Nat→Int32} {R : zRT} {W : Nat} {kk : Nat→Int32} {y : Int32} {n0 : Nat→Nat→Int32} {S : ma_S} (i : Int32) (x : Option Nat) (hd : 1 ≤ d) (hw : 21 ≤ w) (hI : zI f r C Z N S) (hq_x : ∀ c, x = some c → 126 ≤ c ∧ c < N) (hpre0 : xB S R) (hpre1 : aS W S = ab) (hpre2 : xW W) (hpre3 : x = zTa R y) (hpre4 : 0 ≤ i.toInt) (hpre5 : i.toInt ≤ 15) (hpre6 : kC S = kk) (hpre7 : zN0 S = n0) (K : ∀ v S₉, zI f r C Z N S₉ → (∀ c, v = some c → 126 ≤ c ∧ c < N) → (xB S₉ R) → (aS W S₉ = ma_u ab 72 i.toNatClampNeg (aNm ab y)) → (v = zTa R (ab 72 i.toNatClampNeg)) → (∀ n, xAl ab n → kC S₉ n = kk n + Int32.ofNat (cIs y n) - Int32.ofNat (cIs (ab 72 i.toNatClampNeg) n)) → (zN0 S₉ = n0) → Q (.inl (some (.inr (.inr v)))) S₉) : ma_wp X d w 92 0 [(0, .inr (.inr (some 69))), (1, .inl i), (2, .inr (.inr x))] [] S Q := by
  refine g_92_69_sk_0 i x (by omega) (by omega) (zG_T hI) ?_
  have b1 := i_bd i
  have li2 : (0 : Int32).toInt = 0 := rfl
  refine zd (fun h3 => ?_) (fun h3 => ?_)
  · skip
    have g4 := i_lt h3
    exact K (none) _ hI (fun _ z => by cases z) (show xB S R from by first | (exact (xC_o (W := 75) hpre0).2)) (show aS W S = ma_u ab 72 i.toNatClampNeg (aNm ab y) from by first | (exfalso; omega)) (show none = zTa R (ab 72 i.toNatClampNeg) from by first | (exfalso; omega)) (show ∀ n, xAl ab n → kC S n = kk n + Int32.ofNat (cIs y n) - Int32.ofNat (cIs (ab 72 i.toNatClampNeg) n) from by first | (exfalso; omega)) (show zN0 S = n0 from by first | (exact hpre7))
  · skip
    have g5 := i_nlt h3
    have li6 : (16 : Int32).toInt = 16 := rfl
    refine zd (fun h7 => ?_) (fun h7 => ?_)
    · skip
      have g8 := i_lt h7
      refine ⟨i_ix (by omega) (by omega), ?_⟩
      have b9 := i_bd (mI S 72 i.toNatClampNeg)
      refine zd (fun h10 => ?_) (fun h10 => ?_)
      · skip
        have g11 := i_lt h10
        refine ⟨fun hc => ?_, fun c1 hc => ?_⟩
        · skip
          have rn_c1 : zTa R y = none := hpre3.symm.trans hc
          refine ⟨i_ix (by omega) (by omega), ?_⟩
          have hI12 : zI f r C Z N (ma_put S 72 i.toNatClampNeg (.inl (-1 : Int32))) := zG_fa hI rfl (by decide) (by decide) (by decide) trivial
          refine sp_93_sk (ab := (aS W (ma_put S 72 i.toNatClampNeg (.inl (-1 : Int32))))) (R := R) (W := W) (y1 := ((-1 : Int32))) (y2 := ((-1 : Int32))) (kk := (kC (ma_put S 72 i.toNatClampNeg (.inl (-1 : Int32))))) (n0 := n0) (none) (none) (by omega) (by omega) hI12 (fun _ z => by cases z) (fun _ z => by cases z) (show xB (ma_put S 72 i.toNatClampNeg (.inl (-1 : Int32))) R from by first | (exact (xC_p (c := 72) (k := i.toNatClampNeg) (x := (-1 : Int32)) (xC_o (W := 75) hpre0) 72 xW75 rfl rfl).2)) (show aS W (ma_put S 72 i.toNatClampNeg (.inl (-1 : Int32))) = (aS W (ma_put S 72 i.toNatClampNeg (.inl (-1 : Int32)))) from by first | (exact rfl)) (show xW W from by first | (exact hpre2) | (exact xW88) | (exact xW75)) (show none = zTa R ((-1 : Int32)) from by first | (exact ta_m1) | (exact ta_no (by omega))) (show none = zTa R ((-1 : Int32)) from by first | (exact ta_m1) | (exact ta_no (by omega))) (show kC (ma_put S 72 i.toNatClampNeg (.inl (-1 : Int32))) = (kC (ma_put S 72 i.toNatClampNeg (.inl (-1 : Int32)))) from by first | (exact rfl)) (show zN0 (ma_put S 72 i.toNatClampNeg (.inl (-1 : Int32))) = n0 from by first | (exact ((n0_p (c := 72) (by decide)).trans hpre7))) (fun S2 hI_S2 rp0_S2 rp1_S2 rp2_S2 rp3_S2 => zv_n ⟨zG_T hI_S2, ?_⟩)
          have rp0_S2 : xB S2 R := rp0_S2
          have rp1_S2 : aS W S2 = (aS W (ma_put S 72 i.toNatClampNeg (.inl (-1 : Int32)))) := rp1_S2
          have rp2_S2 : ∀ n, xAl (aS W (ma_put S 72 i.toNatClampNeg (.inl (-1 : Int32)))) n → kC S2 n = (kC (ma_put S 72 i.toNatClampNeg (.inl (-1 : Int32)))) n + Int32.ofNat (cIs ((-1 : Int32)) n) - Int32.ofNat (cIs ((-1 : Int32)) n) := rp2_S2
          have rp3_S2 : zN0 S2 = n0 := rp3_S2
          exact K (none) _ hI_S2 (fun _ z => by cases z) (show xB S2 R from by first | (exact (xC_o (W := 75) rp0_S2).2)) (show aS W S2 = ma_u ab 72 i.toNatClampNeg (aNm ab y) from by first | (have nn := (nm_n (W := W) hpre0 rn_c1); rw [hpre1] at nn; refine (rp1_S2.trans (xC_p (c := 72) (k := i.toNatClampNeg) (x := (-1 : Int32)) (xC_o (W := W) hpre0) 72 hpre2 rfl (zcw_s (by decide))).1).trans ?_; rw [hpre1]; rw [nn])) (show none = zTa R (ab 72 i.toNatClampNeg) from by first | (rw [← hpre1, (aS_I (W := W) (S := S) (c := 72) (c₉ := 72) (k := i.toNatClampNeg) rfl (zcw_s (by decide)))]; exact ta_no (by omega))) (show ∀ n, xAl ab n → kC S2 n = kk n + Int32.ofNat (cIs y n) - Int32.ofNat (cIs (ab 72 i.toNatClampNeg) n) from by first | (intro n hn; have q := rp2_S2 n (by rw [(xC_p (c := 72) (k := i.toNatClampNeg) (x := (-1 : Int32)) (xC_o (W := W) hpre0) 72 hpre2 rfl (zcw_s (by decide))).1]; unfold xAl; rw [xu_o (by omega)]; rw [hpre1]; exact hn); rw [congrFun (xK_p (c := 72) (k := i.toNatClampNeg) (x := (-1 : Int32)) (xK_o (W := W) hpre0 hpre6) 72 hpre2 rfl (zcw_s (by decide))).2 n] at q; have h1 : cIs (ab 72 i.toNatClampNeg) n = 0 := (by rw [← (show mI S 72 i.toNatClampNeg = ab 72 i.toNatClampNeg from (aS_I (W := W) (S := S) (c := 72) (c₉ := 72) (k := i.toNatClampNeg) rfl (zcw_s (by decide))).symm.trans (congrFun (congrFun hpre1 72) i.toNatClampNeg))]; exact cIs_r (by omega) hn.1); rw [h1]; rw [cIs_n (x := -1) (by decide) hn.1] at q; have h2 : cIs y n = 0 := is_no (W := W) hpre0 rn_c1 (by rw [hpre1]; exact hn); rw [h2]; exact q)) (show zN0 S2 = n0 from by first | (exact rp3_S2))
        · skip
          have th_c1 := hq_x c1 hc
          have rg_c1 : zTa R y = some c1 := hpre3.symm.trans hc
          subst hc
          refine ⟨zG_n hI th_c1, ?_⟩
          refine ⟨i_ix (by omega) (by omega), ?_⟩
          have hI13 : zI f r C Z N (ma_put S 72 i.toNatClampNeg (.inl (mI S c1 0))) := zG_fa hI rfl (by decide) (by decide) (by decide) trivial
          refine sp_93_sk (ab := (aS W (ma_put S 72 i.toNatClampNeg (.inl (mI S c1 0))))) (R := R) (W := W) (y1 := ((-1 : Int32))) (y2 := (y)) (kk := (kC (ma_put S 72 i.toNatClampNeg (.inl (mI S c1 0))))) (n0 := n0) (none) ((some c1)) (by omega) (by omega) hI13 (fun _ z => by cases z) (fun _ z => by cases z; exact th_c1) (show xB (ma_put S 72 i.toNatClampNeg (.inl (mI S c1 0))) R from by first | (exact (xC_p (c := 72) (k := i.toNatClampNeg) (x := (mI S c1 0)) (xC_o (W := 75) hpre0) 72 xW75 rfl rfl).2)) (show aS W (ma_put S 72 i.toNatClampNeg (.inl (mI S c1 0))) = (aS W (ma_put S 72 i.toNatClampNeg (.inl (mI S c1 0)))) from by first | (exact rfl)) (show xW W from by first | (exact hpre2) | (exact xW88) | (exact xW75)) (show none = zTa R ((-1 : Int32)) from by first | (exact ta_m1) | (exact ta_no (by omega))) (show (some c1) = zTa R (y) from by first | (exact rg_c1.symm)) (show kC (ma_put S 72 i.toNatClampNeg (.inl (mI S c1 0))) = (kC (ma_put S 72 i.toNatClampNeg (.inl (mI S c1 0)))) from by first | (exact rfl)) (show zN0 (ma_put S 72 i.toNatClampNeg (.inl (mI S c1 0))) = n0 from by first | (exact ((n0_p (c := 72) (by decide)).trans hpre7))) (fun S4 hI_S4 rp0_S4 rp1_S4 rp2_S4 rp3_S4 => zv_n ⟨zG_T hI_S4, ?_⟩)
          have rp0_S4 : xB S4 R := rp0_S4
          have rp1_S4 : aS W S4 = (aS W (ma_put S 72 i.toNatClampNeg (.inl (mI S c1 0)))) := rp1_S4
          have rp2_S4 : ∀ n, xAl (aS W (ma_put S 72 i.toNatClampNeg (.inl (mI S c1 0)))) n → kC S4 n = (kC (ma_put S 72 i.toNatClampNeg (.inl (mI S c1 0)))) n + Int32.ofNat (cIs (y) n) - Int32.ofNat (cIs ((-1 : Int32)) n) := rp2_S4
          have rp3_S4 : zN0 S4 = n0 := rp3_S4
          exact K (none) _ hI_S4 (fun _ z => by cases z) (show xB S4 R from by first | (exact (xC_o (W := 75) rp0_S4).2)) (show aS W S4 = ma_u ab 72 i.toNatClampNeg (aNm ab y) from by first | (have nn := (nm_y (W := W) hpre0 rg_c1); rw [hpre1] at nn; refine (rp1_S4.trans (xC_p (c := 72) (k := i.toNatClampNeg) (x := (mI S c1 0)) (xC_o (W := W) hpre0) 72 hpre2 rfl (zcw_s (by decide))).1).trans ?_; rw [hpre1]; have tn := (xB_th (W := W) hpre0 rg_c1).2.2.1; rw [tn]; rw [nn])) (show none = zTa R (ab 72 i.toNatClampNeg) from by first | (rw [← hpre1, (aS_I (W := W) (S := S) (c := 72) (c₉ := 72) (k := i.toNatClampNeg) rfl (zcw_s (by decide)))]; exact ta_no (by omega))) (show ∀ n, xAl ab n → kC S4 n = kk n + Int32.ofNat (cIs y n) - Int32.ofNat (cIs (ab 72 i.toNatClampNeg) n) from by first | (intro n hn; have q := rp2_S4 n (by rw [(xC_p (c := 72) (k := i.toNatClampNeg) (x := (mI S c1 0)) (xC_o (W := W) hpre0) 72 hpre2 rfl (zcw_s (by decide))).1]; unfold xAl; rw [xu_o (by omega)]; rw [hpre1]; exact hn); rw [congrFun (xK_p (c := 72) (k := i.toNatClampNeg) (x := (mI S c1 0)) (xK_o (W := W) hpre0 hpre6) 72 hpre2 rfl (zcw_s (by decide))).2 n] at q; have h1 : cIs (ab 72 i.toNatClampNeg) n = 0 := (by rw [← (show mI S 72 i.toNatClampNeg = ab 72 i.toNatClampNeg from (aS_I (W := W) (S := S) (c := 72) (c₉ := 72) (k := i.toNatClampNeg) rfl (zcw_s (by decide))).symm.trans (congrFun (congrFun hpre1 72) i.toNatClampNeg))]; exact cIs_r (by omega) hn.1); rw [h1]; rw [cIs_n (x := -1) (by decide) hn.1] at q; exact q)) (show zN0 S4 = n0 from by first | (exact rp3_S4))
      · skip
        have g14 := i_nlt h10
        have li15 : (512 : Int32).toInt = 512 := rfl
        refine zd (fun h16 => ?_) (fun h16 => ?_)
        · skip
          have g17 := i_le h16
          refine ⟨fun hc => ?_, fun c6 hc => ?_⟩
          · skip
            have rn_c6 : zTa R y = none := hpre3.symm.trans hc
            refine ⟨i_ix (by omega) (by omega), ?_⟩
            have hI18 : zI f r C Z N (ma_put S 72 i.toNatClampNeg (.inl (-1 : Int32))) := zG_fa hI rfl (by decide) (by decide) (by decide) trivial
            refine sp_93_sk (ab := (aS W (ma_put S 72 i.toNatClampNeg (.inl (-1 : Int32))))) (R := R) (W := W) (y1 := ((-1 : Int32))) (y2 := ((-1 : Int32))) (kk := (kC (ma_put S 72 i.toNatClampNeg (.inl (-1 : Int32))))) (n0 := n0) (none) (none) (by omega) (by omega) hI18 (fun _ z => by cases z) (fun _ z => by cases z) (show xB (ma_put S 72 i.toNatClampNeg (.inl (-1 : Int32))) R from by first | (exact (xC_p (c := 72) (k := i.toNatClampNeg) (x := (-1 : Int32)) (xC_o (W := 75) hpre0) 72 xW75 rfl rfl).2)) (show aS W (ma_put S 72 i.toNatClampNeg (.inl (-1 : Int32))) = (aS W (ma_put S 72 i.toNatClampNeg (.inl (-1 : Int32)))) from by first | (exact rfl)) (show xW W from by first | (exact hpre2) | (exact xW88) | (exact xW75)) (show none = zTa R ((-1 : Int32)) from by first | (exact ta_m1) | (exact ta_no (by omega))) (show none = zTa R ((-1 : Int32)) from by first | (exact ta_m1) | (exact ta_no (by omega))) (show kC (ma_put S 72 i.toNatClampNeg (.inl (-1 : Int32))) = (kC (ma_put S 72 i.toNatClampNeg (.inl (-1 : Int32)))) from by first | (exact rfl)) (show zN0 (ma_put S 72 i.toNatClampNeg (.inl (-1 : Int32))) = n0 from by first | (exact ((n0_p (c := 72) (by decide)).trans hpre7))) (fun S7 hI_S7 rp0_S7 rp1_S7 rp2_S7 rp3_S7 => zv_n ⟨zG_T hI_S7, ?_⟩)
            have rp0_S7 : xB S7 R := rp0_S7
            have rp1_S7 : aS W S7 = (aS W (ma_put S 72 i.toNatClampNeg (.inl (-1 : Int32)))) := rp1_S7
            have rp2_S7 : ∀ n, xAl (aS W (ma_put S 72 i.toNatClampNeg (.inl (-1 : Int32)))) n → kC S7 n = (kC (ma_put S 72 i.toNatClampNeg (.inl (-1 : Int32)))) n + Int32.ofNat (cIs ((-1 : Int32)) n) - Int32.ofNat (cIs ((-1 : Int32)) n) := rp2_S7
            have rp3_S7 : zN0 S7 = n0 := rp3_S7
            exact K (none) _ hI_S7 (fun _ z => by cases z) (show xB S7 R from by first | (exact (xC_o (W := 75) rp0_S7).2)) (show aS W S7 = ma_u ab 72 i.toNatClampNeg (aNm ab y) from by first | (have nn := (nm_n (W := W) hpre0 rn_c6); rw [hpre1] at nn; refine (rp1_S7.trans (xC_p (c := 72) (k := i.toNatClampNeg) (x := (-1 : Int32)) (xC_o (W := W) hpre0) 72 hpre2 rfl (zcw_s (by decide))).1).trans ?_; rw [hpre1]; rw [nn])) (show none = zTa R (ab 72 i.toNatClampNeg) from by first | (rw [← hpre1, (aS_I (W := W) (S := S) (c := 72) (c₉ := 72) (k := i.toNatClampNeg) rfl (zcw_s (by decide)))]; exact ta_no (by omega))) (show ∀ n, xAl ab n → kC S7 n = kk n + Int32.ofNat (cIs y n) - Int32.ofNat (cIs (ab 72 i.toNatClampNeg) n) from by first | (intro n hn; have q := rp2_S7 n (by rw [(xC_p (c := 72) (k := i.toNatClampNeg) (x := (-1 : Int32)) (xC_o (W := W) hpre0) 72 hpre2 rfl (zcw_s (by decide))).1]; unfold xAl; rw [xu_o (by omega)]; rw [hpre1]; exact hn); rw [congrFun (xK_p (c := 72) (k := i.toNatClampNeg) (x := (-1 : Int32)) (xK_o (W := W) hpre0 hpre6) 72 hpre2 rfl (zcw_s (by decide))).2 n] at q; have h1 : cIs (ab 72 i.toNatClampNeg) n = 0 := (by rw [← (show mI S 72 i.toNatClampNeg = ab 72 i.toNatClampNeg from (aS_I (W := W) (S := S) (c := 72) (c₉ := 72) (k := i.toNatClampNeg) rfl (zcw_s (by decide))).symm.trans (congrFun (congrFun hpre1 72) i.toNatClampNeg))]; exact cIs_r (by omega) hn.1); rw [h1]; rw [cIs_n (x := -1) (by decide) hn.1] at q; have h2 : cIs y n = 0 := is_no (W := W) hpre0 rn_c6 (by rw [hpre1]; exact hn); rw [h2]; exact q)) (show zN0 S7 = n0 from by first | (exact rp3_S7))
          · skip
            have th_c6 := hq_x c6 hc
            have rg_c6 : zTa R y = some c6 := hpre3.symm.trans hc
            subst hc
            refine ⟨zG_n hI th_c6, ?_⟩
            refine ⟨i_ix (by omega) (by omega), ?_⟩
            have hI19 : zI f r C Z N (ma_put S 72 i.toNatClampNeg (.inl (mI S c6 0))) := zG_fa hI rfl (by decide) (by decide) (by decide) trivial
            refine sp_93_sk (ab := (aS W (ma_put S 72 i.toNatClampNeg (.inl (mI S c6 0))))) (R := R) (W := W) (y1 := ((-1 : Int32))) (y2 := (y)) (kk := (kC (ma_put S 72 i.toNatClampNeg (.inl (mI S c6 0))))) (n0 := n0) (none) ((some c6)) (by omega) (by omega) hI19 (fun _ z => by cases z) (fun _ z => by cases z; exact th_c6) (show xB (ma_put S 72 i.toNatClampNeg (.inl (mI S c6 0))) R from by first | (exact (xC_p (c := 72) (k := i.toNatClampNeg) (x := (mI S c6 0)) (xC_o (W := 75) hpre0) 72 xW75 rfl rfl).2)) (show aS W (ma_put S 72 i.toNatClampNeg (.inl (mI S c6 0))) = (aS W (ma_put S 72 i.toNatClampNeg (.inl (mI S c6 0)))) from by first | (exact rfl)) (show xW W from by first | (exact hpre2) | (exact xW88) | (exact xW75)) (show none = zTa R ((-1 : Int32)) from by first | (exact ta_m1) | (exact ta_no (by omega))) (show (some c6) = zTa R (y) from by first | (exact rg_c6.symm)) (show kC (ma_put S 72 i.toNatClampNeg (.inl (mI S c6 0))) = (kC (ma_put S 72 i.toNatClampNeg (.inl (mI S c6 0)))) from by first | (exact rfl)) (show zN0 (ma_put S 72 i.toNatClampNeg (.inl (mI S c6 0))) = n0 from by first | (exact ((n0_p (c := 72) (by decide)).trans hpre7))) (fun S9 hI_S9 rp0_S9 rp1_S9 rp2_S9 rp3_S9 => zv_n ⟨zG_T hI_S9, ?_⟩)
            have rp0_S9 : xB S9 R := rp0_S9
            have rp1_S9 : aS W S9 = (aS W (ma_put S 72 i.toNatClampNeg (.inl (mI S c6 0)))) := rp1_S9
            have rp2_S9 : ∀ n, xAl (aS W (ma_put S 72 i.toNatClampNeg (.inl (mI S c6 0)))) n → kC S9 n = (kC (ma_put S 72 i.toNatClampNeg (.inl (mI S c6 0)))) n + Int32.ofNat (cIs (y) n) - Int32.ofNat (cIs ((-1 : Int32)) n) := rp2_S9
            have rp3_S9 : zN0 S9 = n0 := rp3_S9
            exact K (none) _ hI_S9 (fun _ z => by cases z) (show xB S9 R from by first | (exact (xC_o (W := 75) rp0_S9).2)) (show aS W S9 = ma_u ab 72 i.toNatClampNeg (aNm ab y) from by first | (have nn := (nm_y (W := W) hpre0 rg_c6); rw [hpre1] at nn; refine (rp1_S9.trans (xC_p (c := 72) (k := i.toNatClampNeg) (x := (mI S c6 0)) (xC_o (W := W) hpre0) 72 hpre2 rfl (zcw_s (by decide))).1).trans ?_; rw [hpre1]; have tn := (xB_th (W := W) hpre0 rg_c6).2.2.1; rw [tn]; rw [nn])) (show none = zTa R (ab 72 i.toNatClampNeg) from by first | (rw [← hpre1, (aS_I (W := W) (S := S) (c := 72) (c₉ := 72) (k := i.toNatClampNeg) rfl (zcw_s (by decide)))]; exact ta_no (by omega))) (show ∀ n, xAl ab n → kC S9 n = kk n + Int32.ofNat (cIs y n) - Int32.ofNat (cIs (ab 72 i.toNatClampNeg) n) from by first | (intro n hn; have q := rp2_S9 n (by rw [(xC_p (c := 72) (k := i.toNatClampNeg) (x := (mI S c6 0)) (xC_o (W := W) hpre0) 72 hpre2 rfl (zcw_s (by decide))).1]; unfold xAl; rw [xu_o (by omega)]; rw [hpre1]; exact hn); rw [congrFun (xK_p (c := 72) (k := i.toNatClampNeg) (x := (mI S c6 0)) (xK_o (W := W) hpre0 hpre6) 72 hpre2 rfl (zcw_s (by decide))).2 n] at q; have h1 : cIs (ab 72 i.toNatClampNeg) n = 0 := (by rw [← (show mI S 72 i.toNatClampNeg = ab 72 i.toNatClampNeg from (aS_I (W := W) (S := S) (c := 72) (c₉ := 72) (k := i.toNatClampNeg) rfl (zcw_s (by decide))).symm.trans (congrFun (congrFun hpre1 72) i.toNatClampNeg))]; exact cIs_r (by omega) hn.1); rw [h1]; rw [cIs_n (x := -1) (by decide) hn.1] at q; exact q)) (show zN0 S9 = n0 from by first | (exact rp3_S9))
        · skip
          have g20 := i_nle h16
          refine ⟨i_ix (by omega) (by omega), ?_⟩
          refine ⟨fun hc => ?_, fun c11 hc => ?_⟩
          · skip
            have rn_c11 : zTa R y = none := hpre3.symm.trans hc
            refine ⟨i_ix (by omega) (by omega), ?_⟩
            have hI21 : zI f r C Z N (ma_put S 72 i.toNatClampNeg (.inl (-1 : Int32))) := zG_fa hI rfl (by decide) (by decide) (by decide) trivial
            refine sp_93_sk (ab := (aS W (ma_put S 72 i.toNatClampNeg (.inl (-1 : Int32))))) (R := R) (W := W) (y1 := ((mI S 72 i.toNatClampNeg))) (y2 := ((-1 : Int32))) (kk := (kC (ma_put S 72 i.toNatClampNeg (.inl (-1 : Int32))))) (n0 := n0) ((mR S 70 (mI S 72 i.toNatClampNeg).toNatClampNeg)) (none) (by omega) (by omega) hI21 (fun _ z => zG_70 hI (c := 70) (by decide) z) (fun _ z => by cases z) (show xB (ma_put S 72 i.toNatClampNeg (.inl (-1 : Int32))) R from by first | (exact (xC_p (c := 72) (k := i.toNatClampNeg) (x := (-1 : Int32)) (xC_o (W := 75) hpre0) 72 xW75 rfl rfl).2)) (show aS W (ma_put S 72 i.toNatClampNeg (.inl (-1 : Int32))) = (aS W (ma_put S 72 i.toNatClampNeg (.inl (-1 : Int32)))) from by first | (exact rfl)) (show xW W from by first | (exact hpre2) | (exact xW88) | (exact xW75)) (show (mR S 70 (mI S 72 i.toNatClampNeg).toNatClampNeg) = zTa R ((mI S 72 i.toNatClampNeg)) from by first | (exact ta_rd hpre0 (by omega) (by omega))) (show none = zTa R ((-1 : Int32)) from by first | (exact ta_m1) | (exact ta_no (by omega))) (show kC (ma_put S 72 i.toNatClampNeg (.inl (-1 : Int32))) = (kC (ma_put S 72 i.toNatClampNeg (.inl (-1 : Int32)))) from by first | (exact rfl)) (show zN0 (ma_put S 72 i.toNatClampNeg (.inl (-1 : Int32))) = n0 from by first | (exact ((n0_p (c := 72) (by decide)).trans hpre7))) (fun S12 hI_S12 rp0_S12 rp1_S12 rp2_S12 rp3_S12 => zv_n ⟨zG_T hI_S12, ?_⟩)
            have rp0_S12 : xB S12 R := rp0_S12
            have rp1_S12 : aS W S12 = (aS W (ma_put S 72 i.toNatClampNeg (.inl (-1 : Int32)))) := rp1_S12
            have rp2_S12 : ∀ n, xAl (aS W (ma_put S 72 i.toNatClampNeg (.inl (-1 : Int32)))) n → kC S12 n = (kC (ma_put S 72 i.toNatClampNeg (.inl (-1 : Int32)))) n + Int32.ofNat (cIs ((-1 : Int32)) n) - Int32.ofNat (cIs ((mI S 72 i.toNatClampNeg)) n) := rp2_S12
            have rp3_S12 : zN0 S12 = n0 := rp3_S12
            exact K ((mR S 70 (mI S 72 i.toNatClampNeg).toNatClampNeg)) _ hI_S12 (fun _ z => zG_70 hI (c := 70) (by decide) z) (show xB S12 R from by first | (exact (xC_o (W := 75) rp0_S12).2)) (show aS W S12 = ma_u ab 72 i.toNatClampNeg (aNm ab y) from by first | (have nn := (nm_n (W := W) hpre0 rn_c11); rw [hpre1] at nn; refine (rp1_S12.trans (xC_p (c := 72) (k := i.toNatClampNeg) (x := (-1 : Int32)) (xC_o (W := W) hpre0) 72 hpre2 rfl (zcw_s (by decide))).1).trans ?_; rw [hpre1]; rw [nn])) (show (mR S 70 (mI S 72 i.toNatClampNeg).toNatClampNeg) = zTa R (ab 72 i.toNatClampNeg) from by first | (rw [← hpre1, (aS_I (W := W) (S := S) (c := 72) (c₉ := 72) (k := i.toNatClampNeg) rfl (zcw_s (by decide)))]; exact ta_rd hpre0 (by omega) (by omega))) (show ∀ n, xAl ab n → kC S12 n = kk n + Int32.ofNat (cIs y n) - Int32.ofNat (cIs (ab 72 i.toNatClampNeg) n) from by first | (intro n hn; have q := rp2_S12 n (by rw [(xC_p (c := 72) (k := i.toNatClampNeg) (x := (-1 : Int32)) (xC_o (W := W) hpre0) 72 hpre2 rfl (zcw_s (by decide))).1]; unfold xAl; rw [xu_o (by omega)]; rw [hpre1]; exact hn); rw [congrFun (xK_p (c := 72) (k := i.toNatClampNeg) (x := (-1 : Int32)) (xK_o (W := W) hpre0 hpre6) 72 hpre2 rfl (zcw_s (by decide))).2 n] at q; rw [(show mI S 72 i.toNatClampNeg = ab 72 i.toNatClampNeg from (aS_I (W := W) (S := S) (c := 72) (c₉ := 72) (k := i.toNatClampNeg) rfl (zcw_s (by decide))).symm.trans (congrFun (congrFun hpre1 72) i.toNatClampNeg))] at q; rw [cIs_n (x := -1) (by decide) hn.1] at q; have h2 : cIs y n = 0 := is_no (W := W) hpre0 rn_c11 (by rw [hpre1]; exact hn); rw [h2]; exact q)) (show zN0 S12 = n0 from by first | (exact rp3_S12))
          · skip
            have th_c11 := hq_x c11 hc
            have rg_c11 : zTa R y = some c11 := hpre3.symm.trans hc
            subst hc
            refine ⟨zG_n hI th_c11, ?_⟩
            refine ⟨i_ix (by omega) (by omega), ?_⟩
            have hI22 : zI f r C Z N (ma_put S 72 i.toNatClampNeg (.inl (mI S c11 0))) := zG_fa hI rfl (by decide) (by decide) (by decide) trivial
            refine sp_93_sk (ab := (aS W (ma_put S 72 i.toNatClampNeg (.inl (mI S c11 0))))) (R := R) (W := W) (y1 := ((mI S 72 i.toNatClampNeg))) (y2 := (y)) (kk := (kC (ma_put S 72 i.toNatClampNeg (.inl (mI S c11 0))))) (n0 := n0) ((mR S 70 (mI S 72 i.toNatClampNeg).toNatClampNeg)) ((some c11)) (by omega) (by omega) hI22 (fun _ z => zG_70 hI (c := 70) (by decide) z) (fun _ z => by cases z; exact th_c11) (show xB (ma_put S 72 i.toNatClampNeg (.inl (mI S c11 0))) R from by first | (exact (xC_p (c := 72) (k := i.toNatClampNeg) (x := (mI S c11 0)) (xC_o (W := 75) hpre0) 72 xW75 rfl rfl).2)) (show aS W (ma_put S 72 i.toNatClampNeg (.inl (mI S c11 0))) = (aS W (ma_put S 72 i.toNatClampNeg (.inl (mI S c11 0)))) from by first | (exact rfl)) (show xW W from by first | (exact hpre2) | (exact xW88) | (exact xW75)) (show (mR S 70 (mI S 72 i.toNatClampNeg).toNatClampNeg) = zTa R ((mI S 72 i.toNatClampNeg)) from by first | (exact ta_rd hpre0 (by omega) (by omega))) (show (some c11) = zTa R (y) from by first | (exact rg_c11.symm)) (show kC (ma_put S 72 i.toNatClampNeg (.inl (mI S c11 0))) = (kC (ma_put S 72 i.toNatClampNeg (.inl (mI S c11 0)))) from by first | (exact rfl)) (show zN0 (ma_put S 72 i.toNatClampNeg (.inl (mI S c11 0))) = n0 from by first | (exact ((n0_p (c := 72) (by decide)).trans hpre7))) (fun S14 hI_S14 rp0_S14 rp1_S14 rp2_S14 rp3_S14 => zv_n ⟨zG_T hI_S14, ?_⟩)
            have rp0_S14 : xB S14 R := rp0_S14
            have rp1_S14 : aS W S14 = (aS W (ma_put S 72 i.toNatClampNeg (.inl (mI S c11 0)))) := rp1_S14
            have rp2_S14 : ∀ n, xAl (aS W (ma_put S 72 i.toNatClampNeg (.inl (mI S c11 0)))) n → kC S14 n = (kC (ma_put S 72 i.toNatClampNeg (.inl (mI S c11 0)))) n + Int32.ofNat (cIs (y) n) - Int32.ofNat (cIs ((mI S 72 i.toNatClampNeg)) n) := rp2_S14
            have rp3_S14 : zN0 S14 = n0 := rp3_S14
            exact K ((mR S 70 (mI S 72 i.toNatClampNeg).toNatClampNeg)) _ hI_S14 (fun _ z => zG_70 hI (c := 70) (by decide) z) (show xB S14 R from by first | (exact (xC_o (W := 75) rp0_S14).2)) (show aS W S14 = ma_u ab 72 i.toNatClampNeg (aNm ab y) from by first | (have nn := (nm_y (W := W) hpre0 rg_c11); rw [hpre1] at nn; refine (rp1_S14.trans (xC_p (c := 72) (k := i.toNatClampNeg) (x := (mI S c11 0)) (xC_o (W := W) hpre0) 72 hpre2 rfl (zcw_s (by decide))).1).trans ?_; rw [hpre1]; have tn := (xB_th (W := W) hpre0 rg_c11).2.2.1; rw [tn]; rw [nn])) (show (mR S 70 (mI S 72 i.toNatClampNeg).toNatClampNeg) = zTa R (ab 72 i.toNatClampNeg) from by first | (rw [← hpre1, (aS_I (W := W) (S := S) (c := 72) (c₉ := 72) (k := i.toNatClampNeg) rfl (zcw_s (by decide)))]; exact ta_rd hpre0 (by omega) (by omega))) (show ∀ n, xAl ab n → kC S14 n = kk n + Int32.ofNat (cIs y n) - Int32.ofNat (cIs (ab 72 i.toNatClampNeg) n) from by first | (intro n hn; have q := rp2_S14 n (by rw [(xC_p (c := 72) (k := i.toNatClampNeg) (x := (mI S c11 0)) (xC_o (W := W) hpre0) 72 hpre2 rfl (zcw_s (by decide))).1]; unfold xAl; rw [xu_o (by omega)]; rw [hpre1]; exact hn); rw [congrFun (xK_p (c := 72) (k := i.toNatClampNeg) (x := (mI S c11 0)) (xK_o (W := W) hpre0 hpre6) 72 hpre2 rfl (zcw_s (by decide))).2 n] at q; rw [(show mI S 72 i.toNatClampNeg = ab 72 i.toNatClampNeg from (aS_I (W := W) (S := S) (c := 72) (c₉ := 72) (k := i.toNatClampNeg) rfl (zcw_s (by decide))).symm.trans (congrFun (congrFun hpre1 72) i.toNatClampNeg))] at q; exact q)) (show zN0 S14 = n0 from by first | (exact rp3_S14))
    · skip
      have g23 := i_nlt h7
      exact K (none) _ hI (fun _ z => by cases z) (show xB S R from by first | (exact (xC_o (W := 75) hpre0).2)) (show aS W S = ma_u ab 72 i.toNatClampNeg (aNm ab y) from by first | (exfalso; omega)) (show none = zTa R (ab 72 i.toNatClampNeg) from by first | (exfalso; omega)) (show ∀ n, xAl ab n → kC S n = kk n + Int32.ofNat (cIs y n) - Int32.ofNat (cIs (ab 72 i.toNatClampNeg) n) from by first | (exfalso; omega)) (show zN0 S = n0 from by first | (exact hpre7))

