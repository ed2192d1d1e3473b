/-! from 95.g05 -/
/-! the heap by numbers, the class (written by wip/tools/gen18.py) -/
theorem g_118_75_s_0 {X : Nat × (Nat → Int32)} {d w : Nat} {S : ma_S} {Q : Option ma_V ⊕ Nat → ma_S → Prop}  (hd : 1 ≤ d) (hw : 21 ≤ w) (hS : zT S) (h : ma_wp X d w 118 2 [(0, .inr (.inr (some 75))), (1, .inl (0 : Int32))] [] S Q) : ma_wp X d w 118 0 [(0, .inr (.inr (some 75)))] [] S Q := by
  refine zw_push hm_118 dX10_comeFromRoots_0 (v := .inl (0 : Int32)) rfl ?_
  refine zw_sto hm_118 dX10_comeFromRoots_1 [(1, .inl (0 : Int32)), (0, .inr (.inr (some 75)))] rfl rfl rfl ?_
  exact zw_sub (ma_nd_of (ks := [0, 1]) rfl (by decide)) (ma_nd_of (ks := [1, 0]) rfl (by decide)) (ma_le_cons rfl (ma_le_cons rfl (ma_le_nil _))) h
theorem g_118_75_s_2 {X : Nat × (Nat → Int32)} {d w : Nat} {S : ma_S} {Q : Option ma_V ⊕ Nat → ma_S → Prop} (l1 : Int32) (hd : 1 ≤ d) (hw : 21 ≤ w) (hS : zT S) (h : if (16 : Int32) ≤ l1 then (ma_wp X d w 118 36 [(0, .inr (.inr (some 75))), (1, .inl (0 : Int32))] [] S Q) else ((0 ≤ l1 ∧ l1.toNatClampNeg < 16) ∧ (if (mI S 72 l1.toNatClampNeg) < 0 then (ma_wp X (d - 1) (w - 21) 119 0 [(0, .inr (.inr (some 75))), (1, .inr (.inr none))] [] S (zv (fun S1 => zT S1 ∧ (ma_wp X d w 118 2 [(0, .inr (.inr (some 75))), (1, .inl (l1 + (1 : Int32)))] [] S1 Q)) (fun x S9 => Q (.inr x) S9))) else (if (512 : Int32) ≤ (mI S 72 l1.toNatClampNeg) then (ma_wp X (d - 1) (w - 21) 119 0 [(0, .inr (.inr (some 75))), (1, .inr (.inr none))] [] S (zv (fun S3 => zT S3 ∧ (ma_wp X d w 118 2 [(0, .inr (.inr (some 75))), (1, .inl (l1 + (1 : Int32)))] [] S3 Q)) (fun x S9 => Q (.inr x) S9))) else ((0 ≤ (mI S 72 l1.toNatClampNeg) ∧ (mI S 72 l1.toNatClampNeg).toNatClampNeg < 512) ∧ (ma_wp X (d - 1) (w - 21) 119 0 [(0, .inr (.inr (some 75))), (1, .inr (.inr (mR S 70 (mI S 72 l1.toNatClampNeg).toNatClampNeg)))] [] S (zv (fun S5 => zT S5 ∧ (ma_wp X d w 118 2 [(0, .inr (.inr (some 75))), (1, .inl (l1 + (1 : Int32)))] [] S5 Q)) (fun x S9 => Q (.inr x) S9)))))))) : ma_wp X d w 118 2 [(0, .inr (.inr (some 75))), (1, .inl l1)] [] S Q := by
  refine zw_push hm_118 dX10_comeFromRoots_2 (v := .inl l1) rfl ?_
  refine zw_push hm_118 dX10_comeFromRoots_3 (v := .inl (16 : Int32)) rfl ?_
  refine zw_if2 hm_118 dX10_comeFromRoots_5 (t := 34) rfl zc2_ge ?_ ?_
  · intro hc
    rw [if_pos hc] at h
    refine zw_push hm_118 dX10_comeFromRoots_34 (v := .inl (0 : Int32)) rfl ?_
    refine zw_sto hm_118 dX10_comeFromRoots_35 [(1, .inl (0 : Int32)), (0, .inr (.inr (some 75)))] rfl rfl rfl ?_
    exact zw_sub (ma_nd_of (ks := [0, 1]) rfl (by decide)) (ma_nd_of (ks := [1, 0]) rfl (by decide)) (ma_le_cons rfl (ma_le_cons rfl (ma_le_nil _))) h
  · intro hc
    rw [if_neg hc] at h
    refine zw_push hm_118 dX10_comeFromRoots_8 (v := .inr (.inr (some 75))) rfl ?_
    refine zw_push hm_118 dX10_comeFromRoots_9 (v := .inr (.inr (some 75))) rfl ?_
    refine zw_gf hm_118 dX10_comeFromRoots_10 (v := .inr (.inr (some 69))) (zT_is hS s_75) (zT_t hS s_75) rfl f_10_18_10 (zT_f hS r_75_0) ?_
    refine zw_push hm_118 dX10_comeFromRoots_13 (v := .inr (.inr (some 75))) rfl ?_
    refine zw_gf hm_118 dX10_comeFromRoots_14 (v := .inr (.inr (some 69))) (zT_is hS s_75) (zT_t hS s_75) rfl f_10_18_10 (zT_f hS r_75_0) ?_
    refine zw_gf hm_118 dX10_comeFromRoots_17 (v := .inr (.inr (some 72))) (zT_is hS s_69) (zT_t hS s_69) rfl f_10_61_7 (zT_f hS r_69_2) ?_
    refine zw_push hm_118 dX10_comeFromRoots_20 (v := .inl l1) rfl ?_
    obtain ⟨hg, h⟩ := h
    refine zw_ia hm_118 dX10_comeFromRoots_21 (zT_is hS s_72) (zT_h hS s_72) rfl hg ?_
    show ma_wp X d w 118 22 [(0, .inr (.inr (some 75))), (1, .inl l1)] [.inl (mI S 72 l1.toNatClampNeg), .inr (.inr (some 69)), .inr (.inr (some 75))] S _
    refine zw_cv hm_118 dX10_comeFromRoots_22 v_10_66_7 hm_81 [.inl (mI S 72 l1.toNatClampNeg)] [.inr (.inr (some 75))] rfl (zT_rt hS s_69 rfl) ⟨by omega, by omega⟩ rfl ?_
    show ma_wp X (d - 1) (w - 21) 81 0 [(0, .inr (.inr (some 69))), (1, .inl (mI S 72 l1.toNatClampNeg))] [] S _
    refine zw_push hm_81 dX7_thingAt_0 (v := .inl (mI S 72 l1.toNatClampNeg)) rfl ?_
    refine zw_if0 hm_81 dX7_thingAt_1 (t := 20) rfl zc0_lt ?_ ?_
    · intro hc
      rw [if_pos hc] at h
      refine zw_push hm_81 dX7_thingAt_20 (v := .inr (.inr none)) rfl ?_
      refine zw_aret hm_81 dX7_thingAt_21 ?_
      show ma_wp X d w 118 25 [(0, .inr (.inr (some 75))), (1, .inl l1)] [.inr (.inr none), .inr (.inr (some 75))] S _
      refine zw_cv hm_118 dX10_comeFromRoots_25 v_10_70_10 hm_119 [.inr (.inr none)] [] rfl (zT_rt hS s_75 rfl) ⟨by omega, by omega⟩ rfl (zw_mono h (zv_go ?_ ?_))
      · intro S1 hv
        obtain ⟨hS1, h⟩ := hv
        refine zw_sto hm_118 dX10_comeFromRoots_28 [(1, .inl (l1 + (1 : Int32))), (0, .inr (.inr (some 75)))] rfl rfl rfl ?_
        refine zw_goto hm_118 dX10_comeFromRoots_31 (t := 2) rfl ?_
        exact zw_sub (ma_nd_of (ks := [0, 1]) rfl (by decide)) (ma_nd_of (ks := [1, 0]) rfl (by decide)) (ma_le_cons rfl (ma_le_cons rfl (ma_le_nil _))) h
      · intro x S9 hx
        exact ⟨by decide, hx⟩
    · intro hc
      rw [if_neg hc] at h
      refine zw_push hm_81 dX7_thingAt_4 (v := .inl (mI S 72 l1.toNatClampNeg)) rfl ?_
      refine zw_push hm_81 dX7_thingAt_5 (v := .inl (512 : Int32)) rfl ?_
      refine zw_if2 hm_81 dX7_thingAt_8 (t := 20) rfl zc2_ge ?_ ?_
      · intro hc
        rw [if_pos hc] at h
        refine zw_push hm_81 dX7_thingAt_20 (v := .inr (.inr none)) rfl ?_
        refine zw_aret hm_81 dX7_thingAt_21 ?_
        show ma_wp X d w 118 25 [(0, .inr (.inr (some 75))), (1, .inl l1)] [.inr (.inr none), .inr (.inr (some 75))] S _
        refine zw_cv hm_118 dX10_comeFromRoots_25 v_10_70_10 hm_119 [.inr (.inr none)] [] rfl (zT_rt hS s_75 rfl) ⟨by omega, by omega⟩ rfl (zw_mono h (zv_go ?_ ?_))
        · intro S3 hv
          obtain ⟨hS3, h⟩ := hv
          refine zw_sto hm_118 dX10_comeFromRoots_28 [(1, .inl (l1 + (1 : Int32))), (0, .inr (.inr (some 75)))] rfl rfl rfl ?_
          refine zw_goto hm_118 dX10_comeFromRoots_31 (t := 2) rfl ?_
          exact zw_sub (ma_nd_of (ks := [0, 1]) rfl (by decide)) (ma_nd_of (ks := [1, 0]) rfl (by decide)) (ma_le_cons rfl (ma_le_cons rfl (ma_le_nil _))) h
        · intro x S9 hx
          exact ⟨by decide, hx⟩
      · intro hc
        rw [if_neg hc] at h
        refine zw_push hm_81 dX7_thingAt_11 (v := .inr (.inr (some 69))) rfl ?_
        refine zw_gf hm_81 dX7_thingAt_12 (v := .inr (.inr (some 70))) (zT_is hS s_69) (zT_t hS s_69) rfl f_7_11_7 (zT_f hS r_69_0) ?_
        refine zw_push hm_81 dX7_thingAt_15 (v := .inl (mI S 72 l1.toNatClampNeg)) rfl ?_
        obtain ⟨hg, h⟩ := h
        refine zw_aa hm_81 dX7_thingAt_16 (zT_is hS s_70) (zT_h hS s_70) rfl rfl hg rfl ?_
        show ma_wp X (d - 1) (w - 21) 81 17 [(0, .inr (.inr (some 69))), (1, .inl (mI S 72 l1.toNatClampNeg))] [.inr (.inr (mR S 70 (mI S 72 l1.toNatClampNeg).toNatClampNeg))] S _
        refine zw_goto hm_81 dX7_thingAt_17 (t := 21) rfl ?_
        refine zw_aret hm_81 dX7_thingAt_21 ?_
        show ma_wp X d w 118 25 [(0, .inr (.inr (some 75))), (1, .inl l1)] [.inr (.inr (mR S 70 (mI S 72 l1.toNatClampNeg).toNatClampNeg)), .inr (.inr (some 75))] S _
        refine zw_cv hm_118 dX10_comeFromRoots_25 v_10_70_10 hm_119 [.inr (.inr (mR S 70 (mI S 72 l1.toNatClampNeg).toNatClampNeg))] [] rfl (zT_rt hS s_75 rfl) ⟨by omega, by omega⟩ rfl (zw_mono h (zv_go ?_ ?_))
        · intro S5 hv
          obtain ⟨hS5, h⟩ := hv
          refine zw_sto hm_118 dX10_comeFromRoots_28 [(1, .inl (l1 + (1 : Int32))), (0, .inr (.inr (some 75)))] rfl rfl rfl ?_
          refine zw_goto hm_118 dX10_comeFromRoots_31 (t := 2) rfl ?_
          exact zw_sub (ma_nd_of (ks := [0, 1]) rfl (by decide)) (ma_nd_of (ks := [1, 0]) rfl (by decide)) (ma_le_cons rfl (ma_le_cons rfl (ma_le_nil _))) h
        · intro x S9 hx
          exact ⟨by decide, hx⟩
theorem g_118_75_s_36 {X : Nat × (Nat → Int32)} {d w : Nat} {S : ma_S} {Q : Option ma_V ⊕ Nat → ma_S → Prop} (l1 : Int32) (hd : 1 ≤ d) (hw : 21 ≤ w) (hS : zT S) (h : if (mI S 69 5) ≤ l1 then (ma_wp X d w 118 75 [(0, .inr (.inr (some 75))), (1, .inl (0 : Int32))] [] S Q) else ((0 ≤ l1 ∧ l1.toNatClampNeg < 512) ∧ (if (mI S 74 l1.toNatClampNeg) < 0 then (ma_wp X (d - 1) (w - 21) 119 0 [(0, .inr (.inr (some 75))), (1, .inr (.inr none))] [] S (zv (fun S1 => zT S1 ∧ (ma_wp X d w 118 36 [(0, .inr (.inr (some 75))), (1, .inl (l1 + (1 : Int32)))] [] S1 Q)) (fun x S9 => Q (.inr x) S9))) else (if (512 : Int32) ≤ (mI S 74 l1.toNatClampNeg) then (ma_wp X (d - 1) (w - 21) 119 0 [(0, .inr (.inr (some 75))), (1, .inr (.inr none))] [] S (zv (fun S3 => zT S3 ∧ (ma_wp X d w 118 36 [(0, .inr (.inr (some 75))), (1, .inl (l1 + (1 : Int32)))] [] S3 Q)) (fun x S9 => Q (.inr x) S9))) else ((0 ≤ (mI S 74 l1.toNatClampNeg) ∧ (mI S 74 l1.toNatClampNeg).toNatClampNeg < 512) ∧ (ma_wp X (d - 1) (w - 21) 119 0 [(0, .inr (.inr (some 75))), (1, .inr (.inr (mR S 70 (mI S 74 l1.toNatClampNeg).toNatClampNeg)))] [] S (zv (fun S5 => zT S5 ∧ (ma_wp X d w 118 36 [(0, .inr (.inr (some 75))), (1, .inl (l1 + (1 : Int32)))] [] S5 Q)) (fun x S9 => Q (.inr x) S9)))))))) : ma_wp X d w 118 36 [(0, .inr (.inr (some 75))), (1, .inl l1)] [] S Q := by
  refine zw_push hm_118 dX10_comeFromRoots_36 (v := .inl l1) rfl ?_
  refine zw_push hm_118 dX10_comeFromRoots_37 (v := .inr (.inr (some 75))) rfl ?_
  refine zw_gf hm_118 dX10_comeFromRoots_38 (v := .inr (.inr (some 69))) (zT_is hS s_75) (zT_t hS s_75) rfl f_10_18_10 (zT_f hS r_75_0) ?_
  refine zw_gf hm_118 dX10_comeFromRoots_41 (v := .inl (mI S 69 5)) (zT_is hS s_69) (zT_t hS s_69) rfl f_10_74_7 rfl ?_
  refine zw_if2 hm_118 dX10_comeFromRoots_44 (t := 73) rfl zc2_ge ?_ ?_
  · intro hc
    rw [if_pos hc] at h
    refine zw_push hm_118 dX10_comeFromRoots_73 (v := .inl (0 : Int32)) rfl ?_
    refine zw_sto hm_118 dX10_comeFromRoots_74 [(1, .inl (0 : Int32)), (0, .inr (.inr (some 75)))] rfl rfl rfl ?_
    exact zw_sub (ma_nd_of (ks := [0, 1]) rfl (by decide)) (ma_nd_of (ks := [1, 0]) rfl (by decide)) (ma_le_cons rfl (ma_le_cons rfl (ma_le_nil _))) h
  · intro hc
    rw [if_neg hc] at h
    refine zw_push hm_118 dX10_comeFromRoots_47 (v := .inr (.inr (some 75))) rfl ?_
    refine zw_push hm_118 dX10_comeFromRoots_48 (v := .inr (.inr (some 75))) rfl ?_
    refine zw_gf hm_118 dX10_comeFromRoots_49 (v := .inr (.inr (some 69))) (zT_is hS s_75) (zT_t hS s_75) rfl f_10_18_10 (zT_f hS r_75_0) ?_
    refine zw_push hm_118 dX10_comeFromRoots_52 (v := .inr (.inr (some 75))) rfl ?_
    refine zw_gf hm_118 dX10_comeFromRoots_53 (v := .inr (.inr (some 69))) (zT_is hS s_75) (zT_t hS s_75) rfl f_10_18_10 (zT_f hS r_75_0) ?_
    refine zw_gf hm_118 dX10_comeFromRoots_56 (v := .inr (.inr (some 74))) (zT_is hS s_69) (zT_t hS s_69) rfl f_10_77_7 (zT_f hS r_69_4) ?_
    refine zw_push hm_118 dX10_comeFromRoots_59 (v := .inl l1) rfl ?_
    obtain ⟨hg, h⟩ := h
    refine zw_ia hm_118 dX10_comeFromRoots_60 (zT_is hS s_74) (zT_h hS s_74) rfl hg ?_
    show ma_wp X d w 118 61 [(0, .inr (.inr (some 75))), (1, .inl l1)] [.inl (mI S 74 l1.toNatClampNeg), .inr (.inr (some 69)), .inr (.inr (some 75))] S _
    refine zw_cv hm_118 dX10_comeFromRoots_61 v_10_66_7 hm_81 [.inl (mI S 74 l1.toNatClampNeg)] [.inr (.inr (some 75))] rfl (zT_rt hS s_69 rfl) ⟨by omega, by omega⟩ rfl ?_
    show ma_wp X (d - 1) (w - 21) 81 0 [(0, .inr (.inr (some 69))), (1, .inl (mI S 74 l1.toNatClampNeg))] [] S _
    refine zw_push hm_81 dX7_thingAt_0 (v := .inl (mI S 74 l1.toNatClampNeg)) rfl ?_
    refine zw_if0 hm_81 dX7_thingAt_1 (t := 20) rfl zc0_lt ?_ ?_
    · intro hc
      rw [if_pos hc] at h
      refine zw_push hm_81 dX7_thingAt_20 (v := .inr (.inr none)) rfl ?_
      refine zw_aret hm_81 dX7_thingAt_21 ?_
      show ma_wp X d w 118 64 [(0, .inr (.inr (some 75))), (1, .inl l1)] [.inr (.inr none), .inr (.inr (some 75))] S _
      refine zw_cv hm_118 dX10_comeFromRoots_64 v_10_70_10 hm_119 [.inr (.inr none)] [] rfl (zT_rt hS s_75 rfl) ⟨by omega, by omega⟩ rfl (zw_mono h (zv_go ?_ ?_))
      · intro S1 hv
        obtain ⟨hS1, h⟩ := hv
        refine zw_sto hm_118 dX10_comeFromRoots_67 [(1, .inl (l1 + (1 : Int32))), (0, .inr (.inr (some 75)))] rfl rfl rfl ?_
        refine zw_goto hm_118 dX10_comeFromRoots_70 (t := 36) rfl ?_
        exact zw_sub (ma_nd_of (ks := [0, 1]) rfl (by decide)) (ma_nd_of (ks := [1, 0]) rfl (by decide)) (ma_le_cons rfl (ma_le_cons rfl (ma_le_nil _))) h
      · intro x S9 hx
        exact ⟨by decide, hx⟩
    · intro hc
      rw [if_neg hc] at h
      refine zw_push hm_81 dX7_thingAt_4 (v := .inl (mI S 74 l1.toNatClampNeg)) rfl ?_
      refine zw_push hm_81 dX7_thingAt_5 (v := .inl (512 : Int32)) rfl ?_
      refine zw_if2 hm_81 dX7_thingAt_8 (t := 20) rfl zc2_ge ?_ ?_
      · intro hc
        rw [if_pos hc] at h
        refine zw_push hm_81 dX7_thingAt_20 (v := .inr (.inr none)) rfl ?_
        refine zw_aret hm_81 dX7_thingAt_21 ?_
        show ma_wp X d w 118 64 [(0, .inr (.inr (some 75))), (1, .inl l1)] [.inr (.inr none), .inr (.inr (some 75))] S _
        refine zw_cv hm_118 dX10_comeFromRoots_64 v_10_70_10 hm_119 [.inr (.inr none)] [] rfl (zT_rt hS s_75 rfl) ⟨by omega, by omega⟩ rfl (zw_mono h (zv_go ?_ ?_))
        · intro S3 hv
          obtain ⟨hS3, h⟩ := hv
          refine zw_sto hm_118 dX10_comeFromRoots_67 [(1, .inl (l1 + (1 : Int32))), (0, .inr (.inr (some 75)))] rfl rfl rfl ?_
          refine zw_goto hm_118 dX10_comeFromRoots_70 (t := 36) rfl ?_
          exact zw_sub (ma_nd_of (ks := [0, 1]) rfl (by decide)) (ma_nd_of (ks := [1, 0]) rfl (by decide)) (ma_le_cons rfl (ma_le_cons rfl (ma_le_nil _))) h
        · intro x S9 hx
          exact ⟨by decide, hx⟩
      · intro hc
        rw [if_neg hc] at h
        refine zw_push hm_81 dX7_thingAt_11 (v := .inr (.inr (some 69))) rfl ?_
        refine zw_gf hm_81 dX7_thingAt_12 (v := .inr (.inr (some 70))) (zT_is hS s_69) (zT_t hS s_69) rfl f_7_11_7 (zT_f hS r_69_0) ?_
        refine zw_push hm_81 dX7_thingAt_15 (v := .inl (mI S 74 l1.toNatClampNeg)) rfl ?_
        obtain ⟨hg, h⟩ := h
        refine zw_aa hm_81 dX7_thingAt_16 (zT_is hS s_70) (zT_h hS s_70) rfl rfl hg rfl ?_
        show ma_wp X (d - 1) (w - 21) 81 17 [(0, .inr (.inr (some 69))), (1, .inl (mI S 74 l1.toNatClampNeg))] [.inr (.inr (mR S 70 (mI S 74 l1.toNatClampNeg).toNatClampNeg))] S _
        refine zw_goto hm_81 dX7_thingAt_17 (t := 21) rfl ?_
        refine zw_aret hm_81 dX7_thingAt_21 ?_
        show ma_wp X d w 118 64 [(0, .inr (.inr (some 75))), (1, .inl l1)] [.inr (.inr (mR S 70 (mI S 74 l1.toNatClampNeg).toNatClampNeg)), .inr (.inr (some 75))] S _
        refine zw_cv hm_118 dX10_comeFromRoots_64 v_10_70_10 hm_119 [.inr (.inr (mR S 70 (mI S 74 l1.toNatClampNeg).toNatClampNeg))] [] rfl (zT_rt hS s_75 rfl) ⟨by omega, by omega⟩ rfl (zw_mono h (zv_go ?_ ?_))
        · intro S5 hv
          obtain ⟨hS5, h⟩ := hv
          refine zw_sto hm_118 dX10_comeFromRoots_67 [(1, .inl (l1 + (1 : Int32))), (0, .inr (.inr (some 75)))] rfl rfl rfl ?_
          refine zw_goto hm_118 dX10_comeFromRoots_70 (t := 36) rfl ?_
          exact zw_sub (ma_nd_of (ks := [0, 1]) rfl (by decide)) (ma_nd_of (ks := [1, 0]) rfl (by decide)) (ma_le_cons rfl (ma_le_cons rfl (ma_le_nil _))) h
        · intro x S9 hx
          exact ⟨by decide, hx⟩
theorem g_118_75_s_75 {X : Nat × (Nat → Int32)} {d w : Nat} {S : ma_S} {Q : Option ma_V ⊕ Nat → ma_S → Prop} (l1 : Int32) (hd : 1 ≤ d) (hw : 21 ≤ w) (hS : zT S) (h : if (mI S 69 6) ≤ l1 then (Q (.inl none) S) else (if l1 < 0 then (ma_wp X d w 118 75 [(0, .inr (.inr (some 75))), (1, .inl (l1 + (1 : Int32)))] [] S Q) else (if (512 : Int32) ≤ l1 then (ma_wp X d w 118 75 [(0, .inr (.inr (some 75))), (1, .inl (l1 + (1 : Int32)))] [] S Q) else ((0 ≤ l1 ∧ l1.toNatClampNeg < 512) ∧ (((mR S 70 l1.toNatClampNeg) = none → ma_wp X d w 118 75 [(0, .inr (.inr (some 75))), (1, .inl (l1 + (1 : Int32)))] [] S Q) ∧ (∀ c1, (mR S 70 l1.toNatClampNeg) = some c1 → (126 ≤ c1 ∧ c1 < mN S) ∧ (if (mI S c1 7) ≤ 0 then (ma_wp X d w 118 75 [(0, .inr (.inr (some 75))), (1, .inl (l1 + (1 : Int32)))] [] S Q) else (ma_wp X (d - 1) (w - 21) 119 0 [(0, .inr (.inr (some 75))), (1, .inr (.inr (some c1)))] [] S (zv (fun S2 => zT S2 ∧ (ma_wp X d w 118 75 [(0, .inr (.inr (some 75))), (1, .inl (l1 + (1 : Int32)))] [] S2 Q)) (fun x S9 => Q (.inr x) S9)))))))))) : ma_wp X d w 118 75 [(0, .inr (.inr (some 75))), (1, .inl l1)] [] S Q := by
  refine zw_push hm_118 dX10_comeFromRoots_75 (v := .inl l1) rfl ?_
  refine zw_push hm_118 dX10_comeFromRoots_76 (v := .inr (.inr (some 75))) rfl ?_
  refine zw_gf hm_118 dX10_comeFromRoots_77 (v := .inr (.inr (some 69))) (zT_is hS s_75) (zT_t hS s_75) rfl f_10_18_10 (zT_f hS r_75_0) ?_
  refine zw_gf hm_118 dX10_comeFromRoots_80 (v := .inl (mI S 69 6)) (zT_is hS s_69) (zT_t hS s_69) rfl f_10_80_7 rfl ?_
  refine zw_if2 hm_118 dX10_comeFromRoots_83 (t := 117) rfl zc2_ge ?_ ?_
  · intro hc
    rw [if_pos hc] at h
    exact zw_vret hm_118 dX10_comeFromRoots_117 h
  · intro hc
    rw [if_neg hc] at h
    refine zw_push hm_118 dX10_comeFromRoots_86 (v := .inr (.inr (some 75))) rfl ?_
    refine zw_gf hm_118 dX10_comeFromRoots_87 (v := .inr (.inr (some 69))) (zT_is hS s_75) (zT_t hS s_75) rfl f_10_18_10 (zT_f hS r_75_0) ?_
    refine zw_push hm_118 dX10_comeFromRoots_90 (v := .inl l1) rfl ?_
    refine zw_cv hm_118 dX10_comeFromRoots_91 v_10_66_7 hm_81 [.inl l1] [] rfl (zT_rt hS s_69 rfl) ⟨by omega, by omega⟩ rfl ?_
    show ma_wp X (d - 1) (w - 21) 81 0 [(0, .inr (.inr (some 69))), (1, .inl l1)] [] S _
    refine zw_push hm_81 dX7_thingAt_0 (v := .inl l1) rfl ?_
    refine zw_if0 hm_81 dX7_thingAt_1 (t := 20) rfl zc0_lt ?_ ?_
    · intro hc
      rw [if_pos hc] at h
      refine zw_push hm_81 dX7_thingAt_20 (v := .inr (.inr none)) rfl ?_
      refine zw_aret hm_81 dX7_thingAt_21 ?_
      show ma_wp X d w 118 94 [(0, .inr (.inr (some 75))), (1, .inl l1)] [.inr (.inr none)] S _
      refine zw_sto hm_118 dX10_comeFromRoots_94 [(2, .inr (.inr none)), (0, .inr (.inr (some 75))), (1, .inl l1)] rfl rfl rfl ?_
      refine zw_push hm_118 dX10_comeFromRoots_95 (v := .inr (.inr none)) rfl ?_
      refine zw_ifnull hm_118 dX10_comeFromRoots_96 (t := 111) rfl (fun _ => ?_) (fun _ z => by cases z)
      refine zw_sto hm_118 dX10_comeFromRoots_111 [(1, .inl (l1 + (1 : Int32))), (2, .inr (.inr none)), (0, .inr (.inr (some 75)))] rfl rfl rfl ?_
      refine zw_goto hm_118 dX10_comeFromRoots_114 (t := 75) rfl ?_
      exact zw_sub (ma_nd_of (ks := [0, 1]) rfl (by decide)) (ma_nd_of (ks := [1, 2, 0]) rfl (by decide)) (ma_le_cons rfl (ma_le_cons rfl (ma_le_nil _))) h
    · intro hc
      rw [if_neg hc] at h
      refine zw_push hm_81 dX7_thingAt_4 (v := .inl l1) rfl ?_
      refine zw_push hm_81 dX7_thingAt_5 (v := .inl (512 : Int32)) rfl ?_
      refine zw_if2 hm_81 dX7_thingAt_8 (t := 20) rfl zc2_ge ?_ ?_
      · intro hc
        rw [if_pos hc] at h
        refine zw_push hm_81 dX7_thingAt_20 (v := .inr (.inr none)) rfl ?_
        refine zw_aret hm_81 dX7_thingAt_21 ?_
        show ma_wp X d w 118 94 [(0, .inr (.inr (some 75))), (1, .inl l1)] [.inr (.inr none)] S _
        refine zw_sto hm_118 dX10_comeFromRoots_94 [(2, .inr (.inr none)), (0, .inr (.inr (some 75))), (1, .inl l1)] rfl rfl rfl ?_
        refine zw_push hm_118 dX10_comeFromRoots_95 (v := .inr (.inr none)) rfl ?_
        refine zw_ifnull hm_118 dX10_comeFromRoots_96 (t := 111) rfl (fun _ => ?_) (fun _ z => by cases z)
        refine zw_sto hm_118 dX10_comeFromRoots_111 [(1, .inl (l1 + (1 : Int32))), (2, .inr (.inr none)), (0, .inr (.inr (some 75)))] rfl rfl rfl ?_
        refine zw_goto hm_118 dX10_comeFromRoots_114 (t := 75) rfl ?_
        exact zw_sub (ma_nd_of (ks := [0, 1]) rfl (by decide)) (ma_nd_of (ks := [1, 2, 0]) rfl (by decide)) (ma_le_cons rfl (ma_le_cons rfl (ma_le_nil _))) h
      · intro hc
        rw [if_neg hc] at h
        refine zw_push hm_81 dX7_thingAt_11 (v := .inr (.inr (some 69))) rfl ?_
        refine zw_gf hm_81 dX7_thingAt_12 (v := .inr (.inr (some 70))) (zT_is hS s_69) (zT_t hS s_69) rfl f_7_11_7 (zT_f hS r_69_0) ?_
        refine zw_push hm_81 dX7_thingAt_15 (v := .inl l1) rfl ?_
        obtain ⟨hg, h⟩ := h
        refine zw_aa hm_81 dX7_thingAt_16 (zT_is hS s_70) (zT_h hS s_70) rfl rfl hg rfl ?_
        show ma_wp X (d - 1) (w - 21) 81 17 [(0, .inr (.inr (some 69))), (1, .inl l1)] [.inr (.inr (mR S 70 l1.toNatClampNeg))] S _
        refine zw_goto hm_81 dX7_thingAt_17 (t := 21) rfl ?_
        refine zw_aret hm_81 dX7_thingAt_21 ?_
        show ma_wp X d w 118 94 [(0, .inr (.inr (some 75))), (1, .inl l1)] [.inr (.inr (mR S 70 l1.toNatClampNeg))] S _
        refine zw_sto hm_118 dX10_comeFromRoots_94 [(2, .inr (.inr (mR S 70 l1.toNatClampNeg))), (0, .inr (.inr (some 75))), (1, .inl l1)] rfl rfl rfl ?_
        refine zw_push hm_118 dX10_comeFromRoots_95 (v := .inr (.inr (mR S 70 l1.toNatClampNeg))) rfl ?_
        refine zw_ifnull hm_118 dX10_comeFromRoots_96 (t := 111) rfl ?_ ?_
        · intro hc
          have h := h.1 hc
          (try rw [hc])
          show ma_wp X d w 118 111 [(2, .inr (.inr none)), (0, .inr (.inr (some 75))), (1, .inl l1)] [] S _
          refine zw_sto hm_118 dX10_comeFromRoots_111 [(1, .inl (l1 + (1 : Int32))), (2, .inr (.inr none)), (0, .inr (.inr (some 75)))] rfl rfl rfl ?_
          refine zw_goto hm_118 dX10_comeFromRoots_114 (t := 75) rfl ?_
          exact zw_sub (ma_nd_of (ks := [0, 1]) rfl (by decide)) (ma_nd_of (ks := [1, 2, 0]) rfl (by decide)) (ma_le_cons rfl (ma_le_cons rfl (ma_le_nil _))) h
        · intro c1 hc
          have h := h.2 c1 hc
          (try rw [hc])
          show ma_wp X d w 118 99 [(2, .inr (.inr (some c1))), (0, .inr (.inr (some 75))), (1, .inl l1)] [] S _
          refine zw_push hm_118 dX10_comeFromRoots_99 (v := .inr (.inr (some c1))) rfl ?_
          obtain ⟨hg, h⟩ := h
          refine zw_gf hm_118 dX10_comeFromRoots_100 (v := .inl (mI S c1 7)) (zT_tis hS hg) (zT_tt hS hg) rfl f_10_83_9 rfl ?_
          refine zw_if0 hm_118 dX10_comeFromRoots_103 (t := 111) rfl zc0_le ?_ ?_
          · intro hc
            rw [if_pos hc] at h
            refine zw_sto hm_118 dX10_comeFromRoots_111 [(1, .inl (l1 + (1 : Int32))), (2, .inr (.inr (some c1))), (0, .inr (.inr (some 75)))] rfl rfl rfl ?_
            refine zw_goto hm_118 dX10_comeFromRoots_114 (t := 75) rfl ?_
            exact zw_sub (ma_nd_of (ks := [0, 1]) rfl (by decide)) (ma_nd_of (ks := [1, 2, 0]) rfl (by decide)) (ma_le_cons rfl (ma_le_cons rfl (ma_le_nil _))) h
          · intro hc
            rw [if_neg hc] at h
            refine zw_push hm_118 dX10_comeFromRoots_106 (v := .inr (.inr (some 75))) rfl ?_
            refine zw_push hm_118 dX10_comeFromRoots_107 (v := .inr (.inr (some c1))) rfl ?_
            refine zw_cv hm_118 dX10_comeFromRoots_108 v_10_70_10 hm_119 [.inr (.inr (some c1))] [] rfl (zT_rt hS s_75 rfl) ⟨by omega, by omega⟩ rfl (zw_mono h (zv_go ?_ ?_))
            · intro S2 hv
              obtain ⟨hS2, h⟩ := hv
              refine zw_sto hm_118 dX10_comeFromRoots_111 [(1, .inl (l1 + (1 : Int32))), (2, .inr (.inr (some c1))), (0, .inr (.inr (some 75)))] rfl rfl rfl ?_
              refine zw_goto hm_118 dX10_comeFromRoots_114 (t := 75) rfl ?_
              exact zw_sub (ma_nd_of (ks := [0, 1]) rfl (by decide)) (ma_nd_of (ks := [1, 2, 0]) rfl (by decide)) (ma_le_cons rfl (ma_le_cons rfl (ma_le_nil _))) h
            · intro x S9 hx
              exact ⟨by decide, hx⟩
theorem lp_118_75_s_75 {X : Nat × (Nat → Int32)} {d w : Nat} {f : Nat → Nat → Int32} {r : Nat → Nat → Option Nat} {C Z N : Nat} {Q : Option ma_V ⊕ Nat → ma_S → Prop} {ab : Nat→Nat→Int32} {R : zRT} {a8 : Nat→Nat→Int32} (hd : 1 ≤ d) (hw : 21 ≤ w) (K : ∀ S₉, zI f r C Z N S₉ → (xB S₉ R) → (aS 75 S₉ = aRo ab 0) → (aS 88 S₉ = a8) → Q (.inl none) S₉) : ∀ (n : Nat) (S : ma_S) (l1 : Int32), (512 - l1.toInt).toNat = n → zI f r C Z N S → (0 ≤ l1.toInt) → (xB S R) → (aHo (aS 75 S) l1 = aRo ab 0) → (aS 88 S = a8) → ma_wp X d w 118 75 [(0, .inr (.inr (some 75))), (1, .inl l1)] [] S Q := by
  intro n
  induction n using Nat.strongRecOn with
  | _ n IH =>
    intro S l1 hmu hI  hi0 hi1 hi2 hi3
    refine g_118_75_s_75 l1 (by omega) (by omega) (zG_T hI) ?_
    have r6 := congrArg Int32.toInt (aS_I (W := 75) (S := S) (c := 69) (c₉ := 69) (k := 6) rfl rfl)
    have f1 := zG_s hI (0) (512) (c := 69) (k := 6) (by decide)
    have b2 := i_bd l1
    refine zd (fun h3 => ?_) (fun h3 => ?_)
    · skip
      have g4 := i_le h3
      exact K _ hI (show xB S R from by first | (exact (xC_o (W := 75) hi1).2)) (show aS 75 S = aRo ab 0 from by first | (exact (aHo_st (by omega)).symm.trans hi2)) (show aS 88 S = a8 from by first | (exact (xC_o (W := 88) hi1).1.trans hi3))
    · skip
      have g5 := i_nle h3
      have li6 : (0 : Int32).toInt = 0 := rfl
      refine zd (fun h7 => ?_) (fun h7 => ?_)
      · skip
        have g8 := i_lt h7
        first | have e9 : (l1 + (1 : Int32)).toInt = l1.toInt + (1) := i_addk rfl (by omega) (by omega) | have b10 := i_bd (l1 + (1 : Int32))
        exact IH _ (by omega) _ ((l1 + (1 : Int32))) rfl hI (by omega) (show xB S R from by first | (exact (xC_o (W := 75) hi1).2)) (show aHo (aS 75 S) ((l1 + (1 : Int32))) = aRo ab 0 from by first | (exact (aHo_n (by omega) (fun z => by omega)).symm.trans hi2)) (show aS 88 S = a8 from by first | (exact (xC_o (W := 88) hi1).1.trans hi3))
      · skip
        have g11 := i_nlt h7
        have li12 : (512 : Int32).toInt = 512 := rfl
        refine zd (fun h13 => ?_) (fun h13 => ?_)
        · skip
          have g14 := i_le h13
          first | have e15 : (l1 + (1 : Int32)).toInt = l1.toInt + (1) := i_addk rfl (by omega) (by omega) | have b16 := i_bd (l1 + (1 : Int32))
          exact IH _ (by omega) _ ((l1 + (1 : Int32))) rfl hI (by omega) (show xB S R from by first | (exact (xC_o (W := 75) hi1).2)) (show aHo (aS 75 S) ((l1 + (1 : Int32))) = aRo ab 0 from by first | (exact (aHo_n (by omega) (fun z => by omega)).symm.trans hi2)) (show aS 88 S = a8 from by first | (exact (xC_o (W := 88) hi1).1.trans hi3))
        · skip
          have g17 := i_nle h13
          refine ⟨i_ix (by omega) (by omega), ?_⟩
          refine ⟨fun hc => ?_, fun c1 hc => ?_⟩
          · skip
            have rn_c1 : zTa R l1 = none := (ta_rd (y := l1) hi1 (by omega) (by omega)).symm.trans hc
            first | have e18 : (l1 + (1 : Int32)).toInt = l1.toInt + (1) := i_addk rfl (by omega) (by omega) | have b19 := i_bd (l1 + (1 : Int32))
            exact IH _ (by omega) _ ((l1 + (1 : Int32))) rfl hI (by omega) (show xB S R from by first | (exact (xC_o (W := 75) hi1).2)) (show aHo (aS 75 S) ((l1 + (1 : Int32))) = aRo ab 0 from by first | (exact (aHo_n (by omega) (fun z => xB_nt (W := 75) hi1 rn_c1 ⟨z.1, z.2.1, z.2.2.1⟩)).symm.trans hi2)) (show aS 88 S = a8 from by first | (exact (xC_o (W := 88) hi1).1.trans hi3))
          · skip
            have th_c1 := (fun _ z => zG_70 hI (c := 70) (by decide) z) c1 hc
            have rg_c1 : zTa R l1 = some c1 := (ta_rd (y := l1) hi1 (by omega) (by omega)).symm.trans hc
            refine ⟨zG_n hI th_c1, ?_⟩
            have b20 := i_bd (mI S c1 7)
            refine zd (fun h21 => ?_) (fun h21 => ?_)
            · skip
              have g22 := i_le h21
              first | have e23 : (l1 + (1 : Int32)).toInt = l1.toInt + (1) := i_addk rfl (by omega) (by omega) | have b24 := i_bd (l1 + (1 : Int32))
              exact IH _ (by omega) _ ((l1 + (1 : Int32))) rfl hI (by omega) (show xB S R from by first | (exact (xC_o (W := 75) hi1).2)) (show aHo (aS 75 S) ((l1 + (1 : Int32))) = aRo ab 0 from by first | (have ty := xB_th (W := 75) hi1 rg_c1; have e7 := congrArg Int32.toInt ty.2.2.2.2.2.2.1; exact (aHo_n (by omega) (fun z => by have q := z.2.2.2; omega)).symm.trans hi2)) (show aS 88 S = a8 from by first | (exact (xC_o (W := 88) hi1).1.trans hi3))
            · skip
              have g25 := i_nle h21
              refine sp_119_75_s (ab := (aS 75 S)) (R := R) (y := (l1)) (a8 := a8) ((some c1)) (by omega) (by omega) hI (fun _ z => by cases z; exact th_c1) (show xB S R from by first | (exact (xC_o (W := 75) hi1).2)) (show aS 75 S = (aS 75 S) from by first | (exact rfl)) (show (some c1) = zTa R (l1) from by first | (exact rg_c1.symm)) (show aS 88 S = a8 from by first | (exact (xC_o (W := 88) hi1).1.trans hi3)) (fun S2 hI_S2 rp0_S2 rp1_S2 rp2_S2 => zv_n ⟨zG_T hI_S2, ?_⟩)
              have rp0_S2 : xB S2 R := rp0_S2
              have rp1_S2 : aS 75 S2 = aCm (aS 75 S) (l1) := rp1_S2
              have rp2_S2 : aS 88 S2 = a8 := rp2_S2
              first | have e26 : (l1 + (1 : Int32)).toInt = l1.toInt + (1) := i_addk rfl (by omega) (by omega) | have b27 := i_bd (l1 + (1 : Int32))
              exact IH _ (by omega) _ ((l1 + (1 : Int32))) rfl hI_S2 (by omega) (show xB S2 R from by first | (exact (xC_o (W := 75) rp0_S2).2)) (show aHo (aS 75 S2) ((l1 + (1 : Int32))) = aRo ab 0 from by first | (have ty := xB_th (W := 75) hi1 rg_c1; have e7 := congrArg Int32.toInt ty.2.2.2.2.2.2.1; rw [rp1_S2]; exact (aHo_y (by omega) ⟨ty.1, ty.2.1, (by rw [ty.2.2.2.2.2.2.2.2]; decide), (by omega)⟩).symm.trans hi2)) (show aS 88 S2 = a8 from by first | (exact (xC_o (W := 88) rp0_S2).1.trans rp2_S2))
theorem lp_118_75_s_36 {X : Nat × (Nat → Int32)} {d w : Nat} {f : Nat → Nat → Int32} {r : Nat → Nat → Option Nat} {C Z N : Nat} {Q : Option ma_V ⊕ Nat → ma_S → Prop} {ab : Nat→Nat→Int32} {R : zRT} {a8 : Nat→Nat→Int32} (hd : 1 ≤ d) (hw : 21 ≤ w) (K : ∀ S₉, zI f r C Z N S₉ → (xB S₉ R) → (aS 75 S₉ = aRo ab 0) → (aS 88 S₉ = a8) → Q (.inl none) S₉) : ∀ (n : Nat) (S : ma_S) (l1 : Int32), (512 - l1.toInt).toNat = n → zI f r C Z N S → (0 ≤ l1.toInt) → (xB S R) → (aWi (aS 75 S) l1 = aRo ab 0) → (aS 88 S = a8) → ma_wp X d w 118 36 [(0, .inr (.inr (some 75))), (1, .inl l1)] [] S Q := by
  intro n
  induction n using Nat.strongRecOn with
  | _ n IH =>
    intro S l1 hmu hI  hi0 hi1 hi2 hi3
    refine g_118_75_s_36 l1 (by omega) (by omega) (zG_T hI) ?_
    have r5 := congrArg Int32.toInt (aS_I (W := 75) (S := S) (c := 69) (c₉ := 69) (k := 5) rfl rfl)
    have f1 := zG_s hI (0) (512) (c := 69) (k := 5) (by decide)
    have b2 := i_bd l1
    refine zd (fun h3 => ?_) (fun h3 => ?_)
    · skip
      have g4 := i_le h3
      have li5 : (0 : Int32).toInt = 0 := rfl
      exact lp_118_75_s_75 (by omega) (by omega) K _ _ ((0 : Int32)) rfl hI (by omega) (show xB S R from by first | (exact (xC_o (W := 75) hi1).2)) (show aHo (aS 75 S) ((0 : Int32)) = aRo ab 0 from by first | (exact (aWi_st (by omega)).symm.trans hi2)) (show aS 88 S = a8 from by first | (exact (xC_o (W := 88) hi1).1.trans hi3))
    · skip
      have g6 := i_nle h3
      refine ⟨i_ix (by omega) (by omega), ?_⟩
      have b7 := i_bd (mI S 74 l1.toNatClampNeg)
      have li8 : (0 : Int32).toInt = 0 := rfl
      refine zd (fun h9 => ?_) (fun h9 => ?_)
      · skip
        have g10 := i_lt h9
        refine sp_119_75_s (ab := (aS 75 S)) (R := R) (y := ((mI S 74 l1.toNatClampNeg))) (a8 := a8) (none) (by omega) (by omega) hI (fun _ z => by cases z) (show xB S R from by first | (exact (xC_o (W := 75) hi1).2)) (show aS 75 S = (aS 75 S) from by first | (exact rfl)) (show none = zTa R ((mI S 74 l1.toNatClampNeg)) from by first | (exact ta_no (by omega))) (show aS 88 S = a8 from by first | (exact (xC_o (W := 88) hi1).1.trans hi3)) (fun S1 hI_S1 rp0_S1 rp1_S1 rp2_S1 => zv_n ⟨zG_T hI_S1, ?_⟩)
        have rp0_S1 : xB S1 R := rp0_S1
        have rp1_S1 : aS 75 S1 = aCm (aS 75 S) ((mI S 74 l1.toNatClampNeg)) := rp1_S1
        have rp2_S1 : aS 88 S1 = a8 := rp2_S1
        first | have e11 : (l1 + (1 : Int32)).toInt = l1.toInt + (1) := i_addk rfl (by omega) (by omega) | have b12 := i_bd (l1 + (1 : Int32))
        exact IH _ (by omega) _ ((l1 + (1 : Int32))) rfl hI_S1 (by omega) (show xB S1 R from by first | (exact (xC_o (W := 75) rp0_S1).2)) (show aWi (aS 75 S1) ((l1 + (1 : Int32))) = aRo ab 0 from by first | (rw [rp1_S1, ← (aS_I (W := 75) (S := S) (c := 74) (c₉ := 74) (k := l1.toNatClampNeg) rfl rfl)]; exact (aWi_go (by omega)).symm.trans hi2)) (show aS 88 S1 = a8 from by first | (exact (xC_o (W := 88) rp0_S1).1.trans rp2_S1))
      · skip
        have g13 := i_nlt h9
        have li14 : (512 : Int32).toInt = 512 := rfl
        refine zd (fun h15 => ?_) (fun h15 => ?_)
        · skip
          have g16 := i_le h15
          refine sp_119_75_s (ab := (aS 75 S)) (R := R) (y := ((mI S 74 l1.toNatClampNeg))) (a8 := a8) (none) (by omega) (by omega) hI (fun _ z => by cases z) (show xB S R from by first | (exact (xC_o (W := 75) hi1).2)) (show aS 75 S = (aS 75 S) from by first | (exact rfl)) (show none = zTa R ((mI S 74 l1.toNatClampNeg)) from by first | (exact ta_no (by omega))) (show aS 88 S = a8 from by first | (exact (xC_o (W := 88) hi1).1.trans hi3)) (fun S3 hI_S3 rp0_S3 rp1_S3 rp2_S3 => zv_n ⟨zG_T hI_S3, ?_⟩)
          have rp0_S3 : xB S3 R := rp0_S3
          have rp1_S3 : aS 75 S3 = aCm (aS 75 S) ((mI S 74 l1.toNatClampNeg)) := rp1_S3
          have rp2_S3 : aS 88 S3 = a8 := rp2_S3
          first | have e17 : (l1 + (1 : Int32)).toInt = l1.toInt + (1) := i_addk rfl (by omega) (by omega) | have b18 := i_bd (l1 + (1 : Int32))
          exact IH _ (by omega) _ ((l1 + (1 : Int32))) rfl hI_S3 (by omega) (show xB S3 R from by first | (exact (xC_o (W := 75) rp0_S3).2)) (show aWi (aS 75 S3) ((l1 + (1 : Int32))) = aRo ab 0 from by first | (rw [rp1_S3, ← (aS_I (W := 75) (S := S) (c := 74) (c₉ := 74) (k := l1.toNatClampNeg) rfl rfl)]; exact (aWi_go (by omega)).symm.trans hi2)) (show aS 88 S3 = a8 from by first | (exact (xC_o (W := 88) rp0_S3).1.trans rp2_S3))
        · skip
          have g19 := i_nle h15
          refine ⟨i_ix (by omega) (by omega), ?_⟩
          refine sp_119_75_s (ab := (aS 75 S)) (R := R) (y := ((mI S 74 l1.toNatClampNeg))) (a8 := a8) ((mR S 70 (mI S 74 l1.toNatClampNeg).toNatClampNeg)) (by omega) (by omega) hI (fun _ z => zG_70 hI (c := 70) (by decide) z) (show xB S R from by first | (exact (xC_o (W := 75) hi1).2)) (show aS 75 S = (aS 75 S) from by first | (exact rfl)) (show (mR S 70 (mI S 74 l1.toNatClampNeg).toNatClampNeg) = zTa R ((mI S 74 l1.toNatClampNeg)) from by first | (exact ta_rd hi1 (by omega) (by omega))) (show aS 88 S = a8 from by first | (exact (xC_o (W := 88) hi1).1.trans hi3)) (fun S5 hI_S5 rp0_S5 rp1_S5 rp2_S5 => zv_n ⟨zG_T hI_S5, ?_⟩)
          have rp0_S5 : xB S5 R := rp0_S5
          have rp1_S5 : aS 75 S5 = aCm (aS 75 S) ((mI S 74 l1.toNatClampNeg)) := rp1_S5
          have rp2_S5 : aS 88 S5 = a8 := rp2_S5
          first | have e20 : (l1 + (1 : Int32)).toInt = l1.toInt + (1) := i_addk rfl (by omega) (by omega) | have b21 := i_bd (l1 + (1 : Int32))
          exact IH _ (by omega) _ ((l1 + (1 : Int32))) rfl hI_S5 (by omega) (show xB S5 R from by first | (exact (xC_o (W := 75) rp0_S5).2)) (show aWi (aS 75 S5) ((l1 + (1 : Int32))) = aRo ab 0 from by first | (rw [rp1_S5, ← (aS_I (W := 75) (S := S) (c := 74) (c₉ := 74) (k := l1.toNatClampNeg) rfl rfl)]; exact (aWi_go (by omega)).symm.trans hi2)) (show aS 88 S5 = a8 from by first | (exact (xC_o (W := 88) rp0_S5).1.trans rp2_S5))
theorem lp_118_75_s_2 {X : Nat × (Nat → Int32)} {d w : Nat} {f : Nat → Nat → Int32} {r : Nat → Nat → Option Nat} {C Z N : Nat} {Q : Option ma_V ⊕ Nat → ma_S → Prop} {ab : Nat→Nat→Int32} {R : zRT} {a8 : Nat→Nat→Int32} (hd : 1 ≤ d) (hw : 21 ≤ w) (K : ∀ S₉, zI f r C Z N S₉ → (xB S₉ R) → (aS 75 S₉ = aRo ab 0) → (aS 88 S₉ = a8) → Q (.inl none) S₉) : ∀ (n : Nat) (S : ma_S) (l1 : Int32), (16 - l1.toInt).toNat = n → zI f r C Z N S → (0 ≤ l1.toInt) → (xB S R) → (aRo (aS 75 S) l1 = aRo ab 0) → (aS 88 S = a8) → ma_wp X d w 118 2 [(0, .inr (.inr (some 75))), (1, .inl l1)] [] S Q := by
  intro n
  induction n using Nat.strongRecOn with
  | _ n IH =>
    intro S l1 hmu hI  hi0 hi1 hi2 hi3
    refine g_118_75_s_2 l1 (by omega) (by omega) (zG_T hI) ?_
    have li1 : (16 : Int32).toInt = 16 := rfl
    have b2 := i_bd l1
    refine zd (fun h3 => ?_) (fun h3 => ?_)
    · skip
      have g4 := i_le h3
      have li5 : (0 : Int32).toInt = 0 := rfl
      exact lp_118_75_s_36 (by omega) (by omega) K _ _ ((0 : Int32)) rfl hI (by omega) (show xB S R from by first | (exact (xC_o (W := 75) hi1).2)) (show aWi (aS 75 S) ((0 : Int32)) = aRo ab 0 from by first | (exact (aRo_st (by omega)).symm.trans hi2)) (show aS 88 S = a8 from by first | (exact (xC_o (W := 88) hi1).1.trans hi3))
    · skip
      have g6 := i_nle h3
      refine ⟨i_ix (by omega) (by omega), ?_⟩
      have b7 := i_bd (mI S 72 l1.toNatClampNeg)
      have li8 : (0 : Int32).toInt = 0 := rfl
      refine zd (fun h9 => ?_) (fun h9 => ?_)
      · skip
        have g10 := i_lt h9
        refine sp_119_75_s (ab := (aS 75 S)) (R := R) (y := ((mI S 72 l1.toNatClampNeg))) (a8 := a8) (none) (by omega) (by omega) hI (fun _ z => by cases z) (show xB S R from by first | (exact (xC_o (W := 75) hi1).2)) (show aS 75 S = (aS 75 S) from by first | (exact rfl)) (show none = zTa R ((mI S 72 l1.toNatClampNeg)) from by first | (exact ta_no (by omega))) (show aS 88 S = a8 from by first | (exact (xC_o (W := 88) hi1).1.trans hi3)) (fun S1 hI_S1 rp0_S1 rp1_S1 rp2_S1 => zv_n ⟨zG_T hI_S1, ?_⟩)
        have rp0_S1 : xB S1 R := rp0_S1
        have rp1_S1 : aS 75 S1 = aCm (aS 75 S) ((mI S 72 l1.toNatClampNeg)) := rp1_S1
        have rp2_S1 : aS 88 S1 = a8 := rp2_S1
        first | have e11 : (l1 + (1 : Int32)).toInt = l1.toInt + (1) := i_addk rfl (by omega) (by omega) | have b12 := i_bd (l1 + (1 : Int32))
        exact IH _ (by omega) _ ((l1 + (1 : Int32))) rfl hI_S1 (by omega) (show xB S1 R from by first | (exact (xC_o (W := 75) rp0_S1).2)) (show aRo (aS 75 S1) ((l1 + (1 : Int32))) = aRo ab 0 from by first | (rw [rp1_S1, ← (aS_I (W := 75) (S := S) (c := 72) (c₉ := 72) (k := l1.toNatClampNeg) rfl rfl)]; exact (aRo_go (by omega)).symm.trans hi2)) (show aS 88 S1 = a8 from by first | (exact (xC_o (W := 88) rp0_S1).1.trans rp2_S1))
      · skip
        have g13 := i_nlt h9
        have li14 : (512 : Int32).toInt = 512 := rfl
        refine zd (fun h15 => ?_) (fun h15 => ?_)
        · skip
          have g16 := i_le h15
          refine sp_119_75_s (ab := (aS 75 S)) (R := R) (y := ((mI S 72 l1.toNatClampNeg))) (a8 := a8) (none) (by omega) (by omega) hI (fun _ z => by cases z) (show xB S R from by first | (exact (xC_o (W := 75) hi1).2)) (show aS 75 S = (aS 75 S) from by first | (exact rfl)) (show none = zTa R ((mI S 72 l1.toNatClampNeg)) from by first | (exact ta_no (by omega))) (show aS 88 S = a8 from by first | (exact (xC_o (W := 88) hi1).1.trans hi3)) (fun S3 hI_S3 rp0_S3 rp1_S3 rp2_S3 => zv_n ⟨zG_T hI_S3, ?_⟩)
          have rp0_S3 : xB S3 R := rp0_S3
          have rp1_S3 : aS 75 S3 = aCm (aS 75 S) ((mI S 72 l1.toNatClampNeg)) := rp1_S3
          have rp2_S3 : aS 88 S3 = a8 := rp2_S3
          first | have e17 : (l1 + (1 : Int32)).toInt = l1.toInt + (1) := i_addk rfl (by omega) (by omega) | have b18 := i_bd (l1 + (1 : Int32))
          exact IH _ (by omega) _ ((l1 + (1 : Int32))) rfl hI_S3 (by omega) (show xB S3 R from by first | (exact (xC_o (W := 75) rp0_S3).2)) (show aRo (aS 75 S3) ((l1 + (1 : Int32))) = aRo ab 0 from by first | (rw [rp1_S3, ← (aS_I (W := 75) (S := S) (c := 72) (c₉ := 72) (k := l1.toNatClampNeg) rfl rfl)]; exact (aRo_go (by omega)).symm.trans hi2)) (show aS 88 S3 = a8 from by first | (exact (xC_o (W := 88) rp0_S3).1.trans rp2_S3))
        · skip
          have g19 := i_nle h15
          refine ⟨i_ix (by omega) (by omega), ?_⟩
          refine sp_119_75_s (ab := (aS 75 S)) (R := R) (y := ((mI S 72 l1.toNatClampNeg))) (a8 := a8) ((mR S 70 (mI S 72 l1.toNatClampNeg).toNatClampNeg)) (by omega) (by omega) hI (fun _ z => zG_70 hI (c := 70) (by decide) z) (show xB S R from by first | (exact (xC_o (W := 75) hi1).2)) (show aS 75 S = (aS 75 S) from by first | (exact rfl)) (show (mR S 70 (mI S 72 l1.toNatClampNeg).toNatClampNeg) = zTa R ((mI S 72 l1.toNatClampNeg)) from by first | (exact ta_rd hi1 (by omega) (by omega))) (show aS 88 S = a8 from by first | (exact (xC_o (W := 88) hi1).1.trans hi3)) (fun S5 hI_S5 rp0_S5 rp1_S5 rp2_S5 => zv_n ⟨zG_T hI_S5, ?_⟩)
          have rp0_S5 : xB S5 R := rp0_S5
          have rp1_S5 : aS 75 S5 = aCm (aS 75 S) ((mI S 72 l1.toNatClampNeg)) := rp1_S5
          have rp2_S5 : aS 88 S5 = a8 := rp2_S5
          first | have e20 : (l1 + (1 : Int32)).toInt = l1.toInt + (1) := i_addk rfl (by omega) (by omega) | have b21 := i_bd (l1 + (1 : Int32))
          exact IH _ (by omega) _ ((l1 + (1 : Int32))) rfl hI_S5 (by omega) (show xB S5 R from by first | (exact (xC_o (W := 75) rp0_S5).2)) (show aRo (aS 75 S5) ((l1 + (1 : Int32))) = aRo ab 0 from by first | (rw [rp1_S5, ← (aS_I (W := 75) (S := S) (c := 72) (c₉ := 72) (k := l1.toNatClampNeg) rfl rfl)]; exact (aRo_go (by omega)).symm.trans hi2)) (show aS 88 S5 = a8 from by first | (exact (xC_o (W := 88) rp0_S5).1.trans rp2_S5))
theorem sp_118_75_s {X : Nat × (Nat → Int32)} {d w : Nat} {f : Nat → Nat → Int32} {r : Nat → Nat → Option Nat} {C Z N : Nat} {Q : Option ma_V ⊕ Nat → ma_S → Prop} {ab : Nat→Nat→Int32} {R : zRT} {a8 : Nat→Nat→Int32} {S : ma_S}  (hd : 1 ≤ d) (hw : 21 ≤ w) (hI : zI f r C Z N S) (hpre0 : xB S R) (hpre1 : aS 75 S = ab) (hpre2 : aS 88 S = a8) (K : ∀ S₉, zI f r C Z N S₉ → (xB S₉ R) → (aS 75 S₉ = aRo ab 0) → (aS 88 S₉ = a8) → Q (.inl none) S₉) : ma_wp X d w 118 0 [(0, .inr (.inr (some 75)))] [] S Q := by
  refine g_118_75_s_0  (by omega) (by omega) (zG_T hI) ?_
  have li1 : (0 : Int32).toInt = 0 := rfl
  exact lp_118_75_s_2 (by omega) (by omega) K _ _ ((0 : Int32)) rfl hI (by omega) (show xB S R from by first | (exact (xC_o (W := 75) hpre0).2)) (show aRo (aS 75 S) ((0 : Int32)) = aRo ab 0 from by first | (rw [hpre1])) (show aS 88 S = a8 from by first | (exact (xC_o (W := 88) hpre0).1.trans hpre2))

/-! from 95.g06 -/
/-! the heap by numbers, the class (written by wip/tools/gen18.py) -/
theorem g_120_75_s_0 {X : Nat × (Nat → Int32)} {d w : Nat} {S : ma_S} {Q : Option ma_V ⊕ Nat → ma_S → Prop} (m : Int32) (hd : 1 ≤ d) (hw : 25 ≤ w) (hS : zT S) (h : ma_wp X d w 120 2 [(0, .inr (.inr (some 75))), (1, .inl m), (2, .inl (0 : Int32))] [] S Q) : ma_wp X d w 120 0 [(0, .inr (.inr (some 75))), (1, .inl m)] [] S Q := by
  refine zw_push hm_120 dX10_spread_0 (v := .inl (0 : Int32)) rfl ?_
  refine zw_sto hm_120 dX10_spread_1 [(2, .inl (0 : Int32)), (0, .inr (.inr (some 75))), (1, .inl m)] rfl rfl rfl ?_
  exact zw_sub (ma_nd_of (ks := [0, 1, 2]) rfl (by decide)) (ma_nd_of (ks := [2, 0, 1]) rfl (by decide)) (ma_le_cons rfl (ma_le_cons rfl (ma_le_cons rfl (ma_le_nil _)))) h
theorem g_120_75_s_2 {X : Nat × (Nat → Int32)} {d w : Nat} {S : ma_S} {Q : Option ma_V ⊕ Nat → ma_S → Prop} (l1 : Int32) (l2 : Int32) (hd : 1 ≤ d) (hw : 25 ≤ w) (hS : zT S) (h : if l1 ≤ l2 then (Q (.inl (some (.inl l2))) S) else (if (mI S 75 4) ≤ (mI S 75 3) then (Q (.inl (some (.inl l2))) S) else ((0 ≤ (mI S 75 3) ∧ (mI S 75 3).toNatClampNeg < 512) ∧ (if (mI S 76 (mI S 75 3).toNatClampNeg) < 0 then (ma_wp X d w 120 2 [(0, .inr (.inr (some 75))), (1, .inl l1), (2, .inl (l2 + (1 : Int32)))] [] (ma_put S 75 3 (.inl ((mI S 75 3) + (1 : Int32)))) Q) else (if (512 : Int32) ≤ (mI S 76 (mI S 75 3).toNatClampNeg) then (ma_wp X d w 120 2 [(0, .inr (.inr (some 75))), (1, .inl l1), (2, .inl (l2 + (1 : Int32)))] [] (ma_put S 75 3 (.inl ((mI S 75 3) + (1 : Int32)))) Q) else ((0 ≤ (mI S 76 (mI S 75 3).toNatClampNeg) ∧ (mI S 76 (mI S 75 3).toNatClampNeg).toNatClampNeg < 512) ∧ (((mR S 70 (mI S 76 (mI S 75 3).toNatClampNeg).toNatClampNeg) = none → ma_wp X d w 120 2 [(0, .inr (.inr (some 75))), (1, .inl l1), (2, .inl (l2 + (1 : Int32)))] [] (ma_put S 75 3 (.inl ((mI S 75 3) + (1 : Int32)))) Q) ∧ (∀ c1, (mR S 70 (mI S 76 (mI S 75 3).toNatClampNeg).toNatClampNeg) = some c1 → (126 ≤ c1 ∧ c1 < mN (ma_put S 75 3 (.inl ((mI S 75 3) + (1 : Int32))))) ∧ (if (512 : Int32) ≤ (mI (ma_put S 75 3 (.inl ((mI S 75 3) + (1 : Int32)))) c1 0) then (ma_wp X d w 120 57 [(0, .inr (.inr (some 75))), (1, .inl l1), (2, .inl l2), (3, .inr (.inr (some c1))), (4, .inl (0 : Int32))] [] (ma_put S 75 3 (.inl ((mI S 75 3) + (1 : Int32)))) Q) else ((126 ≤ c1 ∧ c1 < mN (ma_put S 75 3 (.inl ((mI S 75 3) + (1 : Int32))))) ∧ ((0 ≤ (mI (ma_put S 75 3 (.inl ((mI S 75 3) + (1 : Int32)))) c1 0) ∧ (mI (ma_put S 75 3 (.inl ((mI S 75 3) + (1 : Int32)))) c1 0).toNatClampNeg < 512) ∧ (ma_wp X d w 120 57 [(0, .inr (.inr (some 75))), (1, .inl l1), (2, .inl l2), (3, .inr (.inr (some c1))), (4, .inl (0 : Int32))] [] (ma_put (ma_put S 75 3 (.inl ((mI S 75 3) + (1 : Int32)))) 77 (mI (ma_put S 75 3 (.inl ((mI S 75 3) + (1 : Int32)))) c1 0).toNatClampNeg (.inl (2 : Int32))) Q)))))))))))) : ma_wp X d w 120 2 [(0, .inr (.inr (some 75))), (1, .inl l1), (2, .inl l2)] [] S Q := by
  refine zw_push hm_120 dX10_spread_2 (v := .inl l2) rfl ?_
  refine zw_push hm_120 dX10_spread_3 (v := .inl l1) rfl ?_
  refine zw_if2 hm_120 dX10_spread_4 (t := 94) rfl zc2_ge ?_ ?_
  · intro hc
    rw [if_pos hc] at h
    refine zw_push hm_120 dX10_spread_94 (v := .inl l2) rfl ?_
    exact zw_iret hm_120 dX10_spread_95 h
  · intro hc
    rw [if_neg hc] at h
    refine zw_push hm_120 dX10_spread_7 (v := .inr (.inr (some 75))) rfl ?_
    refine zw_gf hm_120 dX10_spread_8 (v := .inl (mI S 75 3)) (zT_is hS s_75) (zT_t hS s_75) rfl f_10_28_10 rfl ?_
    refine zw_push hm_120 dX10_spread_11 (v := .inr (.inr (some 75))) rfl ?_
    refine zw_gf hm_120 dX10_spread_12 (v := .inl (mI S 75 4)) (zT_is hS s_75) (zT_t hS s_75) rfl f_10_32_10 rfl ?_
    refine zw_if2 hm_120 dX10_spread_15 (t := 94) rfl zc2_ge ?_ ?_
    · intro hc
      rw [if_pos hc] at h
      refine zw_push hm_120 dX10_spread_94 (v := .inl l2) rfl ?_
      exact zw_iret hm_120 dX10_spread_95 h
    · intro hc
      rw [if_neg hc] at h
      refine zw_push hm_120 dX10_spread_18 (v := .inr (.inr (some 75))) rfl ?_
      refine zw_gf hm_120 dX10_spread_19 (v := .inr (.inr (some 69))) (zT_is hS s_75) (zT_t hS s_75) rfl f_10_18_10 (zT_f hS r_75_0) ?_
      refine zw_push hm_120 dX10_spread_22 (v := .inr (.inr (some 75))) rfl ?_
      refine zw_gf hm_120 dX10_spread_23 (v := .inr (.inr (some 76))) (zT_is hS s_75) (zT_t hS s_75) rfl f_10_9_10 (zT_f hS r_75_1) ?_
      refine zw_push hm_120 dX10_spread_26 (v := .inr (.inr (some 75))) rfl ?_
      refine zw_gf hm_120 dX10_spread_27 (v := .inl (mI S 75 3)) (zT_is hS s_75) (zT_t hS s_75) rfl f_10_28_10 rfl ?_
      obtain ⟨hg, h⟩ := h
      refine zw_ia hm_120 dX10_spread_30 (zT_is hS s_76) (zT_h hS s_76) rfl hg ?_
      show ma_wp X d w 120 31 [(0, .inr (.inr (some 75))), (1, .inl l1), (2, .inl l2)] [.inl (mI S 76 (mI S 75 3).toNatClampNeg), .inr (.inr (some 69))] S _
      refine zw_cv hm_120 dX10_spread_31 v_10_66_7 hm_81 [.inl (mI S 76 (mI S 75 3).toNatClampNeg)] [] rfl (zT_rt hS s_69 rfl) ⟨by omega, by omega⟩ rfl ?_
      show ma_wp X (d - 1) (w - 21) 81 0 [(0, .inr (.inr (some 69))), (1, .inl (mI S 76 (mI S 75 3).toNatClampNeg))] [] S _
      refine zw_push hm_81 dX7_thingAt_0 (v := .inl (mI S 76 (mI S 75 3).toNatClampNeg)) rfl ?_
      refine zw_if0 hm_81 dX7_thingAt_1 (t := 20) rfl zc0_lt ?_ ?_
      · intro hc
        rw [if_pos hc] at h
        refine zw_push hm_81 dX7_thingAt_20 (v := .inr (.inr none)) rfl ?_
        refine zw_aret hm_81 dX7_thingAt_21 ?_
        show ma_wp X d w 120 34 [(0, .inr (.inr (some 75))), (1, .inl l1), (2, .inl l2)] [.inr (.inr none)] S _
        refine zw_sto hm_120 dX10_spread_34 [(3, .inr (.inr none)), (0, .inr (.inr (some 75))), (1, .inl l1), (2, .inl l2)] rfl rfl rfl ?_
        refine zw_push hm_120 dX10_spread_35 (v := .inr (.inr (some 75))) rfl ?_
        refine zw_stk hm_120 dX10_spread_36 (st₉ := [.inr (.inr (some 75)), .inr (.inr (some 75))]) rfl rfl ?_
        refine zw_gf hm_120 dX10_spread_37 (v := .inl (mI S 75 3)) (zT_is hS s_75) (zT_t hS s_75) rfl f_10_28_10 rfl ?_
        refine zw_push hm_120 dX10_spread_40 (v := .inl (1 : Int32)) rfl ?_
        refine zw_stk hm_120 dX10_spread_41 (st₉ := [.inl ((mI S 75 3) + (1 : Int32)), .inr (.inr (some 75))]) rfl rfl ?_
        refine zw_pf hm_120 dX10_spread_42 (zT_is hS s_75) (zT_t hS s_75) p_10_28_10 zk_int ?_
        refine zw_push hm_120 dX10_spread_45 (v := .inr (.inr none)) rfl ?_
        refine zw_ifnull hm_120 dX10_spread_46 (t := 88) rfl (fun _ => ?_) (fun _ z => by cases z)
        refine zw_sto hm_120 dX10_spread_88 [(2, .inl (l2 + (1 : Int32))), (3, .inr (.inr none)), (0, .inr (.inr (some 75))), (1, .inl l1)] rfl rfl rfl ?_
        refine zw_goto hm_120 dX10_spread_91 (t := 2) rfl ?_
        exact zw_sub (ma_nd_of (ks := [0, 1, 2]) rfl (by decide)) (ma_nd_of (ks := [2, 3, 0, 1]) rfl (by decide)) (ma_le_cons rfl (ma_le_cons rfl (ma_le_cons rfl (ma_le_nil _)))) h
      · intro hc
        rw [if_neg hc] at h
        refine zw_push hm_81 dX7_thingAt_4 (v := .inl (mI S 76 (mI S 75 3).toNatClampNeg)) rfl ?_
        refine zw_push hm_81 dX7_thingAt_5 (v := .inl (512 : Int32)) rfl ?_
        refine zw_if2 hm_81 dX7_thingAt_8 (t := 20) rfl zc2_ge ?_ ?_
        · intro hc
          rw [if_pos hc] at h
          refine zw_push hm_81 dX7_thingAt_20 (v := .inr (.inr none)) rfl ?_
          refine zw_aret hm_81 dX7_thingAt_21 ?_
          show ma_wp X d w 120 34 [(0, .inr (.inr (some 75))), (1, .inl l1), (2, .inl l2)] [.inr (.inr none)] S _
          refine zw_sto hm_120 dX10_spread_34 [(3, .inr (.inr none)), (0, .inr (.inr (some 75))), (1, .inl l1), (2, .inl l2)] rfl rfl rfl ?_
          refine zw_push hm_120 dX10_spread_35 (v := .inr (.inr (some 75))) rfl ?_
          refine zw_stk hm_120 dX10_spread_36 (st₉ := [.inr (.inr (some 75)), .inr (.inr (some 75))]) rfl rfl ?_
          refine zw_gf hm_120 dX10_spread_37 (v := .inl (mI S 75 3)) (zT_is hS s_75) (zT_t hS s_75) rfl f_10_28_10 rfl ?_
          refine zw_push hm_120 dX10_spread_40 (v := .inl (1 : Int32)) rfl ?_
          refine zw_stk hm_120 dX10_spread_41 (st₉ := [.inl ((mI S 75 3) + (1 : Int32)), .inr (.inr (some 75))]) rfl rfl ?_
          refine zw_pf hm_120 dX10_spread_42 (zT_is hS s_75) (zT_t hS s_75) p_10_28_10 zk_int ?_
          refine zw_push hm_120 dX10_spread_45 (v := .inr (.inr none)) rfl ?_
          refine zw_ifnull hm_120 dX10_spread_46 (t := 88) rfl (fun _ => ?_) (fun _ z => by cases z)
          refine zw_sto hm_120 dX10_spread_88 [(2, .inl (l2 + (1 : Int32))), (3, .inr (.inr none)), (0, .inr (.inr (some 75))), (1, .inl l1)] rfl rfl rfl ?_
          refine zw_goto hm_120 dX10_spread_91 (t := 2) rfl ?_
          exact zw_sub (ma_nd_of (ks := [0, 1, 2]) rfl (by decide)) (ma_nd_of (ks := [2, 3, 0, 1]) rfl (by decide)) (ma_le_cons rfl (ma_le_cons rfl (ma_le_cons rfl (ma_le_nil _)))) h
        · intro hc
          rw [if_neg hc] at h
          refine zw_push hm_81 dX7_thingAt_11 (v := .inr (.inr (some 69))) rfl ?_
          refine zw_gf hm_81 dX7_thingAt_12 (v := .inr (.inr (some 70))) (zT_is hS s_69) (zT_t hS s_69) rfl f_7_11_7 (zT_f hS r_69_0) ?_
          refine zw_push hm_81 dX7_thingAt_15 (v := .inl (mI S 76 (mI S 75 3).toNatClampNeg)) rfl ?_
          obtain ⟨hg, h⟩ := h
          refine zw_aa hm_81 dX7_thingAt_16 (zT_is hS s_70) (zT_h hS s_70) rfl rfl hg rfl ?_
          show ma_wp X (d - 1) (w - 21) 81 17 [(0, .inr (.inr (some 69))), (1, .inl (mI S 76 (mI S 75 3).toNatClampNeg))] [.inr (.inr (mR S 70 (mI S 76 (mI S 75 3).toNatClampNeg).toNatClampNeg))] S _
          refine zw_goto hm_81 dX7_thingAt_17 (t := 21) rfl ?_
          refine zw_aret hm_81 dX7_thingAt_21 ?_
          show ma_wp X d w 120 34 [(0, .inr (.inr (some 75))), (1, .inl l1), (2, .inl l2)] [.inr (.inr (mR S 70 (mI S 76 (mI S 75 3).toNatClampNeg).toNatClampNeg))] S _
          refine zw_sto hm_120 dX10_spread_34 [(3, .inr (.inr (mR S 70 (mI S 76 (mI S 75 3).toNatClampNeg).toNatClampNeg))), (0, .inr (.inr (some 75))), (1, .inl l1), (2, .inl l2)] rfl rfl rfl ?_
          refine zw_push hm_120 dX10_spread_35 (v := .inr (.inr (some 75))) rfl ?_
          refine zw_stk hm_120 dX10_spread_36 (st₉ := [.inr (.inr (some 75)), .inr (.inr (some 75))]) rfl rfl ?_
          refine zw_gf hm_120 dX10_spread_37 (v := .inl (mI S 75 3)) (zT_is hS s_75) (zT_t hS s_75) rfl f_10_28_10 rfl ?_
          refine zw_push hm_120 dX10_spread_40 (v := .inl (1 : Int32)) rfl ?_
          refine zw_stk hm_120 dX10_spread_41 (st₉ := [.inl ((mI S 75 3) + (1 : Int32)), .inr (.inr (some 75))]) rfl rfl ?_
          refine zw_pf hm_120 dX10_spread_42 (zT_is hS s_75) (zT_t hS s_75) p_10_28_10 zk_int ?_
          refine zw_push hm_120 dX10_spread_45 (v := .inr (.inr (mR S 70 (mI S 76 (mI S 75 3).toNatClampNeg).toNatClampNeg))) rfl ?_
          refine zw_ifnull hm_120 dX10_spread_46 (t := 88) rfl ?_ ?_
          · intro hc
            have h := h.1 hc
            (try rw [hc])
            show ma_wp X d w 120 88 [(3, .inr (.inr none)), (0, .inr (.inr (some 75))), (1, .inl l1), (2, .inl l2)] [] (ma_put S 75 3 (.inl ((mI S 75 3) + (1 : Int32)))) _
            refine zw_sto hm_120 dX10_spread_88 [(2, .inl (l2 + (1 : Int32))), (3, .inr (.inr none)), (0, .inr (.inr (some 75))), (1, .inl l1)] rfl rfl rfl ?_
            refine zw_goto hm_120 dX10_spread_91 (t := 2) rfl ?_
            exact zw_sub (ma_nd_of (ks := [0, 1, 2]) rfl (by decide)) (ma_nd_of (ks := [2, 3, 0, 1]) rfl (by decide)) (ma_le_cons rfl (ma_le_cons rfl (ma_le_cons rfl (ma_le_nil _)))) h
          · intro c1 hc
            have h := h.2 c1 hc
            (try rw [hc])
            show ma_wp X d w 120 49 [(3, .inr (.inr (some c1))), (0, .inr (.inr (some 75))), (1, .inl l1), (2, .inl l2)] [] (ma_put S 75 3 (.inl ((mI S 75 3) + (1 : Int32)))) _
            refine zw_push hm_120 dX10_spread_49 (v := .inr (.inr (some 75))) rfl ?_
            refine zw_push hm_120 dX10_spread_50 (v := .inr (.inr (some c1))) rfl ?_
            refine zw_cv hm_120 dX10_spread_51 v_10_86_10 hm_121 [.inr (.inr (some c1))] [] rfl (zT_rt (zT_pi hS) s_75 rfl) ⟨by omega, by omega⟩ rfl ?_
            show ma_wp X (d - 1) (w - 21) 121 0 [(0, .inr (.inr (some 75))), (1, .inr (.inr (some c1)))] [] (ma_put S 75 3 (.inl ((mI S 75 3) + (1 : Int32)))) _
            refine zw_push hm_121 dX10_blacken_0 (v := .inr (.inr (some c1))) rfl ?_
            obtain ⟨hg, h⟩ := h
            refine zw_gf hm_121 dX10_blacken_1 (v := .inl (mI (ma_put S 75 3 (.inl ((mI S 75 3) + (1 : Int32)))) c1 0)) (zT_tis (zT_pi hS) hg) (zT_tt (zT_pi hS) hg) rfl f_10_58_9 rfl ?_
            refine zw_push hm_121 dX10_blacken_4 (v := .inl (512 : Int32)) rfl ?_
            refine zw_if2 hm_121 dX10_blacken_7 (t := 20) rfl zc2_ge ?_ ?_
            · intro hc
              rw [if_pos hc] at h
              refine zw_vret hm_121 dX10_blacken_20 ?_
              show ma_wp X d w 120 54 [(3, .inr (.inr (some c1))), (0, .inr (.inr (some 75))), (1, .inl l1), (2, .inl l2)] [] (ma_put S 75 3 (.inl ((mI S 75 3) + (1 : Int32)))) _
              refine zw_push hm_120 dX10_spread_54 (v := .inl (0 : Int32)) rfl ?_
              refine zw_sto hm_120 dX10_spread_55 [(4, .inl (0 : Int32)), (3, .inr (.inr (some c1))), (0, .inr (.inr (some 75))), (1, .inl l1), (2, .inl l2)] rfl rfl rfl ?_
              exact zw_sub (ma_nd_of (ks := [0, 1, 2, 3, 4]) rfl (by decide)) (ma_nd_of (ks := [4, 3, 0, 1, 2]) rfl (by decide)) (ma_le_cons rfl (ma_le_cons rfl (ma_le_cons rfl (ma_le_cons rfl (ma_le_cons rfl (ma_le_nil _)))))) h
            · intro hc
              rw [if_neg hc] at h
              refine zw_push hm_121 dX10_blacken_10 (v := .inr (.inr (some 75))) rfl ?_
              refine zw_gf hm_121 dX10_blacken_11 (v := .inr (.inr (some 77))) (zT_is (zT_pi hS) s_75) (zT_t (zT_pi hS) s_75) rfl f_10_15_10 (zT_f (zT_pi hS) r_75_2) ?_
              refine zw_push hm_121 dX10_blacken_14 (v := .inr (.inr (some c1))) rfl ?_
              obtain ⟨hg, h⟩ := h
              refine zw_gf hm_121 dX10_blacken_15 (v := .inl (mI (ma_put S 75 3 (.inl ((mI S 75 3) + (1 : Int32)))) c1 0)) (zT_tis (zT_pi hS) hg) (zT_tt (zT_pi hS) hg) rfl f_10_58_9 rfl ?_
              refine zw_push hm_121 dX10_blacken_18 (v := .inl (2 : Int32)) rfl ?_
              obtain ⟨hg, h⟩ := h
              refine zw_ias hm_121 dX10_blacken_19 (zT_is (zT_pi hS) s_77) (zT_h (zT_pi hS) s_77) rfl hg ?_
              refine zw_vret hm_121 dX10_blacken_20 ?_
              show ma_wp X d w 120 54 [(3, .inr (.inr (some c1))), (0, .inr (.inr (some 75))), (1, .inl l1), (2, .inl l2)] [] (ma_put (ma_put S 75 3 (.inl ((mI S 75 3) + (1 : Int32)))) 77 (mI (ma_put S 75 3 (.inl ((mI S 75 3) + (1 : Int32)))) c1 0).toNatClampNeg (.inl (2 : Int32))) _
              refine zw_push hm_120 dX10_spread_54 (v := .inl (0 : Int32)) rfl ?_
              refine zw_sto hm_120 dX10_spread_55 [(4, .inl (0 : Int32)), (3, .inr (.inr (some c1))), (0, .inr (.inr (some 75))), (1, .inl l1), (2, .inl l2)] rfl rfl rfl ?_
              exact zw_sub (ma_nd_of (ks := [0, 1, 2, 3, 4]) rfl (by decide)) (ma_nd_of (ks := [4, 3, 0, 1, 2]) rfl (by decide)) (ma_le_cons rfl (ma_le_cons rfl (ma_le_cons rfl (ma_le_cons rfl (ma_le_cons rfl (ma_le_nil _)))))) h
theorem g_120_75_s_57 {X : Nat × (Nat → Int32)} {d w : Nat} {S : ma_S} {Q : Option ma_V ⊕ Nat → ma_S → Prop} (l1 : Int32) (l2 : Int32) (l3 : Nat) (l4 : Int32) (hd : 1 ≤ d) (hw : 25 ≤ w) (hS : zT S) (h : (126 ≤ l3 ∧ l3 < mN S) ∧ (if ((mI S l3 2) - (1 : Int32)) ≤ l4 then (ma_wp X d w 120 2 [(0, .inr (.inr (some 75))), (1, .inl l1), (2, .inl (l2 + (1 : Int32)))] [] S Q) else (ma_wp X (d - 1) (w - 25) 82 0 [(0, .inr (.inr (some 69))), (1, .inr (.inr (some l3))), (2, .inl l4)] [] S (zo (fun v2 S1 => zT S1 ∧ (ma_wp X (d - 1) (w - 21) 119 0 [(0, .inr (.inr (some 75))), (1, .inr (.inr v2))] [] S1 (zv (fun S3 => zT S3 ∧ (ma_wp X d w 120 57 [(0, .inr (.inr (some 75))), (1, .inl l1), (2, .inl l2), (3, .inr (.inr (some l3))), (4, .inl (l4 + (1 : Int32)))] [] S3 Q)) (fun x S9 => Q (.inr x) S9)))) (fun x S9 => Q (.inr x) S9))))) : ma_wp X d w 120 57 [(0, .inr (.inr (some 75))), (1, .inl l1), (2, .inl l2), (3, .inr (.inr (some l3))), (4, .inl l4)] [] S Q := by
  refine zw_push hm_120 dX10_spread_57 (v := .inl l4) rfl ?_
  refine zw_push hm_120 dX10_spread_59 (v := .inr (.inr (some l3))) rfl ?_
  obtain ⟨hg, h⟩ := h
  refine zw_gf hm_120 dX10_spread_60 (v := .inl (mI S l3 2)) (zT_tis hS hg) (zT_tt hS hg) rfl f_10_89_9 rfl ?_
  refine zw_push hm_120 dX10_spread_63 (v := .inl (1 : Int32)) rfl ?_
  refine zw_stk hm_120 dX10_spread_64 (st₉ := [.inl ((mI S l3 2) - (1 : Int32)), .inl l4]) rfl rfl ?_
  refine zw_if2 hm_120 dX10_spread_65 (t := 88) rfl zc2_ge ?_ ?_
  · intro hc
    rw [if_pos hc] at h
    refine zw_sto hm_120 dX10_spread_88 [(2, .inl (l2 + (1 : Int32))), (0, .inr (.inr (some 75))), (1, .inl l1), (3, .inr (.inr (some l3))), (4, .inl l4)] rfl rfl rfl ?_
    refine zw_goto hm_120 dX10_spread_91 (t := 2) rfl ?_
    exact zw_sub (ma_nd_of (ks := [0, 1, 2]) rfl (by decide)) (ma_nd_of (ks := [2, 0, 1, 3, 4]) rfl (by decide)) (ma_le_cons rfl (ma_le_cons rfl (ma_le_cons rfl (ma_le_nil _)))) h
  · intro hc
    rw [if_neg hc] at h
    refine zw_push hm_120 dX10_spread_68 (v := .inr (.inr (some 75))) rfl ?_
    refine zw_push hm_120 dX10_spread_69 (v := .inr (.inr (some 75))) rfl ?_
    refine zw_gf hm_120 dX10_spread_70 (v := .inr (.inr (some 69))) (zT_is hS s_75) (zT_t hS s_75) rfl f_10_18_10 (zT_f hS r_75_0) ?_
    refine zw_push hm_120 dX10_spread_73 (v := .inr (.inr (some l3))) rfl ?_
    refine zw_push hm_120 dX10_spread_74 (v := .inl l4) rfl ?_
    refine zw_cv hm_120 dX10_spread_76 v_10_92_7 hm_82 [.inl l4, .inr (.inr (some l3))] [.inr (.inr (some 75))] rfl (zT_rt hS s_69 rfl) ⟨by omega, by omega⟩ rfl (zw_mono h (zo_go ?_ ?_))
    · intro v2 S1 hv
      obtain ⟨hS1, h⟩ := hv
      refine zw_cv hm_120 dX10_spread_79 v_10_70_10 hm_119 [.inr (.inr v2)] [] rfl (zT_rt hS1 s_75 rfl) ⟨by omega, by omega⟩ rfl (zw_mono h (zv_go ?_ ?_))
      · intro S3 hv
        obtain ⟨hS3, h⟩ := hv
        refine zw_sto hm_120 dX10_spread_82 [(4, .inl (l4 + (1 : Int32))), (0, .inr (.inr (some 75))), (1, .inl l1), (2, .inl l2), (3, .inr (.inr (some l3)))] rfl rfl rfl ?_
        refine zw_goto hm_120 dX10_spread_85 (t := 57) rfl ?_
        exact zw_sub (ma_nd_of (ks := [0, 1, 2, 3, 4]) rfl (by decide)) (ma_nd_of (ks := [4, 0, 1, 2, 3]) rfl (by decide)) (ma_le_cons rfl (ma_le_cons rfl (ma_le_cons rfl (ma_le_cons rfl (ma_le_cons rfl (ma_le_nil _)))))) h
      · intro x S9 hx
        exact ⟨by decide, hx⟩
    · intro x S9 hx
      exact ⟨by decide, hx⟩
theorem lp_120_75_s_57 {X : Nat × (Nat → Int32)} {d w : Nat} {f : Nat → Nat → Int32} {r : Nat → Nat → Option Nat} {C Z N : Nat} {Q : Option ma_V ⊕ Nat → ma_S → Prop} {ab : Nat→Nat→Int32} {R : zRT} {a8 : Nat→Nat→Int32} {m : Int32} (hd : 1 ≤ d) (hw : 25 ≤ w) (K : ∀ v S₉, zI f r C Z N S₉ → (True) → (xB S₉ R) → (aS 75 S₉ = aSp m.toInt.toNat ab ∧ v.toInt = (aSn m.toInt.toNat ab : Int)) → (aS 88 S₉ = a8) → Q (.inl (some (.inl v))) S₉) {nB : Nat} (OUT : ∀ (S₉ : ma_S) (l1 : Int32) (l2 : Int32), (l1.toInt - l2.toInt).toNat < nB → zI f r C Z N S₉ → (0 ≤ l2.toInt) → (l2.toInt ≤ l1.toInt) → (xB S₉ R) → (zSr (l1.toInt - l2.toInt).toNat (aS 75 S₉) l2.toInt m.toInt.toNat ab) → (aS 88 S₉ = a8) → ma_wp X d w 120 2 [(0, .inr (.inr (some 75))), (1, .inl l1), (2, .inl l2)] [] S₉ Q) : ∀ (n : Nat) (S : ma_S) (l1 : Int32) (l2 : Int32) (l3 : Nat) (l4 : Int32), (61 - l4.toInt).toNat = n → zI f r C Z N S → (126 ≤ l3 ∧ l3 < N) → (l2.toInt < l1.toInt) → ((l1.toInt - l2.toInt).toNat = nB) → (0 ≤ l2.toInt) → (0 ≤ l4.toInt) → (xB S R) → (zTa R (mI S l3 0) = some l3) → (zSr (l1.toInt - l2.toInt - 1).toNat (aCw (aS 75 S) (mI S l3 0).toNatClampNeg l4) (l2.toInt + 1) m.toInt.toNat ab) → (aS 88 S = a8) → ma_wp X d w 120 57 [(0, .inr (.inr (some 75))), (1, .inl l1), (2, .inl l2), (3, .inr (.inr (some l3))), (4, .inl l4)] [] S Q := by
  intro n
  induction n using Nat.strongRecOn with
  | _ n IH =>
    intro S l1 l2 l3 l4 hmu hI th_l3 hi0 hi1 hi2 hi3 hi4 hi5 hi6 hi7
    refine g_120_75_s_57 l1 l2 l3 l4 (by omega) (by omega) (zG_T hI) ?_
    refine ⟨zG_n hI th_l3, ?_⟩
    have f1 := zG_th hI th_l3
    first | have e2 : ((mI S l3 2) - (1 : Int32)).toInt = (mI S l3 2).toInt - (1) := i_subk rfl (by omega) (by omega) | have b3 := i_bd ((mI S l3 2) - (1 : Int32))
    have b4 := i_bd l4
    refine zd (fun h5 => ?_) (fun h5 => ?_)
    · skip
      have g6 := i_le h5
      have b7 := i_bd l1
      have b8 := i_bd l2
      first | have e9 : (l2 + (1 : Int32)).toInt = l2.toInt + (1) := i_addk rfl (by omega) (by omega) | have b10 := i_bd (l2 + (1 : Int32))
      exact OUT _ (l1) ((l2 + (1 : Int32))) (by omega) hI (by omega) (by omega) (show xB S R from by first | (exact (xC_o (W := 75) hi4).2)) (show zSr ((l1).toInt - ((l2 + (1 : Int32))).toInt).toNat (aS 75 S) ((l2 + (1 : Int32))).toInt m.toInt.toNat ab from by first | (have q := hi6; rw [aCw_st (by rw [← (xB_th (W := 75) hi4 hi5).2.2.2.2.1]; omega)] at q; exact zSr_k q (by omega) (by omega))) (show aS 88 S = a8 from by first | (exact (xC_o (W := 88) hi4).1.trans hi7))
    · skip
      have g11 := i_nle h5
      refine sp_82_69_s (R := R) (W := 75) (y := (mI S l3 0)) l3 (l4) (by omega) (by omega) hI th_l3 (show xB S R from by first | (exact (xC_o (W := 75) hi4).2)) (show zTa R (mI S l3 0) = some l3 from by first | (exact hi5)) (by omega) (fun v2 S1 eS_S1 hq_v2 rp0_S1 => zo_n ⟨(by rw [eS_S1]; exact zG_T hI), ?_⟩)
      replace eS_S1 := eS_S1.symm; subst eS_S1
      have rp0_S1 : v2 = zTa R (aRef (aS 75 S) (mI S l3 0).toNatClampNeg l4) := rp0_S1
      refine sp_119_75_s (ab := (aS 75 S)) (R := R) (y := ((aRef (aS 75 S) (mI S l3 0).toNatClampNeg l4))) (a8 := a8) (v2) (by omega) (by omega) hI hq_v2 (show xB S R from by first | (exact (xC_o (W := 75) hi4).2)) (show aS 75 S = (aS 75 S) from by first | (exact rfl)) (show v2 = zTa R ((aRef (aS 75 S) (mI S l3 0).toNatClampNeg l4)) from by first | (exact rp0_S1)) (show aS 88 S = a8 from by first | (exact (xC_o (W := 88) hi4).1.trans hi7)) (fun S3 hI_S3 rp0_S3 rp1_S3 rp2_S3 => zv_n ⟨zG_T hI_S3, ?_⟩)
      have rp0_S3 : xB S3 R := rp0_S3
      have rp1_S3 : aS 75 S3 = aCm (aS 75 S) ((aRef (aS 75 S) (mI S l3 0).toNatClampNeg l4)) := rp1_S3
      have rp2_S3 : aS 88 S3 = a8 := rp2_S3
      have b12 := i_bd l1
      have b13 := i_bd l2
      first | have e14 : (l4 + (1 : Int32)).toInt = l4.toInt + (1) := i_addk rfl (by omega) (by omega) | have b15 := i_bd (l4 + (1 : Int32))
      exact IH _ (by omega) _ (l1) (l2) l3 ((l4 + (1 : Int32))) rfl hI_S3 th_l3 (by omega) (by omega) (by omega) (by omega) (show xB S3 R from by first | (exact (xC_o (W := 75) rp0_S3).2)) (show zTa R (mI S3 l3 0) = some l3 from by first | (exact rg_up rp0_S3 hi5) | (exact hi5)) (show zSr ((l1).toInt - (l2).toInt - 1).toNat (aCw (aS 75 S3) (mI S3 l3 0).toNatClampNeg ((l4 + (1 : Int32)))) ((l2).toInt + 1) m.toInt.toNat ab from by first | (rw [rp1_S3, (xB_th (W := 75) rp0_S3 hi5).2.2.1, ← aCw_go (by rw [← (xB_th (W := 75) hi4 hi5).2.2.2.2.1]; omega)]; exact hi6)) (show aS 88 S3 = a8 from by first | (exact (xC_o (W := 88) rp0_S3).1.trans rp2_S3))
theorem lp_120_75_s_2 {X : Nat × (Nat → Int32)} {d w : Nat} {f : Nat → Nat → Int32} {r : Nat → Nat → Option Nat} {C Z N : Nat} {Q : Option ma_V ⊕ Nat → ma_S → Prop} {ab : Nat→Nat→Int32} {R : zRT} {a8 : Nat→Nat→Int32} {m : Int32} (hd : 1 ≤ d) (hw : 25 ≤ w) (K : ∀ v S₉, zI f r C Z N S₉ → (True) → (xB S₉ R) → (aS 75 S₉ = aSp m.toInt.toNat ab ∧ v.toInt = (aSn m.toInt.toNat ab : Int)) → (aS 88 S₉ = a8) → Q (.inl (some (.inl v))) S₉) : ∀ (n : Nat) (S : ma_S) (l1 : Int32) (l2 : Int32), (l1.toInt - l2.toInt).toNat = n → zI f r C Z N S → (0 ≤ l2.toInt) → (l2.toInt ≤ l1.toInt) → (xB S R) → (zSr (l1.toInt - l2.toInt).toNat (aS 75 S) l2.toInt m.toInt.toNat ab) → (aS 88 S = a8) → ma_wp X d w 120 2 [(0, .inr (.inr (some 75))), (1, .inl l1), (2, .inl l2)] [] S Q := by
  intro n
  induction n using Nat.strongRecOn with
  | _ n IH =>
    intro S l1 l2 hmu hI  hi0 hi1 hi2 hi3 hi4
    refine g_120_75_s_2 l1 l2 (by omega) (by omega) (zG_T hI) ?_
    have r3 := congrArg Int32.toInt (aS_I (W := 75) (S := S) (c := 75) (c₉ := 75) (k := 3) rfl rfl)
    have r4 := congrArg Int32.toInt (aS_I (W := 75) (S := S) (c := 75) (c₉ := 75) (k := 4) rfl rfl)
    have b1 := i_bd l1
    have b2 := i_bd l2
    refine zd (fun h3 => ?_) (fun h3 => ?_)
    · skip
      have g4 := i_le h3
      exact K (l2) _ hI trivial (show xB S R from by first | (exact (xC_o (W := 75) hi2).2)) (show aS 75 S = aSp m.toInt.toNat ab ∧ l2.toInt = (aSn m.toInt.toNat ab : Int) from by first | (exact zSr_st hi3 (Or.inl (by omega))) | (exact zSr_st hi3 (Or.inr (by omega)))) (show aS 88 S = a8 from by first | (exact (xC_o (W := 88) hi2).1.trans hi4))
    · skip
      have g5 := i_nle h3
      have f6 := zG_s hI (0) (512) (c := 75) (k := 4) (by decide)
      have f7 := zG_s hI (0) (512) (c := 75) (k := 3) (by decide)
      refine zd (fun h8 => ?_) (fun h8 => ?_)
      · skip
        have g9 := i_le h8
        exact K (l2) _ hI trivial (show xB S R from by first | (exact (xC_o (W := 75) hi2).2)) (show aS 75 S = aSp m.toInt.toNat ab ∧ l2.toInt = (aSn m.toInt.toNat ab : Int) from by first | (exact zSr_st hi3 (Or.inl (by omega))) | (exact zSr_st hi3 (Or.inr (by omega)))) (show aS 88 S = a8 from by first | (exact (xC_o (W := 88) hi2).1.trans hi4))
      · skip
        have g10 := i_nle h8
        refine ⟨i_ix (by omega) (by omega), ?_⟩
        have b11 := i_bd (mI S 76 (mI S 75 3).toNatClampNeg)
        have li12 : (0 : Int32).toInt = 0 := rfl
        refine zd (fun h13 => ?_) (fun h13 => ?_)
        · skip
          have g14 := i_lt h13
          first | have e16 : ((mI S 75 3) + (1 : Int32)).toInt = (mI S 75 3).toInt + (1) := i_addk rfl (by omega) (by omega) | have b17 := i_bd ((mI S 75 3) + (1 : Int32))
          have hI15 : zI f r C Z N (ma_put S 75 3 (.inl ((mI S 75 3) + (1 : Int32)))) := zG_sp hI (0) (512) rfl (by decide) (by decide) (by decide) trivial (by omega) (by omega)
          first | have e18 : (l2 + (1 : Int32)).toInt = l2.toInt + (1) := i_addk rfl (by omega) (by omega) | have b19 := i_bd (l2 + (1 : Int32))
          exact IH _ (by omega) _ (l1) ((l2 + (1 : Int32))) rfl hI15 (by omega) (by omega) (show xB (ma_put S 75 3 (.inl ((mI S 75 3) + (1 : Int32)))) R from by first | (exact (xC_p (c := 75) (k := 3) (x := ((mI S 75 3) + (1 : Int32))) (xC_o (W := 75) hi2) 75 xW75 rfl rfl).2)) (show zSr ((l1).toInt - ((l2 + (1 : Int32))).toInt).toNat (aS 75 (ma_put S 75 3 (.inl ((mI S 75 3) + (1 : Int32))))) ((l2 + (1 : Int32))).toInt m.toInt.toNat ab from by first | (have q := zSr_go hi3 (show _ = (l1.toInt - (l2 + (1 : Int32)).toInt).toNat + 1 by omega) (by omega); rw [aPop_n (a := aS 75 S) (y := mI S 76 (mI S 75 3).toNatClampNeg) rfl (fun z => by omega)] at q; rw [(aS_I (W := 75) (S := S) (c := 75) (c₉ := 75) (k := 3) rfl rfl)] at q; rw [(xC_p (c := 75) (k := 3) (x := ((mI S 75 3) + (1 : Int32))) (xC_o (W := 75) hi2) 75 xW75 rfl rfl).1]; exact zSr_k q (by omega) (by omega))) (show aS 88 (ma_put S 75 3 (.inl ((mI S 75 3) + (1 : Int32)))) = a8 from by first | (exact (xC_n (c := 75) (k := 3) (x := ((mI S 75 3) + (1 : Int32))) (xC_o (W := 88) hi2) ⟨by decide, Or.inr ⟨rfl, Or.inl (by decide)⟩⟩).1.trans hi4))
        · skip
          have g20 := i_nlt h13
          have li21 : (512 : Int32).toInt = 512 := rfl
          refine zd (fun h22 => ?_) (fun h22 => ?_)
          · skip
            have g23 := i_le h22
            first | have e25 : ((mI S 75 3) + (1 : Int32)).toInt = (mI S 75 3).toInt + (1) := i_addk rfl (by omega) (by omega) | have b26 := i_bd ((mI S 75 3) + (1 : Int32))
            have hI24 : zI f r C Z N (ma_put S 75 3 (.inl ((mI S 75 3) + (1 : Int32)))) := zG_sp hI (0) (512) rfl (by decide) (by decide) (by decide) trivial (by omega) (by omega)
            first | have e27 : (l2 + (1 : Int32)).toInt = l2.toInt + (1) := i_addk rfl (by omega) (by omega) | have b28 := i_bd (l2 + (1 : Int32))
            exact IH _ (by omega) _ (l1) ((l2 + (1 : Int32))) rfl hI24 (by omega) (by omega) (show xB (ma_put S 75 3 (.inl ((mI S 75 3) + (1 : Int32)))) R from by first | (exact (xC_p (c := 75) (k := 3) (x := ((mI S 75 3) + (1 : Int32))) (xC_o (W := 75) hi2) 75 xW75 rfl rfl).2)) (show zSr ((l1).toInt - ((l2 + (1 : Int32))).toInt).toNat (aS 75 (ma_put S 75 3 (.inl ((mI S 75 3) + (1 : Int32))))) ((l2 + (1 : Int32))).toInt m.toInt.toNat ab from by first | (have q := zSr_go hi3 (show _ = (l1.toInt - (l2 + (1 : Int32)).toInt).toNat + 1 by omega) (by omega); rw [aPop_n (a := aS 75 S) (y := mI S 76 (mI S 75 3).toNatClampNeg) rfl (fun z => by omega)] at q; rw [(aS_I (W := 75) (S := S) (c := 75) (c₉ := 75) (k := 3) rfl rfl)] at q; rw [(xC_p (c := 75) (k := 3) (x := ((mI S 75 3) + (1 : Int32))) (xC_o (W := 75) hi2) 75 xW75 rfl rfl).1]; exact zSr_k q (by omega) (by omega))) (show aS 88 (ma_put S 75 3 (.inl ((mI S 75 3) + (1 : Int32)))) = a8 from by first | (exact (xC_n (c := 75) (k := 3) (x := ((mI S 75 3) + (1 : Int32))) (xC_o (W := 88) hi2) ⟨by decide, Or.inr ⟨rfl, Or.inl (by decide)⟩⟩).1.trans hi4))
          · skip
            have g29 := i_nle h22
            refine ⟨i_ix (by omega) (by omega), ?_⟩
            refine ⟨fun hc => ?_, fun c1 hc => ?_⟩
            · skip
              have rn_c1 : zTa R ((mI S 76 (mI S 75 3).toNatClampNeg)) = none := (ta_rd (y := ((mI S 76 (mI S 75 3).toNatClampNeg))) hi2 (by omega) (by omega)).symm.trans hc
              first | have e31 : ((mI S 75 3) + (1 : Int32)).toInt = (mI S 75 3).toInt + (1) := i_addk rfl (by omega) (by omega) | have b32 := i_bd ((mI S 75 3) + (1 : Int32))
              have hI30 : zI f r C Z N (ma_put S 75 3 (.inl ((mI S 75 3) + (1 : Int32)))) := zG_sp hI (0) (512) rfl (by decide) (by decide) (by decide) trivial (by omega) (by omega)
              first | have e33 : (l2 + (1 : Int32)).toInt = l2.toInt + (1) := i_addk rfl (by omega) (by omega) | have b34 := i_bd (l2 + (1 : Int32))
              exact IH _ (by omega) _ (l1) ((l2 + (1 : Int32))) rfl hI30 (by omega) (by omega) (show xB (ma_put S 75 3 (.inl ((mI S 75 3) + (1 : Int32)))) R from by first | (exact (xC_p (c := 75) (k := 3) (x := ((mI S 75 3) + (1 : Int32))) (xC_o (W := 75) hi2) 75 xW75 rfl rfl).2)) (show zSr ((l1).toInt - ((l2 + (1 : Int32))).toInt).toNat (aS 75 (ma_put S 75 3 (.inl ((mI S 75 3) + (1 : Int32))))) ((l2 + (1 : Int32))).toInt m.toInt.toNat ab from by first | (have q := zSr_go hi3 (show _ = (l1.toInt - (l2 + (1 : Int32)).toInt).toNat + 1 by omega) (by omega); rw [aPop_n (a := aS 75 S) (y := mI S 76 (mI S 75 3).toNatClampNeg) rfl (fun z => xB_nt (W := 75) hi2 rn_c1 z)] at q; rw [(aS_I (W := 75) (S := S) (c := 75) (c₉ := 75) (k := 3) rfl rfl)] at q; rw [(xC_p (c := 75) (k := 3) (x := ((mI S 75 3) + (1 : Int32))) (xC_o (W := 75) hi2) 75 xW75 rfl rfl).1]; exact zSr_k q (by omega) (by omega))) (show aS 88 (ma_put S 75 3 (.inl ((mI S 75 3) + (1 : Int32)))) = a8 from by first | (exact (xC_n (c := 75) (k := 3) (x := ((mI S 75 3) + (1 : Int32))) (xC_o (W := 88) hi2) ⟨by decide, Or.inr ⟨rfl, Or.inl (by decide)⟩⟩).1.trans hi4))
            · skip
              have th_c1 := (fun _ z => zG_70 hI (c := 70) (by decide) z) c1 hc
              have rg_c1 : zTa R ((mI S 76 (mI S 75 3).toNatClampNeg)) = some c1 := (ta_rd (y := ((mI S 76 (mI S 75 3).toNatClampNeg))) hi2 (by omega) (by omega)).symm.trans hc
              first | have e36 : ((mI S 75 3) + (1 : Int32)).toInt = (mI S 75 3).toInt + (1) := i_addk rfl (by omega) (by omega) | have b37 := i_bd ((mI S 75 3) + (1 : Int32))
              have hI35 : zI f r C Z N (ma_put S 75 3 (.inl ((mI S 75 3) + (1 : Int32)))) := zG_sp hI (0) (512) rfl (by decide) (by decide) (by decide) trivial (by omega) (by omega)
              refine ⟨zG_n hI35 th_c1, ?_⟩
              have f38 := zG_th hI th_c1
              have q39 : (mI (ma_put S 75 3 (.inl ((mI S 75 3) + (1 : Int32)))) c1 0).toInt = (mI S c1 0).toInt := zp_fx th_c1.1 (by decide)
              have f40 := zG_th hI35 th_c1
              refine zd (fun h41 => ?_) (fun h41 => ?_)
              · skip
                have g42 := i_le h41
                exact lp_120_75_s_57 (by omega) (by omega) K (fun _ _ _ z1 z2 z3 z4 z5 z6 z7 => IH _ z1 _ _ _ rfl z2 z3 z4 z5 z6 z7) _ _ (l1) (l2) c1 ((0 : Int32)) rfl hI35 th_c1 (by omega) (by omega) (by omega) (by omega) (show xB (ma_put S 75 3 (.inl ((mI S 75 3) + (1 : Int32)))) R from by first | (exact (xC_p (c := 75) (k := 3) (x := ((mI S 75 3) + (1 : Int32))) (xC_o (W := 75) hi2) 75 xW75 rfl rfl).2)) (show zTa R (mI (ma_put S 75 3 (.inl ((mI S 75 3) + (1 : Int32)))) c1 0) = some c1 from by first | (exact rg_up (xC_p (c := 75) (k := 3) (x := ((mI S 75 3) + (1 : Int32))) (xC_o (W := 75) hi2) 75 xW75 rfl rfl).2 rg_c1)) (show zSr ((l1).toInt - (l2).toInt - 1).toNat (aCw (aS 75 (ma_put S 75 3 (.inl ((mI S 75 3) + (1 : Int32))))) (mI (ma_put S 75 3 (.inl ((mI S 75 3) + (1 : Int32)))) c1 0).toNatClampNeg ((0 : Int32))) ((l2).toInt + 1) m.toInt.toNat ab from by first | (exfalso; omega) | (have ty := xB_th (W := 75) hi2 rg_c1; have q := zSr_go hi3 (show _ = (l1.toInt - l2.toInt - 1).toNat + 1 by omega) (by omega); rw [aPop_y (a := aS 75 S) (y := ((mI S 76 (mI S 75 3).toNatClampNeg))) rfl ty.1 ty.2.1 (by rw [ty.2.2.2.2.2.2.2.2]; decide), (aS_I (W := 75) (S := S) (c := 75) (c₉ := 75) (k := 3) rfl rfl)] at q; rw [(xC_p (c := 75) (k := 3) (x := ((mI S 75 3) + (1 : Int32))) (xC_o (W := 75) hi2) 75 xW75 rfl rfl).1]; (try simp only [zp_e (c₉ := 75) th_c1.1 (by decide)]); rw [ty.2.2.1]; exact q)) (show aS 88 (ma_put S 75 3 (.inl ((mI S 75 3) + (1 : Int32)))) = a8 from by first | (exact (xC_n (c := 75) (k := 3) (x := ((mI S 75 3) + (1 : Int32))) (xC_o (W := 88) hi2) ⟨by decide, Or.inr ⟨rfl, Or.inl (by decide)⟩⟩).1.trans hi4))
              · skip
                have g43 := i_nle h41
                refine ⟨zG_n hI35 th_c1, ?_⟩
                refine ⟨i_ix (by omega) (by omega), ?_⟩
                have hI44 : zI f r C Z N (ma_put (ma_put S 75 3 (.inl ((mI S 75 3) + (1 : Int32)))) 77 (mI (ma_put S 75 3 (.inl ((mI S 75 3) + (1 : Int32)))) c1 0).toNatClampNeg (.inl (2 : Int32))) := zG_fa hI35 rfl (by decide) (by decide) (by decide) trivial
                exact lp_120_75_s_57 (by omega) (by omega) K (fun _ _ _ z1 z2 z3 z4 z5 z6 z7 => IH _ z1 _ _ _ rfl z2 z3 z4 z5 z6 z7) _ _ (l1) (l2) c1 ((0 : Int32)) rfl hI44 th_c1 (by omega) (by omega) (by omega) (by omega) (show xB (ma_put (ma_put S 75 3 (.inl ((mI S 75 3) + (1 : Int32)))) 77 (mI (ma_put S 75 3 (.inl ((mI S 75 3) + (1 : Int32)))) c1 0).toNatClampNeg (.inl (2 : Int32))) R from by first | (exact (xC_p (c := 77) (k := (mI (ma_put S 75 3 (.inl ((mI S 75 3) + (1 : Int32)))) c1 0).toNatClampNeg) (x := (2 : Int32)) (xC_p (c := 75) (k := 3) (x := ((mI S 75 3) + (1 : Int32))) (xC_o (W := 75) hi2) 75 xW75 rfl rfl) 77 xW75 rfl rfl).2)) (show zTa R (mI (ma_put (ma_put S 75 3 (.inl ((mI S 75 3) + (1 : Int32)))) 77 (mI (ma_put S 75 3 (.inl ((mI S 75 3) + (1 : Int32)))) c1 0).toNatClampNeg (.inl (2 : Int32))) c1 0) = some c1 from by first | (exact rg_up (xC_p (c := 77) (k := (mI (ma_put S 75 3 (.inl ((mI S 75 3) + (1 : Int32)))) c1 0).toNatClampNeg) (x := (2 : Int32)) (xC_p (c := 75) (k := 3) (x := ((mI S 75 3) + (1 : Int32))) (xC_o (W := 75) hi2) 75 xW75 rfl rfl) 77 xW75 rfl rfl).2 rg_c1)) (show zSr ((l1).toInt - (l2).toInt - 1).toNat (aCw (aS 75 (ma_put (ma_put S 75 3 (.inl ((mI S 75 3) + (1 : Int32)))) 77 (mI (ma_put S 75 3 (.inl ((mI S 75 3) + (1 : Int32)))) c1 0).toNatClampNeg (.inl (2 : Int32)))) (mI (ma_put (ma_put S 75 3 (.inl ((mI S 75 3) + (1 : Int32)))) 77 (mI (ma_put S 75 3 (.inl ((mI S 75 3) + (1 : Int32)))) c1 0).toNatClampNeg (.inl (2 : Int32))) c1 0).toNatClampNeg ((0 : Int32))) ((l2).toInt + 1) m.toInt.toNat ab from by first | (exfalso; omega) | (have ty := xB_th (W := 75) hi2 rg_c1; have q := zSr_go hi3 (show _ = (l1.toInt - l2.toInt - 1).toNat + 1 by omega) (by omega); rw [aPop_y (a := aS 75 S) (y := ((mI S 76 (mI S 75 3).toNatClampNeg))) rfl ty.1 ty.2.1 (by rw [ty.2.2.2.2.2.2.2.2]; decide), (aS_I (W := 75) (S := S) (c := 75) (c₉ := 75) (k := 3) rfl rfl)] at q; rw [(xC_p (c := 77) (k := (mI (ma_put S 75 3 (.inl ((mI S 75 3) + (1 : Int32)))) c1 0).toNatClampNeg) (x := (2 : Int32)) (xC_p (c := 75) (k := 3) (x := ((mI S 75 3) + (1 : Int32))) (xC_o (W := 75) hi2) 75 xW75 rfl rfl) 77 xW75 rfl rfl).1]; (try simp only [zp_e (c₉ := 75) th_c1.1 (by decide), zp_e (c₉ := 77) th_c1.1 (by decide)]); rw [ty.2.2.1]; exact q)) (show aS 88 (ma_put (ma_put S 75 3 (.inl ((mI S 75 3) + (1 : Int32)))) 77 (mI (ma_put S 75 3 (.inl ((mI S 75 3) + (1 : Int32)))) c1 0).toNatClampNeg (.inl (2 : Int32))) = a8 from by first | (exact (xC_n (c := 77) (k := (mI (ma_put S 75 3 (.inl ((mI S 75 3) + (1 : Int32)))) c1 0).toNatClampNeg) (x := (2 : Int32)) (xC_n (c := 75) (k := 3) (x := ((mI S 75 3) + (1 : Int32))) (xC_o (W := 88) hi2) ⟨by decide, Or.inr ⟨rfl, Or.inl (by decide)⟩⟩) ⟨by decide, Or.inr ⟨rfl, Or.inl (by decide)⟩⟩).1.trans hi4))
theorem sp_120_75_s {X : Nat × (Nat → Int32)} {d w : Nat} {f : Nat → Nat → Int32} {r : Nat → Nat → Option Nat} {C Z N : Nat} {Q : Option ma_V ⊕ Nat → ma_S → Prop} {ab : Nat→Nat→Int32} {R : zRT} {a8 : Nat→Nat→Int32} {S : ma_S} (m : Int32) (hd : 1 ≤ d) (hw : 25 ≤ w) (hI : zI f r C Z N S) (hpre0 : xB S R) (hpre1 : aS 75 S = ab) (hpre2 : 0 ≤ m.toInt) (hpre3 : aS 88 S = a8) (K : ∀ v S₉, zI f r C Z N S₉ → (True) → (xB S₉ R) → (aS 75 S₉ = aSp m.toInt.toNat ab ∧ v.toInt = (aSn m.toInt.toNat ab : Int)) → (aS 88 S₉ = a8) → Q (.inl (some (.inl v))) S₉) : ma_wp X d w 120 0 [(0, .inr (.inr (some 75))), (1, .inl m)] [] S Q := by
  refine g_120_75_s_0 m (by omega) (by omega) (zG_T hI) ?_
  have b1 := i_bd m
  have li2 : (0 : Int32).toInt = 0 := rfl
  exact lp_120_75_s_2 (by omega) (by omega) K _ _ (m) ((0 : Int32)) rfl hI (by omega) (by omega) (show xB S R from by first | (exact (xC_o (W := 75) hpre0).2)) (show zSr ((m).toInt - ((0 : Int32)).toInt).toNat (aS 75 S) ((0 : Int32)).toInt m.toInt.toNat ab from by first | (rw [hpre1, show (_ - (0 : Int32).toInt).toNat = m.toInt.toNat from by omega]; exact ⟨rfl, by omega⟩)) (show aS 88 S = a8 from by first | (exact (xC_o (W := 88) hpre0).1.trans hpre3))

/-! from 95.g07 -/
/-! the heap by numbers, the class (written by wip/tools/gen18.py) -/
theorem g_116_75_s_0 {X : Nat × (Nat → Int32)} {d w : Nat} {S : ma_S} {Q : Option ma_V ⊕ Nat → ma_S → Prop}  (hd : 2 ≤ d) (hw : 49 ≤ w) (hS : zT S) (h : ma_wp X (d - 1) (w - 21) 117 0 [(0, .inr (.inr (some 75))), (1, .inl (0 : Int32))] [] S (zv (fun S1 => zT S1 ∧ (ma_wp X (d - 1) (w - 22) 118 0 [(0, .inr (.inr (some 75)))] [] S1 (zv (fun S3 => zT S3 ∧ (ma_wp X (d - 1) (w - 24) 120 0 [(0, .inr (.inr (some 75))), (1, .inl (512 : Int32))] [] S3 (zi (fun v6 S5 => zT S5 ∧ (Q (.inl none) S5)) (fun x S9 => Q (.inr x) S9)))) (fun x S9 => Q (.inr x) S9)))) (fun x S9 => Q (.inr x) S9))) : ma_wp X d w 116 0 [(0, .inr (.inr (some 75)))] [] S Q := by
  refine zw_push hm_116 dX10_reachAll_0 (v := .inr (.inr (some 75))) rfl ?_
  refine zw_push hm_116 dX10_reachAll_1 (v := .inl (0 : Int32)) rfl ?_
  refine zw_cv hm_116 dX10_reachAll_2 v_10_38_10 hm_117 [.inl (0 : Int32)] [] rfl (zT_rt hS s_75 rfl) ⟨by omega, by omega⟩ rfl (zw_mono h (zv_go ?_ ?_))
  · intro S1 hv
    obtain ⟨hS1, h⟩ := hv
    refine zw_push hm_116 dX10_reachAll_5 (v := .inr (.inr (some 75))) rfl ?_
    refine zw_cv hm_116 dX10_reachAll_6 v_10_42_10 hm_118 [] [] rfl (zT_rt hS1 s_75 rfl) ⟨by omega, by omega⟩ rfl (zw_mono h (zv_go ?_ ?_))
    · intro S3 hv
      obtain ⟨hS3, h⟩ := hv
      refine zw_push hm_116 dX10_reachAll_9 (v := .inr (.inr (some 75))) rfl ?_
      refine zw_push hm_116 dX10_reachAll_10 (v := .inl (512 : Int32)) rfl ?_
      refine zw_cv hm_116 dX10_reachAll_13 v_10_45_10 hm_120 [.inl (512 : Int32)] [] rfl (zT_rt hS3 s_75 rfl) ⟨by omega, by omega⟩ rfl (zw_mono h (zi_go ?_ ?_))
      · intro v6 S5 hv
        obtain ⟨hS5, h⟩ := hv
        refine zw_stk hm_116 dX10_reachAll_16 (st₉ := []) rfl rfl ?_
        exact zw_vret hm_116 dX10_reachAll_17 h
      · intro x S9 hx
        exact ⟨by decide, hx⟩
    · intro x S9 hx
      exact ⟨by decide, hx⟩
  · intro x S9 hx
    exact ⟨by decide, hx⟩
theorem sp_116_75_s {X : Nat × (Nat → Int32)} {d w : Nat} {f : Nat → Nat → Int32} {r : Nat → Nat → Option Nat} {C Z N : Nat} {Q : Option ma_V ⊕ Nat → ma_S → Prop} {ab : Nat→Nat→Int32} {R : zRT} {a8 : Nat→Nat→Int32} {S : ma_S}  (hd : 2 ≤ d) (hw : 49 ≤ w) (hI : zI f r C Z N S) (hpre0 : xB S R) (hpre1 : aS 75 S = ab) (hpre2 : aS 88 S = a8) (K : ∀ S₉, zI f r C Z N S₉ → (xB S₉ R) → (aS 75 S₉ = aSp 512 (aRo (aWh ab 0) 0)) → (aS 88 S₉ = a8) → Q (.inl none) S₉) : ma_wp X d w 116 0 [(0, .inr (.inr (some 75)))] [] S Q := by
  refine g_116_75_s_0  (by omega) (by omega) (zG_T hI) ?_
  have li1 : (0 : Int32).toInt = 0 := rfl
  refine sp_117_75_s (ab := (aS 75 S)) (R := R) (a8 := a8) ((0 : Int32)) (by omega) (by omega) hI (show xB S R from by first | (exact (xC_o (W := 75) hpre0).2)) (show aS 75 S = (aS 75 S) from by first | (exact rfl)) (show aS 88 S = a8 from by first | (exact (xC_o (W := 88) hpre0).1.trans hpre2)) (fun S1 hI_S1 rp0_S1 rp1_S1 rp2_S1 => zv_n ⟨zG_T hI_S1, ?_⟩)
  have rp0_S1 : xB S1 R := rp0_S1
  have rp1_S1 : aS 75 S1 = aWh (aS 75 S) (0 : Int32) := rp1_S1
  have rp2_S1 : aS 88 S1 = a8 := rp2_S1
  refine sp_118_75_s (ab := (aS 75 S1)) (R := R) (a8 := a8) (by omega) (by omega) hI_S1 (show xB S1 R from by first | (exact (xC_o (W := 75) rp0_S1).2)) (show aS 75 S1 = (aS 75 S1) from by first | (exact rfl)) (show aS 88 S1 = a8 from by first | (exact (xC_o (W := 88) rp0_S1).1.trans rp2_S1)) (fun S3 hI_S3 rp0_S3 rp1_S3 rp2_S3 => zv_n ⟨zG_T hI_S3, ?_⟩)
  have rp0_S3 : xB S3 R := rp0_S3
  have rp1_S3 : aS 75 S3 = aRo (aS 75 S1) 0 := rp1_S3
  have rp2_S3 : aS 88 S3 = a8 := rp2_S3
  have li2 : (512 : Int32).toInt = 512 := rfl
  refine sp_120_75_s (ab := (aS 75 S3)) (R := R) (a8 := a8) ((512 : Int32)) (by omega) (by omega) hI_S3 (show xB S3 R from by first | (exact (xC_o (W := 75) rp0_S3).2)) (show aS 75 S3 = (aS 75 S3) from by first | (exact rfl)) (by omega) (show aS 88 S3 = a8 from by first | (exact (xC_o (W := 88) rp0_S3).1.trans rp2_S3)) (fun v6 S5 hI_S5 hp_v6 rp0_S5 rp1_S5 rp2_S5 => zi_n ⟨zG_T hI_S5, ?_⟩)
  have rp0_S5 : xB S5 R := rp0_S5
  have rp1_S5 : aS 75 S5 = aSp (512 : Int32).toInt.toNat (aS 75 S3) ∧ v6.toInt = (aSn (512 : Int32).toInt.toNat (aS 75 S3) : Int) := rp1_S5
  have rp2_S5 : aS 88 S5 = a8 := rp2_S5
  exact K _ hI_S5 (show xB S5 R from by first | (exact (xC_o (W := 75) rp0_S5).2)) (show aS 75 S5 = aSp 512 (aRo (aWh ab 0) 0) from by first | (rw [rp1_S5.1, rp1_S3, rp1_S1, hpre1]; rfl)) (show aS 88 S5 = a8 from by first | (exact (xC_o (W := 88) rp0_S5).1.trans rp2_S5))
theorem g_85_69_s_0 {X : Nat × (Nat → Int32)} {d w : Nat} {S : ma_S} {Q : Option ma_V ⊕ Nat → ma_S → Prop} (t : Nat) (hd : 0 ≤ d) (hw : 0 ≤ w) (hS : zT S) (h : ma_wp X d w 85 2 [(0, .inr (.inr (some 69))), (1, .inr (.inr (some t))), (2, .inl (0 : Int32))] [] S Q) : ma_wp X d w 85 0 [(0, .inr (.inr (some 69))), (1, .inr (.inr (some t)))] [] S Q := by
  refine zw_push hm_85 dX7_clearWeak_0 (v := .inl (0 : Int32)) rfl ?_
  refine zw_sto hm_85 dX7_clearWeak_1 [(2, .inl (0 : Int32)), (0, .inr (.inr (some 69))), (1, .inr (.inr (some t)))] rfl rfl rfl ?_
  exact zw_sub (ma_nd_of (ks := [0, 1, 2]) rfl (by decide)) (ma_nd_of (ks := [2, 0, 1]) rfl (by decide)) (ma_le_cons rfl (ma_le_cons rfl (ma_le_cons rfl (ma_le_nil _)))) h
theorem g_85_69_s_2 {X : Nat × (Nat → Int32)} {d w : Nat} {S : ma_S} {Q : Option ma_V ⊕ Nat → ma_S → Prop} (l1 : Nat) (l2 : Int32) (hd : 0 ≤ d) (hw : 0 ≤ w) (hS : zT S) (h : if (16 : Int32) ≤ l2 then (Q (.inl none) S) else ((0 ≤ l2 ∧ l2.toNatClampNeg < 16) ∧ ((126 ≤ l1 ∧ l1 < mN S) ∧ (if (mI S 73 l2.toNatClampNeg) = (mI S l1 0) then ((0 ≤ l2 ∧ l2.toNatClampNeg < 16) ∧ (ma_wp X d w 85 2 [(0, .inr (.inr (some 69))), (1, .inr (.inr (some l1))), (2, .inl (l2 + (1 : Int32)))] [] (ma_put S 73 l2.toNatClampNeg (.inl (-1 : Int32))) Q)) else (ma_wp X d w 85 2 [(0, .inr (.inr (some 69))), (1, .inr (.inr (some l1))), (2, .inl (l2 + (1 : Int32)))] [] S Q))))) : ma_wp X d w 85 2 [(0, .inr (.inr (some 69))), (1, .inr (.inr (some l1))), (2, .inl l2)] [] S Q := by
  refine zw_push hm_85 dX7_clearWeak_2 (v := .inl l2) rfl ?_
  refine zw_push hm_85 dX7_clearWeak_3 (v := .inl (16 : Int32)) rfl ?_
  refine zw_if2 hm_85 dX7_clearWeak_5 (t := 34) rfl zc2_ge ?_ ?_
  · intro hc
    rw [if_pos hc] at h
    exact zw_vret hm_85 dX7_clearWeak_34 h
  · intro hc
    rw [if_neg hc] at h
    refine zw_push hm_85 dX7_clearWeak_8 (v := .inr (.inr (some 69))) rfl ?_
    refine zw_gf hm_85 dX7_clearWeak_9 (v := .inr (.inr (some 73))) (zT_is hS s_69) (zT_t hS s_69) rfl f_7_24_7 (zT_f hS r_69_3) ?_
    refine zw_push hm_85 dX7_clearWeak_12 (v := .inl l2) rfl ?_
    obtain ⟨hg, h⟩ := h
    refine zw_ia hm_85 dX7_clearWeak_13 (zT_is hS s_73) (zT_h hS s_73) rfl hg ?_
    show ma_wp X d w 85 14 [(0, .inr (.inr (some 69))), (1, .inr (.inr (some l1))), (2, .inl l2)] [.inl (mI S 73 l2.toNatClampNeg)] S _
    refine zw_push hm_85 dX7_clearWeak_14 (v := .inr (.inr (some l1))) rfl ?_
    obtain ⟨hg, h⟩ := h
    refine zw_gf hm_85 dX7_clearWeak_15 (v := .inl (mI S l1 0)) (zT_tis hS hg) (zT_tt hS hg) rfl f_7_67_9 rfl ?_
    refine zw_if2 hm_85 dX7_clearWeak_18 (t := 28) rfl zc2_ne ?_ ?_
    · intro hc
      rw [if_neg hc] at h
      refine zw_sto hm_85 dX7_clearWeak_28 [(2, .inl (l2 + (1 : Int32))), (0, .inr (.inr (some 69))), (1, .inr (.inr (some l1)))] rfl rfl rfl ?_
      refine zw_goto hm_85 dX7_clearWeak_31 (t := 2) rfl ?_
      exact zw_sub (ma_nd_of (ks := [0, 1, 2]) rfl (by decide)) (ma_nd_of (ks := [2, 0, 1]) rfl (by decide)) (ma_le_cons rfl (ma_le_cons rfl (ma_le_cons rfl (ma_le_nil _)))) h
    · intro hc
      rw [if_pos (Classical.not_not.mp hc)] at h
      refine zw_push hm_85 dX7_clearWeak_21 (v := .inr (.inr (some 69))) rfl ?_
      refine zw_gf hm_85 dX7_clearWeak_22 (v := .inr (.inr (some 73))) (zT_is hS s_69) (zT_t hS s_69) rfl f_7_24_7 (zT_f hS r_69_3) ?_
      refine zw_push hm_85 dX7_clearWeak_25 (v := .inl l2) rfl ?_
      refine zw_push hm_85 dX7_clearWeak_26 (v := .inl (-1 : Int32)) rfl ?_
      obtain ⟨hg, h⟩ := h
      refine zw_ias hm_85 dX7_clearWeak_27 (zT_is hS s_73) (zT_h hS s_73) rfl hg ?_
      refine zw_sto hm_85 dX7_clearWeak_28 [(2, .inl (l2 + (1 : Int32))), (0, .inr (.inr (some 69))), (1, .inr (.inr (some l1)))] rfl rfl rfl ?_
      refine zw_goto hm_85 dX7_clearWeak_31 (t := 2) rfl ?_
      exact zw_sub (ma_nd_of (ks := [0, 1, 2]) rfl (by decide)) (ma_nd_of (ks := [2, 0, 1]) rfl (by decide)) (ma_le_cons rfl (ma_le_cons rfl (ma_le_cons rfl (ma_le_nil _)))) h
theorem lp_85_69_s_2 {X : Nat × (Nat → Int32)} {d w : Nat} {f : Nat → Nat → Int32} {r : Nat → Nat → Option Nat} {C Z N : Nat} {Q : Option ma_V ⊕ Nat → ma_S → Prop} {ab : Nat→Nat→Int32} {R : zRT} {W : Nat} {y : Int32} (hd : 0 ≤ d) (hw : 0 ≤ w) (K : ∀ S₉, zI f r C Z N S₉ → (xB S₉ R) → (aS W S₉ = zUw ab y 16) → Q (.inl none) S₉) : ∀ (n : Nat) (S : ma_S) (l1 : Nat) (l2 : Int32), (16 - l2.toInt).toNat = n → zI f r C Z N S → (126 ≤ l1 ∧ l1 < N) → (0 ≤ l2.toInt) → (l2.toInt ≤ 16) → (xB S R) → (xW W) → (zTa R y = some l1) → (aS W S = zUw ab y l2.toInt) → ma_wp X d w 85 2 [(0, .inr (.inr (some 69))), (1, .inr (.inr (some l1))), (2, .inl l2)] [] S Q := by
  intro n
  induction n using Nat.strongRecOn with
  | _ n IH =>
    intro S l1 l2 hmu hI th_l1 hi0 hi1 hi2 hi3 hi4 hi5
    refine g_85_69_s_2 l1 l2 (by omega) (by omega) (zG_T hI) ?_
    have li1 : (16 : Int32).toInt = 16 := rfl
    have b2 := i_bd l2
    refine zd (fun h3 => ?_) (fun h3 => ?_)
    · skip
      have g4 := i_le h3
      exact K _ hI (show xB S R from by first | (exact (xC_o (W := 75) hi2).2)) (show aS W S = zUw ab y 16 from by first | (rw [hi5, show l2.toInt = 16 from by omega]))
    · skip
      have g5 := i_nle h3
      refine ⟨i_ix (by omega) (by omega), ?_⟩
      refine ⟨zG_n hI th_l1, ?_⟩
      have b6 := i_bd (mI S 73 l2.toNatClampNeg)
      have f7 := zG_th hI th_l1
      refine zd (fun h8 => ?_) (fun h8 => ?_)
      · skip
        have g9 := i_eq h8
        refine ⟨i_ix (by omega) (by omega), ?_⟩
        have hI10 : zI f r C Z N (ma_put S 73 l2.toNatClampNeg (.inl (-1 : Int32))) := zG_fa hI rfl (by decide) (by decide) (by decide) trivial
        first | have e11 : (l2 + (1 : Int32)).toInt = l2.toInt + (1) := i_addk rfl (by omega) (by omega) | have b12 := i_bd (l2 + (1 : Int32))
        exact IH _ (by omega) _ l1 ((l2 + (1 : Int32))) rfl hI10 th_l1 (by omega) (by omega) (show xB (ma_put S 73 l2.toNatClampNeg (.inl (-1 : Int32))) R from by first | (exact (xC_p (c := 73) (k := l2.toNatClampNeg) (x := (-1 : Int32)) (xC_o (W := 75) hi2) 73 xW75 rfl rfl).2)) (show xW W from by first | (exact hi3) | (exact xW88)) (show zTa R y = some l1 from by first | (exact hi4)) (show aS W (ma_put S 73 l2.toNatClampNeg (.inl (-1 : Int32))) = zUw ab y ((l2 + (1 : Int32))).toInt from by first | (have q : mI S 73 l2.toNatClampNeg = ab 73 l2.toNatClampNeg := (((aS_I (W := W) (S := S) (c := 73) (c₉ := 73) (k := l2.toNatClampNeg) rfl (zcw_s (by decide))).symm.trans (congrFun (congrFun hi5 73) l2.toNatClampNeg)).trans zUw_r); refine (xC_p (c := 73) (k := l2.toNatClampNeg) (x := (-1 : Int32)) (xC_o (W := W) hi2) 73 hi3 rfl (zcw_s (by decide))).1.trans ?_; (try simp only [zp_e (c₉ := 73) th_l1.1 (by decide)]); rw [hi5]; refine zUw_y (by omega) (by omega) ?_; rw [← q, ← (xB_th (W := W) hi2 hi4).2.2.1]; assumption))
      · skip
        have g13 := i_ne h8
        first | have e14 : (l2 + (1 : Int32)).toInt = l2.toInt + (1) := i_addk rfl (by omega) (by omega) | have b15 := i_bd (l2 + (1 : Int32))
        exact IH _ (by omega) _ l1 ((l2 + (1 : Int32))) rfl hI th_l1 (by omega) (by omega) (show xB S R from by first | (exact (xC_o (W := 75) hi2).2)) (show xW W from by first | (exact hi3) | (exact xW88)) (show zTa R y = some l1 from by first | (exact hi4)) (show aS W S = zUw ab y ((l2 + (1 : Int32))).toInt from by first | (have q : mI S 73 l2.toNatClampNeg = ab 73 l2.toNatClampNeg := (((aS_I (W := W) (S := S) (c := 73) (c₉ := 73) (k := l2.toNatClampNeg) rfl (zcw_s (by decide))).symm.trans (congrFun (congrFun hi5 73) l2.toNatClampNeg)).trans zUw_r); refine hi5.trans (zUw_n (by omega) (by omega) (fun z => ?_)); rw [← q, ← (xB_th (W := W) hi2 hi4).2.2.1] at z; exact absurd z (by assumption)))
theorem sp_85_69_s {X : Nat × (Nat → Int32)} {d w : Nat} {f : Nat → Nat → Int32} {r : Nat → Nat → Option Nat} {C Z N : Nat} {Q : Option ma_V ⊕ Nat → ma_S → Prop} {ab : Nat→Nat→Int32} {R : zRT} {W : Nat} {y : Int32} {S : ma_S} (t : Nat) (hd : 0 ≤ d) (hw : 0 ≤ w) (hI : zI f r C Z N S) (th_t : 126 ≤ t ∧ t < N) (hpre0 : xB S R) (hpre1 : aS W S = ab) (hpre2 : xW W) (hpre3 : zTa R y = some t) (K : ∀ S₉, zI f r C Z N S₉ → (xB S₉ R) → (aS W S₉ = zUw ab y 16) → Q (.inl none) S₉) : ma_wp X d w 85 0 [(0, .inr (.inr (some 69))), (1, .inr (.inr (some t)))] [] S Q := by
  refine g_85_69_s_0 t (by omega) (by omega) (zG_T hI) ?_
  have li1 : (0 : Int32).toInt = 0 := rfl
  exact lp_85_69_s_2 (by omega) (by omega) K _ _ t ((0 : Int32)) rfl hI th_t (by omega) (by omega) (show xB S R from by first | (exact (xC_o (W := 75) hpre0).2)) (show xW W from by first | (exact hpre2) | (exact xW88)) (show zTa R y = some t from by first | (exact hpre3)) (show aS W S = zUw ab y ((0 : Int32)).toInt from by first | (rw [hpre1]; exact zUw_0.symm))

/-! from 95.g08 -/
/-! the heap by numbers, the class (written by wip/tools/gen18.py) -/
theorem g_84_69_s_0 {X : Nat × (Nat → Int32)} {d w : Nat} {S : ma_S} {Q : Option ma_V ⊕ Nat → ma_S → Prop} (t : Nat) (hd : 1 ≤ d) (hw : 22 ≤ w) (hS : zT S) (h : ma_wp X (d - 1) (w - 22) 85 0 [(0, .inr (.inr (some 69))), (1, .inr (.inr (some t)))] [] S (zv (fun S1 => zT S1 ∧ ((126 ≤ t ∧ t < mN S1) ∧ (if (512 : Int32) ≤ (mI (ma_put S1 t 8 (.inl (0 : Int32))) 69 5) then (Q (.inl none) (ma_put S1 t 8 (.inl (0 : Int32)))) else ((126 ≤ t ∧ t < mN (ma_put S1 t 8 (.inl (0 : Int32)))) ∧ ((0 ≤ (mI (ma_put S1 t 8 (.inl (0 : Int32))) 69 5) ∧ (mI (ma_put S1 t 8 (.inl (0 : Int32))) 69 5).toNatClampNeg < 512) ∧ ((126 ≤ t ∧ t < mN (ma_put (ma_put (ma_put S1 t 8 (.inl (0 : Int32))) 74 (mI (ma_put S1 t 8 (.inl (0 : Int32))) 69 5).toNatClampNeg (.inl (mI (ma_put S1 t 8 (.inl (0 : Int32))) t 0))) 69 5 (.inl ((mI (ma_put S1 t 8 (.inl (0 : Int32))) 69 5) + (1 : Int32))))) ∧ ((126 ≤ t ∧ t < mN (ma_put (ma_put (ma_put S1 t 8 (.inl (0 : Int32))) 74 (mI (ma_put S1 t 8 (.inl (0 : Int32))) 69 5).toNatClampNeg (.inl (mI (ma_put S1 t 8 (.inl (0 : Int32))) t 0))) 69 5 (.inl ((mI (ma_put S1 t 8 (.inl (0 : Int32))) 69 5) + (1 : Int32))))) ∧ (Q (.inl none) (ma_put (ma_put (ma_put (ma_put S1 t 8 (.inl (0 : Int32))) 74 (mI (ma_put S1 t 8 (.inl (0 : Int32))) 69 5).toNatClampNeg (.inl (mI (ma_put S1 t 8 (.inl (0 : Int32))) t 0))) 69 5 (.inl ((mI (ma_put S1 t 8 (.inl (0 : Int32))) 69 5) + (1 : Int32)))) t 6 (.inl ((mI (ma_put (ma_put (ma_put S1 t 8 (.inl (0 : Int32))) 74 (mI (ma_put S1 t 8 (.inl (0 : Int32))) 69 5).toNatClampNeg (.inl (mI (ma_put S1 t 8 (.inl (0 : Int32))) t 0))) 69 5 (.inl ((mI (ma_put S1 t 8 (.inl (0 : Int32))) 69 5) + (1 : Int32)))) t 6) + (1 : Int32)))))))))))) (fun x S9 => Q (.inr x) S9))) : ma_wp X d w 84 0 [(0, .inr (.inr (some 69))), (1, .inr (.inr (some t)))] [] S Q := by
  refine zw_push hm_84 dX7_grant_0 (v := .inr (.inr (some 69))) rfl ?_
  refine zw_push hm_84 dX7_grant_1 (v := .inr (.inr (some t))) rfl ?_
  refine zw_cv hm_84 dX7_grant_2 v_7_104_7 hm_85 [.inr (.inr (some t))] [] rfl (zT_rt hS s_69 rfl) ⟨by omega, by omega⟩ rfl (zw_mono h (zv_go ?_ ?_))
  · intro S1 hv
    obtain ⟨hS1, h⟩ := hv
    refine zw_push hm_84 dX7_grant_5 (v := .inr (.inr (some t))) rfl ?_
    refine zw_push hm_84 dX7_grant_6 (v := .inl (0 : Int32)) rfl ?_
    obtain ⟨hg, h⟩ := h
    refine zw_pf hm_84 dX7_grant_7 (zT_tis hS1 hg) (zT_tt hS1 hg) p_7_108_9 (zk_bool (by decide)) ?_
    refine zw_push hm_84 dX7_grant_10 (v := .inr (.inr (some 69))) rfl ?_
    refine zw_gf hm_84 dX7_grant_11 (v := .inl (mI (ma_put S1 t 8 (.inl (0 : Int32))) 69 5)) (zT_is (zT_pi hS1) s_69) (zT_t (zT_pi hS1) s_69) rfl f_7_36_7 rfl ?_
    refine zw_push hm_84 dX7_grant_14 (v := .inl (512 : Int32)) rfl ?_
    refine zw_if2 hm_84 dX7_grant_17 (t := 53) rfl zc2_ge ?_ ?_
    · intro hc
      rw [if_pos hc] at h
      exact zw_vret hm_84 dX7_grant_53 h
    · intro hc
      rw [if_neg hc] at h
      refine zw_push hm_84 dX7_grant_20 (v := .inr (.inr (some 69))) rfl ?_
      refine zw_gf hm_84 dX7_grant_21 (v := .inr (.inr (some 74))) (zT_is (zT_pi hS1) s_69) (zT_t (zT_pi hS1) s_69) rfl f_7_27_7 (zT_f (zT_pi hS1) r_69_4) ?_
      refine zw_push hm_84 dX7_grant_24 (v := .inr (.inr (some 69))) rfl ?_
      refine zw_gf hm_84 dX7_grant_25 (v := .inl (mI (ma_put S1 t 8 (.inl (0 : Int32))) 69 5)) (zT_is (zT_pi hS1) s_69) (zT_t (zT_pi hS1) s_69) rfl f_7_36_7 rfl ?_
      refine zw_push hm_84 dX7_grant_28 (v := .inr (.inr (some t))) rfl ?_
      obtain ⟨hg, h⟩ := h
      refine zw_gf hm_84 dX7_grant_29 (v := .inl (mI (ma_put S1 t 8 (.inl (0 : Int32))) t 0)) (zT_tis (zT_pi hS1) hg) (zT_tt (zT_pi hS1) hg) rfl f_7_67_9 rfl ?_
      obtain ⟨hg, h⟩ := h
      refine zw_ias hm_84 dX7_grant_32 (zT_is (zT_pi hS1) s_74) (zT_h (zT_pi hS1) s_74) rfl hg ?_
      refine zw_push hm_84 dX7_grant_33 (v := .inr (.inr (some 69))) rfl ?_
      refine zw_stk hm_84 dX7_grant_34 (st₉ := [.inr (.inr (some 69)), .inr (.inr (some 69))]) rfl rfl ?_
      refine zw_gf hm_84 dX7_grant_35 (v := .inl (mI (ma_put S1 t 8 (.inl (0 : Int32))) 69 5)) (zT_is (zT_pi (zT_pi hS1)) s_69) (zT_t (zT_pi (zT_pi hS1)) s_69) rfl f_7_36_7 rfl ?_
      refine zw_push hm_84 dX7_grant_38 (v := .inl (1 : Int32)) rfl ?_
      refine zw_stk hm_84 dX7_grant_39 (st₉ := [.inl ((mI (ma_put S1 t 8 (.inl (0 : Int32))) 69 5) + (1 : Int32)), .inr (.inr (some 69))]) rfl rfl ?_
      refine zw_pf hm_84 dX7_grant_40 (zT_is (zT_pi (zT_pi hS1)) s_69) (zT_t (zT_pi (zT_pi hS1)) s_69) p_7_36_7 zk_int ?_
      refine zw_push hm_84 dX7_grant_43 (v := .inr (.inr (some t))) rfl ?_
      refine zw_stk hm_84 dX7_grant_44 (st₉ := [.inr (.inr (some t)), .inr (.inr (some t))]) rfl rfl ?_
      obtain ⟨hg, h⟩ := h
      refine zw_gf hm_84 dX7_grant_45 (v := .inl (mI (ma_put (ma_put (ma_put S1 t 8 (.inl (0 : Int32))) 74 (mI (ma_put S1 t 8 (.inl (0 : Int32))) 69 5).toNatClampNeg (.inl (mI (ma_put S1 t 8 (.inl (0 : Int32))) t 0))) 69 5 (.inl ((mI (ma_put S1 t 8 (.inl (0 : Int32))) 69 5) + (1 : Int32)))) t 6)) (zT_tis (zT_pi (zT_pi (zT_pi hS1))) hg) (zT_tt (zT_pi (zT_pi (zT_pi hS1))) hg) rfl f_7_98_9 rfl ?_
      refine zw_push hm_84 dX7_grant_48 (v := .inl (1 : Int32)) rfl ?_
      refine zw_stk hm_84 dX7_grant_49 (st₉ := [.inl ((mI (ma_put (ma_put (ma_put S1 t 8 (.inl (0 : Int32))) 74 (mI (ma_put S1 t 8 (.inl (0 : Int32))) 69 5).toNatClampNeg (.inl (mI (ma_put S1 t 8 (.inl (0 : Int32))) t 0))) 69 5 (.inl ((mI (ma_put S1 t 8 (.inl (0 : Int32))) 69 5) + (1 : Int32)))) t 6) + (1 : Int32)), .inr (.inr (some t))]) rfl rfl ?_
      obtain ⟨hg, h⟩ := h
      refine zw_pf hm_84 dX7_grant_50 (zT_tis (zT_pi (zT_pi (zT_pi hS1))) hg) (zT_tt (zT_pi (zT_pi (zT_pi hS1))) hg) p_7_98_9 zk_int ?_
      exact zw_vret hm_84 dX7_grant_53 h
  · intro x S9 hx
    exact ⟨by decide, hx⟩
theorem sp_84_69_s {X : Nat × (Nat → Int32)} {d w : Nat} {f : Nat → Nat → Int32} {r : Nat → Nat → Option Nat} {C Z N : Nat} {Q : Option ma_V ⊕ Nat → ma_S → Prop} {ab : Nat→Nat→Int32} {R : zRT} {W : Nat} {y : Int32} {S : ma_S} (t : Nat) (hd : 1 ≤ d) (hw : 22 ≤ w) (hI : zI f r C Z N S) (th_t : 126 ≤ t ∧ t < N) (hpre0 : xB S R) (hpre1 : aS W S = ab) (hpre2 : xW W) (hpre3 : zTa R y = some t) (K : ∀ S₉, zI f r C Z N S₉ → (xB S₉ R) → (aS W S₉ = aGr ab y) → Q (.inl none) S₉) : ma_wp X d w 84 0 [(0, .inr (.inr (some 69))), (1, .inr (.inr (some t)))] [] S Q := by
  refine g_84_69_s_0 t (by omega) (by omega) (zG_T hI) ?_
  refine sp_85_69_s (ab := (aS W S)) (R := R) (W := W) (y := y) t (by omega) (by omega) hI th_t (show xB S R from by first | (exact (xC_o (W := 75) hpre0).2)) (show aS W S = (aS W S) from by first | (exact rfl)) (show xW W from by first | (exact hpre2) | (exact xW88)) (show zTa R y = some t from by first | (exact hpre3)) (fun S1 hI_S1 rp0_S1 rp1_S1 => zv_n ⟨zG_T hI_S1, ?_⟩)
  have rp0_S1 : xB S1 R := rp0_S1
  have rp1_S1 : aS W S1 = zUw (aS W S) y 16 := rp1_S1
  refine ⟨zG_n hI_S1 th_t, ?_⟩
  have li1 : (512 : Int32).toInt = 512 := rfl
  have f2 := zG_s hI_S1 (0) (512) (c := 69) (k := 5) (by decide)
  have q3 : (mI (ma_put S1 t 8 (.inl (0 : Int32))) 69 5).toInt = (mI S1 69 5).toInt := zp_th th_t.1 (by decide)
  have hI5 : zI f r C Z N (ma_put S1 t 8 (.inl (0 : Int32))) := zG_tf hI_S1 th_t.1 zI_t (by decide) (by decide) trivial (by decide) (by decide) (by decide)
  have f4 := zG_s hI5 (0) (512) (c := 69) (k := 5) (by decide)
  refine zd (fun h6 => ?_) (fun h6 => ?_)
  · skip
    have g7 := i_le h6
    exact K _ hI5 (show xB (ma_put S1 t 8 (.inl (0 : Int32))) R from by first | (exact (xC_t (k := 8) (x := (0 : Int32)) (xC_o (W := 75) rp0_S1) xW75 hpre3 rfl).2)) (show aS W (ma_put S1 t 8 (.inl (0 : Int32))) = aGr ab y from by first | (have ty := xB_th (W := W) rp0_S1 hpre3; refine (xC_t (k := 8) (x := (0 : Int32)) (xC_o (W := W) rp0_S1) hpre2 hpre3 rfl).1.trans ?_; (try simp only [zp_i (c := 69) (c₉ := t) (k₉ := 8) th_t.1 (by decide), zp_i (c := 71) (c₉ := t) (k₉ := 8) th_t.1 (by decide), zp_i (c := 72) (c₉ := t) (k₉ := 8) th_t.1 (by decide), zp_i (c := 73) (c₉ := t) (k₉ := 8) th_t.1 (by decide), zp_i (c := 74) (c₉ := t) (k₉ := 8) th_t.1 (by decide), zp_i (c := 75) (c₉ := t) (k₉ := 8) th_t.1 (by decide), zp_i (c := 76) (c₉ := t) (k₉ := 8) th_t.1 (by decide), zp_i (c := 77) (c₉ := t) (k₉ := 8) th_t.1 (by decide), zp_i (c := 87) (c₉ := t) (k₉ := 8) th_t.1 (by decide), zp_i (c := 88) (c₉ := t) (k₉ := 8) th_t.1 (by decide), zp_i (c := 89) (c₉ := t) (k₉ := 8) th_t.1 (by decide), zp_i (c := 90) (c₉ := t) (k₉ := 8) th_t.1 (by decide), zp_f (k := 0) (c₉ := t) (k₉ := 8) (by decide), zp_f (k := 1) (c₉ := t) (k₉ := 8) (by decide), zp_f (k := 2) (c₉ := t) (k₉ := 8) (by decide), zp_f (k := 4) (c₉ := t) (k₉ := 8) (by decide), zp_f (k := 7) (c₉ := t) (k₉ := 8) (by decide)]); rw [rp1_S1, hpre1]; have e5 : aS W S1 69 5 = ab 69 5 := (by rw [rp1_S1, hpre1]; exact zUw_o (by decide)); have e5b : mI S1 69 5 = ab 69 5 := e5; have e5i := congrArg Int32.toInt e5b; rw [ty.2.2.1, e5b]; exact (if_pos (by omega)).symm) | (have ty := xB_th (W := W) rp0_S1 hpre3; refine (xC_t (k := 8) (x := (0 : Int32)) (xC_o (W := W) rp0_S1) hpre2 hpre3 rfl).1.trans ?_; (try simp only [zp_i (c := 69) (c₉ := t) (k₉ := 8) th_t.1 (by decide), zp_i (c := 71) (c₉ := t) (k₉ := 8) th_t.1 (by decide), zp_i (c := 72) (c₉ := t) (k₉ := 8) th_t.1 (by decide), zp_i (c := 73) (c₉ := t) (k₉ := 8) th_t.1 (by decide), zp_i (c := 74) (c₉ := t) (k₉ := 8) th_t.1 (by decide), zp_i (c := 75) (c₉ := t) (k₉ := 8) th_t.1 (by decide), zp_i (c := 76) (c₉ := t) (k₉ := 8) th_t.1 (by decide), zp_i (c := 77) (c₉ := t) (k₉ := 8) th_t.1 (by decide), zp_i (c := 87) (c₉ := t) (k₉ := 8) th_t.1 (by decide), zp_i (c := 88) (c₉ := t) (k₉ := 8) th_t.1 (by decide), zp_i (c := 89) (c₉ := t) (k₉ := 8) th_t.1 (by decide), zp_i (c := 90) (c₉ := t) (k₉ := 8) th_t.1 (by decide), zp_f (k := 0) (c₉ := t) (k₉ := 8) (by decide), zp_f (k := 1) (c₉ := t) (k₉ := 8) (by decide), zp_f (k := 2) (c₉ := t) (k₉ := 8) (by decide), zp_f (k := 4) (c₉ := t) (k₉ := 8) (by decide), zp_f (k := 7) (c₉ := t) (k₉ := 8) (by decide)]); rw [rp1_S1, hpre1]; have e5 : aS W S1 69 5 = ab 69 5 := (by rw [rp1_S1, hpre1]; exact zUw_o (by decide)); have e5b : mI S1 69 5 = ab 69 5 := e5; have e5i := congrArg Int32.toInt e5b; exact (if_neg (by omega)).symm))
  · skip
    have g8 := i_nle h6
    refine ⟨zG_n hI5 th_t, ?_⟩
    refine ⟨i_ix (by omega) (by omega), ?_⟩
    have hI9 : zI f r C Z N (ma_put (ma_put S1 t 8 (.inl (0 : Int32))) 74 (mI (ma_put S1 t 8 (.inl (0 : Int32))) 69 5).toNatClampNeg (.inl (mI (ma_put S1 t 8 (.inl (0 : Int32))) t 0))) := zG_fa hI5 rfl (by decide) (by decide) (by decide) trivial
    first | have e11 : ((mI (ma_put S1 t 8 (.inl (0 : Int32))) 69 5) + (1 : Int32)).toInt = (mI (ma_put S1 t 8 (.inl (0 : Int32))) 69 5).toInt + (1) := i_addk rfl (by omega) (by omega) | have b12 := i_bd ((mI (ma_put S1 t 8 (.inl (0 : Int32))) 69 5) + (1 : Int32))
    have hI10 : zI f r C Z N (ma_put (ma_put (ma_put S1 t 8 (.inl (0 : Int32))) 74 (mI (ma_put S1 t 8 (.inl (0 : Int32))) 69 5).toNatClampNeg (.inl (mI (ma_put S1 t 8 (.inl (0 : Int32))) t 0))) 69 5 (.inl ((mI (ma_put S1 t 8 (.inl (0 : Int32))) 69 5) + (1 : Int32)))) := zG_sp hI9 (0) (512) rfl (by decide) (by decide) (by decide) trivial (by omega) (by omega)
    refine ⟨zG_n hI10 th_t, ?_⟩
    refine ⟨zG_n hI10 th_t, ?_⟩
    have hI13 : zI f r C Z N (ma_put (ma_put (ma_put (ma_put S1 t 8 (.inl (0 : Int32))) 74 (mI (ma_put S1 t 8 (.inl (0 : Int32))) 69 5).toNatClampNeg (.inl (mI (ma_put S1 t 8 (.inl (0 : Int32))) t 0))) 69 5 (.inl ((mI (ma_put S1 t 8 (.inl (0 : Int32))) 69 5) + (1 : Int32)))) t 6 (.inl ((mI (ma_put (ma_put (ma_put S1 t 8 (.inl (0 : Int32))) 74 (mI (ma_put S1 t 8 (.inl (0 : Int32))) 69 5).toNatClampNeg (.inl (mI (ma_put S1 t 8 (.inl (0 : Int32))) t 0))) 69 5 (.inl ((mI (ma_put S1 t 8 (.inl (0 : Int32))) 69 5) + (1 : Int32)))) t 6) + (1 : Int32)))) := zG_tf hI10 th_t.1 zI_t (by decide) (by decide) trivial (by decide) (by decide) (by decide)
    exact K _ hI13 (show xB (ma_put (ma_put (ma_put (ma_put S1 t 8 (.inl (0 : Int32))) 74 (mI (ma_put S1 t 8 (.inl (0 : Int32))) 69 5).toNatClampNeg (.inl (mI (ma_put S1 t 8 (.inl (0 : Int32))) t 0))) 69 5 (.inl ((mI (ma_put S1 t 8 (.inl (0 : Int32))) 69 5) + (1 : Int32)))) t 6 (.inl ((mI (ma_put (ma_put (ma_put S1 t 8 (.inl (0 : Int32))) 74 (mI (ma_put S1 t 8 (.inl (0 : Int32))) 69 5).toNatClampNeg (.inl (mI (ma_put S1 t 8 (.inl (0 : Int32))) t 0))) 69 5 (.inl ((mI (ma_put S1 t 8 (.inl (0 : Int32))) 69 5) + (1 : Int32)))) t 6) + (1 : Int32)))) R from by first | (exact (xC_6 (k := 6) (x := ((mI (ma_put (ma_put (ma_put S1 t 8 (.inl (0 : Int32))) 74 (mI (ma_put S1 t 8 (.inl (0 : Int32))) 69 5).toNatClampNeg (.inl (mI (ma_put S1 t 8 (.inl (0 : Int32))) t 0))) 69 5 (.inl ((mI (ma_put S1 t 8 (.inl (0 : Int32))) 69 5) + (1 : Int32)))) t 6) + (1 : Int32))) (xC_p (c := 69) (k := 5) (x := ((mI (ma_put S1 t 8 (.inl (0 : Int32))) 69 5) + (1 : Int32))) (xC_p (c := 74) (k := (mI (ma_put S1 t 8 (.inl (0 : Int32))) 69 5).toNatClampNeg) (x := (mI (ma_put S1 t 8 (.inl (0 : Int32))) t 0)) (xC_t (k := 8) (x := (0 : Int32)) (xC_o (W := 75) rp0_S1) xW75 hpre3 rfl) 74 xW75 rfl rfl) 69 xW75 rfl rfl) xW75 th_t.1 rfl (by decide)).2)) (show aS W (ma_put (ma_put (ma_put (ma_put S1 t 8 (.inl (0 : Int32))) 74 (mI (ma_put S1 t 8 (.inl (0 : Int32))) 69 5).toNatClampNeg (.inl (mI (ma_put S1 t 8 (.inl (0 : Int32))) t 0))) 69 5 (.inl ((mI (ma_put S1 t 8 (.inl (0 : Int32))) 69 5) + (1 : Int32)))) t 6 (.inl ((mI (ma_put (ma_put (ma_put S1 t 8 (.inl (0 : Int32))) 74 (mI (ma_put S1 t 8 (.inl (0 : Int32))) 69 5).toNatClampNeg (.inl (mI (ma_put S1 t 8 (.inl (0 : Int32))) t 0))) 69 5 (.inl ((mI (ma_put S1 t 8 (.inl (0 : Int32))) 69 5) + (1 : Int32)))) t 6) + (1 : Int32)))) = aGr ab y from by first | (have ty := xB_th (W := W) rp0_S1 hpre3; refine (xC_6 (k := 6) (x := ((mI (ma_put (ma_put (ma_put S1 t 8 (.inl (0 : Int32))) 74 (mI (ma_put S1 t 8 (.inl (0 : Int32))) 69 5).toNatClampNeg (.inl (mI (ma_put S1 t 8 (.inl (0 : Int32))) t 0))) 69 5 (.inl ((mI (ma_put S1 t 8 (.inl (0 : Int32))) 69 5) + (1 : Int32)))) t 6) + (1 : Int32))) (xC_p (c := 69) (k := 5) (x := ((mI (ma_put S1 t 8 (.inl (0 : Int32))) 69 5) + (1 : Int32))) (xC_p (c := 74) (k := (mI (ma_put S1 t 8 (.inl (0 : Int32))) 69 5).toNatClampNeg) (x := (mI (ma_put S1 t 8 (.inl (0 : Int32))) t 0)) (xC_t (k := 8) (x := (0 : Int32)) (xC_o (W := W) rp0_S1) hpre2 hpre3 rfl) 74 hpre2 rfl (zcw_s (by decide))) 69 hpre2 rfl (zcw_s (by decide))) hpre2 th_t.1 rfl (by decide)).1.trans ?_; (try simp only [zp_e (c₉ := 69) th_t.1 (by decide), zp_e (c₉ := 74) th_t.1 (by decide), zp_i (c := 69) (c₉ := t) (k₉ := 6) th_t.1 (by decide), zp_i (c := 71) (c₉ := t) (k₉ := 6) th_t.1 (by decide), zp_i (c := 72) (c₉ := t) (k₉ := 6) th_t.1 (by decide), zp_i (c := 73) (c₉ := t) (k₉ := 6) th_t.1 (by decide), zp_i (c := 74) (c₉ := t) (k₉ := 6) th_t.1 (by decide), zp_i (c := 75) (c₉ := t) (k₉ := 6) th_t.1 (by decide), zp_i (c := 76) (c₉ := t) (k₉ := 6) th_t.1 (by decide), zp_i (c := 77) (c₉ := t) (k₉ := 6) th_t.1 (by decide), zp_i (c := 87) (c₉ := t) (k₉ := 6) th_t.1 (by decide), zp_i (c := 88) (c₉ := t) (k₉ := 6) th_t.1 (by decide), zp_i (c := 89) (c₉ := t) (k₉ := 6) th_t.1 (by decide), zp_i (c := 90) (c₉ := t) (k₉ := 6) th_t.1 (by decide), zp_f (k := 0) (c₉ := t) (k₉ := 6) (by decide), zp_f (k := 1) (c₉ := t) (k₉ := 6) (by decide), zp_f (k := 2) (c₉ := t) (k₉ := 6) (by decide), zp_f (k := 4) (c₉ := t) (k₉ := 6) (by decide), zp_f (k := 7) (c₉ := t) (k₉ := 6) (by decide), zp_f (k := 8) (c₉ := t) (k₉ := 6) (by decide), zp_i (c := 69) (c₉ := t) (k₉ := 8) th_t.1 (by decide), zp_i (c := 71) (c₉ := t) (k₉ := 8) th_t.1 (by decide), zp_i (c := 72) (c₉ := t) (k₉ := 8) th_t.1 (by decide), zp_i (c := 73) (c₉ := t) (k₉ := 8) th_t.1 (by decide), zp_i (c := 74) (c₉ := t) (k₉ := 8) th_t.1 (by decide), zp_i (c := 75) (c₉ := t) (k₉ := 8) th_t.1 (by decide), zp_i (c := 76) (c₉ := t) (k₉ := 8) th_t.1 (by decide), zp_i (c := 77) (c₉ := t) (k₉ := 8) th_t.1 (by decide), zp_i (c := 87) (c₉ := t) (k₉ := 8) th_t.1 (by decide), zp_i (c := 88) (c₉ := t) (k₉ := 8) th_t.1 (by decide), zp_i (c := 89) (c₉ := t) (k₉ := 8) th_t.1 (by decide), zp_i (c := 90) (c₉ := t) (k₉ := 8) th_t.1 (by decide), zp_f (k := 0) (c₉ := t) (k₉ := 8) (by decide), zp_f (k := 1) (c₉ := t) (k₉ := 8) (by decide), zp_f (k := 2) (c₉ := t) (k₉ := 8) (by decide), zp_f (k := 4) (c₉ := t) (k₉ := 8) (by decide), zp_f (k := 7) (c₉ := t) (k₉ := 8) (by decide)]); rw [rp1_S1, hpre1]; have e5 : aS W S1 69 5 = ab 69 5 := (by rw [rp1_S1, hpre1]; exact zUw_o (by decide)); have e5b : mI S1 69 5 = ab 69 5 := e5; have e5i := congrArg Int32.toInt e5b; rw [ty.2.2.1, e5b]; exact (if_pos (by omega)).symm) | (have ty := xB_th (W := W) rp0_S1 hpre3; refine (xC_6 (k := 6) (x := ((mI (ma_put (ma_put (ma_put S1 t 8 (.inl (0 : Int32))) 74 (mI (ma_put S1 t 8 (.inl (0 : Int32))) 69 5).toNatClampNeg (.inl (mI (ma_put S1 t 8 (.inl (0 : Int32))) t 0))) 69 5 (.inl ((mI (ma_put S1 t 8 (.inl (0 : Int32))) 69 5) + (1 : Int32)))) t 6) + (1 : Int32))) (xC_p (c := 69) (k := 5) (x := ((mI (ma_put S1 t 8 (.inl (0 : Int32))) 69 5) + (1 : Int32))) (xC_p (c := 74) (k := (mI (ma_put S1 t 8 (.inl (0 : Int32))) 69 5).toNatClampNeg) (x := (mI (ma_put S1 t 8 (.inl (0 : Int32))) t 0)) (xC_t (k := 8) (x := (0 : Int32)) (xC_o (W := W) rp0_S1) hpre2 hpre3 rfl) 74 hpre2 rfl (zcw_s (by decide))) 69 hpre2 rfl (zcw_s (by decide))) hpre2 th_t.1 rfl (by decide)).1.trans ?_; (try simp only [zp_e (c₉ := 69) th_t.1 (by decide), zp_e (c₉ := 74) th_t.1 (by decide), zp_i (c := 69) (c₉ := t) (k₉ := 6) th_t.1 (by decide), zp_i (c := 71) (c₉ := t) (k₉ := 6) th_t.1 (by decide), zp_i (c := 72) (c₉ := t) (k₉ := 6) th_t.1 (by decide), zp_i (c := 73) (c₉ := t) (k₉ := 6) th_t.1 (by decide), zp_i (c := 74) (c₉ := t) (k₉ := 6) th_t.1 (by decide), zp_i (c := 75) (c₉ := t) (k₉ := 6) th_t.1 (by decide), zp_i (c := 76) (c₉ := t) (k₉ := 6) th_t.1 (by decide), zp_i (c := 77) (c₉ := t) (k₉ := 6) th_t.1 (by decide), zp_i (c := 87) (c₉ := t) (k₉ := 6) th_t.1 (by decide), zp_i (c := 88) (c₉ := t) (k₉ := 6) th_t.1 (by decide), zp_i (c := 89) (c₉ := t) (k₉ := 6) th_t.1 (by decide), zp_i (c := 90) (c₉ := t) (k₉ := 6) th_t.1 (by decide), zp_f (k := 0) (c₉ := t) (k₉ := 6) (by decide), zp_f (k := 1) (c₉ := t) (k₉ := 6) (by decide), zp_f (k := 2) (c₉ := t) (k₉ := 6) (by decide), zp_f (k := 4) (c₉ := t) (k₉ := 6) (by decide), zp_f (k := 7) (c₉ := t) (k₉ := 6) (by decide), zp_f (k := 8) (c₉ := t) (k₉ := 6) (by decide), zp_i (c := 69) (c₉ := t) (k₉ := 8) th_t.1 (by decide), zp_i (c := 71) (c₉ := t) (k₉ := 8) th_t.1 (by decide), zp_i (c := 72) (c₉ := t) (k₉ := 8) th_t.1 (by decide), zp_i (c := 73) (c₉ := t) (k₉ := 8) th_t.1 (by decide), zp_i (c := 74) (c₉ := t) (k₉ := 8) th_t.1 (by decide), zp_i (c := 75) (c₉ := t) (k₉ := 8) th_t.1 (by decide), zp_i (c := 76) (c₉ := t) (k₉ := 8) th_t.1 (by decide), zp_i (c := 77) (c₉ := t) (k₉ := 8) th_t.1 (by decide), zp_i (c := 87) (c₉ := t) (k₉ := 8) th_t.1 (by decide), zp_i (c := 88) (c₉ := t) (k₉ := 8) th_t.1 (by decide), zp_i (c := 89) (c₉ := t) (k₉ := 8) th_t.1 (by decide), zp_i (c := 90) (c₉ := t) (k₉ := 8) th_t.1 (by decide), zp_f (k := 0) (c₉ := t) (k₉ := 8) (by decide), zp_f (k := 1) (c₉ := t) (k₉ := 8) (by decide), zp_f (k := 2) (c₉ := t) (k₉ := 8) (by decide), zp_f (k := 4) (c₉ := t) (k₉ := 8) (by decide), zp_f (k := 7) (c₉ := t) (k₉ := 8) (by decide)]); rw [rp1_S1, hpre1]; have e5 : aS W S1 69 5 = ab 69 5 := (by rw [rp1_S1, hpre1]; exact zUw_o (by decide)); have e5b : mI S1 69 5 = ab 69 5 := e5; have e5i := congrArg Int32.toInt e5b; exact (if_neg (by omega)).symm))

/-! from 95.g09 -/
/-! the heap by numbers, the class (written by wip/tools/gen18.py) -/
theorem g_83_69_88_s_0 {X : Nat × (Nat → Int32)} {d w : Nat} {S : ma_S} {Q : Option ma_V ⊕ Nat → ma_S → Prop}  (hd : 2 ≤ d) (hw : 49 ≤ w) (hS : zT S) (h : ma_wp X d w 83 2 [(0, .inr (.inr (some 69))), (1, .inr (.inr (some 88))), (2, .inl (0 : Int32))] [] S Q) : ma_wp X d w 83 0 [(0, .inr (.inr (some 69))), (1, .inr (.inr (some 88)))] [] S Q := by
  refine zw_push hm_83 dX7_grantWishes_0 (v := .inl (0 : Int32)) rfl ?_
  refine zw_sto hm_83 dX7_grantWishes_1 [(2, .inl (0 : Int32)), (0, .inr (.inr (some 69))), (1, .inr (.inr (some 88)))] rfl rfl rfl ?_
  exact zw_sub (ma_nd_of (ks := [0, 1, 2]) rfl (by decide)) (ma_nd_of (ks := [2, 0, 1]) rfl (by decide)) (ma_le_cons rfl (ma_le_cons rfl (ma_le_cons rfl (ma_le_nil _)))) h
theorem g_83_69_88_s_2 {X : Nat × (Nat → Int32)} {d w : Nat} {S : ma_S} {Q : Option ma_V ⊕ Nat → ma_S → Prop} (l2 : Int32) (hd : 2 ≤ d) (hw : 49 ≤ w) (hS : zT S) (h : if (mI S 69 6) ≤ l2 then (Q (.inl none) S) else (if l2 < 0 then (ma_wp X d w 83 2 [(0, .inr (.inr (some 69))), (1, .inr (.inr (some 88))), (2, .inl (l2 + (1 : Int32)))] [] S Q) else (if (512 : Int32) ≤ l2 then (ma_wp X d w 83 2 [(0, .inr (.inr (some 69))), (1, .inr (.inr (some 88))), (2, .inl (l2 + (1 : Int32)))] [] S Q) else ((0 ≤ l2 ∧ l2.toNatClampNeg < 512) ∧ (((mR S 70 l2.toNatClampNeg) = none → ma_wp X d w 83 2 [(0, .inr (.inr (some 69))), (1, .inr (.inr (some 88))), (2, .inl (l2 + (1 : Int32)))] [] S Q) ∧ (∀ c1, (mR S 70 l2.toNatClampNeg) = some c1 → (126 ≤ c1 ∧ c1 < mN S) ∧ (if (mI S c1 8) = 0 then (ma_wp X d w 83 2 [(0, .inr (.inr (some 69))), (1, .inr (.inr (some 88))), (2, .inl (l2 + (1 : Int32)))] [] S Q) else ((126 ≤ c1 ∧ c1 < mN S) ∧ (if (mI S c1 4) < (mI S 88 5) then (ma_wp X d w 83 2 [(0, .inr (.inr (some 69))), (1, .inr (.inr (some 88))), (2, .inl (l2 + (1 : Int32)))] [] S Q) else ((126 ≤ c1 ∧ c1 < mN S) ∧ (if (512 : Int32) ≤ (mI S c1 0) then (ma_wp X (d - 1) (w - 21) 84 0 [(0, .inr (.inr (some 69))), (1, .inr (.inr (some c1)))] [] S (zv (fun S2 => zT S2 ∧ (ma_wp X (d - 1) (w - 21) 119 0 [(0, .inr (.inr (some 88))), (1, .inr (.inr (some c1)))] [] S2 (zv (fun S4 => zT S4 ∧ (ma_wp X (d - 1) (w - 24) 120 0 [(0, .inr (.inr (some 88))), (1, .inl (512 : Int32))] [] S4 (zi (fun v7 S6 => zT S6 ∧ (ma_wp X d w 83 2 [(0, .inr (.inr (some 69))), (1, .inr (.inr (some 88))), (2, .inl (l2 + (1 : Int32)))] [] S6 Q)) (fun x S9 => Q (.inr x) S9)))) (fun x S9 => Q (.inr x) S9)))) (fun x S9 => Q (.inr x) S9))) else ((126 ≤ c1 ∧ c1 < mN S) ∧ ((0 ≤ (mI S c1 0) ∧ (mI S c1 0).toNatClampNeg < 512) ∧ (if (mI S 90 (mI S c1 0).toNatClampNeg) = 0 then (ma_wp X (d - 1) (w - 21) 84 0 [(0, .inr (.inr (some 69))), (1, .inr (.inr (some c1)))] [] S (zv (fun S8 => zT S8 ∧ (ma_wp X (d - 1) (w - 21) 119 0 [(0, .inr (.inr (some 88))), (1, .inr (.inr (some c1)))] [] S8 (zv (fun S10 => zT S10 ∧ (ma_wp X (d - 1) (w - 24) 120 0 [(0, .inr (.inr (some 88))), (1, .inl (512 : Int32))] [] S10 (zi (fun v13 S12 => zT S12 ∧ (ma_wp X d w 83 2 [(0, .inr (.inr (some 69))), (1, .inr (.inr (some 88))), (2, .inl (l2 + (1 : Int32)))] [] S12 Q)) (fun x S9 => Q (.inr x) S9)))) (fun x S9 => Q (.inr x) S9)))) (fun x S9 => Q (.inr x) S9))) else (ma_wp X d w 83 2 [(0, .inr (.inr (some 69))), (1, .inr (.inr (some 88))), (2, .inl (l2 + (1 : Int32)))] [] S Q))))))))))))))) : ma_wp X d w 83 2 [(0, .inr (.inr (some 69))), (1, .inr (.inr (some 88))), (2, .inl l2)] [] S Q := by
  refine zw_push hm_83 dX7_grantWishes_2 (v := .inl l2) rfl ?_
  refine zw_push hm_83 dX7_grantWishes_3 (v := .inr (.inr (some 69))) rfl ?_
  refine zw_gf hm_83 dX7_grantWishes_4 (v := .inl (mI S 69 6)) (zT_is hS s_69) (zT_t hS s_69) rfl f_7_40_7 rfl ?_
  refine zw_if2 hm_83 dX7_grantWishes_7 (t := 59) rfl zc2_ge ?_ ?_
  · intro hc
    rw [if_pos hc] at h
    exact zw_vret hm_83 dX7_grantWishes_59 h
  · intro hc
    rw [if_neg hc] at h
    refine zw_push hm_83 dX7_grantWishes_10 (v := .inr (.inr (some 69))) rfl ?_
    refine zw_push hm_83 dX7_grantWishes_11 (v := .inl l2) rfl ?_
    refine zw_cv hm_83 dX7_grantWishes_12 v_7_94_7 hm_81 [.inl l2] [] rfl (zT_rt hS s_69 rfl) ⟨by omega, by omega⟩ rfl ?_
    show ma_wp X (d - 1) (w - 21) 81 0 [(0, .inr (.inr (some 69))), (1, .inl l2)] [] S _
    refine zw_push hm_81 dX7_thingAt_0 (v := .inl l2) rfl ?_
    refine zw_if0 hm_81 dX7_thingAt_1 (t := 20) rfl zc0_lt ?_ ?_
    · intro hc
      rw [if_pos hc] at h
      refine zw_push hm_81 dX7_thingAt_20 (v := .inr (.inr none)) rfl ?_
      refine zw_aret hm_81 dX7_thingAt_21 ?_
      show ma_wp X d w 83 15 [(0, .inr (.inr (some 69))), (1, .inr (.inr (some 88))), (2, .inl l2)] [.inr (.inr none)] S _
      refine zw_sto hm_83 dX7_grantWishes_15 [(3, .inr (.inr none)), (0, .inr (.inr (some 69))), (1, .inr (.inr (some 88))), (2, .inl l2)] rfl rfl rfl ?_
      refine zw_push hm_83 dX7_grantWishes_16 (v := .inr (.inr none)) rfl ?_
      refine zw_ifnull hm_83 dX7_grantWishes_17 (t := 53) rfl (fun _ => ?_) (fun _ z => by cases z)
      refine zw_sto hm_83 dX7_grantWishes_53 [(2, .inl (l2 + (1 : Int32))), (3, .inr (.inr none)), (0, .inr (.inr (some 69))), (1, .inr (.inr (some 88)))] rfl rfl rfl ?_
      refine zw_goto hm_83 dX7_grantWishes_56 (t := 2) rfl ?_
      exact zw_sub (ma_nd_of (ks := [0, 1, 2]) rfl (by decide)) (ma_nd_of (ks := [2, 3, 0, 1]) rfl (by decide)) (ma_le_cons rfl (ma_le_cons rfl (ma_le_cons rfl (ma_le_nil _)))) h
    · intro hc
      rw [if_neg hc] at h
      refine zw_push hm_81 dX7_thingAt_4 (v := .inl l2) rfl ?_
      refine zw_push hm_81 dX7_thingAt_5 (v := .inl (512 : Int32)) rfl ?_
      refine zw_if2 hm_81 dX7_thingAt_8 (t := 20) rfl zc2_ge ?_ ?_
      · intro hc
        rw [if_pos hc] at h
        refine zw_push hm_81 dX7_thingAt_20 (v := .inr (.inr none)) rfl ?_
        refine zw_aret hm_81 dX7_thingAt_21 ?_
        show ma_wp X d w 83 15 [(0, .inr (.inr (some 69))), (1, .inr (.inr (some 88))), (2, .inl l2)] [.inr (.inr none)] S _
        refine zw_sto hm_83 dX7_grantWishes_15 [(3, .inr (.inr none)), (0, .inr (.inr (some 69))), (1, .inr (.inr (some 88))), (2, .inl l2)] rfl rfl rfl ?_
        refine zw_push hm_83 dX7_grantWishes_16 (v := .inr (.inr none)) rfl ?_
        refine zw_ifnull hm_83 dX7_grantWishes_17 (t := 53) rfl (fun _ => ?_) (fun _ z => by cases z)
        refine zw_sto hm_83 dX7_grantWishes_53 [(2, .inl (l2 + (1 : Int32))), (3, .inr (.inr none)), (0, .inr (.inr (some 69))), (1, .inr (.inr (some 88)))] rfl rfl rfl ?_
        refine zw_goto hm_83 dX7_grantWishes_56 (t := 2) rfl ?_
        exact zw_sub (ma_nd_of (ks := [0, 1, 2]) rfl (by decide)) (ma_nd_of (ks := [2, 3, 0, 1]) rfl (by decide)) (ma_le_cons rfl (ma_le_cons rfl (ma_le_cons rfl (ma_le_nil _)))) h
      · intro hc
        rw [if_neg hc] at h
        refine zw_push hm_81 dX7_thingAt_11 (v := .inr (.inr (some 69))) rfl ?_
        refine zw_gf hm_81 dX7_thingAt_12 (v := .inr (.inr (some 70))) (zT_is hS s_69) (zT_t hS s_69) rfl f_7_11_7 (zT_f hS r_69_0) ?_
        refine zw_push hm_81 dX7_thingAt_15 (v := .inl l2) rfl ?_
        obtain ⟨hg, h⟩ := h
        refine zw_aa hm_81 dX7_thingAt_16 (zT_is hS s_70) (zT_h hS s_70) rfl rfl hg rfl ?_
        show ma_wp X (d - 1) (w - 21) 81 17 [(0, .inr (.inr (some 69))), (1, .inl l2)] [.inr (.inr (mR S 70 l2.toNatClampNeg))] S _
        refine zw_goto hm_81 dX7_thingAt_17 (t := 21) rfl ?_
        refine zw_aret hm_81 dX7_thingAt_21 ?_
        show ma_wp X d w 83 15 [(0, .inr (.inr (some 69))), (1, .inr (.inr (some 88))), (2, .inl l2)] [.inr (.inr (mR S 70 l2.toNatClampNeg))] S _
        refine zw_sto hm_83 dX7_grantWishes_15 [(3, .inr (.inr (mR S 70 l2.toNatClampNeg))), (0, .inr (.inr (some 69))), (1, .inr (.inr (some 88))), (2, .inl l2)] rfl rfl rfl ?_
        refine zw_push hm_83 dX7_grantWishes_16 (v := .inr (.inr (mR S 70 l2.toNatClampNeg))) rfl ?_
        refine zw_ifnull hm_83 dX7_grantWishes_17 (t := 53) rfl ?_ ?_
        · intro hc
          have h := h.1 hc
          (try rw [hc])
          show ma_wp X d w 83 53 [(3, .inr (.inr none)), (0, .inr (.inr (some 69))), (1, .inr (.inr (some 88))), (2, .inl l2)] [] S _
          refine zw_sto hm_83 dX7_grantWishes_53 [(2, .inl (l2 + (1 : Int32))), (3, .inr (.inr none)), (0, .inr (.inr (some 69))), (1, .inr (.inr (some 88)))] rfl rfl rfl ?_
          refine zw_goto hm_83 dX7_grantWishes_56 (t := 2) rfl ?_
          exact zw_sub (ma_nd_of (ks := [0, 1, 2]) rfl (by decide)) (ma_nd_of (ks := [2, 3, 0, 1]) rfl (by decide)) (ma_le_cons rfl (ma_le_cons rfl (ma_le_cons rfl (ma_le_nil _)))) h
        · intro c1 hc
          have h := h.2 c1 hc
          (try rw [hc])
          show ma_wp X d w 83 20 [(3, .inr (.inr (some c1))), (0, .inr (.inr (some 69))), (1, .inr (.inr (some 88))), (2, .inl l2)] [] S _
          refine zw_push hm_83 dX7_grantWishes_20 (v := .inr (.inr (some c1))) rfl ?_
          obtain ⟨hg, h⟩ := h
          refine zw_gf hm_83 dX7_grantWishes_21 (v := .inl (mI S c1 8)) (zT_tis hS hg) (zT_tt hS hg) rfl f_7_108_9 rfl ?_
          refine zw_if0 hm_83 dX7_grantWishes_24 (t := 53) rfl zc0_eq ?_ ?_
          · intro hc
            rw [if_pos hc] at h
            refine zw_sto hm_83 dX7_grantWishes_53 [(2, .inl (l2 + (1 : Int32))), (3, .inr (.inr (some c1))), (0, .inr (.inr (some 69))), (1, .inr (.inr (some 88)))] rfl rfl rfl ?_
            refine zw_goto hm_83 dX7_grantWishes_56 (t := 2) rfl ?_
            exact zw_sub (ma_nd_of (ks := [0, 1, 2]) rfl (by decide)) (ma_nd_of (ks := [2, 3, 0, 1]) rfl (by decide)) (ma_le_cons rfl (ma_le_cons rfl (ma_le_cons rfl (ma_le_nil _)))) h
          · intro hc
            rw [if_neg hc] at h
            refine zw_push hm_83 dX7_grantWishes_27 (v := .inr (.inr (some 88))) rfl ?_
            refine zw_push hm_83 dX7_grantWishes_28 (v := .inr (.inr (some c1))) rfl ?_
            refine zw_cv hm_83 dX7_grantWishes_29 v_7_128_10 hm_122 [.inr (.inr (some c1))] [] rfl (zT_rt hS s_88 rfl) ⟨by omega, by omega⟩ rfl ?_
            show ma_wp X (d - 1) (w - 21) 122 0 [(0, .inr (.inr (some 88))), (1, .inr (.inr (some c1)))] [] S _
            refine zw_push hm_122 dX10_keeps_0 (v := .inr (.inr (some c1))) rfl ?_
            obtain ⟨hg, h⟩ := h
            refine zw_gf hm_122 dX10_keeps_1 (v := .inl (mI S c1 4)) (zT_tis hS hg) (zT_tt hS hg) rfl f_10_49_9 rfl ?_
            refine zw_push hm_122 dX10_keeps_4 (v := .inr (.inr (some 88))) rfl ?_
            refine zw_gf hm_122 dX10_keeps_5 (v := .inl (mI S 88 5)) (zT_is hS s_88) (zT_t hS s_88) rfl f_10_35_10 rfl ?_
            refine zw_if2 hm_122 dX10_keeps_8 (t := 19) rfl zc2_lt ?_ ?_
            · intro hc
              rw [if_pos hc] at h
              refine zw_push hm_122 dX10_keeps_19 (v := .inl (1 : Int32)) rfl ?_
              refine zw_goto hm_122 dX10_keeps_20 (t := 24) rfl ?_
              refine zw_bret hm_122 dX10_keeps_24 (by decide) ?_
              show ma_wp X d w 83 32 [(3, .inr (.inr (some c1))), (0, .inr (.inr (some 69))), (1, .inr (.inr (some 88))), (2, .inl l2)] [.inl (1 : Int32)] S _
              refine zw_if0 hm_83 dX7_grantWishes_32 (t := 53) rfl zc0_ne (fun _ => ?_) (fun hc => absurd (by decide) hc)
              refine zw_sto hm_83 dX7_grantWishes_53 [(2, .inl (l2 + (1 : Int32))), (3, .inr (.inr (some c1))), (0, .inr (.inr (some 69))), (1, .inr (.inr (some 88)))] rfl rfl rfl ?_
              refine zw_goto hm_83 dX7_grantWishes_56 (t := 2) rfl ?_
              exact zw_sub (ma_nd_of (ks := [0, 1, 2]) rfl (by decide)) (ma_nd_of (ks := [2, 3, 0, 1]) rfl (by decide)) (ma_le_cons rfl (ma_le_cons rfl (ma_le_cons rfl (ma_le_nil _)))) h
            · intro hc
              rw [if_neg hc] at h
              refine zw_push hm_122 dX10_keeps_11 (v := .inr (.inr (some 88))) rfl ?_
              refine zw_push hm_122 dX10_keeps_12 (v := .inr (.inr (some c1))) rfl ?_
              refine zw_cv hm_122 dX10_keeps_13 v_10_54_10 hm_123 [.inr (.inr (some c1))] [] rfl (zT_rt hS s_88 rfl) ⟨by omega, by omega⟩ rfl ?_
              show ma_wp X ((d - 1) - 1) ((w - 21) - 21) 123 0 [(0, .inr (.inr (some 88))), (1, .inr (.inr (some c1)))] [] S _
              refine zw_push hm_123 dX10_colourOf_0 (v := .inr (.inr (some c1))) rfl ?_
              obtain ⟨hg, h⟩ := h
              refine zw_gf hm_123 dX10_colourOf_1 (v := .inl (mI S c1 0)) (zT_tis hS hg) (zT_tt hS hg) rfl f_10_58_9 rfl ?_
              refine zw_push hm_123 dX10_colourOf_4 (v := .inl (512 : Int32)) rfl ?_
              refine zw_if2 hm_123 dX10_colourOf_7 (t := 22) rfl zc2_ge ?_ ?_
              · intro hc
                rw [if_pos hc] at h
                refine zw_push hm_123 dX10_colourOf_22 (v := .inl (0 : Int32)) rfl ?_
                refine zw_iret hm_123 dX10_colourOf_23 ?_
                show ma_wp X (d - 1) (w - 21) 122 16 [(0, .inr (.inr (some 88))), (1, .inr (.inr (some c1)))] [.inl (0 : Int32)] S _
                refine zw_if0 hm_122 dX10_keeps_16 (t := 23) rfl zc0_eq (fun _ => ?_) (fun hc => absurd (by decide) hc)
                refine zw_push hm_122 dX10_keeps_23 (v := .inl (0 : Int32)) rfl ?_
                refine zw_bret hm_122 dX10_keeps_24 (by decide) ?_
                show ma_wp X d w 83 32 [(3, .inr (.inr (some c1))), (0, .inr (.inr (some 69))), (1, .inr (.inr (some 88))), (2, .inl l2)] [.inl (0 : Int32)] S _
                refine zw_if0 hm_83 dX7_grantWishes_32 (t := 53) rfl zc0_ne (fun hc => absurd hc (by decide)) (fun _ => ?_)
                refine zw_push hm_83 dX7_grantWishes_35 (v := .inr (.inr (some 69))) rfl ?_
                refine zw_push hm_83 dX7_grantWishes_36 (v := .inr (.inr (some c1))) rfl ?_
                refine zw_cv hm_83 dX7_grantWishes_37 v_7_134_7 hm_84 [.inr (.inr (some c1))] [] rfl (zT_rt hS s_69 rfl) ⟨by omega, by omega⟩ rfl (zw_mono h (zv_go ?_ ?_))
                · intro S2 hv
                  obtain ⟨hS2, h⟩ := hv
                  refine zw_push hm_83 dX7_grantWishes_40 (v := .inr (.inr (some 88))) rfl ?_
                  refine zw_push hm_83 dX7_grantWishes_41 (v := .inr (.inr (some c1))) rfl ?_
                  refine zw_cv hm_83 dX7_grantWishes_42 v_7_137_10 hm_119 [.inr (.inr (some c1))] [] rfl (zT_rt hS2 s_88 rfl) ⟨by omega, by omega⟩ rfl (zw_mono h (zv_go ?_ ?_))
                  · intro S4 hv
                    obtain ⟨hS4, h⟩ := hv
                    refine zw_push hm_83 dX7_grantWishes_45 (v := .inr (.inr (some 88))) rfl ?_
                    refine zw_push hm_83 dX7_grantWishes_46 (v := .inl (512 : Int32)) rfl ?_
                    refine zw_cv hm_83 dX7_grantWishes_49 v_7_140_10 hm_120 [.inl (512 : Int32)] [] rfl (zT_rt hS4 s_88 rfl) ⟨by omega, by omega⟩ rfl (zw_mono h (zi_go ?_ ?_))
                    · intro v7 S6 hv
                      obtain ⟨hS6, h⟩ := hv
                      refine zw_stk hm_83 dX7_grantWishes_52 (st₉ := []) rfl rfl ?_
                      refine zw_sto hm_83 dX7_grantWishes_53 [(2, .inl (l2 + (1 : Int32))), (3, .inr (.inr (some c1))), (0, .inr (.inr (some 69))), (1, .inr (.inr (some 88)))] rfl rfl rfl ?_
                      refine zw_goto hm_83 dX7_grantWishes_56 (t := 2) rfl ?_
                      exact zw_sub (ma_nd_of (ks := [0, 1, 2]) rfl (by decide)) (ma_nd_of (ks := [2, 3, 0, 1]) rfl (by decide)) (ma_le_cons rfl (ma_le_cons rfl (ma_le_cons rfl (ma_le_nil _)))) h
                    · intro x S9 hx
                      exact ⟨by decide, hx⟩
                  · intro x S9 hx
                    exact ⟨by decide, hx⟩
                · intro x S9 hx
                  exact ⟨by decide, hx⟩
              · intro hc
                rw [if_neg hc] at h
                refine zw_push hm_123 dX10_colourOf_10 (v := .inr (.inr (some 88))) rfl ?_
                refine zw_gf hm_123 dX10_colourOf_11 (v := .inr (.inr (some 90))) (zT_is hS s_88) (zT_t hS s_88) rfl f_10_15_10 (zT_f hS r_88_2) ?_
                refine zw_push hm_123 dX10_colourOf_14 (v := .inr (.inr (some c1))) rfl ?_
                obtain ⟨hg, h⟩ := h
                refine zw_gf hm_123 dX10_colourOf_15 (v := .inl (mI S c1 0)) (zT_tis hS hg) (zT_tt hS hg) rfl f_10_58_9 rfl ?_
                obtain ⟨hg, h⟩ := h
                refine zw_ia hm_123 dX10_colourOf_18 (zT_is hS s_90) (zT_h hS s_90) rfl hg ?_
                show ma_wp X ((d - 1) - 1) ((w - 21) - 21) 123 19 [(0, .inr (.inr (some 88))), (1, .inr (.inr (some c1)))] [.inl (mI S 90 (mI S c1 0).toNatClampNeg)] S _
                refine zw_goto hm_123 dX10_colourOf_19 (t := 23) rfl ?_
                refine zw_iret hm_123 dX10_colourOf_23 ?_
                show ma_wp X (d - 1) (w - 21) 122 16 [(0, .inr (.inr (some 88))), (1, .inr (.inr (some c1)))] [.inl (mI S 90 (mI S c1 0).toNatClampNeg)] S _
                refine zw_if0 hm_122 dX10_keeps_16 (t := 23) rfl zc0_eq ?_ ?_
                · intro hc
                  rw [if_pos hc] at h
                  refine zw_push hm_122 dX10_keeps_23 (v := .inl (0 : Int32)) rfl ?_
                  refine zw_bret hm_122 dX10_keeps_24 (by decide) ?_
                  show ma_wp X d w 83 32 [(3, .inr (.inr (some c1))), (0, .inr (.inr (some 69))), (1, .inr (.inr (some 88))), (2, .inl l2)] [.inl (0 : Int32)] S _
                  refine zw_if0 hm_83 dX7_grantWishes_32 (t := 53) rfl zc0_ne (fun hc => absurd hc (by decide)) (fun _ => ?_)
                  refine zw_push hm_83 dX7_grantWishes_35 (v := .inr (.inr (some 69))) rfl ?_
                  refine zw_push hm_83 dX7_grantWishes_36 (v := .inr (.inr (some c1))) rfl ?_
                  refine zw_cv hm_83 dX7_grantWishes_37 v_7_134_7 hm_84 [.inr (.inr (some c1))] [] rfl (zT_rt hS s_69 rfl) ⟨by omega, by omega⟩ rfl (zw_mono h (zv_go ?_ ?_))
                  · intro S8 hv
                    obtain ⟨hS8, h⟩ := hv
                    refine zw_push hm_83 dX7_grantWishes_40 (v := .inr (.inr (some 88))) rfl ?_
                    refine zw_push hm_83 dX7_grantWishes_41 (v := .inr (.inr (some c1))) rfl ?_
                    refine zw_cv hm_83 dX7_grantWishes_42 v_7_137_10 hm_119 [.inr (.inr (some c1))] [] rfl (zT_rt hS8 s_88 rfl) ⟨by omega, by omega⟩ rfl (zw_mono h (zv_go ?_ ?_))
                    · intro S10 hv
                      obtain ⟨hS10, h⟩ := hv
                      refine zw_push hm_83 dX7_grantWishes_45 (v := .inr (.inr (some 88))) rfl ?_
                      refine zw_push hm_83 dX7_grantWishes_46 (v := .inl (512 : Int32)) rfl ?_
                      refine zw_cv hm_83 dX7_grantWishes_49 v_7_140_10 hm_120 [.inl (512 : Int32)] [] rfl (zT_rt hS10 s_88 rfl) ⟨by omega, by omega⟩ rfl (zw_mono h (zi_go ?_ ?_))
                      · intro v13 S12 hv
                        obtain ⟨hS12, h⟩ := hv
                        refine zw_stk hm_83 dX7_grantWishes_52 (st₉ := []) rfl rfl ?_
                        refine zw_sto hm_83 dX7_grantWishes_53 [(2, .inl (l2 + (1 : Int32))), (3, .inr (.inr (some c1))), (0, .inr (.inr (some 69))), (1, .inr (.inr (some 88)))] rfl rfl rfl ?_
                        refine zw_goto hm_83 dX7_grantWishes_56 (t := 2) rfl ?_
                        exact zw_sub (ma_nd_of (ks := [0, 1, 2]) rfl (by decide)) (ma_nd_of (ks := [2, 3, 0, 1]) rfl (by decide)) (ma_le_cons rfl (ma_le_cons rfl (ma_le_cons rfl (ma_le_nil _)))) h
                      · intro x S9 hx
                        exact ⟨by decide, hx⟩
                    · intro x S9 hx
                      exact ⟨by decide, hx⟩
                  · intro x S9 hx
                    exact ⟨by decide, hx⟩
                · intro hc
                  rw [if_neg hc] at h
                  refine zw_push hm_122 dX10_keeps_19 (v := .inl (1 : Int32)) rfl ?_
                  refine zw_goto hm_122 dX10_keeps_20 (t := 24) rfl ?_
                  refine zw_bret hm_122 dX10_keeps_24 (by decide) ?_
                  show ma_wp X d w 83 32 [(3, .inr (.inr (some c1))), (0, .inr (.inr (some 69))), (1, .inr (.inr (some 88))), (2, .inl l2)] [.inl (1 : Int32)] S _
                  refine zw_if0 hm_83 dX7_grantWishes_32 (t := 53) rfl zc0_ne (fun _ => ?_) (fun hc => absurd (by decide) hc)
                  refine zw_sto hm_83 dX7_grantWishes_53 [(2, .inl (l2 + (1 : Int32))), (3, .inr (.inr (some c1))), (0, .inr (.inr (some 69))), (1, .inr (.inr (some 88)))] rfl rfl rfl ?_
                  refine zw_goto hm_83 dX7_grantWishes_56 (t := 2) rfl ?_
                  exact zw_sub (ma_nd_of (ks := [0, 1, 2]) rfl (by decide)) (ma_nd_of (ks := [2, 3, 0, 1]) rfl (by decide)) (ma_le_cons rfl (ma_le_cons rfl (ma_le_cons rfl (ma_le_nil _)))) h
theorem lp_83_69_88_s_2 {X : Nat × (Nat → Int32)} {d w : Nat} {f : Nat → Nat → Int32} {r : Nat → Nat → Option Nat} {C Z N : Nat} {Q : Option ma_V ⊕ Nat → ma_S → Prop} {ab : Nat→Nat→Int32} {R : zRT} (hd : 2 ≤ d) (hw : 49 ≤ w) (K : ∀ S₉, zI f r C Z N S₉ → (xB S₉ R) → (aS 88 S₉ = aGw ab 0) → Q (.inl none) S₉) : ∀ (n : Nat) (S : ma_S) (l2 : Int32), (512 - l2.toInt).toNat = n → zI f r C Z N S → (0 ≤ l2.toInt) → (xB S R) → (aGw (aS 88 S) l2 = aGw ab 0) → ma_wp X d w 83 2 [(0, .inr (.inr (some 69))), (1, .inr (.inr (some 88))), (2, .inl l2)] [] S Q := by
  intro n
  induction n using Nat.strongRecOn with
  | _ n IH =>
    intro S l2 hmu hI  hi0 hi1 hi2
    refine g_83_69_88_s_2 l2 (by omega) (by omega) (zG_T hI) ?_
    have r6 := congrArg Int32.toInt (aS_I (W := 88) (S := S) (c := 69) (c₉ := 69) (k := 6) rfl rfl)
    have f1 := zG_s hI (0) (512) (c := 69) (k := 6) (by decide)
    have b2 := i_bd l2
    refine zd (fun h3 => ?_) (fun h3 => ?_)
    · skip
      have g4 := i_le h3
      exact K _ hI (show xB S R from by first | (exact (xC_o (W := 75) hi1).2)) (show aS 88 S = aGw ab 0 from by first | (exact (aGw_st (by omega)).symm.trans hi2))
    · skip
      have g5 := i_nle h3
      have li6 : (0 : Int32).toInt = 0 := rfl
      refine zd (fun h7 => ?_) (fun h7 => ?_)
      · skip
        have g8 := i_lt h7
        first | have e9 : (l2 + (1 : Int32)).toInt = l2.toInt + (1) := i_addk rfl (by omega) (by omega) | have b10 := i_bd (l2 + (1 : Int32))
        exact IH _ (by omega) _ ((l2 + (1 : Int32))) rfl hI (by omega) (show xB S R from by first | (exact (xC_o (W := 75) hi1).2)) (show aGw (aS 88 S) ((l2 + (1 : Int32))) = aGw ab 0 from by first | (exfalso; omega) | (exact (aGw_n (by omega) (fun z => by omega)).symm.trans hi2))
      · skip
        have g11 := i_nlt h7
        have li12 : (512 : Int32).toInt = 512 := rfl
        refine zd (fun h13 => ?_) (fun h13 => ?_)
        · skip
          have g14 := i_le h13
          first | have e15 : (l2 + (1 : Int32)).toInt = l2.toInt + (1) := i_addk rfl (by omega) (by omega) | have b16 := i_bd (l2 + (1 : Int32))
          exact IH _ (by omega) _ ((l2 + (1 : Int32))) rfl hI (by omega) (show xB S R from by first | (exact (xC_o (W := 75) hi1).2)) (show aGw (aS 88 S) ((l2 + (1 : Int32))) = aGw ab 0 from by first | (exfalso; omega) | (exact (aGw_n (by omega) (fun z => by omega)).symm.trans hi2))
        · skip
          have g17 := i_nle h13
          refine ⟨i_ix (by omega) (by omega), ?_⟩
          refine ⟨fun hc => ?_, fun c1 hc => ?_⟩
          · skip
            have rn_c1 : zTa R l2 = none := (ta_rd (y := l2) hi1 (by omega) (by omega)).symm.trans hc
            first | have e18 : (l2 + (1 : Int32)).toInt = l2.toInt + (1) := i_addk rfl (by omega) (by omega) | have b19 := i_bd (l2 + (1 : Int32))
            exact IH _ (by omega) _ ((l2 + (1 : Int32))) rfl hI (by omega) (show xB S R from by first | (exact (xC_o (W := 75) hi1).2)) (show aGw (aS 88 S) ((l2 + (1 : Int32))) = aGw ab 0 from by first | (exfalso; omega) | (exact (aGw_n (by omega) (fun z => xB_nt (W := 88) hi1 rn_c1 ⟨z.1, z.2.1, z.2.2.1⟩)).symm.trans hi2))
          · skip
            have th_c1 := (fun _ z => zG_70 hI (c := 70) (by decide) z) c1 hc
            have rg_c1 : zTa R l2 = some c1 := (ta_rd (y := l2) hi1 (by omega) (by omega)).symm.trans hc
            refine ⟨zG_n hI th_c1, ?_⟩
            have b20 := i_bd (mI S c1 8)
            refine zd (fun h21 => ?_) (fun h21 => ?_)
            · skip
              have g22 := i_eq h21
              first | have e23 : (l2 + (1 : Int32)).toInt = l2.toInt + (1) := i_addk rfl (by omega) (by omega) | have b24 := i_bd (l2 + (1 : Int32))
              exact IH _ (by omega) _ ((l2 + (1 : Int32))) rfl hI (by omega) (show xB S R from by first | (exact (xC_o (W := 75) hi1).2)) (show aGw (aS 88 S) ((l2 + (1 : Int32))) = aGw ab 0 from by first | (exfalso; omega) | (have ty := xB_th (W := 88) hi1 rg_c1; have e4 := congrArg Int32.toInt ty.2.2.2.2.2.1; refine (aGw_n (by omega) (fun z => ?_)).symm.trans hi2; have z1 : mI S c1 8 ≠ 0 := (by rw [ty.2.2.2.2.2.2.2.1]; exact z.2.2.2.1); have z4 : (mI S 88 5).toInt ≤ (mI S c1 4).toInt := (by rw [e4]; exact z.2.2.2.2.1); have z6 : (mI S 90 (mI S c1 0).toNatClampNeg).toInt = 0 := (by rw [ty.2.2.1]; exact congrArg Int32.toInt z.2.2.2.2.2); first | omega | exact z1 (by assumption)))
            · skip
              have g25 := i_ne h21
              refine ⟨zG_n hI th_c1, ?_⟩
              have f26 := zG_th hI th_c1
              have b27 := i_bd (mI S 88 5)
              refine zd (fun h28 => ?_) (fun h28 => ?_)
              · skip
                have g29 := i_lt h28
                first | have e30 : (l2 + (1 : Int32)).toInt = l2.toInt + (1) := i_addk rfl (by omega) (by omega) | have b31 := i_bd (l2 + (1 : Int32))
                exact IH _ (by omega) _ ((l2 + (1 : Int32))) rfl hI (by omega) (show xB S R from by first | (exact (xC_o (W := 75) hi1).2)) (show aGw (aS 88 S) ((l2 + (1 : Int32))) = aGw ab 0 from by first | (exfalso; omega) | (have ty := xB_th (W := 88) hi1 rg_c1; have e4 := congrArg Int32.toInt ty.2.2.2.2.2.1; refine (aGw_n (by omega) (fun z => ?_)).symm.trans hi2; have z1 : mI S c1 8 ≠ 0 := (by rw [ty.2.2.2.2.2.2.2.1]; exact z.2.2.2.1); have z4 : (mI S 88 5).toInt ≤ (mI S c1 4).toInt := (by rw [e4]; exact z.2.2.2.2.1); have z6 : (mI S 90 (mI S c1 0).toNatClampNeg).toInt = 0 := (by rw [ty.2.2.1]; exact congrArg Int32.toInt z.2.2.2.2.2); first | omega | exact z1 (by assumption)))
              · skip
                have g32 := i_nlt h28
                refine ⟨zG_n hI th_c1, ?_⟩
                have f33 := zG_th hI th_c1
                refine zd (fun h34 => ?_) (fun h34 => ?_)
                · skip
                  have g35 := i_le h34
                  refine sp_84_69_s (ab := (aS 88 S)) (R := R) (W := 88) (y := l2) c1 (by omega) (by omega) hI th_c1 (show xB S R from by first | (exact (xC_o (W := 75) hi1).2)) (show aS 88 S = (aS 88 S) from by first | (exact rfl)) (show xW 88 from by first | (exact xW88)) (show zTa R l2 = some c1 from by first | (exact rg_c1)) (fun S2 hI_S2 rp0_S2 rp1_S2 => zv_n ⟨zG_T hI_S2, ?_⟩)
                  have rp0_S2 : xB S2 R := rp0_S2
                  have rp1_S2 : aS 88 S2 = aGr (aS 88 S) l2 := rp1_S2
                  refine sp_119_88_s (ab := (aS 88 S2)) (R := R) (y := (l2)) ((some c1)) (by omega) (by omega) hI_S2 (fun _ z => by cases z; exact th_c1) (show xB S2 R from by first | (exact (xC_o (W := 75) rp0_S2).2)) (show aS 88 S2 = (aS 88 S2) from by first | (exact rfl)) (show (some c1) = zTa R (l2) from by first | (exact rg_c1.symm)) (fun S4 hI_S4 rp0_S4 rp1_S4 => zv_n ⟨zG_T hI_S4, ?_⟩)
                  have rp0_S4 : xB S4 R := rp0_S4
                  have rp1_S4 : aS 88 S4 = aCm (aS 88 S2) (l2) := rp1_S4
                  refine sp_120_88_s (ab := (aS 88 S4)) (R := R) ((512 : Int32)) (by omega) (by omega) hI_S4 (show xB S4 R from by first | (exact (xC_o (W := 75) rp0_S4).2)) (show aS 88 S4 = (aS 88 S4) from by first | (exact rfl)) (by omega) (fun v7 S6 hI_S6 hp_v7 rp0_S6 rp1_S6 => zi_n ⟨zG_T hI_S6, ?_⟩)
                  have rp0_S6 : xB S6 R := rp0_S6
                  have rp1_S6 : aS 88 S6 = aSp (512 : Int32).toInt.toNat (aS 88 S4) ∧ v7.toInt = (aSn (512 : Int32).toInt.toNat (aS 88 S4) : Int) := rp1_S6
                  first | have e36 : (l2 + (1 : Int32)).toInt = l2.toInt + (1) := i_addk rfl (by omega) (by omega) | have b37 := i_bd (l2 + (1 : Int32))
                  exact IH _ (by omega) _ ((l2 + (1 : Int32))) rfl hI_S6 (by omega) (show xB S6 R from by first | (exact (xC_o (W := 75) rp0_S6).2)) (show aGw (aS 88 S6) ((l2 + (1 : Int32))) = aGw ab 0 from by first | (exfalso; omega) | (have ty := xB_th (W := 88) hi1 rg_c1; have e4 := congrArg Int32.toInt ty.2.2.2.2.2.1; have e8 := congrArg Int32.toInt ty.2.2.2.2.2.2.2.1; rw [rp1_S6.1, show (512 : Int32).toInt.toNat = 512 from rfl, rp1_S4, rp1_S2]; refine (aGw_y (by omega) ⟨ty.1, ty.2.1, (by rw [ty.2.2.2.2.2.2.2.2]; decide), (fun z => ?_), ?_, ?_⟩).symm.trans hi2; (rw [← ty.2.2.2.2.2.2.2.1] at z; have z2 := congrArg Int32.toInt z; omega); (show (mI S 88 5).toInt ≤ _; rw [← e4]; omega); (show mI S 90 _ = 0; rw [← ty.2.2.1]; assumption)))
                · skip
                  have g38 := i_nle h34
                  refine ⟨zG_n hI th_c1, ?_⟩
                  refine ⟨i_ix (by omega) (by omega), ?_⟩
                  have b39 := i_bd (mI S 90 (mI S c1 0).toNatClampNeg)
                  refine zd (fun h40 => ?_) (fun h40 => ?_)
                  · skip
                    have g41 := i_eq h40
                    refine sp_84_69_s (ab := (aS 88 S)) (R := R) (W := 88) (y := l2) c1 (by omega) (by omega) hI th_c1 (show xB S R from by first | (exact (xC_o (W := 75) hi1).2)) (show aS 88 S = (aS 88 S) from by first | (exact rfl)) (show xW 88 from by first | (exact xW88)) (show zTa R l2 = some c1 from by first | (exact rg_c1)) (fun S8 hI_S8 rp0_S8 rp1_S8 => zv_n ⟨zG_T hI_S8, ?_⟩)
                    have rp0_S8 : xB S8 R := rp0_S8
                    have rp1_S8 : aS 88 S8 = aGr (aS 88 S) l2 := rp1_S8
                    refine sp_119_88_s (ab := (aS 88 S8)) (R := R) (y := (l2)) ((some c1)) (by omega) (by omega) hI_S8 (fun _ z => by cases z; exact th_c1) (show xB S8 R from by first | (exact (xC_o (W := 75) rp0_S8).2)) (show aS 88 S8 = (aS 88 S8) from by first | (exact rfl)) (show (some c1) = zTa R (l2) from by first | (exact rg_c1.symm)) (fun S10 hI_S10 rp0_S10 rp1_S10 => zv_n ⟨zG_T hI_S10, ?_⟩)
                    have rp0_S10 : xB S10 R := rp0_S10
                    have rp1_S10 : aS 88 S10 = aCm (aS 88 S8) (l2) := rp1_S10
                    refine sp_120_88_s (ab := (aS 88 S10)) (R := R) ((512 : Int32)) (by omega) (by omega) hI_S10 (show xB S10 R from by first | (exact (xC_o (W := 75) rp0_S10).2)) (show aS 88 S10 = (aS 88 S10) from by first | (exact rfl)) (by omega) (fun v13 S12 hI_S12 hp_v13 rp0_S12 rp1_S12 => zi_n ⟨zG_T hI_S12, ?_⟩)
                    have rp0_S12 : xB S12 R := rp0_S12
                    have rp1_S12 : aS 88 S12 = aSp (512 : Int32).toInt.toNat (aS 88 S10) ∧ v13.toInt = (aSn (512 : Int32).toInt.toNat (aS 88 S10) : Int) := rp1_S12
                    first | have e42 : (l2 + (1 : Int32)).toInt = l2.toInt + (1) := i_addk rfl (by omega) (by omega) | have b43 := i_bd (l2 + (1 : Int32))
                    exact IH _ (by omega) _ ((l2 + (1 : Int32))) rfl hI_S12 (by omega) (show xB S12 R from by first | (exact (xC_o (W := 75) rp0_S12).2)) (show aGw (aS 88 S12) ((l2 + (1 : Int32))) = aGw ab 0 from by first | (exfalso; omega) | (have ty := xB_th (W := 88) hi1 rg_c1; have e4 := congrArg Int32.toInt ty.2.2.2.2.2.1; have e8 := congrArg Int32.toInt ty.2.2.2.2.2.2.2.1; rw [rp1_S12.1, show (512 : Int32).toInt.toNat = 512 from rfl, rp1_S10, rp1_S8]; refine (aGw_y (by omega) ⟨ty.1, ty.2.1, (by rw [ty.2.2.2.2.2.2.2.2]; decide), (fun z => ?_), ?_, ?_⟩).symm.trans hi2; (rw [← ty.2.2.2.2.2.2.2.1] at z; have z2 := congrArg Int32.toInt z; omega); (show (mI S 88 5).toInt ≤ _; rw [← e4]; omega); (show mI S 90 _ = 0; rw [← ty.2.2.1]; assumption)))
                  · skip
                    have g44 := i_ne h40
                    first | have e45 : (l2 + (1 : Int32)).toInt = l2.toInt + (1) := i_addk rfl (by omega) (by omega) | have b46 := i_bd (l2 + (1 : Int32))
                    exact IH _ (by omega) _ ((l2 + (1 : Int32))) rfl hI (by omega) (show xB S R from by first | (exact (xC_o (W := 75) hi1).2)) (show aGw (aS 88 S) ((l2 + (1 : Int32))) = aGw ab 0 from by first | (exfalso; omega) | (have ty := xB_th (W := 88) hi1 rg_c1; have e4 := congrArg Int32.toInt ty.2.2.2.2.2.1; refine (aGw_n (by omega) (fun z => ?_)).symm.trans hi2; have z1 : mI S c1 8 ≠ 0 := (by rw [ty.2.2.2.2.2.2.2.1]; exact z.2.2.2.1); have z4 : (mI S 88 5).toInt ≤ (mI S c1 4).toInt := (by rw [e4]; exact z.2.2.2.2.1); have z6 : (mI S 90 (mI S c1 0).toNatClampNeg).toInt = 0 := (by rw [ty.2.2.1]; exact congrArg Int32.toInt z.2.2.2.2.2); first | omega | exact z1 (by assumption)))
theorem sp_83_69_88_s {X : Nat × (Nat → Int32)} {d w : Nat} {f : Nat → Nat → Int32} {r : Nat → Nat → Option Nat} {C Z N : Nat} {Q : Option ma_V ⊕ Nat → ma_S → Prop} {ab : Nat→Nat→Int32} {R : zRT} {S : ma_S}  (hd : 2 ≤ d) (hw : 49 ≤ w) (hI : zI f r C Z N S) (hpre0 : xB S R) (hpre1 : aS 88 S = ab) (K : ∀ S₉, zI f r C Z N S₉ → (xB S₉ R) → (aS 88 S₉ = aGw ab 0) → Q (.inl none) S₉) : ma_wp X d w 83 0 [(0, .inr (.inr (some 69))), (1, .inr (.inr (some 88)))] [] S Q := by
  refine g_83_69_88_s_0  (by omega) (by omega) (zG_T hI) ?_
  have li1 : (0 : Int32).toInt = 0 := rfl
  exact lp_83_69_88_s_2 (by omega) (by omega) K _ _ ((0 : Int32)) rfl hI (by omega) (show xB S R from by first | (exact (xC_o (W := 75) hpre0).2)) (show aGw (aS 88 S) ((0 : Int32)) = aGw ab 0 from by first | (rw [hpre1]) | (exfalso; omega))

/-! from 95.g10 -/
/-! the heap by numbers, the class (written by wip/tools/gen18.py) -/
theorem g_88_69_s_0 {X : Nat × (Nat → Int32)} {d w : Nat} {S : ma_S} {Q : Option ma_V ⊕ Nat → ma_S → Prop} (x : Int32) (z : Int32) (hd : 0 ≤ d) (hw : 0 ≤ w) (hS : zT S) (h : ma_wp X d w 88 2 [(0, .inr (.inr (some 69))), (2, .inl z), (3, .inl x)] [] S Q) : ma_wp X d w 88 0 [(0, .inr (.inr (some 69))), (1, .inl x), (2, .inl z)] [] S Q := by
  refine zw_push hm_88 dX7_freeWords_0 (v := .inl x) rfl ?_
  refine zw_sto hm_88 dX7_freeWords_1 [(3, .inl x), (0, .inr (.inr (some 69))), (1, .inl x), (2, .inl z)] rfl rfl rfl ?_
  exact zw_sub (ma_nd_of (ks := [0, 2, 3]) rfl (by decide)) (ma_nd_of (ks := [3, 0, 1, 2]) rfl (by decide)) (ma_le_cons rfl (ma_le_cons rfl (ma_le_cons rfl (ma_le_nil _)))) h
theorem g_88_69_s_2 {X : Nat × (Nat → Int32)} {d w : Nat} {S : ma_S} {Q : Option ma_V ⊕ Nat → ma_S → Prop} (l2 : Int32) (l3 : Int32) (hd : 0 ≤ d) (hw : 0 ≤ w) (hS : zT S) (h : if l3 < 0 then (Q (.inl none) S) else (if l2 ≤ l3 then (Q (.inl none) S) else (if (4500 : Int32) ≤ l3 then (Q (.inl none) S) else ((0 ≤ l3 ∧ l3.toNatClampNeg < 4500) ∧ (ma_wp X d w 88 2 [(0, .inr (.inr (some 69))), (2, .inl l2), (3, .inl (l3 + (1 : Int32)))] [] (ma_put S 71 l3.toNatClampNeg (.inl (-1 : Int32))) Q))))) : ma_wp X d w 88 2 [(0, .inr (.inr (some 69))), (2, .inl l2), (3, .inl l3)] [] S Q := by
  refine zw_push hm_88 dX7_freeWords_2 (v := .inl l3) rfl ?_
  refine zw_if0 hm_88 dX7_freeWords_3 (t := 31) rfl zc0_lt ?_ ?_
  · intro hc
    rw [if_pos hc] at h
    exact zw_vret hm_88 dX7_freeWords_31 h
  · intro hc
    rw [if_neg hc] at h
    refine zw_push hm_88 dX7_freeWords_6 (v := .inl l3) rfl ?_
    refine zw_push hm_88 dX7_freeWords_7 (v := .inl l2) rfl ?_
    refine zw_if2 hm_88 dX7_freeWords_8 (t := 31) rfl zc2_ge ?_ ?_
    · intro hc
      rw [if_pos hc] at h
      exact zw_vret hm_88 dX7_freeWords_31 h
    · intro hc
      rw [if_neg hc] at h
      refine zw_push hm_88 dX7_freeWords_11 (v := .inl l3) rfl ?_
      refine zw_push hm_88 dX7_freeWords_12 (v := .inl (4500 : Int32)) rfl ?_
      refine zw_if2 hm_88 dX7_freeWords_15 (t := 31) rfl zc2_ge ?_ ?_
      · intro hc
        rw [if_pos hc] at h
        exact zw_vret hm_88 dX7_freeWords_31 h
      · intro hc
        rw [if_neg hc] at h
        refine zw_push hm_88 dX7_freeWords_18 (v := .inr (.inr (some 69))) rfl ?_
        refine zw_gf hm_88 dX7_freeWords_19 (v := .inr (.inr (some 71))) (zT_is hS s_69) (zT_t hS s_69) rfl f_7_17_7 (zT_f hS r_69_1) ?_
        refine zw_push hm_88 dX7_freeWords_22 (v := .inl l3) rfl ?_
        refine zw_push hm_88 dX7_freeWords_23 (v := .inl (-1 : Int32)) rfl ?_
        obtain ⟨hg, h⟩ := h
        refine zw_ias hm_88 dX7_freeWords_24 (zT_is hS s_71) (zT_h hS s_71) rfl hg ?_
        refine zw_sto hm_88 dX7_freeWords_25 [(3, .inl (l3 + (1 : Int32))), (0, .inr (.inr (some 69))), (2, .inl l2)] rfl rfl rfl ?_
        refine zw_goto hm_88 dX7_freeWords_28 (t := 2) rfl ?_
        exact zw_sub (ma_nd_of (ks := [0, 2, 3]) rfl (by decide)) (ma_nd_of (ks := [3, 0, 2]) rfl (by decide)) (ma_le_cons rfl (ma_le_cons rfl (ma_le_cons rfl (ma_le_nil _)))) h
theorem lp_88_69_s_2 {X : Nat × (Nat → Int32)} {d w : Nat} {f : Nat → Nat → Int32} {r : Nat → Nat → Option Nat} {C Z N : Nat} {Q : Option ma_V ⊕ Nat → ma_S → Prop} {ab : Nat→Nat→Int32} {R : zRT} {W : Nat} {x : Int32} {z : Int32} (hd : 0 ≤ d) (hw : 0 ≤ w) (K : ∀ S₉, zI f r C Z N S₉ → (xB S₉ R) → (aS W S₉ = zFr ab x.toInt (zMin z.toInt)) → Q (.inl none) S₉) : ∀ (n : Nat) (S : ma_S) (l2 : Int32) (l3 : Int32), (4500 - l3.toInt).toNat = n → zI f r C Z N S → (x.toInt ≤ l3.toInt) → (l2.toInt = z.toInt) → (0 ≤ x.toInt) → (l3.toInt = x.toInt ∨ (l3.toInt ≤ z.toInt ∧ l3.toInt ≤ 4500)) → (xB S R) → (xW W) → (aS W S = zFr ab x.toInt l3.toInt) → ma_wp X d w 88 2 [(0, .inr (.inr (some 69))), (2, .inl l2), (3, .inl l3)] [] S Q := by
  intro n
  induction n using Nat.strongRecOn with
  | _ n IH =>
    intro S l2 l3 hmu hI  hi0 hi1 hi2 hi3 hi4 hi5 hi6
    refine g_88_69_s_2 l2 l3 (by omega) (by omega) (zG_T hI) ?_
    have b1 := i_bd l3
    have li2 : (0 : Int32).toInt = 0 := rfl
    refine zd (fun h3 => ?_) (fun h3 => ?_)
    · skip
      have g4 := i_lt h3
      exact K _ hI (show xB S R from by first | (exact (xC_o (W := 75) hi4).2)) (show aS W S = zFr ab x.toInt (zMin z.toInt) from by first | (rw [hi6]; exact zFr_e (by unfold zMin; split <;> omega)))
    · skip
      have g5 := i_nlt h3
      have b6 := i_bd l2
      refine zd (fun h7 => ?_) (fun h7 => ?_)
      · skip
        have g8 := i_le h7
        exact K _ hI (show xB S R from by first | (exact (xC_o (W := 75) hi4).2)) (show aS W S = zFr ab x.toInt (zMin z.toInt) from by first | (rw [hi6]; exact zFr_e (by unfold zMin; split <;> omega)))
      · skip
        have g9 := i_nle h7
        have li10 : (4500 : Int32).toInt = 4500 := rfl
        refine zd (fun h11 => ?_) (fun h11 => ?_)
        · skip
          have g12 := i_le h11
          exact K _ hI (show xB S R from by first | (exact (xC_o (W := 75) hi4).2)) (show aS W S = zFr ab x.toInt (zMin z.toInt) from by first | (rw [hi6]; exact zFr_e (by unfold zMin; split <;> omega)))
        · skip
          have g13 := i_nle h11
          refine ⟨i_ix (by omega) (by omega), ?_⟩
          have hI14 : zI f r C Z N (ma_put S 71 l3.toNatClampNeg (.inl (-1 : Int32))) := zG_fa hI rfl (by decide) (by decide) (by decide) trivial
          first | have e15 : (l3 + (1 : Int32)).toInt = l3.toInt + (1) := i_addk rfl (by omega) (by omega) | have b16 := i_bd (l3 + (1 : Int32))
          exact IH _ (by omega) _ (l2) ((l3 + (1 : Int32))) rfl hI14 (by omega) (by omega) (by omega) (by omega) (show xB (ma_put S 71 l3.toNatClampNeg (.inl (-1 : Int32))) R from by first | (exact (xC_p (c := 71) (k := l3.toNatClampNeg) (x := (-1 : Int32)) (xC_o (W := 75) hi4) 71 xW75 rfl rfl).2)) (show xW W from by first | (exact hi5) | (exact xW88)) (show aS W (ma_put S 71 l3.toNatClampNeg (.inl (-1 : Int32))) = zFr ab x.toInt ((l3 + (1 : Int32))).toInt from by first | (refine (xC_p (c := 71) (k := l3.toNatClampNeg) (x := (-1 : Int32)) (xC_o (W := W) hi4) 71 hi5 rfl (zcw_s (by decide))).1.trans ?_; skip; rw [hi6]; exact zFr_s (by omega) (by omega) (by omega)))
theorem sp_88_69_s {X : Nat × (Nat → Int32)} {d w : Nat} {f : Nat → Nat → Int32} {r : Nat → Nat → Option Nat} {C Z N : Nat} {Q : Option ma_V ⊕ Nat → ma_S → Prop} {ab : Nat→Nat→Int32} {R : zRT} {W : Nat} {S : ma_S} (x : Int32) (z : Int32) (hd : 0 ≤ d) (hw : 0 ≤ w) (hI : zI f r C Z N S) (hpre0 : xB S R) (hpre1 : aS W S = ab) (hpre2 : xW W) (hpre3 : 0 ≤ x.toInt) (K : ∀ S₉, zI f r C Z N S₉ → (xB S₉ R) → (aS W S₉ = zFr ab x.toInt (zMin z.toInt)) → Q (.inl none) S₉) : ma_wp X d w 88 0 [(0, .inr (.inr (some 69))), (1, .inl x), (2, .inl z)] [] S Q := by
  refine g_88_69_s_0 x z (by omega) (by omega) (zG_T hI) ?_
  have b1 := i_bd z
  have b2 := i_bd x
  exact lp_88_69_s_2 (by omega) (by omega) K _ _ (z) (x) rfl hI (by omega) (by omega) (by omega) (by omega) (show xB S R from by first | (exact (xC_o (W := 75) hpre0).2)) (show xW W from by first | (exact hpre2) | (exact xW88)) (show aS W S = zFr ab x.toInt (x).toInt from by first | (rw [hpre1]; exact (zFr_0 (Int.le_refl _)).symm))

/-! from 95.g11 -/
/-! the heap by numbers, the class (written by wip/tools/gen18.py) -/
theorem g_87_69_s_0 {X : Nat × (Nat → Int32)} {d w : Nat} {S : ma_S} {Q : Option ma_V ⊕ Nat → ma_S → Prop} (t : Nat) (hd : 1 ≤ d) (hw : 25 ≤ w) (hS : zT S) (h : ma_wp X (d - 1) (w - 22) 85 0 [(0, .inr (.inr (some 69))), (1, .inr (.inr (some t)))] [] S (zv (fun S1 => zT S1 ∧ (ma_wp X d w 87 7 [(0, .inr (.inr (some 69))), (1, .inr (.inr (some t))), (2, .inl (0 : Int32))] [] S1 Q)) (fun x S9 => Q (.inr x) S9))) : ma_wp X d w 87 0 [(0, .inr (.inr (some 69))), (1, .inr (.inr (some t)))] [] S Q := by
  refine zw_push hm_87 dX7_remove_0 (v := .inr (.inr (some 69))) rfl ?_
  refine zw_push hm_87 dX7_remove_1 (v := .inr (.inr (some t))) rfl ?_
  refine zw_cv hm_87 dX7_remove_2 v_7_104_7 hm_85 [.inr (.inr (some t))] [] rfl (zT_rt hS s_69 rfl) ⟨by omega, by omega⟩ rfl (zw_mono h (zv_go ?_ ?_))
  · intro S1 hv
    obtain ⟨hS1, h⟩ := hv
    refine zw_push hm_87 dX7_remove_5 (v := .inl (0 : Int32)) rfl ?_
    refine zw_sto hm_87 dX7_remove_6 [(2, .inl (0 : Int32)), (0, .inr (.inr (some 69))), (1, .inr (.inr (some t)))] rfl rfl rfl ?_
    exact zw_sub (ma_nd_of (ks := [0, 1, 2]) rfl (by decide)) (ma_nd_of (ks := [2, 0, 1]) rfl (by decide)) (ma_le_cons rfl (ma_le_cons rfl (ma_le_cons rfl (ma_le_nil _)))) h
  · intro x S9 hx
    exact ⟨by decide, hx⟩
theorem g_87_69_s_7 {X : Nat × (Nat → Int32)} {d w : Nat} {S : ma_S} {Q : Option ma_V ⊕ Nat → ma_S → Prop} (l1 : Nat) (l2 : Int32) (hd : 1 ≤ d) (hw : 25 ≤ w) (hS : zT S) (h : (126 ≤ l1 ∧ l1 < mN S) ∧ (if ((mI S l1 2) - (1 : Int32)) ≤ l2 then ((126 ≤ l1 ∧ l1 < mN S) ∧ ((126 ≤ l1 ∧ l1 < mN S) ∧ ((126 ≤ l1 ∧ l1 < mN S) ∧ (ma_wp X (d - 1) (w - 23) 88 0 [(0, .inr (.inr (some 69))), (1, .inl (mI S l1 4)), (2, .inl ((mI S l1 4) + (mI S l1 2)))] [] S (zv (fun S1 => zT S1 ∧ ((126 ≤ l1 ∧ l1 < mN S1) ∧ (if (512 : Int32) ≤ (mI S1 l1 0) then ((126 ≤ l1 ∧ l1 < mN (ma_put S1 69 7 (.inl ((mI S1 69 7) - (1 : Int32))))) ∧ ((126 ≤ l1 ∧ l1 < mN (ma_put (ma_put S1 69 7 (.inl ((mI S1 69 7) - (1 : Int32)))) 69 8 (.inl ((mI S1 69 8) - (mI (ma_put S1 69 7 (.inl ((mI S1 69 7) - (1 : Int32)))) l1 2))))) ∧ (Q (.inl none) (ma_put (ma_put (ma_put S1 69 7 (.inl ((mI S1 69 7) - (1 : Int32)))) 69 8 (.inl ((mI S1 69 8) - (mI (ma_put S1 69 7 (.inl ((mI S1 69 7) - (1 : Int32)))) l1 2)))) 69 11 (.inl ((mI S1 69 11) + (mI (ma_put (ma_put S1 69 7 (.inl ((mI S1 69 7) - (1 : Int32)))) 69 8 (.inl ((mI S1 69 8) - (mI (ma_put S1 69 7 (.inl ((mI S1 69 7) - (1 : Int32)))) l1 2)))) l1 2))))))) else ((126 ≤ l1 ∧ l1 < mN S1) ∧ ((0 ≤ (mI S1 l1 0) ∧ (mI S1 l1 0).toNatClampNeg < 512) ∧ ((126 ≤ l1 ∧ l1 < mN (ma_put (ma_put S1 70 (mI S1 l1 0).toNatClampNeg (.inr (.inr none))) 69 7 (.inl ((mI S1 69 7) - (1 : Int32))))) ∧ ((126 ≤ l1 ∧ l1 < mN (ma_put (ma_put (ma_put S1 70 (mI S1 l1 0).toNatClampNeg (.inr (.inr none))) 69 7 (.inl ((mI S1 69 7) - (1 : Int32)))) 69 8 (.inl ((mI S1 69 8) - (mI (ma_put (ma_put S1 70 (mI S1 l1 0).toNatClampNeg (.inr (.inr none))) 69 7 (.inl ((mI S1 69 7) - (1 : Int32)))) l1 2))))) ∧ (Q (.inl none) (ma_put (ma_put (ma_put (ma_put S1 70 (mI S1 l1 0).toNatClampNeg (.inr (.inr none))) 69 7 (.inl ((mI S1 69 7) - (1 : Int32)))) 69 8 (.inl ((mI S1 69 8) - (mI (ma_put (ma_put S1 70 (mI S1 l1 0).toNatClampNeg (.inr (.inr none))) 69 7 (.inl ((mI S1 69 7) - (1 : Int32)))) l1 2)))) 69 11 (.inl ((mI S1 69 11) + (mI (ma_put (ma_put (ma_put S1 70 (mI S1 l1 0).toNatClampNeg (.inr (.inr none))) 69 7 (.inl ((mI S1 69 7) - (1 : Int32)))) 69 8 (.inl ((mI S1 69 8) - (mI (ma_put (ma_put S1 70 (mI S1 l1 0).toNatClampNeg (.inr (.inr none))) 69 7 (.inl ((mI S1 69 7) - (1 : Int32)))) l1 2)))) l1 2)))))))))))) (fun x S9 => Q (.inr x) S9)))))) else (ma_wp X (d - 1) (w - 25) 82 0 [(0, .inr (.inr (some 69))), (1, .inr (.inr (some l1))), (2, .inl l2)] [] S (zo (fun v4 S3 => zT S3 ∧ ((v4 = none → ma_wp X d w 87 7 [(0, .inr (.inr (some 69))), (1, .inr (.inr (some l1))), (2, .inl (l2 + (1 : Int32)))] [] S3 Q) ∧ (∀ c5, v4 = some c5 → (126 ≤ c5 ∧ c5 < mN S3) ∧ ((126 ≤ c5 ∧ c5 < mN S3) ∧ (ma_wp X d w 87 7 [(0, .inr (.inr (some 69))), (1, .inr (.inr (some l1))), (2, .inl (l2 + (1 : Int32)))] [] (ma_put S3 c5 6 (.inl ((mI S3 c5 6) - (1 : Int32)))) Q))))) (fun x S9 => Q (.inr x) S9))))) : ma_wp X d w 87 7 [(0, .inr (.inr (some 69))), (1, .inr (.inr (some l1))), (2, .inl l2)] [] S Q := by
  refine zw_push hm_87 dX7_remove_7 (v := .inl l2) rfl ?_
  refine zw_push hm_87 dX7_remove_8 (v := .inr (.inr (some l1))) rfl ?_
  obtain ⟨hg, h⟩ := h
  refine zw_gf hm_87 dX7_remove_9 (v := .inl (mI S l1 2)) (zT_tis hS hg) (zT_tt hS hg) rfl f_7_64_9 rfl ?_
  refine zw_push hm_87 dX7_remove_12 (v := .inl (1 : Int32)) rfl ?_
  refine zw_stk hm_87 dX7_remove_13 (st₉ := [.inl ((mI S l1 2) - (1 : Int32)), .inl l2]) rfl rfl ?_
  refine zw_if2 hm_87 dX7_remove_14 (t := 44) rfl zc2_ge ?_ ?_
  · intro hc
    rw [if_pos hc] at h
    refine zw_push hm_87 dX7_remove_44 (v := .inr (.inr (some 69))) rfl ?_
    refine zw_push hm_87 dX7_remove_45 (v := .inr (.inr (some l1))) rfl ?_
    obtain ⟨hg, h⟩ := h
    refine zw_gf hm_87 dX7_remove_46 (v := .inl (mI S l1 4)) (zT_tis hS hg) (zT_tt hS hg) rfl f_7_61_9 rfl ?_
    refine zw_push hm_87 dX7_remove_49 (v := .inr (.inr (some l1))) rfl ?_
    obtain ⟨hg, h⟩ := h
    refine zw_gf hm_87 dX7_remove_50 (v := .inl (mI S l1 4)) (zT_tis hS hg) (zT_tt hS hg) rfl f_7_61_9 rfl ?_
    refine zw_push hm_87 dX7_remove_53 (v := .inr (.inr (some l1))) rfl ?_
    obtain ⟨hg, h⟩ := h
    refine zw_gf hm_87 dX7_remove_54 (v := .inl (mI S l1 2)) (zT_tis hS hg) (zT_tt hS hg) rfl f_7_64_9 rfl ?_
    refine zw_stk hm_87 dX7_remove_57 (st₉ := [.inl ((mI S l1 4) + (mI S l1 2)), .inl (mI S l1 4), .inr (.inr (some 69))]) rfl rfl ?_
    refine zw_cv hm_87 dX7_remove_58 v_7_112_7 hm_88 [.inl ((mI S l1 4) + (mI S l1 2)), .inl (mI S l1 4)] [] rfl (zT_rt hS s_69 rfl) ⟨by omega, by omega⟩ rfl (zw_mono h (zv_go ?_ ?_))
    · intro S1 hv
      obtain ⟨hS1, h⟩ := hv
      refine zw_push hm_87 dX7_remove_61 (v := .inr (.inr (some l1))) rfl ?_
      obtain ⟨hg, h⟩ := h
      refine zw_gf hm_87 dX7_remove_62 (v := .inl (mI S1 l1 0)) (zT_tis hS1 hg) (zT_tt hS1 hg) rfl f_7_67_9 rfl ?_
      refine zw_push hm_87 dX7_remove_65 (v := .inl (512 : Int32)) rfl ?_
      refine zw_if2 hm_87 dX7_remove_68 (t := 81) rfl zc2_ge ?_ ?_
      · intro hc
        rw [if_pos hc] at h
        refine zw_push hm_87 dX7_remove_81 (v := .inr (.inr (some 69))) rfl ?_
        refine zw_stk hm_87 dX7_remove_82 (st₉ := [.inr (.inr (some 69)), .inr (.inr (some 69))]) rfl rfl ?_
        refine zw_gf hm_87 dX7_remove_83 (v := .inl (mI S1 69 7)) (zT_is hS1 s_69) (zT_t hS1 s_69) rfl f_7_43_7 rfl ?_
        refine zw_push hm_87 dX7_remove_86 (v := .inl (1 : Int32)) rfl ?_
        refine zw_stk hm_87 dX7_remove_87 (st₉ := [.inl ((mI S1 69 7) - (1 : Int32)), .inr (.inr (some 69))]) rfl rfl ?_
        refine zw_pf hm_87 dX7_remove_88 (zT_is hS1 s_69) (zT_t hS1 s_69) p_7_43_7 zk_int ?_
        refine zw_push hm_87 dX7_remove_91 (v := .inr (.inr (some 69))) rfl ?_
        refine zw_stk hm_87 dX7_remove_92 (st₉ := [.inr (.inr (some 69)), .inr (.inr (some 69))]) rfl rfl ?_
        refine zw_gf hm_87 dX7_remove_93 (v := .inl (mI S1 69 8)) (zT_is (zT_pi hS1) s_69) (zT_t (zT_pi hS1) s_69) rfl f_7_46_7 rfl ?_
        refine zw_push hm_87 dX7_remove_96 (v := .inr (.inr (some l1))) rfl ?_
        obtain ⟨hg, h⟩ := h
        refine zw_gf hm_87 dX7_remove_97 (v := .inl (mI (ma_put S1 69 7 (.inl ((mI S1 69 7) - (1 : Int32)))) l1 2)) (zT_tis (zT_pi hS1) hg) (zT_tt (zT_pi hS1) hg) rfl f_7_64_9 rfl ?_
        refine zw_stk hm_87 dX7_remove_100 (st₉ := [.inl ((mI S1 69 8) - (mI (ma_put S1 69 7 (.inl ((mI S1 69 7) - (1 : Int32)))) l1 2)), .inr (.inr (some 69))]) rfl rfl ?_
        refine zw_pf hm_87 dX7_remove_101 (zT_is (zT_pi hS1) s_69) (zT_t (zT_pi hS1) s_69) p_7_46_7 zk_int ?_
        refine zw_push hm_87 dX7_remove_104 (v := .inr (.inr (some 69))) rfl ?_
        refine zw_stk hm_87 dX7_remove_105 (st₉ := [.inr (.inr (some 69)), .inr (.inr (some 69))]) rfl rfl ?_
        refine zw_gf hm_87 dX7_remove_106 (v := .inl (mI S1 69 11)) (zT_is (zT_pi (zT_pi hS1)) s_69) (zT_t (zT_pi (zT_pi hS1)) s_69) rfl f_7_55_7 rfl ?_
        refine zw_push hm_87 dX7_remove_109 (v := .inr (.inr (some l1))) rfl ?_
        obtain ⟨hg, h⟩ := h
        refine zw_gf hm_87 dX7_remove_110 (v := .inl (mI (ma_put (ma_put S1 69 7 (.inl ((mI S1 69 7) - (1 : Int32)))) 69 8 (.inl ((mI S1 69 8) - (mI (ma_put S1 69 7 (.inl ((mI S1 69 7) - (1 : Int32)))) l1 2)))) l1 2)) (zT_tis (zT_pi (zT_pi hS1)) hg) (zT_tt (zT_pi (zT_pi hS1)) hg) rfl f_7_64_9 rfl ?_
        refine zw_stk hm_87 dX7_remove_113 (st₉ := [.inl ((mI S1 69 11) + (mI (ma_put (ma_put S1 69 7 (.inl ((mI S1 69 7) - (1 : Int32)))) 69 8 (.inl ((mI S1 69 8) - (mI (ma_put S1 69 7 (.inl ((mI S1 69 7) - (1 : Int32)))) l1 2)))) l1 2)), .inr (.inr (some 69))]) rfl rfl ?_
        refine zw_pf hm_87 dX7_remove_114 (zT_is (zT_pi (zT_pi hS1)) s_69) (zT_t (zT_pi (zT_pi hS1)) s_69) p_7_55_7 zk_int ?_
        exact zw_vret hm_87 dX7_remove_117 h
      · intro hc
        rw [if_neg hc] at h
        refine zw_push hm_87 dX7_remove_71 (v := .inr (.inr (some 69))) rfl ?_
        refine zw_gf hm_87 dX7_remove_72 (v := .inr (.inr (some 70))) (zT_is hS1 s_69) (zT_t hS1 s_69) rfl f_7_11_7 (zT_f hS1 r_69_0) ?_
        refine zw_push hm_87 dX7_remove_75 (v := .inr (.inr (some l1))) rfl ?_
        obtain ⟨hg, h⟩ := h
        refine zw_gf hm_87 dX7_remove_76 (v := .inl (mI S1 l1 0)) (zT_tis hS1 hg) (zT_tt hS1 hg) rfl f_7_67_9 rfl ?_
        refine zw_push hm_87 dX7_remove_79 (v := .inr (.inr none)) rfl ?_
        obtain ⟨hg, h⟩ := h
        refine zw_aas hm_87 dX7_remove_80 (zT_is hS1 s_70) (zT_h hS1 s_70) rfl hg (fun _ z => by cases z) ?_
        refine zw_push hm_87 dX7_remove_81 (v := .inr (.inr (some 69))) rfl ?_
        refine zw_stk hm_87 dX7_remove_82 (st₉ := [.inr (.inr (some 69)), .inr (.inr (some 69))]) rfl rfl ?_
        refine zw_gf hm_87 dX7_remove_83 (v := .inl (mI S1 69 7)) (zT_is (zT_pr hS1 (zfi_row (by decide +kernel))) s_69) (zT_t (zT_pr hS1 (zfi_row (by decide +kernel))) s_69) rfl f_7_43_7 rfl ?_
        refine zw_push hm_87 dX7_remove_86 (v := .inl (1 : Int32)) rfl ?_
        refine zw_stk hm_87 dX7_remove_87 (st₉ := [.inl ((mI S1 69 7) - (1 : Int32)), .inr (.inr (some 69))]) rfl rfl ?_
        refine zw_pf hm_87 dX7_remove_88 (zT_is (zT_pr hS1 (zfi_row (by decide +kernel))) s_69) (zT_t (zT_pr hS1 (zfi_row (by decide +kernel))) s_69) p_7_43_7 zk_int ?_
        refine zw_push hm_87 dX7_remove_91 (v := .inr (.inr (some 69))) rfl ?_
        refine zw_stk hm_87 dX7_remove_92 (st₉ := [.inr (.inr (some 69)), .inr (.inr (some 69))]) rfl rfl ?_
        refine zw_gf hm_87 dX7_remove_93 (v := .inl (mI S1 69 8)) (zT_is (zT_pi (zT_pr hS1 (zfi_row (by decide +kernel)))) s_69) (zT_t (zT_pi (zT_pr hS1 (zfi_row (by decide +kernel)))) s_69) rfl f_7_46_7 rfl ?_
        refine zw_push hm_87 dX7_remove_96 (v := .inr (.inr (some l1))) rfl ?_
        obtain ⟨hg, h⟩ := h
        refine zw_gf hm_87 dX7_remove_97 (v := .inl (mI (ma_put (ma_put S1 70 (mI S1 l1 0).toNatClampNeg (.inr (.inr none))) 69 7 (.inl ((mI S1 69 7) - (1 : Int32)))) l1 2)) (zT_tis (zT_pi (zT_pr hS1 (zfi_row (by decide +kernel)))) hg) (zT_tt (zT_pi (zT_pr hS1 (zfi_row (by decide +kernel)))) hg) rfl f_7_64_9 rfl ?_
        refine zw_stk hm_87 dX7_remove_100 (st₉ := [.inl ((mI S1 69 8) - (mI (ma_put (ma_put S1 70 (mI S1 l1 0).toNatClampNeg (.inr (.inr none))) 69 7 (.inl ((mI S1 69 7) - (1 : Int32)))) l1 2)), .inr (.inr (some 69))]) rfl rfl ?_
        refine zw_pf hm_87 dX7_remove_101 (zT_is (zT_pi (zT_pr hS1 (zfi_row (by decide +kernel)))) s_69) (zT_t (zT_pi (zT_pr hS1 (zfi_row (by decide +kernel)))) s_69) p_7_46_7 zk_int ?_
        refine zw_push hm_87 dX7_remove_104 (v := .inr (.inr (some 69))) rfl ?_
        refine zw_stk hm_87 dX7_remove_105 (st₉ := [.inr (.inr (some 69)), .inr (.inr (some 69))]) rfl rfl ?_
        refine zw_gf hm_87 dX7_remove_106 (v := .inl (mI S1 69 11)) (zT_is (zT_pi (zT_pi (zT_pr hS1 (zfi_row (by decide +kernel))))) s_69) (zT_t (zT_pi (zT_pi (zT_pr hS1 (zfi_row (by decide +kernel))))) s_69) rfl f_7_55_7 rfl ?_
        refine zw_push hm_87 dX7_remove_109 (v := .inr (.inr (some l1))) rfl ?_
        obtain ⟨hg, h⟩ := h
        refine zw_gf hm_87 dX7_remove_110 (v := .inl (mI (ma_put (ma_put (ma_put S1 70 (mI S1 l1 0).toNatClampNeg (.inr (.inr none))) 69 7 (.inl ((mI S1 69 7) - (1 : Int32)))) 69 8 (.inl ((mI S1 69 8) - (mI (ma_put (ma_put S1 70 (mI S1 l1 0).toNatClampNeg (.inr (.inr none))) 69 7 (.inl ((mI S1 69 7) - (1 : Int32)))) l1 2)))) l1 2)) (zT_tis (zT_pi (zT_pi (zT_pr hS1 (zfi_row (by decide +kernel))))) hg) (zT_tt (zT_pi (zT_pi (zT_pr hS1 (zfi_row (by decide +kernel))))) hg) rfl f_7_64_9 rfl ?_
        refine zw_stk hm_87 dX7_remove_113 (st₉ := [.inl ((mI S1 69 11) + (mI (ma_put (ma_put (ma_put S1 70 (mI S1 l1 0).toNatClampNeg (.inr (.inr none))) 69 7 (.inl ((mI S1 69 7) - (1 : Int32)))) 69 8 (.inl ((mI S1 69 8) - (mI (ma_put (ma_put S1 70 (mI S1 l1 0).toNatClampNeg (.inr (.inr none))) 69 7 (.inl ((mI S1 69 7) - (1 : Int32)))) l1 2)))) l1 2)), .inr (.inr (some 69))]) rfl rfl ?_
        refine zw_pf hm_87 dX7_remove_114 (zT_is (zT_pi (zT_pi (zT_pr hS1 (zfi_row (by decide +kernel))))) s_69) (zT_t (zT_pi (zT_pi (zT_pr hS1 (zfi_row (by decide +kernel))))) s_69) p_7_55_7 zk_int ?_
        exact zw_vret hm_87 dX7_remove_117 h
    · intro x S9 hx
      exact ⟨by decide, hx⟩
  · intro hc
    rw [if_neg hc] at h
    refine zw_push hm_87 dX7_remove_17 (v := .inr (.inr (some 69))) rfl ?_
    refine zw_push hm_87 dX7_remove_18 (v := .inr (.inr (some l1))) rfl ?_
    refine zw_push hm_87 dX7_remove_19 (v := .inl l2) rfl ?_
    refine zw_cv hm_87 dX7_remove_20 v_7_78_7 hm_82 [.inl l2, .inr (.inr (some l1))] [] rfl (zT_rt hS s_69 rfl) ⟨by omega, by omega⟩ rfl (zw_mono h (zo_go ?_ ?_))
    · intro v4 S3 hv
      obtain ⟨hS3, h⟩ := hv
      refine zw_sto hm_87 dX7_remove_23 [(3, .inr (.inr v4)), (0, .inr (.inr (some 69))), (1, .inr (.inr (some l1))), (2, .inl l2)] rfl rfl rfl ?_
      refine zw_push hm_87 dX7_remove_24 (v := .inr (.inr v4)) rfl ?_
      refine zw_ifnull hm_87 dX7_remove_25 (t := 38) rfl ?_ ?_
      · intro hc
        have h := h.1 hc
        (try rw [hc])
        show ma_wp X d w 87 38 [(3, .inr (.inr none)), (0, .inr (.inr (some 69))), (1, .inr (.inr (some l1))), (2, .inl l2)] [] S3 _
        refine zw_sto hm_87 dX7_remove_38 [(2, .inl (l2 + (1 : Int32))), (3, .inr (.inr none)), (0, .inr (.inr (some 69))), (1, .inr (.inr (some l1)))] rfl rfl rfl ?_
        refine zw_goto hm_87 dX7_remove_41 (t := 7) rfl ?_
        exact zw_sub (ma_nd_of (ks := [0, 1, 2]) rfl (by decide)) (ma_nd_of (ks := [2, 3, 0, 1]) rfl (by decide)) (ma_le_cons rfl (ma_le_cons rfl (ma_le_cons rfl (ma_le_nil _)))) h
      · intro c5 hc
        have h := h.2 c5 hc
        (try rw [hc])
        show ma_wp X d w 87 28 [(3, .inr (.inr (some c5))), (0, .inr (.inr (some 69))), (1, .inr (.inr (some l1))), (2, .inl l2)] [] S3 _
        refine zw_push hm_87 dX7_remove_28 (v := .inr (.inr (some c5))) rfl ?_
        refine zw_stk hm_87 dX7_remove_29 (st₉ := [.inr (.inr (some c5)), .inr (.inr (some c5))]) rfl rfl ?_
        obtain ⟨hg, h⟩ := h
        refine zw_gf hm_87 dX7_remove_30 (v := .inl (mI S3 c5 6)) (zT_tis hS3 hg) (zT_tt hS3 hg) rfl f_7_98_9 rfl ?_
        refine zw_push hm_87 dX7_remove_33 (v := .inl (1 : Int32)) rfl ?_
        refine zw_stk hm_87 dX7_remove_34 (st₉ := [.inl ((mI S3 c5 6) - (1 : Int32)), .inr (.inr (some c5))]) rfl rfl ?_
        obtain ⟨hg, h⟩ := h
        refine zw_pf hm_87 dX7_remove_35 (zT_tis hS3 hg) (zT_tt hS3 hg) p_7_98_9 zk_int ?_
        refine zw_sto hm_87 dX7_remove_38 [(2, .inl (l2 + (1 : Int32))), (3, .inr (.inr (some c5))), (0, .inr (.inr (some 69))), (1, .inr (.inr (some l1)))] rfl rfl rfl ?_
        refine zw_goto hm_87 dX7_remove_41 (t := 7) rfl ?_
        exact zw_sub (ma_nd_of (ks := [0, 1, 2]) rfl (by decide)) (ma_nd_of (ks := [2, 3, 0, 1]) rfl (by decide)) (ma_le_cons rfl (ma_le_cons rfl (ma_le_cons rfl (ma_le_nil _)))) h
    · intro x S9 hx
      exact ⟨by decide, hx⟩
theorem lp_87_69_s_7 {X : Nat × (Nat → Int32)} {d w : Nat} {f : Nat → Nat → Int32} {r : Nat → Nat → Option Nat} {C Z N : Nat} {Q : Option ma_V ⊕ Nat → ma_S → Prop} {ab : Nat→Nat→Int32} {R : zRT} {W : Nat} {y : Int32} (hd : 1 ≤ d) (hw : 25 ≤ w) (K : ∀ S₉, zI f r C Z N S₉ → (xB S₉ (zRu R y.toNatClampNeg none)) → (aS W S₉ = aRm ab y) → Q (.inl none) S₉) : ∀ (n : Nat) (S : ma_S) (l1 : Nat) (l2 : Int32), (61 - l2.toInt).toNat = n → zI f r C Z N S → (126 ≤ l1 ∧ l1 < N) → (0 ≤ l2.toInt) → (xB S R) → (xW W) → (zTa R y = some l1) → (aS W S = zUw ab y 16) → ma_wp X d w 87 7 [(0, .inr (.inr (some 69))), (1, .inr (.inr (some l1))), (2, .inl l2)] [] S Q := by
  intro n
  induction n using Nat.strongRecOn with
  | _ n IH =>
    intro S l1 l2 hmu hI th_l1 hi0 hi1 hi2 hi3 hi4
    refine g_87_69_s_7 l1 l2 (by omega) (by omega) (zG_T hI) ?_
    refine ⟨zG_n hI th_l1, ?_⟩
    have f1 := zG_th hI th_l1
    first | have e2 : ((mI S l1 2) - (1 : Int32)).toInt = (mI S l1 2).toInt - (1) := i_subk rfl (by omega) (by omega) | have b3 := i_bd ((mI S l1 2) - (1 : Int32))
    have b4 := i_bd l2
    refine zd (fun h5 => ?_) (fun h5 => ?_)
    · skip
      have g6 := i_le h5
      refine ⟨zG_n hI th_l1, ?_⟩
      refine ⟨zG_n hI th_l1, ?_⟩
      refine ⟨zG_n hI th_l1, ?_⟩
      have f7 := zG_th hI th_l1
      first | have e8 : ((mI S l1 4) + (mI S l1 2)).toInt = (mI S l1 4).toInt + (mI S l1 2).toInt := i_add (by omega) (by omega) | have b9 := i_bd ((mI S l1 4) + (mI S l1 2))
      refine sp_88_69_s (ab := (aS W S)) (R := R) (W := W) ((mI S l1 4)) (((mI S l1 4) + (mI S l1 2))) (by omega) (by omega) hI (show xB S R from by first | (exact (xC_o (W := 75) hi1).2)) (show aS W S = (aS W S) from by first | (exact rfl)) (show xW W from by first | (exact hi2) | (exact xW88)) (by omega) (fun S1 hI_S1 rp0_S1 rp1_S1 => zv_n ⟨zG_T hI_S1, ?_⟩)
      have rp0_S1 : xB S1 R := rp0_S1
      have rp1_S1 : aS W S1 = zFr (aS W S) (mI S l1 4).toInt (zMin ((mI S l1 4) + (mI S l1 2)).toInt) := rp1_S1
      refine ⟨zG_n hI_S1 th_l1, ?_⟩
      have li10 : (512 : Int32).toInt = 512 := rfl
      have f11 := zG_th hI_S1 th_l1
      refine zd (fun h12 => ?_) (fun h12 => ?_)
      · skip
        have g13 := i_le h12
        have hI14 : zI f r C Z N (ma_put S1 69 7 (.inl ((mI S1 69 7) - (1 : Int32)))) := zG_fr hI_S1 rfl (by decide) (by decide) (by decide) trivial
        refine ⟨zG_n hI14 th_l1, ?_⟩
        have hI15 : zI f r C Z N (ma_put (ma_put S1 69 7 (.inl ((mI S1 69 7) - (1 : Int32)))) 69 8 (.inl ((mI S1 69 8) - (mI (ma_put S1 69 7 (.inl ((mI S1 69 7) - (1 : Int32)))) l1 2)))) := zG_fr hI14 rfl (by decide) (by decide) (by decide) trivial
        refine ⟨zG_n hI15 th_l1, ?_⟩
        have hI16 : zI f r C Z N (ma_put (ma_put (ma_put S1 69 7 (.inl ((mI S1 69 7) - (1 : Int32)))) 69 8 (.inl ((mI S1 69 8) - (mI (ma_put S1 69 7 (.inl ((mI S1 69 7) - (1 : Int32)))) l1 2)))) 69 11 (.inl ((mI S1 69 11) + (mI (ma_put (ma_put S1 69 7 (.inl ((mI S1 69 7) - (1 : Int32)))) 69 8 (.inl ((mI S1 69 8) - (mI (ma_put S1 69 7 (.inl ((mI S1 69 7) - (1 : Int32)))) l1 2)))) l1 2)))) := zG_fr hI15 rfl (by decide) (by decide) (by decide) trivial
        exact K _ hI16 (show xB (ma_put (ma_put (ma_put S1 69 7 (.inl ((mI S1 69 7) - (1 : Int32)))) 69 8 (.inl ((mI S1 69 8) - (mI (ma_put S1 69 7 (.inl ((mI S1 69 7) - (1 : Int32)))) l1 2)))) 69 11 (.inl ((mI S1 69 11) + (mI (ma_put (ma_put S1 69 7 (.inl ((mI S1 69 7) - (1 : Int32)))) 69 8 (.inl ((mI S1 69 8) - (mI (ma_put S1 69 7 (.inl ((mI S1 69 7) - (1 : Int32)))) l1 2)))) l1 2)))) (zRu R y.toNatClampNeg none) from by first | (exfalso; omega) | (have ty := xB_th (W := W) rp0_S1 hi3; rw [← ty.2.2.1]; exact (xC_p (c := 69) (k := 11) (x := ((mI S1 69 11) + (mI (ma_put (ma_put S1 69 7 (.inl ((mI S1 69 7) - (1 : Int32)))) 69 8 (.inl ((mI S1 69 8) - (mI (ma_put S1 69 7 (.inl ((mI S1 69 7) - (1 : Int32)))) l1 2)))) l1 2))) (xC_p (c := 69) (k := 8) (x := ((mI S1 69 8) - (mI (ma_put S1 69 7 (.inl ((mI S1 69 7) - (1 : Int32)))) l1 2))) (xC_n (c := 69) (k := 7) (x := ((mI S1 69 7) - (1 : Int32))) (xC_o (W := W) rp0_S1) (zir_W hi2 rfl (by decide))) 69 hi2 rfl (zcw_s (by decide))) 69 hi2 rfl (zcw_s (by decide))).2)) (show aS W (ma_put (ma_put (ma_put S1 69 7 (.inl ((mI S1 69 7) - (1 : Int32)))) 69 8 (.inl ((mI S1 69 8) - (mI (ma_put S1 69 7 (.inl ((mI S1 69 7) - (1 : Int32)))) l1 2)))) 69 11 (.inl ((mI S1 69 11) + (mI (ma_put (ma_put S1 69 7 (.inl ((mI S1 69 7) - (1 : Int32)))) 69 8 (.inl ((mI S1 69 8) - (mI (ma_put S1 69 7 (.inl ((mI S1 69 7) - (1 : Int32)))) l1 2)))) l1 2)))) = aRm ab y from by first | (exfalso; omega) | (have t0 := xB_th (W := W) hi1 hi3; have t2 := xB_th (W := W) rp0_S1 hi3; have f4 : mI S l1 4 = ab 130 y.toNatClampNeg := t0.2.2.2.2.2.1.trans (by rw [hi4]; exact zUw_o (by decide)); have f2 : mI S l1 2 = ab 128 y.toNatClampNeg := t0.2.2.2.2.1.trans (by rw [hi4]; exact zUw_o (by decide)); have g2 : mI S1 l1 2 = ab 128 y.toNatClampNeg := t2.2.2.2.2.1.trans (by rw [rp1_S1, zFr_o (by decide), hi4, zUw_o (by decide)]); have g8 : mI S1 69 8 = ab 69 8 := (aS_I (W := W) (S := S1) (c := 69) (c₉ := 69) (k := 8) rfl (zcw_s (by decide))).symm.trans (by rw [rp1_S1, zFr_o (by decide), hi4, zUw_o (by decide)]); have g11 : mI S1 69 11 = ab 69 11 := (aS_I (W := W) (S := S1) (c := 69) (c₉ := 69) (k := 11) rfl (zcw_s (by decide))).symm.trans (by rw [rp1_S1, zFr_o (by decide), hi4, zUw_o (by decide)]); refine (xC_p (c := 69) (k := 11) (x := ((mI S1 69 11) + (mI (ma_put (ma_put S1 69 7 (.inl ((mI S1 69 7) - (1 : Int32)))) 69 8 (.inl ((mI S1 69 8) - (mI (ma_put S1 69 7 (.inl ((mI S1 69 7) - (1 : Int32)))) l1 2)))) l1 2))) (xC_p (c := 69) (k := 8) (x := ((mI S1 69 8) - (mI (ma_put S1 69 7 (.inl ((mI S1 69 7) - (1 : Int32)))) l1 2))) (xC_n (c := 69) (k := 7) (x := ((mI S1 69 7) - (1 : Int32))) (xC_o (W := W) rp0_S1) (zir_W hi2 rfl (by decide))) 69 hi2 rfl (zcw_s (by decide))) 69 hi2 rfl (zcw_s (by decide))).1.trans ?_; (try simp only [zp_e (c₉ := 69) th_l1.1 (by decide)]); rw [rp1_S1, hi4, f4, f2, g2, g8, g11, t2.2.2.1]; rfl))
      · skip
        have g17 := i_nle h12
        refine ⟨zG_n hI_S1 th_l1, ?_⟩
        refine ⟨i_ix (by omega) (by omega), ?_⟩
        have hI18 : zI f r C Z N (ma_put S1 70 (mI S1 l1 0).toNatClampNeg (.inr (.inr none))) := zG_rf hI_S1 (by decide) (by decide +kernel) (fun _ z => by cases z)
        have hI19 : zI f r C Z N (ma_put (ma_put S1 70 (mI S1 l1 0).toNatClampNeg (.inr (.inr none))) 69 7 (.inl ((mI S1 69 7) - (1 : Int32)))) := zG_fr hI18 rfl (by decide) (by decide) (by decide) trivial
        refine ⟨zG_n hI19 th_l1, ?_⟩
        have hI20 : zI f r C Z N (ma_put (ma_put (ma_put S1 70 (mI S1 l1 0).toNatClampNeg (.inr (.inr none))) 69 7 (.inl ((mI S1 69 7) - (1 : Int32)))) 69 8 (.inl ((mI S1 69 8) - (mI (ma_put (ma_put S1 70 (mI S1 l1 0).toNatClampNeg (.inr (.inr none))) 69 7 (.inl ((mI S1 69 7) - (1 : Int32)))) l1 2)))) := zG_fr hI19 rfl (by decide) (by decide) (by decide) trivial
        refine ⟨zG_n hI20 th_l1, ?_⟩
        have hI21 : zI f r C Z N (ma_put (ma_put (ma_put (ma_put S1 70 (mI S1 l1 0).toNatClampNeg (.inr (.inr none))) 69 7 (.inl ((mI S1 69 7) - (1 : Int32)))) 69 8 (.inl ((mI S1 69 8) - (mI (ma_put (ma_put S1 70 (mI S1 l1 0).toNatClampNeg (.inr (.inr none))) 69 7 (.inl ((mI S1 69 7) - (1 : Int32)))) l1 2)))) 69 11 (.inl ((mI S1 69 11) + (mI (ma_put (ma_put (ma_put S1 70 (mI S1 l1 0).toNatClampNeg (.inr (.inr none))) 69 7 (.inl ((mI S1 69 7) - (1 : Int32)))) 69 8 (.inl ((mI S1 69 8) - (mI (ma_put (ma_put S1 70 (mI S1 l1 0).toNatClampNeg (.inr (.inr none))) 69 7 (.inl ((mI S1 69 7) - (1 : Int32)))) l1 2)))) l1 2)))) := zG_fr hI20 rfl (by decide) (by decide) (by decide) trivial
        exact K _ hI21 (show xB (ma_put (ma_put (ma_put (ma_put S1 70 (mI S1 l1 0).toNatClampNeg (.inr (.inr none))) 69 7 (.inl ((mI S1 69 7) - (1 : Int32)))) 69 8 (.inl ((mI S1 69 8) - (mI (ma_put (ma_put S1 70 (mI S1 l1 0).toNatClampNeg (.inr (.inr none))) 69 7 (.inl ((mI S1 69 7) - (1 : Int32)))) l1 2)))) 69 11 (.inl ((mI S1 69 11) + (mI (ma_put (ma_put (ma_put S1 70 (mI S1 l1 0).toNatClampNeg (.inr (.inr none))) 69 7 (.inl ((mI S1 69 7) - (1 : Int32)))) 69 8 (.inl ((mI S1 69 8) - (mI (ma_put (ma_put S1 70 (mI S1 l1 0).toNatClampNeg (.inr (.inr none))) 69 7 (.inl ((mI S1 69 7) - (1 : Int32)))) l1 2)))) l1 2)))) (zRu R y.toNatClampNeg none) from by first | (exfalso; omega) | (have ty := xB_th (W := W) rp0_S1 hi3; rw [← ty.2.2.1]; exact (xC_p (c := 69) (k := 11) (x := ((mI S1 69 11) + (mI (ma_put (ma_put (ma_put S1 70 (mI S1 l1 0).toNatClampNeg (.inr (.inr none))) 69 7 (.inl ((mI S1 69 7) - (1 : Int32)))) 69 8 (.inl ((mI S1 69 8) - (mI (ma_put (ma_put S1 70 (mI S1 l1 0).toNatClampNeg (.inr (.inr none))) 69 7 (.inl ((mI S1 69 7) - (1 : Int32)))) l1 2)))) l1 2))) (xC_p (c := 69) (k := 8) (x := ((mI S1 69 8) - (mI (ma_put (ma_put S1 70 (mI S1 l1 0).toNatClampNeg (.inr (.inr none))) 69 7 (.inl ((mI S1 69 7) - (1 : Int32)))) l1 2))) (xC_n (c := 69) (k := 7) (x := ((mI S1 69 7) - (1 : Int32))) (xC_0 (xC_o (W := W) rp0_S1) (n := (mI S1 l1 0).toNatClampNeg)) (zir_W hi2 rfl (by decide))) 69 hi2 rfl (zcw_s (by decide))) 69 hi2 rfl (zcw_s (by decide))).2)) (show aS W (ma_put (ma_put (ma_put (ma_put S1 70 (mI S1 l1 0).toNatClampNeg (.inr (.inr none))) 69 7 (.inl ((mI S1 69 7) - (1 : Int32)))) 69 8 (.inl ((mI S1 69 8) - (mI (ma_put (ma_put S1 70 (mI S1 l1 0).toNatClampNeg (.inr (.inr none))) 69 7 (.inl ((mI S1 69 7) - (1 : Int32)))) l1 2)))) 69 11 (.inl ((mI S1 69 11) + (mI (ma_put (ma_put (ma_put S1 70 (mI S1 l1 0).toNatClampNeg (.inr (.inr none))) 69 7 (.inl ((mI S1 69 7) - (1 : Int32)))) 69 8 (.inl ((mI S1 69 8) - (mI (ma_put (ma_put S1 70 (mI S1 l1 0).toNatClampNeg (.inr (.inr none))) 69 7 (.inl ((mI S1 69 7) - (1 : Int32)))) l1 2)))) l1 2)))) = aRm ab y from by first | (exfalso; omega) | (have t0 := xB_th (W := W) hi1 hi3; have t2 := xB_th (W := W) rp0_S1 hi3; have f4 : mI S l1 4 = ab 130 y.toNatClampNeg := t0.2.2.2.2.2.1.trans (by rw [hi4]; exact zUw_o (by decide)); have f2 : mI S l1 2 = ab 128 y.toNatClampNeg := t0.2.2.2.2.1.trans (by rw [hi4]; exact zUw_o (by decide)); have g2 : mI S1 l1 2 = ab 128 y.toNatClampNeg := t2.2.2.2.2.1.trans (by rw [rp1_S1, zFr_o (by decide), hi4, zUw_o (by decide)]); have g8 : mI S1 69 8 = ab 69 8 := (aS_I (W := W) (S := S1) (c := 69) (c₉ := 69) (k := 8) rfl (zcw_s (by decide))).symm.trans (by rw [rp1_S1, zFr_o (by decide), hi4, zUw_o (by decide)]); have g11 : mI S1 69 11 = ab 69 11 := (aS_I (W := W) (S := S1) (c := 69) (c₉ := 69) (k := 11) rfl (zcw_s (by decide))).symm.trans (by rw [rp1_S1, zFr_o (by decide), hi4, zUw_o (by decide)]); refine (xC_p (c := 69) (k := 11) (x := ((mI S1 69 11) + (mI (ma_put (ma_put (ma_put S1 70 (mI S1 l1 0).toNatClampNeg (.inr (.inr none))) 69 7 (.inl ((mI S1 69 7) - (1 : Int32)))) 69 8 (.inl ((mI S1 69 8) - (mI (ma_put (ma_put S1 70 (mI S1 l1 0).toNatClampNeg (.inr (.inr none))) 69 7 (.inl ((mI S1 69 7) - (1 : Int32)))) l1 2)))) l1 2))) (xC_p (c := 69) (k := 8) (x := ((mI S1 69 8) - (mI (ma_put (ma_put S1 70 (mI S1 l1 0).toNatClampNeg (.inr (.inr none))) 69 7 (.inl ((mI S1 69 7) - (1 : Int32)))) l1 2))) (xC_n (c := 69) (k := 7) (x := ((mI S1 69 7) - (1 : Int32))) (xC_0 (xC_o (W := W) rp0_S1) (n := (mI S1 l1 0).toNatClampNeg)) (zir_W hi2 rfl (by decide))) 69 hi2 rfl (zcw_s (by decide))) 69 hi2 rfl (zcw_s (by decide))).1.trans ?_; (try simp only [zp_e (c₉ := 69) th_l1.1 (by decide), zp_e (c₉ := 70) th_l1.1 (by decide), zp_r]); rw [rp1_S1, hi4, f4, f2, g2, g8, g11, t2.2.2.1]; rfl))
    · skip
      have g22 := i_nle h5
      refine sp_82_69_s (R := R) (W := W) (y := y) l1 (l2) (by omega) (by omega) hI th_l1 (show xB S R from by first | (exact (xC_o (W := 75) hi1).2)) (show zTa R y = some l1 from by first | (exact hi3)) (by omega) (fun v4 S3 eS_S3 hq_v4 rp0_S3 => zo_n ⟨(by rw [eS_S3]; exact zG_T hI), ?_⟩)
      replace eS_S3 := eS_S3.symm; subst eS_S3
      have rp0_S3 : v4 = zTa R (aRef (aS W S) y.toNatClampNeg l2) := rp0_S3
      refine ⟨fun hc => ?_, fun c5 hc => ?_⟩
      · skip
        have rn_c5 : zTa R (aRef (aS W S) y.toNatClampNeg l2) = none := rp0_S3.symm.trans hc
        first | have e23 : (l2 + (1 : Int32)).toInt = l2.toInt + (1) := i_addk rfl (by omega) (by omega) | have b24 := i_bd (l2 + (1 : Int32))
        exact IH _ (by omega) _ l1 ((l2 + (1 : Int32))) rfl hI th_l1 (by omega) (show xB S R from by first | (exact (xC_o (W := 75) hi1).2)) (show xW W from by first | (exact hi2) | (exact xW88)) (show zTa R y = some l1 from by first | (exact hi3)) (show aS W S = zUw ab y 16 from by first | (exact hi4))
      · skip
        have th_c5 := hq_v4 c5 hc
        have rg_c5 : zTa R (aRef (aS W S) y.toNatClampNeg l2) = some c5 := rp0_S3.symm.trans hc
        subst hc
        refine ⟨zG_n hI th_c5, ?_⟩
        refine ⟨zG_n hI th_c5, ?_⟩
        have hI25 : zI f r C Z N (ma_put S c5 6 (.inl ((mI S c5 6) - (1 : Int32)))) := zG_tf hI th_c5.1 zI_t (by decide) (by decide) trivial (by decide) (by decide) (by decide)
        first | have e26 : (l2 + (1 : Int32)).toInt = l2.toInt + (1) := i_addk rfl (by omega) (by omega) | have b27 := i_bd (l2 + (1 : Int32))
        exact IH _ (by omega) _ l1 ((l2 + (1 : Int32))) rfl hI25 th_l1 (by omega) (show xB (ma_put S c5 6 (.inl ((mI S c5 6) - (1 : Int32)))) R from by first | (exact (xC_6 (k := 6) (x := ((mI S c5 6) - (1 : Int32))) (xC_o (W := 75) hi1) xW75 th_c5.1 rfl (by decide)).2)) (show xW W from by first | (exact hi2) | (exact xW88)) (show zTa R y = some l1 from by first | (exact hi3)) (show aS W (ma_put S c5 6 (.inl ((mI S c5 6) - (1 : Int32)))) = zUw ab y 16 from by first | (exact (xC_6 (k := 6) (x := ((mI S c5 6) - (1 : Int32))) (xC_o (W := W) hi1) hi2 th_c5.1 rfl (by decide)).1.trans hi4))
theorem sp_87_69_s {X : Nat × (Nat → Int32)} {d w : Nat} {f : Nat → Nat → Int32} {r : Nat → Nat → Option Nat} {C Z N : Nat} {Q : Option ma_V ⊕ Nat → ma_S → Prop} {ab : Nat→Nat→Int32} {R : zRT} {W : Nat} {y : Int32} {S : ma_S} (t : Nat) (hd : 1 ≤ d) (hw : 25 ≤ w) (hI : zI f r C Z N S) (th_t : 126 ≤ t ∧ t < N) (hpre0 : xB S R) (hpre1 : aS W S = ab) (hpre2 : xW W) (hpre3 : zTa R y = some t) (K : ∀ S₉, zI f r C Z N S₉ → (xB S₉ (zRu R y.toNatClampNeg none)) → (aS W S₉ = aRm ab y) → Q (.inl none) S₉) : ma_wp X d w 87 0 [(0, .inr (.inr (some 69))), (1, .inr (.inr (some t)))] [] S Q := by
  refine g_87_69_s_0 t (by omega) (by omega) (zG_T hI) ?_
  refine sp_85_69_s (ab := (aS W S)) (R := R) (W := W) (y := y) t (by omega) (by omega) hI th_t (show xB S R from by first | (exact (xC_o (W := 75) hpre0).2)) (show aS W S = (aS W S) from by first | (exact rfl)) (show xW W from by first | (exact hpre2) | (exact xW88)) (show zTa R y = some t from by first | (exact hpre3)) (fun S1 hI_S1 rp0_S1 rp1_S1 => zv_n ⟨zG_T hI_S1, ?_⟩)
  have rp0_S1 : xB S1 R := rp0_S1
  have rp1_S1 : aS W S1 = zUw (aS W S) y 16 := rp1_S1
  have li1 : (0 : Int32).toInt = 0 := rfl
  exact lp_87_69_s_7 (by omega) (by omega) K _ _ t ((0 : Int32)) rfl hI_S1 th_t (by omega) (show xB S1 R from by first | (exact (xC_o (W := 75) rp0_S1).2)) (show xW W from by first | (exact hpre2) | (exact xW88)) (show zTa R y = some t from by first | (exact hpre3)) (show aS W S1 = zUw ab y 16 from by first | (rw [rp1_S1, hpre1]))

/-! from 95.g12 -/
/-! the heap by numbers, the class (written by wip/tools/gen18.py) -/
theorem g_86_69_88_s_0 {X : Nat × (Nat → Int32)} {d w : Nat} {S : ma_S} {Q : Option ma_V ⊕ Nat → ma_S → Prop}  (hd : 2 ≤ d) (hw : 48 ≤ w) (hS : zT S) (h : ma_wp X d w 86 7 [(0, .inr (.inr (some 69))), (1, .inr (.inr (some 88))), (2, .inl (mI S 69 11)), (3, .inl (0 : Int32))] [] S Q) : ma_wp X d w 86 0 [(0, .inr (.inr (some 69))), (1, .inr (.inr (some 88)))] [] S Q := by
  refine zw_push hm_86 dX7_removeOthers_0 (v := .inr (.inr (some 69))) rfl ?_
  refine zw_gf hm_86 dX7_removeOthers_1 (v := .inl (mI S 69 11)) (zT_is hS s_69) (zT_t hS s_69) rfl f_7_55_7 rfl ?_
  refine zw_sto hm_86 dX7_removeOthers_4 [(2, .inl (mI S 69 11)), (0, .inr (.inr (some 69))), (1, .inr (.inr (some 88)))] rfl rfl rfl ?_
  refine zw_push hm_86 dX7_removeOthers_5 (v := .inl (0 : Int32)) rfl ?_
  refine zw_sto hm_86 dX7_removeOthers_6 [(3, .inl (0 : Int32)), (2, .inl (mI S 69 11)), (0, .inr (.inr (some 69))), (1, .inr (.inr (some 88)))] rfl rfl rfl ?_
  exact zw_sub (ma_nd_of (ks := [0, 1, 2, 3]) rfl (by decide)) (ma_nd_of (ks := [3, 2, 0, 1]) rfl (by decide)) (ma_le_cons rfl (ma_le_cons rfl (ma_le_cons rfl (ma_le_cons rfl (ma_le_nil _))))) h
theorem g_86_69_88_s_7 {X : Nat × (Nat → Int32)} {d w : Nat} {S : ma_S} {Q : Option ma_V ⊕ Nat → ma_S → Prop} (l2 : Int32) (l3 : Int32) (hd : 2 ≤ d) (hw : 48 ≤ w) (hS : zT S) (h : if (mI S 69 6) ≤ l3 then (Q (.inl (some (.inl ((mI S 69 11) - l2)))) (ma_put S 69 9 (.inl ((mI S 69 9) + (1 : Int32))))) else (if l3 < 0 then (ma_wp X d w 86 7 [(0, .inr (.inr (some 69))), (1, .inr (.inr (some 88))), (2, .inl l2), (3, .inl (l3 + (1 : Int32)))] [] S Q) else (if (512 : Int32) ≤ l3 then (ma_wp X d w 86 7 [(0, .inr (.inr (some 69))), (1, .inr (.inr (some 88))), (2, .inl l2), (3, .inl (l3 + (1 : Int32)))] [] S Q) else ((0 ≤ l3 ∧ l3.toNatClampNeg < 512) ∧ (((mR S 70 l3.toNatClampNeg) = none → ma_wp X d w 86 7 [(0, .inr (.inr (some 69))), (1, .inr (.inr (some 88))), (2, .inl l2), (3, .inl (l3 + (1 : Int32)))] [] S Q) ∧ (∀ c1, (mR S 70 l3.toNatClampNeg) = some c1 → (126 ≤ c1 ∧ c1 < mN S) ∧ (if (mI S c1 4) < (mI S 88 5) then (ma_wp X d w 86 7 [(0, .inr (.inr (some 69))), (1, .inr (.inr (some 88))), (2, .inl l2), (3, .inl (l3 + (1 : Int32)))] [] S Q) else ((126 ≤ c1 ∧ c1 < mN S) ∧ (if (512 : Int32) ≤ (mI S c1 0) then (ma_wp X (d - 1) (w - 23) 87 0 [(0, .inr (.inr (some 69))), (1, .inr (.inr (some c1)))] [] S (zv (fun S2 => zT S2 ∧ (ma_wp X d w 86 7 [(0, .inr (.inr (some 69))), (1, .inr (.inr (some 88))), (2, .inl l2), (3, .inl (l3 + (1 : Int32)))] [] S2 Q)) (fun x S9 => Q (.inr x) S9))) else ((126 ≤ c1 ∧ c1 < mN S) ∧ ((0 ≤ (mI S c1 0) ∧ (mI S c1 0).toNatClampNeg < 512) ∧ (if (mI S 90 (mI S c1 0).toNatClampNeg) = 0 then (ma_wp X (d - 1) (w - 23) 87 0 [(0, .inr (.inr (some 69))), (1, .inr (.inr (some c1)))] [] S (zv (fun S4 => zT S4 ∧ (ma_wp X d w 86 7 [(0, .inr (.inr (some 69))), (1, .inr (.inr (some 88))), (2, .inl l2), (3, .inl (l3 + (1 : Int32)))] [] S4 Q)) (fun x S9 => Q (.inr x) S9))) else (ma_wp X d w 86 7 [(0, .inr (.inr (some 69))), (1, .inr (.inr (some 88))), (2, .inl l2), (3, .inl (l3 + (1 : Int32)))] [] S Q))))))))))))) : ma_wp X d w 86 7 [(0, .inr (.inr (some 69))), (1, .inr (.inr (some 88))), (2, .inl l2), (3, .inl l3)] [] S Q := by
  refine zw_push hm_86 dX7_removeOthers_7 (v := .inl l3) rfl ?_
  refine zw_push hm_86 dX7_removeOthers_8 (v := .inr (.inr (some 69))) rfl ?_
  refine zw_gf hm_86 dX7_removeOthers_9 (v := .inl (mI S 69 6)) (zT_is hS s_69) (zT_t hS s_69) rfl f_7_40_7 rfl ?_
  refine zw_if2 hm_86 dX7_removeOthers_12 (t := 48) rfl zc2_ge ?_ ?_
  · intro hc
    rw [if_pos hc] at h
    refine zw_push hm_86 dX7_removeOthers_48 (v := .inr (.inr (some 69))) rfl ?_
    refine zw_stk hm_86 dX7_removeOthers_49 (st₉ := [.inr (.inr (some 69)), .inr (.inr (some 69))]) rfl rfl ?_
    refine zw_gf hm_86 dX7_removeOthers_50 (v := .inl (mI S 69 9)) (zT_is hS s_69) (zT_t hS s_69) rfl f_7_49_7 rfl ?_
    refine zw_push hm_86 dX7_removeOthers_53 (v := .inl (1 : Int32)) rfl ?_
    refine zw_stk hm_86 dX7_removeOthers_54 (st₉ := [.inl ((mI S 69 9) + (1 : Int32)), .inr (.inr (some 69))]) rfl rfl ?_
    refine zw_pf hm_86 dX7_removeOthers_55 (zT_is hS s_69) (zT_t hS s_69) p_7_49_7 zk_int ?_
    refine zw_push hm_86 dX7_removeOthers_58 (v := .inr (.inr (some 69))) rfl ?_
    refine zw_gf hm_86 dX7_removeOthers_59 (v := .inl (mI S 69 11)) (zT_is (zT_pi hS) s_69) (zT_t (zT_pi hS) s_69) rfl f_7_55_7 rfl ?_
    refine zw_push hm_86 dX7_removeOthers_62 (v := .inl l2) rfl ?_
    refine zw_stk hm_86 dX7_removeOthers_63 (st₉ := [.inl ((mI S 69 11) - l2)]) rfl rfl ?_
    exact zw_iret hm_86 dX7_removeOthers_64 h
  · intro hc
    rw [if_neg hc] at h
    refine zw_push hm_86 dX7_removeOthers_15 (v := .inr (.inr (some 69))) rfl ?_
    refine zw_push hm_86 dX7_removeOthers_16 (v := .inl l3) rfl ?_
    refine zw_cv hm_86 dX7_removeOthers_17 v_7_94_7 hm_81 [.inl l3] [] rfl (zT_rt hS s_69 rfl) ⟨by omega, by omega⟩ rfl ?_
    show ma_wp X (d - 1) (w - 21) 81 0 [(0, .inr (.inr (some 69))), (1, .inl l3)] [] S _
    refine zw_push hm_81 dX7_thingAt_0 (v := .inl l3) rfl ?_
    refine zw_if0 hm_81 dX7_thingAt_1 (t := 20) rfl zc0_lt ?_ ?_
    · intro hc
      rw [if_pos hc] at h
      refine zw_push hm_81 dX7_thingAt_20 (v := .inr (.inr none)) rfl ?_
      refine zw_aret hm_81 dX7_thingAt_21 ?_
      show ma_wp X d w 86 20 [(0, .inr (.inr (some 69))), (1, .inr (.inr (some 88))), (2, .inl l2), (3, .inl l3)] [.inr (.inr none)] S _
      refine zw_sto hm_86 dX7_removeOthers_20 [(4, .inr (.inr none)), (0, .inr (.inr (some 69))), (1, .inr (.inr (some 88))), (2, .inl l2), (3, .inl l3)] rfl rfl rfl ?_
      refine zw_push hm_86 dX7_removeOthers_22 (v := .inr (.inr none)) rfl ?_
      refine zw_ifnull hm_86 dX7_removeOthers_24 (t := 42) rfl (fun _ => ?_) (fun _ z => by cases z)
      refine zw_sto hm_86 dX7_removeOthers_42 [(3, .inl (l3 + (1 : Int32))), (4, .inr (.inr none)), (0, .inr (.inr (some 69))), (1, .inr (.inr (some 88))), (2, .inl l2)] rfl rfl rfl ?_
      refine zw_goto hm_86 dX7_removeOthers_45 (t := 7) rfl ?_
      exact zw_sub (ma_nd_of (ks := [0, 1, 2, 3]) rfl (by decide)) (ma_nd_of (ks := [3, 4, 0, 1, 2]) rfl (by decide)) (ma_le_cons rfl (ma_le_cons rfl (ma_le_cons rfl (ma_le_cons rfl (ma_le_nil _))))) h
    · intro hc
      rw [if_neg hc] at h
      refine zw_push hm_81 dX7_thingAt_4 (v := .inl l3) rfl ?_
      refine zw_push hm_81 dX7_thingAt_5 (v := .inl (512 : Int32)) rfl ?_
      refine zw_if2 hm_81 dX7_thingAt_8 (t := 20) rfl zc2_ge ?_ ?_
      · intro hc
        rw [if_pos hc] at h
        refine zw_push hm_81 dX7_thingAt_20 (v := .inr (.inr none)) rfl ?_
        refine zw_aret hm_81 dX7_thingAt_21 ?_
        show ma_wp X d w 86 20 [(0, .inr (.inr (some 69))), (1, .inr (.inr (some 88))), (2, .inl l2), (3, .inl l3)] [.inr (.inr none)] S _
        refine zw_sto hm_86 dX7_removeOthers_20 [(4, .inr (.inr none)), (0, .inr (.inr (some 69))), (1, .inr (.inr (some 88))), (2, .inl l2), (3, .inl l3)] rfl rfl rfl ?_
        refine zw_push hm_86 dX7_removeOthers_22 (v := .inr (.inr none)) rfl ?_
        refine zw_ifnull hm_86 dX7_removeOthers_24 (t := 42) rfl (fun _ => ?_) (fun _ z => by cases z)
        refine zw_sto hm_86 dX7_removeOthers_42 [(3, .inl (l3 + (1 : Int32))), (4, .inr (.inr none)), (0, .inr (.inr (some 69))), (1, .inr (.inr (some 88))), (2, .inl l2)] rfl rfl rfl ?_
        refine zw_goto hm_86 dX7_removeOthers_45 (t := 7) rfl ?_
        exact zw_sub (ma_nd_of (ks := [0, 1, 2, 3]) rfl (by decide)) (ma_nd_of (ks := [3, 4, 0, 1, 2]) rfl (by decide)) (ma_le_cons rfl (ma_le_cons rfl (ma_le_cons rfl (ma_le_cons rfl (ma_le_nil _))))) h
      · intro hc
        rw [if_neg hc] at h
        refine zw_push hm_81 dX7_thingAt_11 (v := .inr (.inr (some 69))) rfl ?_
        refine zw_gf hm_81 dX7_thingAt_12 (v := .inr (.inr (some 70))) (zT_is hS s_69) (zT_t hS s_69) rfl f_7_11_7 (zT_f hS r_69_0) ?_
        refine zw_push hm_81 dX7_thingAt_15 (v := .inl l3) rfl ?_
        obtain ⟨hg, h⟩ := h
        refine zw_aa hm_81 dX7_thingAt_16 (zT_is hS s_70) (zT_h hS s_70) rfl rfl hg rfl ?_
        show ma_wp X (d - 1) (w - 21) 81 17 [(0, .inr (.inr (some 69))), (1, .inl l3)] [.inr (.inr (mR S 70 l3.toNatClampNeg))] S _
        refine zw_goto hm_81 dX7_thingAt_17 (t := 21) rfl ?_
        refine zw_aret hm_81 dX7_thingAt_21 ?_
        show ma_wp X d w 86 20 [(0, .inr (.inr (some 69))), (1, .inr (.inr (some 88))), (2, .inl l2), (3, .inl l3)] [.inr (.inr (mR S 70 l3.toNatClampNeg))] S _
        refine zw_sto hm_86 dX7_removeOthers_20 [(4, .inr (.inr (mR S 70 l3.toNatClampNeg))), (0, .inr (.inr (some 69))), (1, .inr (.inr (some 88))), (2, .inl l2), (3, .inl l3)] rfl rfl rfl ?_
        refine zw_push hm_86 dX7_removeOthers_22 (v := .inr (.inr (mR S 70 l3.toNatClampNeg))) rfl ?_
        refine zw_ifnull hm_86 dX7_removeOthers_24 (t := 42) rfl ?_ ?_
        · intro hc
          have h := h.1 hc
          (try rw [hc])
          show ma_wp X d w 86 42 [(4, .inr (.inr none)), (0, .inr (.inr (some 69))), (1, .inr (.inr (some 88))), (2, .inl l2), (3, .inl l3)] [] S _
          refine zw_sto hm_86 dX7_removeOthers_42 [(3, .inl (l3 + (1 : Int32))), (4, .inr (.inr none)), (0, .inr (.inr (some 69))), (1, .inr (.inr (some 88))), (2, .inl l2)] rfl rfl rfl ?_
          refine zw_goto hm_86 dX7_removeOthers_45 (t := 7) rfl ?_
          exact zw_sub (ma_nd_of (ks := [0, 1, 2, 3]) rfl (by decide)) (ma_nd_of (ks := [3, 4, 0, 1, 2]) rfl (by decide)) (ma_le_cons rfl (ma_le_cons rfl (ma_le_cons rfl (ma_le_cons rfl (ma_le_nil _))))) h
        · intro c1 hc
          have h := h.2 c1 hc
          (try rw [hc])
          show ma_wp X d w 86 27 [(4, .inr (.inr (some c1))), (0, .inr (.inr (some 69))), (1, .inr (.inr (some 88))), (2, .inl l2), (3, .inl l3)] [] S _
          refine zw_push hm_86 dX7_removeOthers_27 (v := .inr (.inr (some 88))) rfl ?_
          refine zw_push hm_86 dX7_removeOthers_28 (v := .inr (.inr (some c1))) rfl ?_
          refine zw_cv hm_86 dX7_removeOthers_30 v_7_128_10 hm_122 [.inr (.inr (some c1))] [] rfl (zT_rt hS s_88 rfl) ⟨by omega, by omega⟩ rfl ?_
          show ma_wp X (d - 1) (w - 21) 122 0 [(0, .inr (.inr (some 88))), (1, .inr (.inr (some c1)))] [] S _
          refine zw_push hm_122 dX10_keeps_0 (v := .inr (.inr (some c1))) rfl ?_
          obtain ⟨hg, h⟩ := h
          refine zw_gf hm_122 dX10_keeps_1 (v := .inl (mI S c1 4)) (zT_tis hS hg) (zT_tt hS hg) rfl f_10_49_9 rfl ?_
          refine zw_push hm_122 dX10_keeps_4 (v := .inr (.inr (some 88))) rfl ?_
          refine zw_gf hm_122 dX10_keeps_5 (v := .inl (mI S 88 5)) (zT_is hS s_88) (zT_t hS s_88) rfl f_10_35_10 rfl ?_
          refine zw_if2 hm_122 dX10_keeps_8 (t := 19) rfl zc2_lt ?_ ?_
          · intro hc
            rw [if_pos hc] at h
            refine zw_push hm_122 dX10_keeps_19 (v := .inl (1 : Int32)) rfl ?_
            refine zw_goto hm_122 dX10_keeps_20 (t := 24) rfl ?_
            refine zw_bret hm_122 dX10_keeps_24 (by decide) ?_
            show ma_wp X d w 86 33 [(4, .inr (.inr (some c1))), (0, .inr (.inr (some 69))), (1, .inr (.inr (some 88))), (2, .inl l2), (3, .inl l3)] [.inl (1 : Int32)] S _
            refine zw_if0 hm_86 dX7_removeOthers_33 (t := 42) rfl zc0_ne (fun _ => ?_) (fun hc => absurd (by decide) hc)
            refine zw_sto hm_86 dX7_removeOthers_42 [(3, .inl (l3 + (1 : Int32))), (4, .inr (.inr (some c1))), (0, .inr (.inr (some 69))), (1, .inr (.inr (some 88))), (2, .inl l2)] rfl rfl rfl ?_
            refine zw_goto hm_86 dX7_removeOthers_45 (t := 7) rfl ?_
            exact zw_sub (ma_nd_of (ks := [0, 1, 2, 3]) rfl (by decide)) (ma_nd_of (ks := [3, 4, 0, 1, 2]) rfl (by decide)) (ma_le_cons rfl (ma_le_cons rfl (ma_le_cons rfl (ma_le_cons rfl (ma_le_nil _))))) h
          · intro hc
            rw [if_neg hc] at h
            refine zw_push hm_122 dX10_keeps_11 (v := .inr (.inr (some 88))) rfl ?_
            refine zw_push hm_122 dX10_keeps_12 (v := .inr (.inr (some c1))) rfl ?_
            refine zw_cv hm_122 dX10_keeps_13 v_10_54_10 hm_123 [.inr (.inr (some c1))] [] rfl (zT_rt hS s_88 rfl) ⟨by omega, by omega⟩ rfl ?_
            show ma_wp X ((d - 1) - 1) ((w - 21) - 21) 123 0 [(0, .inr (.inr (some 88))), (1, .inr (.inr (some c1)))] [] S _
            refine zw_push hm_123 dX10_colourOf_0 (v := .inr (.inr (some c1))) rfl ?_
            obtain ⟨hg, h⟩ := h
            refine zw_gf hm_123 dX10_colourOf_1 (v := .inl (mI S c1 0)) (zT_tis hS hg) (zT_tt hS hg) rfl f_10_58_9 rfl ?_
            refine zw_push hm_123 dX10_colourOf_4 (v := .inl (512 : Int32)) rfl ?_
            refine zw_if2 hm_123 dX10_colourOf_7 (t := 22) rfl zc2_ge ?_ ?_
            · intro hc
              rw [if_pos hc] at h
              refine zw_push hm_123 dX10_colourOf_22 (v := .inl (0 : Int32)) rfl ?_
              refine zw_iret hm_123 dX10_colourOf_23 ?_
              show ma_wp X (d - 1) (w - 21) 122 16 [(0, .inr (.inr (some 88))), (1, .inr (.inr (some c1)))] [.inl (0 : Int32)] S _
              refine zw_if0 hm_122 dX10_keeps_16 (t := 23) rfl zc0_eq (fun _ => ?_) (fun hc => absurd (by decide) hc)
              refine zw_push hm_122 dX10_keeps_23 (v := .inl (0 : Int32)) rfl ?_
              refine zw_bret hm_122 dX10_keeps_24 (by decide) ?_
              show ma_wp X d w 86 33 [(4, .inr (.inr (some c1))), (0, .inr (.inr (some 69))), (1, .inr (.inr (some 88))), (2, .inl l2), (3, .inl l3)] [.inl (0 : Int32)] S _
              refine zw_if0 hm_86 dX7_removeOthers_33 (t := 42) rfl zc0_ne (fun hc => absurd hc (by decide)) (fun _ => ?_)
              refine zw_push hm_86 dX7_removeOthers_36 (v := .inr (.inr (some 69))) rfl ?_
              refine zw_push hm_86 dX7_removeOthers_37 (v := .inr (.inr (some c1))) rfl ?_
              refine zw_cv hm_86 dX7_removeOthers_39 v_7_144_7 hm_87 [.inr (.inr (some c1))] [] rfl (zT_rt hS s_69 rfl) ⟨by omega, by omega⟩ rfl (zw_mono h (zv_go ?_ ?_))
              · intro S2 hv
                obtain ⟨hS2, h⟩ := hv
                refine zw_sto hm_86 dX7_removeOthers_42 [(3, .inl (l3 + (1 : Int32))), (4, .inr (.inr (some c1))), (0, .inr (.inr (some 69))), (1, .inr (.inr (some 88))), (2, .inl l2)] rfl rfl rfl ?_
                refine zw_goto hm_86 dX7_removeOthers_45 (t := 7) rfl ?_
                exact zw_sub (ma_nd_of (ks := [0, 1, 2, 3]) rfl (by decide)) (ma_nd_of (ks := [3, 4, 0, 1, 2]) rfl (by decide)) (ma_le_cons rfl (ma_le_cons rfl (ma_le_cons rfl (ma_le_cons rfl (ma_le_nil _))))) h
              · intro x S9 hx
                exact ⟨by decide, hx⟩
            · intro hc
              rw [if_neg hc] at h
              refine zw_push hm_123 dX10_colourOf_10 (v := .inr (.inr (some 88))) rfl ?_
              refine zw_gf hm_123 dX10_colourOf_11 (v := .inr (.inr (some 90))) (zT_is hS s_88) (zT_t hS s_88) rfl f_10_15_10 (zT_f hS r_88_2) ?_
              refine zw_push hm_123 dX10_colourOf_14 (v := .inr (.inr (some c1))) rfl ?_
              obtain ⟨hg, h⟩ := h
              refine zw_gf hm_123 dX10_colourOf_15 (v := .inl (mI S c1 0)) (zT_tis hS hg) (zT_tt hS hg) rfl f_10_58_9 rfl ?_
              obtain ⟨hg, h⟩ := h
              refine zw_ia hm_123 dX10_colourOf_18 (zT_is hS s_90) (zT_h hS s_90) rfl hg ?_
              show ma_wp X ((d - 1) - 1) ((w - 21) - 21) 123 19 [(0, .inr (.inr (some 88))), (1, .inr (.inr (some c1)))] [.inl (mI S 90 (mI S c1 0).toNatClampNeg)] S _
              refine zw_goto hm_123 dX10_colourOf_19 (t := 23) rfl ?_
              refine zw_iret hm_123 dX10_colourOf_23 ?_
              show ma_wp X (d - 1) (w - 21) 122 16 [(0, .inr (.inr (some 88))), (1, .inr (.inr (some c1)))] [.inl (mI S 90 (mI S c1 0).toNatClampNeg)] S _
              refine zw_if0 hm_122 dX10_keeps_16 (t := 23) rfl zc0_eq ?_ ?_
              · intro hc
                rw [if_pos hc] at h
                refine zw_push hm_122 dX10_keeps_23 (v := .inl (0 : Int32)) rfl ?_
                refine zw_bret hm_122 dX10_keeps_24 (by decide) ?_
                show ma_wp X d w 86 33 [(4, .inr (.inr (some c1))), (0, .inr (.inr (some 69))), (1, .inr (.inr (some 88))), (2, .inl l2), (3, .inl l3)] [.inl (0 : Int32)] S _
                refine zw_if0 hm_86 dX7_removeOthers_33 (t := 42) rfl zc0_ne (fun hc => absurd hc (by decide)) (fun _ => ?_)
                refine zw_push hm_86 dX7_removeOthers_36 (v := .inr (.inr (some 69))) rfl ?_
                refine zw_push hm_86 dX7_removeOthers_37 (v := .inr (.inr (some c1))) rfl ?_
                refine zw_cv hm_86 dX7_removeOthers_39 v_7_144_7 hm_87 [.inr (.inr (some c1))] [] rfl (zT_rt hS s_69 rfl) ⟨by omega, by omega⟩ rfl (zw_mono h (zv_go ?_ ?_))
                · intro S4 hv
                  obtain ⟨hS4, h⟩ := hv
                  refine zw_sto hm_86 dX7_removeOthers_42 [(3, .inl (l3 + (1 : Int32))), (4, .inr (.inr (some c1))), (0, .inr (.inr (some 69))), (1, .inr (.inr (some 88))), (2, .inl l2)] rfl rfl rfl ?_
                  refine zw_goto hm_86 dX7_removeOthers_45 (t := 7) rfl ?_
                  exact zw_sub (ma_nd_of (ks := [0, 1, 2, 3]) rfl (by decide)) (ma_nd_of (ks := [3, 4, 0, 1, 2]) rfl (by decide)) (ma_le_cons rfl (ma_le_cons rfl (ma_le_cons rfl (ma_le_cons rfl (ma_le_nil _))))) h
                · intro x S9 hx
                  exact ⟨by decide, hx⟩
              · intro hc
                rw [if_neg hc] at h
                refine zw_push hm_122 dX10_keeps_19 (v := .inl (1 : Int32)) rfl ?_
                refine zw_goto hm_122 dX10_keeps_20 (t := 24) rfl ?_
                refine zw_bret hm_122 dX10_keeps_24 (by decide) ?_
                show ma_wp X d w 86 33 [(4, .inr (.inr (some c1))), (0, .inr (.inr (some 69))), (1, .inr (.inr (some 88))), (2, .inl l2), (3, .inl l3)] [.inl (1 : Int32)] S _
                refine zw_if0 hm_86 dX7_removeOthers_33 (t := 42) rfl zc0_ne (fun _ => ?_) (fun hc => absurd (by decide) hc)
                refine zw_sto hm_86 dX7_removeOthers_42 [(3, .inl (l3 + (1 : Int32))), (4, .inr (.inr (some c1))), (0, .inr (.inr (some 69))), (1, .inr (.inr (some 88))), (2, .inl l2)] rfl rfl rfl ?_
                refine zw_goto hm_86 dX7_removeOthers_45 (t := 7) rfl ?_
                exact zw_sub (ma_nd_of (ks := [0, 1, 2, 3]) rfl (by decide)) (ma_nd_of (ks := [3, 4, 0, 1, 2]) rfl (by decide)) (ma_le_cons rfl (ma_le_cons rfl (ma_le_cons rfl (ma_le_cons rfl (ma_le_nil _))))) h
theorem lp_86_69_88_s_7 {X : Nat × (Nat → Int32)} {d w : Nat} {f : Nat → Nat → Int32} {r : Nat → Nat → Option Nat} {C Z N : Nat} {Q : Option ma_V ⊕ Nat → ma_S → Prop} {ab : Nat→Nat→Int32} (hd : 2 ≤ d) (hw : 48 ≤ w) (K : ∀ v S₉, zI f r C Z N S₉ → (True) → (xB S₉ (mR S₉ 70)) → (aS 88 S₉ = aMv ab 0 ∧ v = aMv ab 0 69 11 - ab 69 11) → Q (.inl (some (.inl v))) S₉) : ∀ (n : Nat) (S : ma_S) (l2 : Int32) (l3 : Int32), (512 - l3.toInt).toNat = n → zI f r C Z N S → (0 ≤ l3.toInt) → (xB S (mR S 70)) → (aMv (aS 88 S) l3 = aMv ab 0) → (l2 = ab 69 11) → ma_wp X d w 86 7 [(0, .inr (.inr (some 69))), (1, .inr (.inr (some 88))), (2, .inl l2), (3, .inl l3)] [] S Q := by
  intro n
  induction n using Nat.strongRecOn with
  | _ n IH =>
    intro S l2 l3 hmu hI  hi0 hi1 hi2 hi3
    refine g_86_69_88_s_7 l2 l3 (by omega) (by omega) (zG_T hI) ?_
    have r6 := congrArg Int32.toInt (aS_I (W := 88) (S := S) (c := 69) (c₉ := 69) (k := 6) rfl rfl)
    have f1 := zG_s hI (0) (512) (c := 69) (k := 6) (by decide)
    have b2 := i_bd l3
    refine zd (fun h3 => ?_) (fun h3 => ?_)
    · skip
      have g4 := i_le h3
      have hI5 : zI f r C Z N (ma_put S 69 9 (.inl ((mI S 69 9) + (1 : Int32)))) := zG_fr hI rfl (by decide) (by decide) (by decide) trivial
      have b6 := i_bd (mI S 69 11)
      have b7 := i_bd l2
      first | have e8 : ((mI S 69 11) - l2).toInt = (mI S 69 11).toInt - l2.toInt := i_sub (by omega) (by omega) | have b9 := i_bd ((mI S 69 11) - l2)
      exact K (((mI S 69 11) - l2)) _ hI5 trivial (show xB (ma_put S 69 9 (.inl ((mI S 69 9) + (1 : Int32)))) (mR (ma_put S 69 9 (.inl ((mI S 69 9) + (1 : Int32)))) 70) from by first | (exact xB_x (xC_n (c := 69) (k := 9) (x := ((mI S 69 9) + (1 : Int32))) (xC_o (W := 75) hi1) ⟨by decide, Or.inl ⟨rfl, rfl⟩⟩).2)) (show aS 88 (ma_put S 69 9 (.inl ((mI S 69 9) + (1 : Int32)))) = aMv ab 0 ∧ ((mI S 69 11) - l2) = aMv ab 0 69 11 - ab 69 11 from by first | (have z := (xC_n (c := 69) (k := 9) (x := ((mI S 69 9) + (1 : Int32))) (xC_o (W := 88) hi1) ⟨by decide, Or.inr ⟨rfl, Or.inr ⟨rfl, by decide⟩⟩⟩).1; exact ⟨z.trans ((aMv_st (by omega)).symm.trans hi2), (by rw [← hi3, ← hi2, aMv_st (by omega), (aS_I (W := 88) (S := S) (c := 69) (c₉ := 69) (k := 11) rfl rfl)])⟩))
    · skip
      have g10 := i_nle h3
      have li11 : (0 : Int32).toInt = 0 := rfl
      refine zd (fun h12 => ?_) (fun h12 => ?_)
      · skip
        have g13 := i_lt h12
        have b14 := i_bd l2
        first | have e15 : (l3 + (1 : Int32)).toInt = l3.toInt + (1) := i_addk rfl (by omega) (by omega) | have b16 := i_bd (l3 + (1 : Int32))
        exact IH _ (by omega) _ (l2) ((l3 + (1 : Int32))) rfl hI (by omega) (show xB S (mR S 70) from by first | (exact xB_x (xC_o (W := 75) hi1).2)) (show aMv (aS 88 S) ((l3 + (1 : Int32))) = aMv ab 0 from by first | (exfalso; omega) | (exact (aMv_n (by omega) (fun z => by omega)).symm.trans hi2)) (show (l2) = ab 69 11 from by first | (exact hi3))
      · skip
        have g17 := i_nlt h12
        have li18 : (512 : Int32).toInt = 512 := rfl
        refine zd (fun h19 => ?_) (fun h19 => ?_)
        · skip
          have g20 := i_le h19
          have b21 := i_bd l2
          first | have e22 : (l3 + (1 : Int32)).toInt = l3.toInt + (1) := i_addk rfl (by omega) (by omega) | have b23 := i_bd (l3 + (1 : Int32))
          exact IH _ (by omega) _ (l2) ((l3 + (1 : Int32))) rfl hI (by omega) (show xB S (mR S 70) from by first | (exact xB_x (xC_o (W := 75) hi1).2)) (show aMv (aS 88 S) ((l3 + (1 : Int32))) = aMv ab 0 from by first | (exfalso; omega) | (exact (aMv_n (by omega) (fun z => by omega)).symm.trans hi2)) (show (l2) = ab 69 11 from by first | (exact hi3))
        · skip
          have g24 := i_nle h19
          refine ⟨i_ix (by omega) (by omega), ?_⟩
          refine ⟨fun hc => ?_, fun c1 hc => ?_⟩
          · skip
            have rn_c1 : zTa (mR S 70) l3 = none := (ta_rd (y := l3) hi1 (by omega) (by omega)).symm.trans hc
            have b25 := i_bd l2
            first | have e26 : (l3 + (1 : Int32)).toInt = l3.toInt + (1) := i_addk rfl (by omega) (by omega) | have b27 := i_bd (l3 + (1 : Int32))
            exact IH _ (by omega) _ (l2) ((l3 + (1 : Int32))) rfl hI (by omega) (show xB S (mR S 70) from by first | (exact xB_x (xC_o (W := 75) hi1).2)) (show aMv (aS 88 S) ((l3 + (1 : Int32))) = aMv ab 0 from by first | (exfalso; omega) | (exact (aMv_n (by omega) (fun z => xB_nt (W := 88) hi1 rn_c1 ⟨z.1, z.2.1, z.2.2.1⟩)).symm.trans hi2)) (show (l2) = ab 69 11 from by first | (exact hi3))
          · skip
            have th_c1 := (fun _ z => zG_70 hI (c := 70) (by decide) z) c1 hc
            have rg_c1 : zTa (mR S 70) l3 = some c1 := (ta_rd (y := l3) hi1 (by omega) (by omega)).symm.trans hc
            refine ⟨zG_n hI th_c1, ?_⟩
            have f28 := zG_th hI th_c1
            have b29 := i_bd (mI S 88 5)
            refine zd (fun h30 => ?_) (fun h30 => ?_)
            · skip
              have g31 := i_lt h30
              have b32 := i_bd l2
              first | have e33 : (l3 + (1 : Int32)).toInt = l3.toInt + (1) := i_addk rfl (by omega) (by omega) | have b34 := i_bd (l3 + (1 : Int32))
              exact IH _ (by omega) _ (l2) ((l3 + (1 : Int32))) rfl hI (by omega) (show xB S (mR S 70) from by first | (exact xB_x (xC_o (W := 75) hi1).2)) (show aMv (aS 88 S) ((l3 + (1 : Int32))) = aMv ab 0 from by first | (exfalso; omega) | (have ty := xB_th (W := 88) hi1 rg_c1; have e4 := congrArg Int32.toInt ty.2.2.2.2.2.1; refine (aMv_n (by omega) (fun z => ?_)).symm.trans hi2; have z4 : (mI S 88 5).toInt ≤ (mI S c1 4).toInt := (by rw [e4]; exact z.2.2.2.1); have z6 : (mI S 90 (mI S c1 0).toNatClampNeg).toInt = 0 := (by rw [ty.2.2.1]; exact congrArg Int32.toInt z.2.2.2.2); omega)) (show (l2) = ab 69 11 from by first | (exact hi3))
            · skip
              have g35 := i_nlt h30
              refine ⟨zG_n hI th_c1, ?_⟩
              have f36 := zG_th hI th_c1
              refine zd (fun h37 => ?_) (fun h37 => ?_)
              · skip
                have g38 := i_le h37
                refine sp_87_69_s (ab := (aS 88 S)) (R := (mR S 70)) (W := 88) (y := l3) c1 (by omega) (by omega) hI th_c1 (show xB S (mR S 70) from by first | (exact xB_x (xC_o (W := 75) hi1).2)) (show aS 88 S = (aS 88 S) from by first | (exact rfl)) (show xW 88 from by first | (exact xW88)) (show zTa (mR S 70) l3 = some c1 from by first | (exact rg_c1)) (fun S2 hI_S2 rp0_S2 rp1_S2 => zv_n ⟨zG_T hI_S2, ?_⟩)
                have rp0_S2 : xB S2 (zRu (mR S 70) l3.toNatClampNeg none) := rp0_S2
                have rp1_S2 : aS 88 S2 = aRm (aS 88 S) l3 := rp1_S2
                have b39 := i_bd l2
                first | have e40 : (l3 + (1 : Int32)).toInt = l3.toInt + (1) := i_addk rfl (by omega) (by omega) | have b41 := i_bd (l3 + (1 : Int32))
                exact IH _ (by omega) _ (l2) ((l3 + (1 : Int32))) rfl hI_S2 (by omega) (show xB S2 (mR S2 70) from by first | (exact xB_x (xC_o (W := 75) rp0_S2).2)) (show aMv (aS 88 S2) ((l3 + (1 : Int32))) = aMv ab 0 from by first | (exfalso; omega) | (have ty := xB_th (W := 88) hi1 rg_c1; have e4 := congrArg Int32.toInt ty.2.2.2.2.2.1; rw [rp1_S2]; refine (aMv_y (by omega) ⟨ty.1, ty.2.1, (by rw [ty.2.2.2.2.2.2.2.2]; decide), ?_, ?_⟩).symm.trans hi2; (show (mI S 88 5).toInt ≤ _; rw [← e4]; omega); (show mI S 90 _ = 0; rw [← ty.2.2.1]; assumption))) (show (l2) = ab 69 11 from by first | (exact hi3))
              · skip
                have g42 := i_nle h37
                refine ⟨zG_n hI th_c1, ?_⟩
                refine ⟨i_ix (by omega) (by omega), ?_⟩
                have b43 := i_bd (mI S 90 (mI S c1 0).toNatClampNeg)
                refine zd (fun h44 => ?_) (fun h44 => ?_)
                · skip
                  have g45 := i_eq h44
                  refine sp_87_69_s (ab := (aS 88 S)) (R := (mR S 70)) (W := 88) (y := l3) c1 (by omega) (by omega) hI th_c1 (show xB S (mR S 70) from by first | (exact xB_x (xC_o (W := 75) hi1).2)) (show aS 88 S = (aS 88 S) from by first | (exact rfl)) (show xW 88 from by first | (exact xW88)) (show zTa (mR S 70) l3 = some c1 from by first | (exact rg_c1)) (fun S4 hI_S4 rp0_S4 rp1_S4 => zv_n ⟨zG_T hI_S4, ?_⟩)
                  have rp0_S4 : xB S4 (zRu (mR S 70) l3.toNatClampNeg none) := rp0_S4
                  have rp1_S4 : aS 88 S4 = aRm (aS 88 S) l3 := rp1_S4
                  have b46 := i_bd l2
                  first | have e47 : (l3 + (1 : Int32)).toInt = l3.toInt + (1) := i_addk rfl (by omega) (by omega) | have b48 := i_bd (l3 + (1 : Int32))
                  exact IH _ (by omega) _ (l2) ((l3 + (1 : Int32))) rfl hI_S4 (by omega) (show xB S4 (mR S4 70) from by first | (exact xB_x (xC_o (W := 75) rp0_S4).2)) (show aMv (aS 88 S4) ((l3 + (1 : Int32))) = aMv ab 0 from by first | (exfalso; omega) | (have ty := xB_th (W := 88) hi1 rg_c1; have e4 := congrArg Int32.toInt ty.2.2.2.2.2.1; rw [rp1_S4]; refine (aMv_y (by omega) ⟨ty.1, ty.2.1, (by rw [ty.2.2.2.2.2.2.2.2]; decide), ?_, ?_⟩).symm.trans hi2; (show (mI S 88 5).toInt ≤ _; rw [← e4]; omega); (show mI S 90 _ = 0; rw [← ty.2.2.1]; assumption))) (show (l2) = ab 69 11 from by first | (exact hi3))
                · skip
                  have g49 := i_ne h44
                  have b50 := i_bd l2
                  first | have e51 : (l3 + (1 : Int32)).toInt = l3.toInt + (1) := i_addk rfl (by omega) (by omega) | have b52 := i_bd (l3 + (1 : Int32))
                  exact IH _ (by omega) _ (l2) ((l3 + (1 : Int32))) rfl hI (by omega) (show xB S (mR S 70) from by first | (exact xB_x (xC_o (W := 75) hi1).2)) (show aMv (aS 88 S) ((l3 + (1 : Int32))) = aMv ab 0 from by first | (exfalso; omega) | (have ty := xB_th (W := 88) hi1 rg_c1; have e4 := congrArg Int32.toInt ty.2.2.2.2.2.1; refine (aMv_n (by omega) (fun z => ?_)).symm.trans hi2; have z4 : (mI S 88 5).toInt ≤ (mI S c1 4).toInt := (by rw [e4]; exact z.2.2.2.1); have z6 : (mI S 90 (mI S c1 0).toNatClampNeg).toInt = 0 := (by rw [ty.2.2.1]; exact congrArg Int32.toInt z.2.2.2.2); omega)) (show (l2) = ab 69 11 from by first | (exact hi3))
theorem sp_86_69_88_s {X : Nat × (Nat → Int32)} {d w : Nat} {f : Nat → Nat → Int32} {r : Nat → Nat → Option Nat} {C Z N : Nat} {Q : Option ma_V ⊕ Nat → ma_S → Prop} {ab : Nat→Nat→Int32} {S : ma_S}  (hd : 2 ≤ d) (hw : 48 ≤ w) (hI : zI f r C Z N S) (hpre0 : xB S (mR S 70)) (hpre1 : aS 88 S = ab) (K : ∀ v S₉, zI f r C Z N S₉ → (True) → (xB S₉ (mR S₉ 70)) → (aS 88 S₉ = aMv ab 0 ∧ v = aMv ab 0 69 11 - ab 69 11) → Q (.inl (some (.inl v))) S₉) : ma_wp X d w 86 0 [(0, .inr (.inr (some 69))), (1, .inr (.inr (some 88)))] [] S Q := by
  refine g_86_69_88_s_0  (by omega) (by omega) (zG_T hI) ?_
  have b1 := i_bd (mI S 69 11)
  have li2 : (0 : Int32).toInt = 0 := rfl
  exact lp_86_69_88_s_7 (by omega) (by omega) K _ _ ((mI S 69 11)) ((0 : Int32)) rfl hI (by omega) (show xB S (mR S 70) from by first | (exact xB_x (xC_o (W := 75) hpre0).2)) (show aMv (aS 88 S) ((0 : Int32)) = aMv ab 0 from by first | (rw [hpre1]) | (exfalso; omega)) (show ((mI S 69 11)) = ab 69 11 from by first | (rw [← hpre1, (aS_I (W := 88) (S := S) (c := 69) (c₉ := 69) (k := 11) rfl rfl)]))
/-! a wish is taken -/
section TW
variable {a : Nat → Nat → Int32}
theorem aTw_y (h : 0 < (a 69 5).toInt) : aTw a = zSh (ma_u a 69 5 (a 69 5 - 1)) ((a 69 5).toInt - 1) := if_pos h
theorem aTw_n (h : ¬ 0 < (a 69 5).toInt) : aTw a = a := if_neg h
theorem aTy_y (h : 0 < (a 69 5).toInt) : aTy a = a 74 0 := if_pos h
theorem aTy_n (h : ¬ 0 < (a 69 5).toInt) : aTy a = -1 := if_neg h
end TW

/-! from 95.g13 -/
/-! the heap by numbers, the class (written by wip/tools/gen18.py) -/
theorem g_98_69_s_0 {X : Nat × (Nat → Int32)} {d w : Nat} {S : ma_S} {Q : Option ma_V ⊕ Nat → ma_S → Prop}  (hd : 1 ≤ d) (hw : 21 ≤ w) (hS : zT S) (h : if 0 < (mI S 69 5) then (if (mI S 74 0) < 0 then (ma_wp X d w 98 32 [(0, .inr (.inr (some 69))), (1, .inr (.inr none)), (2, .inl (0 : Int32))] [] (ma_put S 69 5 (.inl ((mI S 69 5) - (1 : Int32)))) Q) else (if (512 : Int32) ≤ (mI S 74 0) then (ma_wp X d w 98 32 [(0, .inr (.inr (some 69))), (1, .inr (.inr none)), (2, .inl (0 : Int32))] [] (ma_put S 69 5 (.inl ((mI S 69 5) - (1 : Int32)))) Q) else ((0 ≤ (mI S 74 0) ∧ (mI S 74 0).toNatClampNeg < 512) ∧ (ma_wp X d w 98 32 [(0, .inr (.inr (some 69))), (1, .inr (.inr (mR S 70 (mI S 74 0).toNatClampNeg))), (2, .inl (0 : Int32))] [] (ma_put S 69 5 (.inl ((mI S 69 5) - (1 : Int32)))) Q)))) else (Q (.inl (some (.inr (.inr none)))) S)) : ma_wp X d w 98 0 [(0, .inr (.inr (some 69)))] [] S Q := by
  refine zw_push hm_98 dX7_takeWish_0 (v := .inr (.inr (some 69))) rfl ?_
  refine zw_gf hm_98 dX7_takeWish_1 (v := .inl (mI S 69 5)) (zT_is hS s_69) (zT_t hS s_69) rfl f_7_36_7 rfl ?_
  refine zw_if0 hm_98 dX7_takeWish_4 (t := 9) rfl zc0_gt ?_ ?_
  · intro hc
    rw [if_pos hc] at h
    refine zw_push hm_98 dX7_takeWish_9 (v := .inr (.inr (some 69))) rfl ?_
    refine zw_push hm_98 dX7_takeWish_10 (v := .inr (.inr (some 69))) rfl ?_
    refine zw_gf hm_98 dX7_takeWish_11 (v := .inr (.inr (some 74))) (zT_is hS s_69) (zT_t hS s_69) rfl f_7_27_7 (zT_f hS r_69_4) ?_
    refine zw_push hm_98 dX7_takeWish_14 (v := .inl (0 : Int32)) rfl ?_
    refine zw_ia hm_98 dX7_takeWish_15 (zT_is hS s_74) (zT_h hS s_74) rfl ⟨by decide, by decide⟩ ?_
    show ma_wp X d w 98 16 [(0, .inr (.inr (some 69)))] [.inl (mI S 74 0), .inr (.inr (some 69))] S _
    refine zw_cv hm_98 dX7_takeWish_16 v_7_94_7 hm_81 [.inl (mI S 74 0)] [] rfl (zT_rt hS s_69 rfl) ⟨by omega, by omega⟩ rfl ?_
    show ma_wp X (d - 1) (w - 21) 81 0 [(0, .inr (.inr (some 69))), (1, .inl (mI S 74 0))] [] S _
    refine zw_push hm_81 dX7_thingAt_0 (v := .inl (mI S 74 0)) rfl ?_
    refine zw_if0 hm_81 dX7_thingAt_1 (t := 20) rfl zc0_lt ?_ ?_
    · intro hc
      rw [if_pos hc] at h
      refine zw_push hm_81 dX7_thingAt_20 (v := .inr (.inr none)) rfl ?_
      refine zw_aret hm_81 dX7_thingAt_21 ?_
      show ma_wp X d w 98 19 [(0, .inr (.inr (some 69)))] [.inr (.inr none)] S _
      refine zw_sto hm_98 dX7_takeWish_19 [(1, .inr (.inr none)), (0, .inr (.inr (some 69)))] rfl rfl rfl ?_
      refine zw_push hm_98 dX7_takeWish_20 (v := .inr (.inr (some 69))) rfl ?_
      refine zw_stk hm_98 dX7_takeWish_21 (st₉ := [.inr (.inr (some 69)), .inr (.inr (some 69))]) rfl rfl ?_
      refine zw_gf hm_98 dX7_takeWish_22 (v := .inl (mI S 69 5)) (zT_is hS s_69) (zT_t hS s_69) rfl f_7_36_7 rfl ?_
      refine zw_push hm_98 dX7_takeWish_25 (v := .inl (1 : Int32)) rfl ?_
      refine zw_stk hm_98 dX7_takeWish_26 (st₉ := [.inl ((mI S 69 5) - (1 : Int32)), .inr (.inr (some 69))]) rfl rfl ?_
      refine zw_pf hm_98 dX7_takeWish_27 (zT_is hS s_69) (zT_t hS s_69) p_7_36_7 zk_int ?_
      refine zw_push hm_98 dX7_takeWish_30 (v := .inl (0 : Int32)) rfl ?_
      refine zw_sto hm_98 dX7_takeWish_31 [(2, .inl (0 : Int32)), (1, .inr (.inr none)), (0, .inr (.inr (some 69)))] rfl rfl rfl ?_
      exact zw_sub (ma_nd_of (ks := [0, 1, 2]) rfl (by decide)) (ma_nd_of (ks := [2, 1, 0]) rfl (by decide)) (ma_le_cons rfl (ma_le_cons rfl (ma_le_cons rfl (ma_le_nil _)))) h
    · intro hc
      rw [if_neg hc] at h
      refine zw_push hm_81 dX7_thingAt_4 (v := .inl (mI S 74 0)) rfl ?_
      refine zw_push hm_81 dX7_thingAt_5 (v := .inl (512 : Int32)) rfl ?_
      refine zw_if2 hm_81 dX7_thingAt_8 (t := 20) rfl zc2_ge ?_ ?_
      · intro hc
        rw [if_pos hc] at h
        refine zw_push hm_81 dX7_thingAt_20 (v := .inr (.inr none)) rfl ?_
        refine zw_aret hm_81 dX7_thingAt_21 ?_
        show ma_wp X d w 98 19 [(0, .inr (.inr (some 69)))] [.inr (.inr none)] S _
        refine zw_sto hm_98 dX7_takeWish_19 [(1, .inr (.inr none)), (0, .inr (.inr (some 69)))] rfl rfl rfl ?_
        refine zw_push hm_98 dX7_takeWish_20 (v := .inr (.inr (some 69))) rfl ?_
        refine zw_stk hm_98 dX7_takeWish_21 (st₉ := [.inr (.inr (some 69)), .inr (.inr (some 69))]) rfl rfl ?_
        refine zw_gf hm_98 dX7_takeWish_22 (v := .inl (mI S 69 5)) (zT_is hS s_69) (zT_t hS s_69) rfl f_7_36_7 rfl ?_
        refine zw_push hm_98 dX7_takeWish_25 (v := .inl (1 : Int32)) rfl ?_
        refine zw_stk hm_98 dX7_takeWish_26 (st₉ := [.inl ((mI S 69 5) - (1 : Int32)), .inr (.inr (some 69))]) rfl rfl ?_
        refine zw_pf hm_98 dX7_takeWish_27 (zT_is hS s_69) (zT_t hS s_69) p_7_36_7 zk_int ?_
        refine zw_push hm_98 dX7_takeWish_30 (v := .inl (0 : Int32)) rfl ?_
        refine zw_sto hm_98 dX7_takeWish_31 [(2, .inl (0 : Int32)), (1, .inr (.inr none)), (0, .inr (.inr (some 69)))] rfl rfl rfl ?_
        exact zw_sub (ma_nd_of (ks := [0, 1, 2]) rfl (by decide)) (ma_nd_of (ks := [2, 1, 0]) rfl (by decide)) (ma_le_cons rfl (ma_le_cons rfl (ma_le_cons rfl (ma_le_nil _)))) h
      · intro hc
        rw [if_neg hc] at h
        refine zw_push hm_81 dX7_thingAt_11 (v := .inr (.inr (some 69))) rfl ?_
        refine zw_gf hm_81 dX7_thingAt_12 (v := .inr (.inr (some 70))) (zT_is hS s_69) (zT_t hS s_69) rfl f_7_11_7 (zT_f hS r_69_0) ?_
        refine zw_push hm_81 dX7_thingAt_15 (v := .inl (mI S 74 0)) rfl ?_
        obtain ⟨hg, h⟩ := h
        refine zw_aa hm_81 dX7_thingAt_16 (zT_is hS s_70) (zT_h hS s_70) rfl rfl hg rfl ?_
        show ma_wp X (d - 1) (w - 21) 81 17 [(0, .inr (.inr (some 69))), (1, .inl (mI S 74 0))] [.inr (.inr (mR S 70 (mI S 74 0).toNatClampNeg))] S _
        refine zw_goto hm_81 dX7_thingAt_17 (t := 21) rfl ?_
        refine zw_aret hm_81 dX7_thingAt_21 ?_
        show ma_wp X d w 98 19 [(0, .inr (.inr (some 69)))] [.inr (.inr (mR S 70 (mI S 74 0).toNatClampNeg))] S _
        refine zw_sto hm_98 dX7_takeWish_19 [(1, .inr (.inr (mR S 70 (mI S 74 0).toNatClampNeg))), (0, .inr (.inr (some 69)))] rfl rfl rfl ?_
        refine zw_push hm_98 dX7_takeWish_20 (v := .inr (.inr (some 69))) rfl ?_
        refine zw_stk hm_98 dX7_takeWish_21 (st₉ := [.inr (.inr (some 69)), .inr (.inr (some 69))]) rfl rfl ?_
        refine zw_gf hm_98 dX7_takeWish_22 (v := .inl (mI S 69 5)) (zT_is hS s_69) (zT_t hS s_69) rfl f_7_36_7 rfl ?_
        refine zw_push hm_98 dX7_takeWish_25 (v := .inl (1 : Int32)) rfl ?_
        refine zw_stk hm_98 dX7_takeWish_26 (st₉ := [.inl ((mI S 69 5) - (1 : Int32)), .inr (.inr (some 69))]) rfl rfl ?_
        refine zw_pf hm_98 dX7_takeWish_27 (zT_is hS s_69) (zT_t hS s_69) p_7_36_7 zk_int ?_
        refine zw_push hm_98 dX7_takeWish_30 (v := .inl (0 : Int32)) rfl ?_
        refine zw_sto hm_98 dX7_takeWish_31 [(2, .inl (0 : Int32)), (1, .inr (.inr (mR S 70 (mI S 74 0).toNatClampNeg))), (0, .inr (.inr (some 69)))] rfl rfl rfl ?_
        exact zw_sub (ma_nd_of (ks := [0, 1, 2]) rfl (by decide)) (ma_nd_of (ks := [2, 1, 0]) rfl (by decide)) (ma_le_cons rfl (ma_le_cons rfl (ma_le_cons rfl (ma_le_nil _)))) h
  · intro hc
    rw [if_neg hc] at h
    refine zw_push hm_98 dX7_takeWish_7 (v := .inr (.inr none)) rfl ?_
    exact zw_aret hm_98 dX7_takeWish_8 h
theorem g_98_69_s_32 {X : Nat × (Nat → Int32)} {d w : Nat} {S : ma_S} {Q : Option ma_V ⊕ Nat → ma_S → Prop} (l1 : Option Nat) (l2 : Int32) (hd : 1 ≤ d) (hw : 21 ≤ w) (hS : zT S) (h : if (mI S 69 5) ≤ l2 then ((l1 = none → Q (.inl (some (.inr (.inr none)))) S) ∧ (∀ c1, l1 = some c1 → (126 ≤ c1 ∧ c1 < mN S) ∧ ((126 ≤ c1 ∧ c1 < mN S) ∧ (Q (.inl (some (.inr (.inr (some c1))))) (ma_put S c1 6 (.inl ((mI S c1 6) - (1 : Int32)))))))) else ((0 ≤ (l2 + (1 : Int32)) ∧ (l2 + (1 : Int32)).toNatClampNeg < 512) ∧ ((0 ≤ l2 ∧ l2.toNatClampNeg < 512) ∧ (ma_wp X d w 98 32 [(0, .inr (.inr (some 69))), (1, .inr (.inr l1)), (2, .inl (l2 + (1 : Int32)))] [] (ma_put S 74 l2.toNatClampNeg (.inl (mI S 74 (l2 + (1 : Int32)).toNatClampNeg))) Q)))) : ma_wp X d w 98 32 [(0, .inr (.inr (some 69))), (1, .inr (.inr l1)), (2, .inl l2)] [] S Q := by
  refine zw_push hm_98 dX7_takeWish_32 (v := .inl l2) rfl ?_
  refine zw_push hm_98 dX7_takeWish_33 (v := .inr (.inr (some 69))) rfl ?_
  refine zw_gf hm_98 dX7_takeWish_34 (v := .inl (mI S 69 5)) (zT_is hS s_69) (zT_t hS s_69) rfl f_7_36_7 rfl ?_
  refine zw_if2 hm_98 dX7_takeWish_37 (t := 60) rfl zc2_ge ?_ ?_
  · intro hc
    rw [if_pos hc] at h
    refine zw_push hm_98 dX7_takeWish_60 (v := .inr (.inr l1)) rfl ?_
    refine zw_ifnull hm_98 dX7_takeWish_61 (t := 74) rfl ?_ ?_
    · intro hc
      have h := h.1 hc
      (try rw [hc])
      show ma_wp X d w 98 74 [(0, .inr (.inr (some 69))), (1, .inr (.inr none)), (2, .inl l2)] [] S _
      refine zw_push hm_98 dX7_takeWish_74 (v := .inr (.inr none)) rfl ?_
      exact zw_aret hm_98 dX7_takeWish_75 h
    · intro c1 hc
      have h := h.2 c1 hc
      (try rw [hc])
      show ma_wp X d w 98 64 [(0, .inr (.inr (some 69))), (1, .inr (.inr (some c1))), (2, .inl l2)] [] S _
      refine zw_push hm_98 dX7_takeWish_64 (v := .inr (.inr (some c1))) rfl ?_
      refine zw_stk hm_98 dX7_takeWish_65 (st₉ := [.inr (.inr (some c1)), .inr (.inr (some c1))]) rfl rfl ?_
      obtain ⟨hg, h⟩ := h
      refine zw_gf hm_98 dX7_takeWish_66 (v := .inl (mI S c1 6)) (zT_tis hS hg) (zT_tt hS hg) rfl f_7_98_9 rfl ?_
      refine zw_push hm_98 dX7_takeWish_69 (v := .inl (1 : Int32)) rfl ?_
      refine zw_stk hm_98 dX7_takeWish_70 (st₉ := [.inl ((mI S c1 6) - (1 : Int32)), .inr (.inr (some c1))]) rfl rfl ?_
      obtain ⟨hg, h⟩ := h
      refine zw_pf hm_98 dX7_takeWish_71 (zT_tis hS hg) (zT_tt hS hg) p_7_98_9 zk_int ?_
      refine zw_push hm_98 dX7_takeWish_74 (v := .inr (.inr (some c1))) rfl ?_
      exact zw_aret hm_98 dX7_takeWish_75 h
  · intro hc
    rw [if_neg hc] at h
    refine zw_push hm_98 dX7_takeWish_40 (v := .inr (.inr (some 69))) rfl ?_
    refine zw_gf hm_98 dX7_takeWish_41 (v := .inr (.inr (some 74))) (zT_is hS s_69) (zT_t hS s_69) rfl f_7_27_7 (zT_f hS r_69_4) ?_
    refine zw_push hm_98 dX7_takeWish_44 (v := .inl l2) rfl ?_
    refine zw_push hm_98 dX7_takeWish_45 (v := .inr (.inr (some 69))) rfl ?_
    refine zw_gf hm_98 dX7_takeWish_46 (v := .inr (.inr (some 74))) (zT_is hS s_69) (zT_t hS s_69) rfl f_7_27_7 (zT_f hS r_69_4) ?_
    refine zw_push hm_98 dX7_takeWish_49 (v := .inl l2) rfl ?_
    refine zw_push hm_98 dX7_takeWish_50 (v := .inl (1 : Int32)) rfl ?_
    refine zw_stk hm_98 dX7_takeWish_51 (st₉ := [.inl (l2 + (1 : Int32)), .inr (.inr (some 74)), .inl l2, .inr (.inr (some 74))]) rfl rfl ?_
    obtain ⟨hg, h⟩ := h
    refine zw_ia hm_98 dX7_takeWish_52 (zT_is hS s_74) (zT_h hS s_74) rfl hg ?_
    show ma_wp X d w 98 53 [(0, .inr (.inr (some 69))), (1, .inr (.inr l1)), (2, .inl l2)] [.inl (mI S 74 (l2 + (1 : Int32)).toNatClampNeg), .inl l2, .inr (.inr (some 74))] S _
    obtain ⟨hg, h⟩ := h
    refine zw_ias hm_98 dX7_takeWish_53 (zT_is hS s_74) (zT_h hS s_74) rfl hg ?_
    refine zw_sto hm_98 dX7_takeWish_54 [(2, .inl (l2 + (1 : Int32))), (0, .inr (.inr (some 69))), (1, .inr (.inr l1))] rfl rfl rfl ?_
    refine zw_goto hm_98 dX7_takeWish_57 (t := 32) rfl ?_
    exact zw_sub (ma_nd_of (ks := [0, 1, 2]) rfl (by decide)) (ma_nd_of (ks := [2, 0, 1]) rfl (by decide)) (ma_le_cons rfl (ma_le_cons rfl (ma_le_cons rfl (ma_le_nil _)))) h
theorem lp_98_69_s_32 {X : Nat × (Nat → Int32)} {d w : Nat} {f : Nat → Nat → Int32} {r : Nat → Nat → Option Nat} {C Z N : Nat} {Q : Option ma_V ⊕ Nat → ma_S → Prop} {ab : Nat→Nat→Int32} {R : zRT} {W : Nat} (hd : 1 ≤ d) (hw : 21 ≤ w) (K : ∀ v S₉, zI f r C Z N S₉ → (∀ c, v = some c → 126 ≤ c ∧ c < N) → (xB S₉ R) → (v = zTa R (aTy ab) ∧ aS W S₉ = aTw ab) → Q (.inl (some (.inr (.inr v)))) S₉) : ∀ (n : Nat) (S : ma_S) (l1 : Option Nat) (l2 : Int32), (512 - l2.toInt).toNat = n → zI f r C Z N S → (∀ c, l1 = some c → 126 ≤ c ∧ c < N) → (0 ≤ l2.toInt) → ((mI S 69 5).toInt ≤ 511) → (l2.toInt ≤ (mI S 69 5).toInt) → (xB S R) → (xW W) → (aS W S = zSh (ma_u ab 69 5 (ab 69 5 - 1)) l2.toInt) → (l1 = zTa R (ab 74 0)) → (0 < (ab 69 5).toInt ∧ (mI S 69 5).toInt = (ab 69 5).toInt - 1) → ma_wp X d w 98 32 [(0, .inr (.inr (some 69))), (1, .inr (.inr l1)), (2, .inl l2)] [] S Q := by
  intro n
  induction n using Nat.strongRecOn with
  | _ n IH =>
    intro S l1 l2 hmu hI th_l1 hi0 hi1 hi2 hi3 hi4 hi5 hi6 hi7
    refine g_98_69_s_32 l1 l2 (by omega) (by omega) (zG_T hI) ?_
    have f1 := zG_s hI (0) (512) (c := 69) (k := 5) (by decide)
    have b2 := i_bd l2
    refine zd (fun h3 => ?_) (fun h3 => ?_)
    · skip
      have g4 := i_le h3
      refine ⟨fun hc => ?_, fun c1 hc => ?_⟩
      · skip
        have rn_c1 : zTa R (ab 74 0) = none := hi6.symm.trans hc
        exact K (none) _ hI (fun _ z => by cases z) (show xB S R from by first | (exact (xC_o (W := 75) hi3).2)) (show none = zTa R (aTy ab) ∧ aS W S = aTw ab from by first | (rw [aTy_y hi7.1, aTw_y hi7.1]; refine ⟨rn_c1.symm, (xC_o (W := W) hi3).1.trans ?_⟩; rw [hi5, show l2.toInt = (ab 69 5).toInt - 1 from (by have q := hi7; omega)]))
      · skip
        have th_c1 := th_l1 c1 hc
        have rg_c1 : zTa R (ab 74 0) = some c1 := hi6.symm.trans hc
        subst hc
        refine ⟨zG_n hI th_c1, ?_⟩
        refine ⟨zG_n hI th_c1, ?_⟩
        have hI5 : zI f r C Z N (ma_put S c1 6 (.inl ((mI S c1 6) - (1 : Int32)))) := zG_tf hI th_c1.1 zI_t (by decide) (by decide) trivial (by decide) (by decide) (by decide)
        exact K ((some c1)) _ hI5 (fun _ z => by cases z; exact th_c1) (show xB (ma_put S c1 6 (.inl ((mI S c1 6) - (1 : Int32)))) R from by first | (exact (xC_6 (k := 6) (x := ((mI S c1 6) - (1 : Int32))) (xC_o (W := 75) hi3) xW75 th_c1.1 rfl (by decide)).2)) (show (some c1) = zTa R (aTy ab) ∧ aS W (ma_put S c1 6 (.inl ((mI S c1 6) - (1 : Int32)))) = aTw ab from by first | (rw [aTy_y hi7.1, aTw_y hi7.1]; refine ⟨rg_c1.symm, (xC_6 (k := 6) (x := ((mI S c1 6) - (1 : Int32))) (xC_o (W := W) hi3) hi4 th_c1.1 rfl (by decide)).1.trans ?_⟩; rw [hi5, show l2.toInt = (ab 69 5).toInt - 1 from (by have q := hi7; omega)]))
    · skip
      have g6 := i_nle h3
      first | have e7 : (l2 + (1 : Int32)).toInt = l2.toInt + (1) := i_addk rfl (by omega) (by omega) | have b8 := i_bd (l2 + (1 : Int32))
      refine ⟨i_ix (by omega) (by omega), ?_⟩
      refine ⟨i_ix (by omega) (by omega), ?_⟩
      have hI9 : zI f r C Z N (ma_put S 74 l2.toNatClampNeg (.inl (mI S 74 (l2 + (1 : Int32)).toNatClampNeg))) := zG_fa hI rfl (by decide) (by decide) (by decide) trivial
      exact IH _ (by omega) _ (l1) ((l2 + (1 : Int32))) rfl hI9 th_l1 (by omega) (show (mI S 69 5).toInt ≤ 511 from by omega) (show ((l2 + (1 : Int32))).toInt ≤ (mI S 69 5).toInt from by omega) (show xB (ma_put S 74 l2.toNatClampNeg (.inl (mI S 74 (l2 + (1 : Int32)).toNatClampNeg))) R from by first | (exact (xC_p (c := 74) (k := l2.toNatClampNeg) (x := (mI S 74 (l2 + (1 : Int32)).toNatClampNeg)) (xC_o (W := 75) hi3) 74 xW75 rfl rfl).2)) (show xW W from by first | (exact hi4) | (exact xW88)) (show aS W (ma_put S 74 l2.toNatClampNeg (.inl (mI S 74 (l2 + (1 : Int32)).toNatClampNeg))) = zSh (ma_u ab 69 5 (ab 69 5 - 1)) ((l2 + (1 : Int32))).toInt from by first | (refine (xC_p (c := 74) (k := l2.toNatClampNeg) (x := (mI S 74 (l2 + (1 : Int32)).toNatClampNeg)) (xC_o (W := W) hi3) 74 hi4 rfl (zcw_s (by decide))).1.trans ?_; skip; rw [hi5, ← zSh_s (by omega) (by omega)]; refine congrArg (ma_u _ 74 _) ?_; rw [← (aS_I (W := W) (S := S) (c := 74) (c₉ := 74) (k := (l2 + (1 : Int32)).toNatClampNeg) rfl (zcw_s (by decide))), hi5, zSh_r (by omega) (by omega)])) (show l1 = zTa R (ab 74 0) from by first | (exact hi6)) (show 0 < (ab 69 5).toInt ∧ (mI S 69 5).toInt = (ab 69 5).toInt - 1 from by first | (exact hi7))
theorem sp_98_69_s {X : Nat × (Nat → Int32)} {d w : Nat} {f : Nat → Nat → Int32} {r : Nat → Nat → Option Nat} {C Z N : Nat} {Q : Option ma_V ⊕ Nat → ma_S → Prop} {ab : Nat→Nat→Int32} {R : zRT} {W : Nat} {S : ma_S}  (hd : 1 ≤ d) (hw : 21 ≤ w) (hI : zI f r C Z N S) (hpre0 : xB S R) (hpre1 : aS W S = ab) (hpre2 : xW W) (K : ∀ v S₉, zI f r C Z N S₉ → (∀ c, v = some c → 126 ≤ c ∧ c < N) → (xB S₉ R) → (v = zTa R (aTy ab) ∧ aS W S₉ = aTw ab) → Q (.inl (some (.inr (.inr v)))) S₉) : ma_wp X d w 98 0 [(0, .inr (.inr (some 69)))] [] S Q := by
  refine g_98_69_s_0  (by omega) (by omega) (zG_T hI) ?_
  have li1 : (0 : Int32).toInt = 0 := rfl
  have f2 := zG_s hI (0) (512) (c := 69) (k := 5) (by decide)
  refine zd (fun h3 => ?_) (fun h3 => ?_)
  · skip
    have g4 := i_lt h3
    have b5 := i_bd (mI S 74 0)
    refine zd (fun h6 => ?_) (fun h6 => ?_)
    · skip
      have g7 := i_lt h6
      first | have e9 : ((mI S 69 5) - (1 : Int32)).toInt = (mI S 69 5).toInt - (1) := i_subk rfl (by omega) (by omega) | have b10 := i_bd ((mI S 69 5) - (1 : Int32))
      have hI8 : zI f r C Z N (ma_put S 69 5 (.inl ((mI S 69 5) - (1 : Int32)))) := zG_sp hI (0) (512) rfl (by decide) (by decide) (by decide) trivial (by omega) (by omega)
      exact lp_98_69_s_32 (by omega) (by omega) K _ _ (none) ((0 : Int32)) rfl hI8 (fun _ z => by cases z) (by omega) (show ((mI S 69 5) - (1 : Int32)).toInt ≤ 511 from by omega) (show ((0 : Int32)).toInt ≤ ((mI S 69 5) - (1 : Int32)).toInt from by omega) (show xB (ma_put S 69 5 (.inl ((mI S 69 5) - (1 : Int32)))) R from by first | (exact (xC_p (c := 69) (k := 5) (x := ((mI S 69 5) - (1 : Int32))) (xC_o (W := 75) hpre0) 69 xW75 rfl rfl).2)) (show xW W from by first | (exact hpre2) | (exact xW88)) (show aS W (ma_put S 69 5 (.inl ((mI S 69 5) - (1 : Int32)))) = zSh (ma_u ab 69 5 (ab 69 5 - 1)) ((0 : Int32)).toInt from by first | (refine (xC_p (c := 69) (k := 5) (x := ((mI S 69 5) - (1 : Int32))) (xC_o (W := W) hpre0) 69 hpre2 rfl (zcw_s (by decide))).1.trans ?_; skip; rw [hpre1, zSh_0, ← hpre1, (aS_I (W := W) (S := S) (c := 69) (c₉ := 69) (k := 5) rfl (zcw_s (by decide)))]; rfl) | (refine (xC_p (c := 69) (k := 5) (x := ((mI S 69 5) - (1 : Int32))) (xC_o (W := W) hpre0) 69 hpre2 rfl (zcw_s (by decide))).1.trans ?_; skip; rw [show (0 : Int32).toInt = 0 from rfl, zSh_0, ← hpre1, (aS_I (W := W) (S := S) (c := 69) (c₉ := 69) (k := 5) rfl (zcw_s (by decide)))])) (show none = zTa R (ab 74 0) from by first | (rw [← hpre1, (aS_I (W := W) (S := S) (c := 74) (c₉ := 74) (k := 0) rfl (zcw_s (by decide)))]; exact ta_no (by omega))) (show 0 < (ab 69 5).toInt ∧ ((mI S 69 5) - (1 : Int32)).toInt = (ab 69 5).toInt - 1 from by first | (have q5 := congrArg Int32.toInt (aS_I (W := W) (S := S) (c := 69) (c₉ := 69) (k := 5) rfl (zcw_s (by decide))); rw [hpre1] at q5; omega))
    · skip
      have g11 := i_nlt h6
      have li12 : (512 : Int32).toInt = 512 := rfl
      refine zd (fun h13 => ?_) (fun h13 => ?_)
      · skip
        have g14 := i_le h13
        first | have e16 : ((mI S 69 5) - (1 : Int32)).toInt = (mI S 69 5).toInt - (1) := i_subk rfl (by omega) (by omega) | have b17 := i_bd ((mI S 69 5) - (1 : Int32))
        have hI15 : zI f r C Z N (ma_put S 69 5 (.inl ((mI S 69 5) - (1 : Int32)))) := zG_sp hI (0) (512) rfl (by decide) (by decide) (by decide) trivial (by omega) (by omega)
        exact lp_98_69_s_32 (by omega) (by omega) K _ _ (none) ((0 : Int32)) rfl hI15 (fun _ z => by cases z) (by omega) (show ((mI S 69 5) - (1 : Int32)).toInt ≤ 511 from by omega) (show ((0 : Int32)).toInt ≤ ((mI S 69 5) - (1 : Int32)).toInt from by omega) (show xB (ma_put S 69 5 (.inl ((mI S 69 5) - (1 : Int32)))) R from by first | (exact (xC_p (c := 69) (k := 5) (x := ((mI S 69 5) - (1 : Int32))) (xC_o (W := 75) hpre0) 69 xW75 rfl rfl).2)) (show xW W from by first | (exact hpre2) | (exact xW88)) (show aS W (ma_put S 69 5 (.inl ((mI S 69 5) - (1 : Int32)))) = zSh (ma_u ab 69 5 (ab 69 5 - 1)) ((0 : Int32)).toInt from by first | (refine (xC_p (c := 69) (k := 5) (x := ((mI S 69 5) - (1 : Int32))) (xC_o (W := W) hpre0) 69 hpre2 rfl (zcw_s (by decide))).1.trans ?_; skip; rw [hpre1, zSh_0, ← hpre1, (aS_I (W := W) (S := S) (c := 69) (c₉ := 69) (k := 5) rfl (zcw_s (by decide)))]; rfl) | (refine (xC_p (c := 69) (k := 5) (x := ((mI S 69 5) - (1 : Int32))) (xC_o (W := W) hpre0) 69 hpre2 rfl (zcw_s (by decide))).1.trans ?_; skip; rw [show (0 : Int32).toInt = 0 from rfl, zSh_0, ← hpre1, (aS_I (W := W) (S := S) (c := 69) (c₉ := 69) (k := 5) rfl (zcw_s (by decide)))])) (show none = zTa R (ab 74 0) from by first | (rw [← hpre1, (aS_I (W := W) (S := S) (c := 74) (c₉ := 74) (k := 0) rfl (zcw_s (by decide)))]; exact ta_no (by omega))) (show 0 < (ab 69 5).toInt ∧ ((mI S 69 5) - (1 : Int32)).toInt = (ab 69 5).toInt - 1 from by first | (have q5 := congrArg Int32.toInt (aS_I (W := W) (S := S) (c := 69) (c₉ := 69) (k := 5) rfl (zcw_s (by decide))); rw [hpre1] at q5; omega))
      · skip
        have g18 := i_nle h13
        refine ⟨i_ix (by omega) (by omega), ?_⟩
        first | have e20 : ((mI S 69 5) - (1 : Int32)).toInt = (mI S 69 5).toInt - (1) := i_subk rfl (by omega) (by omega) | have b21 := i_bd ((mI S 69 5) - (1 : Int32))
        have hI19 : zI f r C Z N (ma_put S 69 5 (.inl ((mI S 69 5) - (1 : Int32)))) := zG_sp hI (0) (512) rfl (by decide) (by decide) (by decide) trivial (by omega) (by omega)
        exact lp_98_69_s_32 (by omega) (by omega) K _ _ ((mR S 70 (mI S 74 0).toNatClampNeg)) ((0 : Int32)) rfl hI19 (fun _ z => zG_70 hI (c := 70) (by decide) z) (by omega) (show ((mI S 69 5) - (1 : Int32)).toInt ≤ 511 from by omega) (show ((0 : Int32)).toInt ≤ ((mI S 69 5) - (1 : Int32)).toInt from by omega) (show xB (ma_put S 69 5 (.inl ((mI S 69 5) - (1 : Int32)))) R from by first | (exact (xC_p (c := 69) (k := 5) (x := ((mI S 69 5) - (1 : Int32))) (xC_o (W := 75) hpre0) 69 xW75 rfl rfl).2)) (show xW W from by first | (exact hpre2) | (exact xW88)) (show aS W (ma_put S 69 5 (.inl ((mI S 69 5) - (1 : Int32)))) = zSh (ma_u ab 69 5 (ab 69 5 - 1)) ((0 : Int32)).toInt from by first | (refine (xC_p (c := 69) (k := 5) (x := ((mI S 69 5) - (1 : Int32))) (xC_o (W := W) hpre0) 69 hpre2 rfl (zcw_s (by decide))).1.trans ?_; skip; rw [hpre1, zSh_0, ← hpre1, (aS_I (W := W) (S := S) (c := 69) (c₉ := 69) (k := 5) rfl (zcw_s (by decide)))]; rfl) | (refine (xC_p (c := 69) (k := 5) (x := ((mI S 69 5) - (1 : Int32))) (xC_o (W := W) hpre0) 69 hpre2 rfl (zcw_s (by decide))).1.trans ?_; skip; rw [show (0 : Int32).toInt = 0 from rfl, zSh_0, ← hpre1, (aS_I (W := W) (S := S) (c := 69) (c₉ := 69) (k := 5) rfl (zcw_s (by decide)))])) (show (mR S 70 (mI S 74 0).toNatClampNeg) = zTa R (ab 74 0) from by first | (rw [← hpre1, (aS_I (W := W) (S := S) (c := 74) (c₉ := 74) (k := 0) rfl (zcw_s (by decide)))]; exact ta_rd hpre0 (by omega) (by omega))) (show 0 < (ab 69 5).toInt ∧ ((mI S 69 5) - (1 : Int32)).toInt = (ab 69 5).toInt - 1 from by first | (have q5 := congrArg Int32.toInt (aS_I (W := W) (S := S) (c := 69) (c₉ := 69) (k := 5) rfl (zcw_s (by decide))); rw [hpre1] at q5; omega))
  · skip
    have g22 := i_nlt h3
    exact K (none) _ hI (fun _ z => by cases z) (show xB S R from by first | (exact (xC_o (W := 75) hpre0).2)) (show none = zTa R (aTy ab) ∧ aS W S = aTw ab from by first | (have q5 := congrArg Int32.toInt (aS_I (W := W) (S := S) (c := 69) (c₉ := 69) (k := 5) rfl (zcw_s (by decide))); rw [hpre1] at q5; rw [aTy_n (by omega), aTw_n (by omega)]; exact ⟨ta_m1, hpre1⟩))
/-! IN STEPS -/
def aB0 (a : Nat → Nat → Int32) : Nat → Nat → Int32 := aRo (aWh (ma_u a 87 8 1) 0) 0
def aBg (a : Nat → Nat → Int32) : Nat → Nat → Int32 := if a 87 8 = 0 then aB0 a else a
def aNw (a : Nat → Nat → Int32) : Nat → Nat → Int32 := if a 87 7 = 1 then aRo a 0 else a
def aFi (a : Nat → Nat → Int32) : Nat → Nat → Int32 := aMv (aGw (ma_u a 87 8 0) 0) 0
def aFv (a : Nat → Nat → Int32) : Int32 := aFi a 69 11 - aGw (ma_u a 87 8 0) 0 69 11
/-- an empty queue ends it, unless news came -/
def aLk (a : Nat → Nat → Int32) : Nat → Nat → Int32 := if (a 75 3).toInt < (a 75 4).toInt then a else if (aNw a 75 3).toInt < (aNw a 75 4).toInt then aNw a else aFi (aNw a)
def aGo (a : Nat → Nat → Int32) (m : Nat) : Nat → Nat → Int32 := if a 87 8 = 0 then a else aLk (aSp m a)
def aGv (a : Nat → Nat → Int32) (m : Nat) : Int := if a 87 8 = 0 then 0 else (aSn m a : Int)
/-- steps as long as news come -/
def aC2 : Nat → (Nat → Nat → Int32) → Nat → Nat → Int32
  | 0, a => a
  | k + 1, a => if (aNw a 75 3).toInt < (aNw a 75 4).toInt then aC2 k (aSp 512 (aNw a)) else aNw a
def aC1 (a : Nat → Nat → Int32) : Nat → Nat → Int32 := aC2 512 (aSp 512 (aBg a))
def aCl (a : Nat → Nat → Int32) : Nat → Nat → Int32 := aFi (aC1 a)
section ST3
variable {a b c : Nat → Nat → Int32} {m k : Nat}
theorem aBg_y (h : a 87 8 = 0) : aBg a = aB0 a := if_pos h
theorem aBg_n (h : ¬ a 87 8 = 0) : aBg a = a := if_neg h
theorem aNw_y (h : a 87 7 = 1) : aNw a = aRo a 0 := if_pos h
theorem aNw_n (h : ¬ a 87 7 = 1) : aNw a = a := if_neg h
theorem aGo_0 (h : a 87 8 = 0) : aGo a m = a := if_pos h
theorem aGv_0 (h : a 87 8 = 0) : aGv a m = 0 := if_pos h
theorem aGv_1 (h : ¬ a 87 8 = 0) : aGv a m = (aSn m a : Int) := if_neg h
theorem aGo_1 (h : ¬ a 87 8 = 0) (e : b = aSp m a) (h1 : (b 75 3).toInt < (b 75 4).toInt) : aGo a m = b := by
  unfold aGo aLk
  rw [if_neg h, ← e, if_pos h1]
theorem aGo_2 (h : ¬ a 87 8 = 0) (e : b = aSp m a) (h1 : ¬ (b 75 3).toInt < (b 75 4).toInt) (h2 : (aNw b 75 3).toInt < (aNw b 75 4).toInt) : aGo a m = aNw b := by
  unfold aGo aLk
  rw [if_neg h, ← e, if_neg h1, if_pos h2]
theorem aGo_3 (h : ¬ a 87 8 = 0) (e : b = aSp m a) (h1 : ¬ (b 75 3).toInt < (b 75 4).toInt) (h2 : ¬ (aNw b 75 3).toInt < (aNw b 75 4).toInt) : aGo a m = aFi (aNw b) := by
  unfold aGo aLk
  rw [if_neg h, ← e, if_neg h1, if_neg h2]
theorem aC2_y (h2 : (aNw a 75 3).toInt < (aNw a 75 4).toInt) : aC2 (k + 1) a = aC2 k (aSp 512 (aNw a)) := if_pos h2
theorem aC2_n (h2 : ¬ (aNw a 75 3).toInt < (aNw a 75 4).toInt) : aC2 (k + 1) a = aNw a := if_neg h2
end ST3

/-! from 95.g14 -/
/-! the heap by numbers, the class (written by wip/tools/gen18.py) -/
theorem g_68_87_s_0 {X : Nat × (Nat → Int32)} {d w : Nat} {S : ma_S} {Q : Option ma_V ⊕ Nat → ma_S → Prop}  (hd : 2 ≤ d) (hw : 44 ≤ w) (hS : zT S) (h : ma_wp X (d - 1) (w - 21) 117 0 [(0, .inr (.inr (some 88))), (1, .inl (0 : Int32))] [] (ma_put S 87 8 (.inl (1 : Int32))) (zv (fun S1 => zT S1 ∧ (ma_wp X (d - 1) (w - 22) 118 0 [(0, .inr (.inr (some 88)))] [] S1 (zv (fun S3 => zT S3 ∧ (Q (.inl none) S3)) (fun x S9 => Q (.inr x) S9)))) (fun x S9 => Q (.inr x) S9))) : ma_wp X d w 68 0 [(0, .inr (.inr (some 87)))] [] S Q := by
  refine zw_push hm_68 dX6_begin_0 (v := .inr (.inr (some 87))) rfl ?_
  refine zw_push hm_68 dX6_begin_1 (v := .inl (1 : Int32)) rfl ?_
  refine zw_pf hm_68 dX6_begin_2 (zT_is hS s_87) (zT_t hS s_87) p_6_31_6 (zk_bool (by decide)) ?_
  refine zw_push hm_68 dX6_begin_5 (v := .inr (.inr (some 87))) rfl ?_
  refine zw_gf hm_68 dX6_begin_6 (v := .inr (.inr (some 88))) (zT_is (zT_pi hS) s_87) (zT_t (zT_pi hS) s_87) rfl f_6_14_6 (zT_f (zT_pi hS) r_87_5) ?_
  refine zw_push hm_68 dX6_begin_9 (v := .inl (0 : Int32)) rfl ?_
  refine zw_cv hm_68 dX6_begin_10 v_6_82_10 hm_117 [.inl (0 : Int32)] [] rfl (zT_rt (zT_pi hS) s_88 rfl) ⟨by omega, by omega⟩ rfl (zw_mono h (zv_go ?_ ?_))
  · intro S1 hv
    obtain ⟨hS1, h⟩ := hv
    refine zw_push hm_68 dX6_begin_13 (v := .inr (.inr (some 87))) rfl ?_
    refine zw_gf hm_68 dX6_begin_14 (v := .inr (.inr (some 88))) (zT_is hS1 s_87) (zT_t hS1 s_87) rfl f_6_14_6 (zT_f hS1 r_87_5) ?_
    refine zw_cv hm_68 dX6_begin_17 v_6_86_10 hm_118 [] [] rfl (zT_rt hS1 s_88 rfl) ⟨by omega, by omega⟩ rfl (zw_mono h (zv_go ?_ ?_))
    · intro S3 hv
      obtain ⟨hS3, h⟩ := hv
      exact zw_vret hm_68 dX6_begin_20 h
    · intro x S9 hx
      exact ⟨by decide, hx⟩
  · intro x S9 hx
    exact ⟨by decide, hx⟩
theorem sp_68_87_s {X : Nat × (Nat → Int32)} {d w : Nat} {f : Nat → Nat → Int32} {r : Nat → Nat → Option Nat} {C Z N : Nat} {Q : Option ma_V ⊕ Nat → ma_S → Prop} {ab : Nat→Nat→Int32} {S : ma_S}  (hd : 2 ≤ d) (hw : 44 ≤ w) (hI : zJ87 f r C Z N S) (hpre0 : xB S (mR S 70)) (hpre1 : aS 88 S = ab) (K : ∀ S₉, zJ87 f r C Z N S₉ → (xB S₉ (mR S₉ 70)) → (aS 88 S₉ = aB0 ab) → Q (.inl none) S₉) : ma_wp X d w 68 0 [(0, .inr (.inr (some 87)))] [] S Q := by
  refine g_68_87_s_0  (by omega) (by omega) (zG_T hI) ?_
  have li1 : (0 : Int32).toInt = 0 := rfl
  have li3 : (1 : Int32).toInt = 1 := rfl
  have hI2 : zJ87 f r C Z N (ma_put S 87 8 (.inl (1 : Int32))) := zG_sp hI (0) (1) rfl (by decide) (by decide) (by decide) trivial (by omega) (by omega)
  refine sp_117_88_s (ab := (aS 88 (ma_put S 87 8 (.inl (1 : Int32))))) (R := (mR (ma_put S 87 8 (.inl (1 : Int32))) 70)) ((0 : Int32)) (by omega) (by omega) (zJ87_dn hI2) (show xB (ma_put S 87 8 (.inl (1 : Int32))) (mR (ma_put S 87 8 (.inl (1 : Int32))) 70) from by first | (exact xB_x (xC_p (c := 87) (k := 8) (x := (1 : Int32)) (xC_o (W := 75) hpre0) 87 xW75 rfl rfl).2)) (show aS 88 (ma_put S 87 8 (.inl (1 : Int32))) = (aS 88 (ma_put S 87 8 (.inl (1 : Int32)))) from by first | (exact rfl)) (fun S1 hL_S1 rp0_S1 rp1_S1 => zv_n ⟨zG_T hL_S1, ?_⟩)
  have hI_S1 := zJ87_up hI2 hL_S1
  have rp0_S1 : xB S1 (mR (ma_put S 87 8 (.inl (1 : Int32))) 70) := by
    have z := rp0_S1
    (try rw [show mI (ma_put S 87 8 (.inl (1 : Int32))) 65 = f 65 from funext (fun k => zG_z hI2 rfl)] at z)
    (try rw [show mI (ma_put S 87 8 (.inl (1 : Int32))) 64 1 = f 64 1 from zG_z hI2 rfl] at z)
    exact z
  have rp1_S1 : aS 88 S1 = aWh (aS 88 (ma_put S 87 8 (.inl (1 : Int32)))) (0 : Int32) := by
    have z := rp1_S1
    (try rw [show mI (ma_put S 87 8 (.inl (1 : Int32))) 65 = f 65 from funext (fun k => zG_z hI2 rfl)] at z)
    (try rw [show mI (ma_put S 87 8 (.inl (1 : Int32))) 64 1 = f 64 1 from zG_z hI2 rfl] at z)
    exact z
  refine sp_118_88_s (ab := (aS 88 S1)) (R := (mR S1 70)) (by omega) (by omega) (zJ87_dn hI_S1) (show xB S1 (mR S1 70) from by first | (exact xB_x (xC_o (W := 75) rp0_S1).2)) (show aS 88 S1 = (aS 88 S1) from by first | (exact rfl)) (fun S3 hL_S3 rp0_S3 rp1_S3 => zv_n ⟨zG_T hL_S3, ?_⟩)
  have hI_S3 := zJ87_up hI_S1 hL_S3
  have rp0_S3 : xB S3 (mR S1 70) := by
    have z := rp0_S3
    (try rw [show mI S1 65 = f 65 from funext (fun k => zG_z hI_S1 rfl)] at z)
    (try rw [show mI S1 64 1 = f 64 1 from zG_z hI_S1 rfl] at z)
    exact z
  have rp1_S3 : aS 88 S3 = aRo (aS 88 S1) 0 := by
    have z := rp1_S3
    (try rw [show mI S1 65 = f 65 from funext (fun k => zG_z hI_S1 rfl)] at z)
    (try rw [show mI S1 64 1 = f 64 1 from zG_z hI_S1 rfl] at z)
    exact z
  exact K _ hI_S3 (show xB S3 (mR S3 70) from by first | (exact xB_x (xC_o (W := 75) rp0_S3).2)) (show aS 88 S3 = aB0 ab from by first | (rw [rp1_S3, rp1_S1, (xC_p (c := 87) (k := 8) (x := (1 : Int32)) (xC_o (W := 88) hpre0) 87 xW88 rfl rfl).1, hpre1]; rfl))
theorem g_69_87_s_0 {X : Nat × (Nat → Int32)} {d w : Nat} {S : ma_S} {Q : Option ma_V ⊕ Nat → ma_S → Prop}  (hd : 2 ≤ d) (hw : 43 ≤ w) (hS : zT S) (h : if (mI S 87 7) = (1 : Int32) then (ma_wp X (d - 1) (w - 22) 118 0 [(0, .inr (.inr (some 88)))] [] S (zv (fun S1 => zT S1 ∧ (if (mI S1 88 3) < (mI S1 88 4) then (Q (.inl (some (.inl (1 : Int32)))) S1) else (Q (.inl (some (.inl (0 : Int32)))) S1))) (fun x S9 => Q (.inr x) S9))) else (if (mI S 88 3) < (mI S 88 4) then (Q (.inl (some (.inl (1 : Int32)))) S) else (Q (.inl (some (.inl (0 : Int32)))) S))) : ma_wp X d w 69 0 [(0, .inr (.inr (some 87)))] [] S Q := by
  refine zw_push hm_69 dX6_newsCame_0 (v := .inr (.inr (some 87))) rfl ?_
  refine zw_gf hm_69 dX6_newsCame_1 (v := .inl (mI S 87 7)) (zT_is hS s_87) (zT_t hS s_87) rfl f_6_28_6 rfl ?_
  refine zw_push hm_69 dX6_newsCame_4 (v := .inl (1 : Int32)) rfl ?_
  refine zw_if2 hm_69 dX6_newsCame_5 (t := 15) rfl zc2_ne ?_ ?_
  · intro hc
    rw [if_neg hc] at h
    refine zw_push hm_69 dX6_newsCame_15 (v := .inr (.inr (some 87))) rfl ?_
    refine zw_gf hm_69 dX6_newsCame_16 (v := .inr (.inr (some 88))) (zT_is hS s_87) (zT_t hS s_87) rfl f_6_14_6 (zT_f hS r_87_5) ?_
    refine zw_cv hm_69 dX6_newsCame_19 v_6_79_10 hm_125 [] [] rfl (zT_rt hS s_88 rfl) ⟨by omega, by omega⟩ rfl ?_
    show ma_wp X (d - 1) (w - 20) 125 0 [(0, .inr (.inr (some 88)))] [] S _
    refine zw_push hm_125 dX10_isEmpty_0 (v := .inr (.inr (some 88))) rfl ?_
    refine zw_gf hm_125 dX10_isEmpty_1 (v := .inl (mI S 88 3)) (zT_is hS s_88) (zT_t hS s_88) rfl f_10_28_10 rfl ?_
    refine zw_push hm_125 dX10_isEmpty_4 (v := .inr (.inr (some 88))) rfl ?_
    refine zw_gf hm_125 dX10_isEmpty_5 (v := .inl (mI S 88 4)) (zT_is hS s_88) (zT_t hS s_88) rfl f_10_32_10 rfl ?_
    refine zw_if2 hm_125 dX10_isEmpty_8 (t := 15) rfl zc2_lt ?_ ?_
    · intro hc
      rw [if_pos hc] at h
      refine zw_push hm_125 dX10_isEmpty_15 (v := .inl (0 : Int32)) rfl ?_
      refine zw_bret hm_125 dX10_isEmpty_16 (by decide) ?_
      show ma_wp X d w 69 22 [(0, .inr (.inr (some 87)))] [.inl (0 : Int32)] S _
      refine zw_if0 hm_69 dX6_newsCame_22 (t := 29) rfl zc0_ne (fun hc => absurd hc (by decide)) (fun _ => ?_)
      refine zw_push hm_69 dX6_newsCame_25 (v := .inl (1 : Int32)) rfl ?_
      refine zw_goto hm_69 dX6_newsCame_26 (t := 30) rfl ?_
      exact zw_bret hm_69 dX6_newsCame_30 (by decide) h
    · intro hc
      rw [if_neg hc] at h
      refine zw_push hm_125 dX10_isEmpty_11 (v := .inl (1 : Int32)) rfl ?_
      refine zw_goto hm_125 dX10_isEmpty_12 (t := 16) rfl ?_
      refine zw_bret hm_125 dX10_isEmpty_16 (by decide) ?_
      show ma_wp X d w 69 22 [(0, .inr (.inr (some 87)))] [.inl (1 : Int32)] S _
      refine zw_if0 hm_69 dX6_newsCame_22 (t := 29) rfl zc0_ne (fun _ => ?_) (fun hc => absurd (by decide) hc)
      refine zw_push hm_69 dX6_newsCame_29 (v := .inl (0 : Int32)) rfl ?_
      exact zw_bret hm_69 dX6_newsCame_30 (by decide) h
  · intro hc
    rw [if_pos (Classical.not_not.mp hc)] at h
    refine zw_push hm_69 dX6_newsCame_8 (v := .inr (.inr (some 87))) rfl ?_
    refine zw_gf hm_69 dX6_newsCame_9 (v := .inr (.inr (some 88))) (zT_is hS s_87) (zT_t hS s_87) rfl f_6_14_6 (zT_f hS r_87_5) ?_
    refine zw_cv hm_69 dX6_newsCame_12 v_6_86_10 hm_118 [] [] rfl (zT_rt hS s_88 rfl) ⟨by omega, by omega⟩ rfl (zw_mono h (zv_go ?_ ?_))
    · intro S1 hv
      obtain ⟨hS1, h⟩ := hv
      refine zw_push hm_69 dX6_newsCame_15 (v := .inr (.inr (some 87))) rfl ?_
      refine zw_gf hm_69 dX6_newsCame_16 (v := .inr (.inr (some 88))) (zT_is hS1 s_87) (zT_t hS1 s_87) rfl f_6_14_6 (zT_f hS1 r_87_5) ?_
      refine zw_cv hm_69 dX6_newsCame_19 v_6_79_10 hm_125 [] [] rfl (zT_rt hS1 s_88 rfl) ⟨by omega, by omega⟩ rfl ?_
      show ma_wp X (d - 1) (w - 20) 125 0 [(0, .inr (.inr (some 88)))] [] S1 _
      refine zw_push hm_125 dX10_isEmpty_0 (v := .inr (.inr (some 88))) rfl ?_
      refine zw_gf hm_125 dX10_isEmpty_1 (v := .inl (mI S1 88 3)) (zT_is hS1 s_88) (zT_t hS1 s_88) rfl f_10_28_10 rfl ?_
      refine zw_push hm_125 dX10_isEmpty_4 (v := .inr (.inr (some 88))) rfl ?_
      refine zw_gf hm_125 dX10_isEmpty_5 (v := .inl (mI S1 88 4)) (zT_is hS1 s_88) (zT_t hS1 s_88) rfl f_10_32_10 rfl ?_
      refine zw_if2 hm_125 dX10_isEmpty_8 (t := 15) rfl zc2_lt ?_ ?_
      · intro hc
        rw [if_pos hc] at h
        refine zw_push hm_125 dX10_isEmpty_15 (v := .inl (0 : Int32)) rfl ?_
        refine zw_bret hm_125 dX10_isEmpty_16 (by decide) ?_
        show ma_wp X d w 69 22 [(0, .inr (.inr (some 87)))] [.inl (0 : Int32)] S1 _
        refine zw_if0 hm_69 dX6_newsCame_22 (t := 29) rfl zc0_ne (fun hc => absurd hc (by decide)) (fun _ => ?_)
        refine zw_push hm_69 dX6_newsCame_25 (v := .inl (1 : Int32)) rfl ?_
        refine zw_goto hm_69 dX6_newsCame_26 (t := 30) rfl ?_
        exact zw_bret hm_69 dX6_newsCame_30 (by decide) h
      · intro hc
        rw [if_neg hc] at h
        refine zw_push hm_125 dX10_isEmpty_11 (v := .inl (1 : Int32)) rfl ?_
        refine zw_goto hm_125 dX10_isEmpty_12 (t := 16) rfl ?_
        refine zw_bret hm_125 dX10_isEmpty_16 (by decide) ?_
        show ma_wp X d w 69 22 [(0, .inr (.inr (some 87)))] [.inl (1 : Int32)] S1 _
        refine zw_if0 hm_69 dX6_newsCame_22 (t := 29) rfl zc0_ne (fun _ => ?_) (fun hc => absurd (by decide) hc)
        refine zw_push hm_69 dX6_newsCame_29 (v := .inl (0 : Int32)) rfl ?_
        exact zw_bret hm_69 dX6_newsCame_30 (by decide) h
    · intro x S9 hx
      exact ⟨by decide, hx⟩
theorem sp_69_87_s {X : Nat × (Nat → Int32)} {d w : Nat} {f : Nat → Nat → Int32} {r : Nat → Nat → Option Nat} {C Z N : Nat} {Q : Option ma_V ⊕ Nat → ma_S → Prop} {ab : Nat→Nat→Int32} {S : ma_S}  (hd : 2 ≤ d) (hw : 43 ≤ w) (hI : zJ87 f r C Z N S) (hpre0 : xB S (mR S 70)) (hpre1 : aS 88 S = ab) (K : ∀ v S₉, zJ87 f r C Z N S₉ → (v = 0 ∨ v = 1) → (xB S₉ (mR S₉ 70)) → (aS 88 S₉ = aNw ab) → ((v.toInt = 1 ∧ (aS 88 S₉ 75 3).toInt < (aS 88 S₉ 75 4).toInt) ∨ (v.toInt = 0 ∧ ¬ (aS 88 S₉ 75 3).toInt < (aS 88 S₉ 75 4).toInt)) → Q (.inl (some (.inl v))) S₉) : ma_wp X d w 69 0 [(0, .inr (.inr (some 87)))] [] S Q := by
  refine g_69_87_s_0  (by omega) (by omega) (zG_T hI) ?_
  have b1 := i_bd (mI S 87 7)
  have li2 : (1 : Int32).toInt = 1 := rfl
  refine zd (fun h3 => ?_) (fun h3 => ?_)
  · skip
    have g4 := i_eq h3
    refine sp_118_88_s (ab := (aS 88 S)) (R := (mR S 70)) (by omega) (by omega) (zJ87_dn hI) (show xB S (mR S 70) from by first | (exact xB_x (xC_o (W := 75) hpre0).2)) (show aS 88 S = (aS 88 S) from by first | (exact rfl)) (fun S1 hL_S1 rp0_S1 rp1_S1 => zv_n ⟨zG_T hL_S1, ?_⟩)
    have hI_S1 := zJ87_up hI hL_S1
    have rp0_S1 : xB S1 (mR S 70) := by
      have z := rp0_S1
      (try rw [show mI S 65 = f 65 from funext (fun k => zG_z hI rfl)] at z)
      (try rw [show mI S 64 1 = f 64 1 from zG_z hI rfl] at z)
      exact z
    have rp1_S1 : aS 88 S1 = aRo (aS 88 S) 0 := by
      have z := rp1_S1
      (try rw [show mI S 65 = f 65 from funext (fun k => zG_z hI rfl)] at z)
      (try rw [show mI S 64 1 = f 64 1 from zG_z hI rfl] at z)
      exact z
    have f5 := zG_s hI_S1 (0) (512) (c := 88) (k := 3) (by decide)
    have f6 := zG_s hI_S1 (0) (512) (c := 88) (k := 4) (by decide)
    refine zd (fun h7 => ?_) (fun h7 => ?_)
    · skip
      have g8 := i_lt h7
      exact K ((1 : Int32)) _ hI_S1 (by decide) (show xB S1 (mR S1 70) from by first | (exact xB_x (xC_o (W := 75) rp0_S1).2)) (show aS 88 S1 = aNw ab from by first | (rw [rp1_S1, hpre1]; refine (aNw_y ?_).symm; rw [← hpre1, (aS_I (W := 88) (S := S) (c := 87) (c₉ := 87) (k := 7) rfl rfl)]; assumption)) (show ((1 : Int32).toInt = 1 ∧ (aS 88 S1 75 3).toInt < (aS 88 S1 75 4).toInt) ∨ ((1 : Int32).toInt = 0 ∧ ¬ (aS 88 S1 75 3).toInt < (aS 88 S1 75 4).toInt) from by first | (have q3 := congrArg Int32.toInt (aS_I (W := 88) (S := S1) (c := 75) (c₉ := 88) (k := 3) rfl rfl); have q4 := congrArg Int32.toInt (aS_I (W := 88) (S := S1) (c := 75) (c₉ := 88) (k := 4) rfl rfl); omega))
    · skip
      have g9 := i_nlt h7
      have li10 : (0 : Int32).toInt = 0 := rfl
      exact K ((0 : Int32)) _ hI_S1 (by decide) (show xB S1 (mR S1 70) from by first | (exact xB_x (xC_o (W := 75) rp0_S1).2)) (show aS 88 S1 = aNw ab from by first | (rw [rp1_S1, hpre1]; refine (aNw_y ?_).symm; rw [← hpre1, (aS_I (W := 88) (S := S) (c := 87) (c₉ := 87) (k := 7) rfl rfl)]; assumption)) (show ((0 : Int32).toInt = 1 ∧ (aS 88 S1 75 3).toInt < (aS 88 S1 75 4).toInt) ∨ ((0 : Int32).toInt = 0 ∧ ¬ (aS 88 S1 75 3).toInt < (aS 88 S1 75 4).toInt) from by first | (have q3 := congrArg Int32.toInt (aS_I (W := 88) (S := S1) (c := 75) (c₉ := 88) (k := 3) rfl rfl); have q4 := congrArg Int32.toInt (aS_I (W := 88) (S := S1) (c := 75) (c₉ := 88) (k := 4) rfl rfl); omega))
  · skip
    have g11 := i_ne h3
    have f12 := zG_s hI (0) (512) (c := 88) (k := 3) (by decide)
    have f13 := zG_s hI (0) (512) (c := 88) (k := 4) (by decide)
    refine zd (fun h14 => ?_) (fun h14 => ?_)
    · skip
      have g15 := i_lt h14
      exact K ((1 : Int32)) _ hI (by decide) (show xB S (mR S 70) from by first | (exact xB_x (xC_o (W := 75) hpre0).2)) (show aS 88 S = aNw ab from by first | (rw [hpre1]; refine (aNw_n ?_).symm; rw [← hpre1, (aS_I (W := 88) (S := S) (c := 87) (c₉ := 87) (k := 7) rfl rfl)]; assumption)) (show ((1 : Int32).toInt = 1 ∧ (aS 88 S 75 3).toInt < (aS 88 S 75 4).toInt) ∨ ((1 : Int32).toInt = 0 ∧ ¬ (aS 88 S 75 3).toInt < (aS 88 S 75 4).toInt) from by first | (have q3 := congrArg Int32.toInt (aS_I (W := 88) (S := S) (c := 75) (c₉ := 88) (k := 3) rfl rfl); have q4 := congrArg Int32.toInt (aS_I (W := 88) (S := S) (c := 75) (c₉ := 88) (k := 4) rfl rfl); omega))
    · skip
      have g16 := i_nlt h14
      have li17 : (0 : Int32).toInt = 0 := rfl
      exact K ((0 : Int32)) _ hI (by decide) (show xB S (mR S 70) from by first | (exact xB_x (xC_o (W := 75) hpre0).2)) (show aS 88 S = aNw ab from by first | (rw [hpre1]; refine (aNw_n ?_).symm; rw [← hpre1, (aS_I (W := 88) (S := S) (c := 87) (c₉ := 87) (k := 7) rfl rfl)]; assumption)) (show ((0 : Int32).toInt = 1 ∧ (aS 88 S 75 3).toInt < (aS 88 S 75 4).toInt) ∨ ((0 : Int32).toInt = 0 ∧ ¬ (aS 88 S 75 3).toInt < (aS 88 S 75 4).toInt) from by first | (have q3 := congrArg Int32.toInt (aS_I (W := 88) (S := S) (c := 75) (c₉ := 88) (k := 3) rfl rfl); have q4 := congrArg Int32.toInt (aS_I (W := 88) (S := S) (c := 75) (c₉ := 88) (k := 4) rfl rfl); omega))
theorem g_70_87_s_0 {X : Nat × (Nat → Int32)} {d w : Nat} {S : ma_S} {Q : Option ma_V ⊕ Nat → ma_S → Prop}  (hd : 3 ≤ d) (hw : 72 ≤ w) (hS : zT S) (h : ma_wp X (d - 1) (w - 23) 83 0 [(0, .inr (.inr (some 69))), (1, .inr (.inr (some 88)))] [] (ma_put S 87 8 (.inl (0 : Int32))) (zv (fun S1 => zT S1 ∧ (ma_wp X (d - 1) (w - 24) 86 0 [(0, .inr (.inr (some 69))), (1, .inr (.inr (some 88)))] [] S1 (zi (fun v4 S3 => zT S3 ∧ (Q (.inl (some (.inl v4))) S3)) (fun x S9 => Q (.inr x) S9)))) (fun x S9 => Q (.inr x) S9))) : ma_wp X d w 70 0 [(0, .inr (.inr (some 87)))] [] S Q := by
  refine zw_push hm_70 dX6_finish_0 (v := .inr (.inr (some 87))) rfl ?_
  refine zw_push hm_70 dX6_finish_1 (v := .inl (0 : Int32)) rfl ?_
  refine zw_pf hm_70 dX6_finish_2 (zT_is hS s_87) (zT_t hS s_87) p_6_31_6 (zk_bool (by decide)) ?_
  refine zw_push hm_70 dX6_finish_5 (v := .inr (.inr (some 87))) rfl ?_
  refine zw_gf hm_70 dX6_finish_6 (v := .inr (.inr (some 69))) (zT_is (zT_pi hS) s_87) (zT_t (zT_pi hS) s_87) rfl f_6_38_6 (zT_f (zT_pi hS) r_87_3) ?_
  refine zw_push hm_70 dX6_finish_9 (v := .inr (.inr (some 87))) rfl ?_
  refine zw_gf hm_70 dX6_finish_10 (v := .inr (.inr (some 88))) (zT_is (zT_pi hS) s_87) (zT_t (zT_pi hS) s_87) rfl f_6_14_6 (zT_f (zT_pi hS) r_87_5) ?_
  refine zw_cv hm_70 dX6_finish_13 v_6_89_7 hm_83 [.inr (.inr (some 88))] [] rfl (zT_rt (zT_pi hS) s_69 rfl) ⟨by omega, by omega⟩ rfl (zw_mono h (zv_go ?_ ?_))
  · intro S1 hv
    obtain ⟨hS1, h⟩ := hv
    refine zw_push hm_70 dX6_finish_16 (v := .inr (.inr (some 87))) rfl ?_
    refine zw_gf hm_70 dX6_finish_17 (v := .inr (.inr (some 69))) (zT_is hS1 s_87) (zT_t hS1 s_87) rfl f_6_38_6 (zT_f hS1 r_87_3) ?_
    refine zw_push hm_70 dX6_finish_20 (v := .inr (.inr (some 87))) rfl ?_
    refine zw_gf hm_70 dX6_finish_21 (v := .inr (.inr (some 88))) (zT_is hS1 s_87) (zT_t hS1 s_87) rfl f_6_14_6 (zT_f hS1 r_87_5) ?_
    refine zw_cv hm_70 dX6_finish_24 v_6_93_7 hm_86 [.inr (.inr (some 88))] [] rfl (zT_rt hS1 s_69 rfl) ⟨by omega, by omega⟩ rfl (zw_mono h (zi_go ?_ ?_))
    · intro v4 S3 hv
      obtain ⟨hS3, h⟩ := hv
      exact zw_iret hm_70 dX6_finish_27 h
    · intro x S9 hx
      exact ⟨by decide, hx⟩
  · intro x S9 hx
    exact ⟨by decide, hx⟩
theorem sp_70_87_s {X : Nat × (Nat → Int32)} {d w : Nat} {f : Nat → Nat → Int32} {r : Nat → Nat → Option Nat} {C Z N : Nat} {Q : Option ma_V ⊕ Nat → ma_S → Prop} {ab : Nat→Nat→Int32} {S : ma_S}  (hd : 3 ≤ d) (hw : 72 ≤ w) (hI : zJ87 f r C Z N S) (hpre0 : xB S (mR S 70)) (hpre1 : aS 88 S = ab) (K : ∀ v S₉, zJ87 f r C Z N S₉ → (True) → (xB S₉ (mR S₉ 70)) → (aS 88 S₉ = aFi ab ∧ v = aFv ab) → Q (.inl (some (.inl v))) S₉) : ma_wp X d w 70 0 [(0, .inr (.inr (some 87)))] [] S Q := by
  refine g_70_87_s_0  (by omega) (by omega) (zG_T hI) ?_
  have li2 : (0 : Int32).toInt = 0 := rfl
  have hI1 : zJ87 f r C Z N (ma_put S 87 8 (.inl (0 : Int32))) := zG_sp hI (0) (1) rfl (by decide) (by decide) (by decide) trivial (by omega) (by omega)
  refine sp_83_69_88_s (ab := (aS 88 (ma_put S 87 8 (.inl (0 : Int32))))) (R := (mR (ma_put S 87 8 (.inl (0 : Int32))) 70)) (by omega) (by omega) (zJ87_dn hI1) (show xB (ma_put S 87 8 (.inl (0 : Int32))) (mR (ma_put S 87 8 (.inl (0 : Int32))) 70) from by first | (exact xB_x (xC_p (c := 87) (k := 8) (x := (0 : Int32)) (xC_o (W := 75) hpre0) 87 xW75 rfl rfl).2)) (show aS 88 (ma_put S 87 8 (.inl (0 : Int32))) = (aS 88 (ma_put S 87 8 (.inl (0 : Int32)))) from by first | (exact rfl)) (fun S1 hL_S1 rp0_S1 rp1_S1 => zv_n ⟨zG_T hL_S1, ?_⟩)
  have hI_S1 := zJ87_up hI1 hL_S1
  have rp0_S1 : xB S1 (mR (ma_put S 87 8 (.inl (0 : Int32))) 70) := by
    have z := rp0_S1
    (try rw [show mI (ma_put S 87 8 (.inl (0 : Int32))) 65 = f 65 from funext (fun k => zG_z hI1 rfl)] at z)
    (try rw [show mI (ma_put S 87 8 (.inl (0 : Int32))) 64 1 = f 64 1 from zG_z hI1 rfl] at z)
    exact z
  have rp1_S1 : aS 88 S1 = aGw (aS 88 (ma_put S 87 8 (.inl (0 : Int32)))) 0 := by
    have z := rp1_S1
    (try rw [show mI (ma_put S 87 8 (.inl (0 : Int32))) 65 = f 65 from funext (fun k => zG_z hI1 rfl)] at z)
    (try rw [show mI (ma_put S 87 8 (.inl (0 : Int32))) 64 1 = f 64 1 from zG_z hI1 rfl] at z)
    exact z
  refine sp_86_69_88_s (ab := (aS 88 S1)) (by omega) (by omega) (zJ87_dn hI_S1) (show xB S1 (mR S1 70) from by first | (exact xB_x (xC_o (W := 75) rp0_S1).2)) (show aS 88 S1 = (aS 88 S1) from by first | (exact rfl)) (fun v4 S3 hL_S3 hp_v4 rp0_S3 rp1_S3 => zi_n ⟨zG_T hL_S3, ?_⟩)
  have hI_S3 := zJ87_up hI_S1 hL_S3
  have rp0_S3 : xB S3 (mR S3 70) := by
    have z := rp0_S3
    (try rw [show mI S1 65 = f 65 from funext (fun k => zG_z hI_S1 rfl)] at z)
    (try rw [show mI S1 64 1 = f 64 1 from zG_z hI_S1 rfl] at z)
    exact z
  have rp1_S3 : aS 88 S3 = aMv (aS 88 S1) 0 ∧ v4 = aMv (aS 88 S1) 0 69 11 - (aS 88 S1) 69 11 := by
    have z := rp1_S3
    (try rw [show mI S1 65 = f 65 from funext (fun k => zG_z hI_S1 rfl)] at z)
    (try rw [show mI S1 64 1 = f 64 1 from zG_z hI_S1 rfl] at z)
    exact z
  have b3 := i_bd v4
  exact K (v4) _ hI_S3 trivial (show xB S3 (mR S3 70) from by first | (exact xB_x (xC_o (W := 75) rp0_S3).2)) (show aS 88 S3 = aFi ab ∧ v4 = aFv ab from by first | (have z := rp1_S3; rw [rp1_S1, (xC_p (c := 87) (k := 8) (x := (0 : Int32)) (xC_o (W := 88) hpre0) 87 xW88 rfl rfl).1, hpre1] at z; exact z))

/-! from 95.g15 -/
/-! the heap by numbers, the class (written by wip/tools/gen18.py) -/
theorem g_72_87_s_0 {X : Nat × (Nat → Int32)} {d w : Nat} {S : ma_S} {Q : Option ma_V ⊕ Nat → ma_S → Prop} (n : Int32) (hd : 4 ≤ d) (hw : 92 ≤ w) (hS : zT S) (h : if (mI S 87 8) = 0 then (Q (.inl (some (.inl (0 : Int32)))) S) else (ma_wp X (d - 1) (w - 24) 120 0 [(0, .inr (.inr (some 88))), (1, .inl n)] [] S (zi (fun v2 S1 => zT S1 ∧ (if (mI S1 88 3) < (mI S1 88 4) then (Q (.inl (some (.inl v2))) S1) else (ma_wp X (d - 1) (w - 20) 69 0 [(0, .inr (.inr (some 87)))] [] S1 (zi (fun v4 S3 => zT S3 ∧ (if v4 = 0 then (ma_wp X (d - 1) (w - 20) 70 0 [(0, .inr (.inr (some 87)))] [] S3 (zi (fun v6 S5 => zT S5 ∧ (Q (.inl (some (.inl v2))) S5)) (fun x S9 => Q (.inr x) S9))) else (Q (.inl (some (.inl v2))) S3))) (fun x S9 => Q (.inr x) S9))))) (fun x S9 => Q (.inr x) S9)))) : ma_wp X d w 72 0 [(0, .inr (.inr (some 87))), (1, .inl n)] [] S Q := by
  refine zw_push hm_72 dX6_goOn_0 (v := .inr (.inr (some 87))) rfl ?_
  refine zw_gf hm_72 dX6_goOn_1 (v := .inl (mI S 87 8)) (zT_is hS s_87) (zT_t hS s_87) rfl f_6_31_6 rfl ?_
  refine zw_if0 hm_72 dX6_goOn_4 (t := 9) rfl zc0_ne ?_ ?_
  · intro hc
    rw [if_neg hc] at h
    refine zw_push hm_72 dX6_goOn_9 (v := .inr (.inr (some 87))) rfl ?_
    refine zw_gf hm_72 dX6_goOn_10 (v := .inr (.inr (some 88))) (zT_is hS s_87) (zT_t hS s_87) rfl f_6_14_6 (zT_f hS r_87_5) ?_
    refine zw_push hm_72 dX6_goOn_13 (v := .inl n) rfl ?_
    refine zw_cv hm_72 dX6_goOn_14 v_6_69_10 hm_120 [.inl n] [] rfl (zT_rt hS s_88 rfl) ⟨by omega, by omega⟩ rfl (zw_mono h (zi_go ?_ ?_))
    · intro v2 S1 hv
      obtain ⟨hS1, h⟩ := hv
      refine zw_sto hm_72 dX6_goOn_17 [(2, .inl v2), (0, .inr (.inr (some 87))), (1, .inl n)] rfl rfl rfl ?_
      refine zw_push hm_72 dX6_goOn_18 (v := .inr (.inr (some 87))) rfl ?_
      refine zw_gf hm_72 dX6_goOn_19 (v := .inr (.inr (some 88))) (zT_is hS1 s_87) (zT_t hS1 s_87) rfl f_6_14_6 (zT_f hS1 r_87_5) ?_
      refine zw_cv hm_72 dX6_goOn_22 v_6_79_10 hm_125 [] [] rfl (zT_rt hS1 s_88 rfl) ⟨by omega, by omega⟩ rfl ?_
      show ma_wp X (d - 1) (w - 20) 125 0 [(0, .inr (.inr (some 88)))] [] S1 _
      refine zw_push hm_125 dX10_isEmpty_0 (v := .inr (.inr (some 88))) rfl ?_
      refine zw_gf hm_125 dX10_isEmpty_1 (v := .inl (mI S1 88 3)) (zT_is hS1 s_88) (zT_t hS1 s_88) rfl f_10_28_10 rfl ?_
      refine zw_push hm_125 dX10_isEmpty_4 (v := .inr (.inr (some 88))) rfl ?_
      refine zw_gf hm_125 dX10_isEmpty_5 (v := .inl (mI S1 88 4)) (zT_is hS1 s_88) (zT_t hS1 s_88) rfl f_10_32_10 rfl ?_
      refine zw_if2 hm_125 dX10_isEmpty_8 (t := 15) rfl zc2_lt ?_ ?_
      · intro hc
        rw [if_pos hc] at h
        refine zw_push hm_125 dX10_isEmpty_15 (v := .inl (0 : Int32)) rfl ?_
        refine zw_bret hm_125 dX10_isEmpty_16 (by decide) ?_
        show ma_wp X d w 72 25 [(2, .inl v2), (0, .inr (.inr (some 87))), (1, .inl n)] [.inl (0 : Int32)] S1 _
        refine zw_if0 hm_72 dX6_goOn_25 (t := 40) rfl zc0_eq (fun _ => ?_) (fun hc => absurd (by decide) hc)
        refine zw_push hm_72 dX6_goOn_40 (v := .inl v2) rfl ?_
        exact zw_iret hm_72 dX6_goOn_41 h
      · intro hc
        rw [if_neg hc] at h
        refine zw_push hm_125 dX10_isEmpty_11 (v := .inl (1 : Int32)) rfl ?_
        refine zw_goto hm_125 dX10_isEmpty_12 (t := 16) rfl ?_
        refine zw_bret hm_125 dX10_isEmpty_16 (by decide) ?_
        show ma_wp X d w 72 25 [(2, .inl v2), (0, .inr (.inr (some 87))), (1, .inl n)] [.inl (1 : Int32)] S1 _
        refine zw_if0 hm_72 dX6_goOn_25 (t := 40) rfl zc0_eq (fun hc => absurd hc (by decide)) (fun _ => ?_)
        refine zw_push hm_72 dX6_goOn_28 (v := .inr (.inr (some 87))) rfl ?_
        refine zw_cv hm_72 dX6_goOn_29 v_6_72_6 hm_69 [] [] rfl (zT_rt hS1 s_87 rfl) ⟨by omega, by omega⟩ rfl (zw_mono h (zi_go ?_ ?_))
        · intro v4 S3 hv
          obtain ⟨hS3, h⟩ := hv
          refine zw_if0 hm_72 dX6_goOn_32 (t := 40) rfl zc0_ne ?_ ?_
          · intro hc
            rw [if_neg hc] at h
            refine zw_push hm_72 dX6_goOn_40 (v := .inl v2) rfl ?_
            exact zw_iret hm_72 dX6_goOn_41 h
          · intro hc
            rw [if_pos (Classical.not_not.mp hc)] at h
            refine zw_push hm_72 dX6_goOn_35 (v := .inr (.inr (some 87))) rfl ?_
            refine zw_cv hm_72 dX6_goOn_36 v_6_76_6 hm_70 [] [] rfl (zT_rt hS3 s_87 rfl) ⟨by omega, by omega⟩ rfl (zw_mono h (zi_go ?_ ?_))
            · intro v6 S5 hv
              obtain ⟨hS5, h⟩ := hv
              refine zw_stk hm_72 dX6_goOn_39 (st₉ := []) rfl rfl ?_
              refine zw_push hm_72 dX6_goOn_40 (v := .inl v2) rfl ?_
              exact zw_iret hm_72 dX6_goOn_41 h
            · intro x S9 hx
              exact ⟨by decide, hx⟩
        · intro x S9 hx
          exact ⟨by decide, hx⟩
    · intro x S9 hx
      exact ⟨by decide, hx⟩
  · intro hc
    rw [if_pos (Classical.not_not.mp hc)] at h
    refine zw_push hm_72 dX6_goOn_7 (v := .inl (0 : Int32)) rfl ?_
    exact zw_iret hm_72 dX6_goOn_8 h
theorem sp_72_87_s {X : Nat × (Nat → Int32)} {d w : Nat} {f : Nat → Nat → Int32} {r : Nat → Nat → Option Nat} {C Z N : Nat} {Q : Option ma_V ⊕ Nat → ma_S → Prop} {ab : Nat→Nat→Int32} {S : ma_S} (n : Int32) (hd : 4 ≤ d) (hw : 92 ≤ w) (hI : zJ87 f r C Z N S) (hpre0 : xB S (mR S 70)) (hpre1 : aS 88 S = ab) (hpre2 : 0 ≤ n.toInt) (K : ∀ v S₉, zJ87 f r C Z N S₉ → (True) → (xB S₉ (mR S₉ 70)) → (aS 88 S₉ = aGo ab n.toInt.toNat ∧ v.toInt = aGv ab n.toInt.toNat) → Q (.inl (some (.inl v))) S₉) : ma_wp X d w 72 0 [(0, .inr (.inr (some 87))), (1, .inl n)] [] S Q := by
  refine g_72_87_s_0 n (by omega) (by omega) (zG_T hI) ?_
  have f1 := zG_s hI (0) (1) (c := 87) (k := 8) (by decide)
  have li2 : (0 : Int32).toInt = 0 := rfl
  refine zd (fun h3 => ?_) (fun h3 => ?_)
  · skip
    have g4 := i_eq h3
    exact K ((0 : Int32)) _ hI trivial (show xB S (mR S 70) from by first | (exact xB_x (xC_o (W := 75) hpre0).2)) (show aS 88 S = aGo ab n.toInt.toNat ∧ (0 : Int32).toInt = aGv ab n.toInt.toNat from by first | (exact ⟨hpre1.trans (aGo_0 (by rw [← hpre1, (aS_I (W := 88) (S := S) (c := 87) (c₉ := 87) (k := 8) rfl rfl)]; assumption)).symm, (aGv_0 (by rw [← hpre1, (aS_I (W := 88) (S := S) (c := 87) (c₉ := 87) (k := 8) rfl rfl)]; assumption)).symm⟩))
  · skip
    have g5 := i_ne h3
    have b6 := i_bd n
    refine sp_120_88_s (ab := (aS 88 S)) (R := (mR S 70)) (n) (by omega) (by omega) (zJ87_dn hI) (show xB S (mR S 70) from by first | (exact xB_x (xC_o (W := 75) hpre0).2)) (show aS 88 S = (aS 88 S) from by first | (exact rfl)) (by omega) (fun v2 S1 hL_S1 hp_v2 rp0_S1 rp1_S1 => zi_n ⟨zG_T hL_S1, ?_⟩)
    have hI_S1 := zJ87_up hI hL_S1
    have rp0_S1 : xB S1 (mR S 70) := by
      have z := rp0_S1
      (try rw [show mI S 65 = f 65 from funext (fun k => zG_z hI rfl)] at z)
      (try rw [show mI S 64 1 = f 64 1 from zG_z hI rfl] at z)
      exact z
    have rp1_S1 : aS 88 S1 = aSp n.toInt.toNat (aS 88 S) ∧ v2.toInt = (aSn n.toInt.toNat (aS 88 S) : Int) := by
      have z := rp1_S1
      (try rw [show mI S 65 = f 65 from funext (fun k => zG_z hI rfl)] at z)
      (try rw [show mI S 64 1 = f 64 1 from zG_z hI rfl] at z)
      exact z
    have f7 := zG_s hI_S1 (0) (512) (c := 88) (k := 3) (by decide)
    have f8 := zG_s hI_S1 (0) (512) (c := 88) (k := 4) (by decide)
    refine zd (fun h9 => ?_) (fun h9 => ?_)
    · skip
      have g10 := i_lt h9
      have b11 := i_bd v2
      exact K (v2) _ hI_S1 trivial (show xB S1 (mR S1 70) from by first | (exact xB_x (xC_o (W := 75) rp0_S1).2)) (show aS 88 S1 = aGo ab n.toInt.toNat ∧ v2.toInt = aGv ab n.toInt.toNat from by first | (exact ⟨(aGo_1 (by rw [← hpre1, (aS_I (W := 88) (S := S) (c := 87) (c₉ := 87) (k := 8) rfl rfl)]; assumption) (rp1_S1.1.trans (congrArg (aSp n.toInt.toNat) hpre1)) (by have q3 := congrArg Int32.toInt (aS_I (W := 88) (S := S1) (c := 75) (c₉ := 88) (k := 3) rfl rfl); have q4 := congrArg Int32.toInt (aS_I (W := 88) (S := S1) (c := 75) (c₉ := 88) (k := 4) rfl rfl); omega)).symm, (rp1_S1.2.trans ((congrArg (fun q => (aSn n.toInt.toNat q : Int)) hpre1).trans (aGv_1 (by rw [← hpre1, (aS_I (W := 88) (S := S) (c := 87) (c₉ := 87) (k := 8) rfl rfl)]; assumption)).symm))⟩))
    · skip
      have g12 := i_nlt h9
      refine sp_69_87_s (ab := (aS 88 S1)) (by omega) (by omega) hI_S1 (show xB S1 (mR S1 70) from by first | (exact xB_x (xC_o (W := 75) rp0_S1).2)) (show aS 88 S1 = (aS 88 S1) from by first | (exact rfl)) (fun v4 S3 hI_S3 hp_v4 rp0_S3 rp1_S3 rp2_S3 => zi_n ⟨zG_T hI_S3, ?_⟩)
      have rp0_S3 : xB S3 (mR S3 70) := rp0_S3
      have rp1_S3 : aS 88 S3 = aNw (aS 88 S1) := rp1_S3
      have rp2_S3 : (v4.toInt = 1 ∧ (aS 88 S3 75 3).toInt < (aS 88 S3 75 4).toInt) ∨ (v4.toInt = 0 ∧ ¬ (aS 88 S3 75 3).toInt < (aS 88 S3 75 4).toInt) := rp2_S3
      have b13 := i_bd v4
      refine zd (fun h14 => ?_) (fun h14 => ?_)
      · skip
        have g15 := i_eq h14
        refine sp_70_87_s (ab := (aS 88 S3)) (by omega) (by omega) hI_S3 (show xB S3 (mR S3 70) from by first | (exact xB_x (xC_o (W := 75) rp0_S3).2)) (show aS 88 S3 = (aS 88 S3) from by first | (exact rfl)) (fun v6 S5 hI_S5 hp_v6 rp0_S5 rp1_S5 => zi_n ⟨zG_T hI_S5, ?_⟩)
        have rp0_S5 : xB S5 (mR S5 70) := rp0_S5
        have rp1_S5 : aS 88 S5 = aFi (aS 88 S3) ∧ v6 = aFv (aS 88 S3) := rp1_S5
        have b16 := i_bd v2
        exact K (v2) _ hI_S5 trivial (show xB S5 (mR S5 70) from by first | (exact xB_x (xC_o (W := 75) rp0_S5).2)) (show aS 88 S5 = aGo ab n.toInt.toNat ∧ v2.toInt = aGv ab n.toInt.toNat from by first | (exact ⟨rp1_S5.1.trans ((congrArg aFi rp1_S3).trans (aGo_3 (by rw [← hpre1, (aS_I (W := 88) (S := S) (c := 87) (c₉ := 87) (k := 8) rfl rfl)]; assumption) (rp1_S1.1.trans (congrArg (aSp n.toInt.toNat) hpre1)) (by have q3 := congrArg Int32.toInt (aS_I (W := 88) (S := S1) (c := 75) (c₉ := 88) (k := 3) rfl rfl); have q4 := congrArg Int32.toInt (aS_I (W := 88) (S := S1) (c := 75) (c₉ := 88) (k := 4) rfl rfl); omega) (by rw [← rp1_S3]; have q := rp2_S3; omega)).symm), (rp1_S1.2.trans ((congrArg (fun q => (aSn n.toInt.toNat q : Int)) hpre1).trans (aGv_1 (by rw [← hpre1, (aS_I (W := 88) (S := S) (c := 87) (c₉ := 87) (k := 8) rfl rfl)]; assumption)).symm))⟩))
      · skip
        have g17 := i_ne h14
        have b18 := i_bd v2
        exact K (v2) _ hI_S3 trivial (show xB S3 (mR S3 70) from by first | (exact xB_x (xC_o (W := 75) rp0_S3).2)) (show aS 88 S3 = aGo ab n.toInt.toNat ∧ v2.toInt = aGv ab n.toInt.toNat from by first | (exact ⟨rp1_S3.trans (aGo_2 (by rw [← hpre1, (aS_I (W := 88) (S := S) (c := 87) (c₉ := 87) (k := 8) rfl rfl)]; assumption) (rp1_S1.1.trans (congrArg (aSp n.toInt.toNat) hpre1)) (by have q3 := congrArg Int32.toInt (aS_I (W := 88) (S := S1) (c := 75) (c₉ := 88) (k := 3) rfl rfl); have q4 := congrArg Int32.toInt (aS_I (W := 88) (S := S1) (c := 75) (c₉ := 88) (k := 4) rfl rfl); omega) (by rw [← rp1_S3]; have q := rp2_S3; omega)).symm, (rp1_S1.2.trans ((congrArg (fun q => (aSn n.toInt.toNat q : Int)) hpre1).trans (aGv_1 (by rw [← hpre1, (aS_I (W := 88) (S := S) (c := 87) (c₉ := 87) (k := 8) rfl rfl)]; assumption)).symm))⟩))
theorem g_67_87_s_0 {X : Nat × (Nat → Int32)} {d w : Nat} {S : ma_S} {Q : Option ma_V ⊕ Nat → ma_S → Prop}  (hd : 4 ≤ d) (hw : 92 ≤ w) (hS : zT S) (h : if (mI S 87 8) = 0 then (ma_wp X (d - 1) (w - 20) 68 0 [(0, .inr (.inr (some 87)))] [] S (zv (fun S3 => zT S3 ∧ (ma_wp X (d - 1) (w - 24) 120 0 [(0, .inr (.inr (some 88))), (1, .inl (512 : Int32))] [] S3 (zi (fun v6 S5 => zT S5 ∧ (ma_wp X d w 67 24 [(0, .inr (.inr (some 87))), (1, .inl (0 : Int32))] [] S5 Q)) (fun x S9 => Q (.inr x) S9)))) (fun x S9 => Q (.inr x) S9))) else (ma_wp X (d - 1) (w - 24) 120 0 [(0, .inr (.inr (some 88))), (1, .inl (512 : Int32))] [] S (zi (fun v2 S1 => zT S1 ∧ (ma_wp X d w 67 24 [(0, .inr (.inr (some 87))), (1, .inl (0 : Int32))] [] S1 Q)) (fun x S9 => Q (.inr x) S9)))) : ma_wp X d w 67 0 [(0, .inr (.inr (some 87)))] [] S Q := by
  refine zw_push hm_67 dX6_cleanAll_0 (v := .inr (.inr (some 87))) rfl ?_
  refine zw_gf hm_67 dX6_cleanAll_1 (v := .inl (mI S 87 8)) (zT_is hS s_87) (zT_t hS s_87) rfl f_6_31_6 rfl ?_
  refine zw_if0 hm_67 dX6_cleanAll_4 (t := 11) rfl zc0_ne ?_ ?_
  · intro hc
    rw [if_neg hc] at h
    refine zw_push hm_67 dX6_cleanAll_11 (v := .inr (.inr (some 87))) rfl ?_
    refine zw_gf hm_67 dX6_cleanAll_12 (v := .inr (.inr (some 88))) (zT_is hS s_87) (zT_t hS s_87) rfl f_6_14_6 (zT_f hS r_87_5) ?_
    refine zw_push hm_67 dX6_cleanAll_15 (v := .inl (512 : Int32)) rfl ?_
    refine zw_cv hm_67 dX6_cleanAll_18 v_6_69_10 hm_120 [.inl (512 : Int32)] [] rfl (zT_rt hS s_88 rfl) ⟨by omega, by omega⟩ rfl (zw_mono h (zi_go ?_ ?_))
    · intro v2 S1 hv
      obtain ⟨hS1, h⟩ := hv
      refine zw_stk hm_67 dX6_cleanAll_21 (st₉ := []) rfl rfl ?_
      refine zw_push hm_67 dX6_cleanAll_22 (v := .inl (0 : Int32)) rfl ?_
      refine zw_sto hm_67 dX6_cleanAll_23 [(1, .inl (0 : Int32)), (0, .inr (.inr (some 87)))] rfl rfl rfl ?_
      exact zw_sub (ma_nd_of (ks := [0, 1]) rfl (by decide)) (ma_nd_of (ks := [1, 0]) rfl (by decide)) (ma_le_cons rfl (ma_le_cons rfl (ma_le_nil _))) h
    · intro x S9 hx
      exact ⟨by decide, hx⟩
  · intro hc
    rw [if_pos (Classical.not_not.mp hc)] at h
    refine zw_push hm_67 dX6_cleanAll_7 (v := .inr (.inr (some 87))) rfl ?_
    refine zw_cv hm_67 dX6_cleanAll_8 v_6_47_6 hm_68 [] [] rfl (zT_rt hS s_87 rfl) ⟨by omega, by omega⟩ rfl (zw_mono h (zv_go ?_ ?_))
    · intro S3 hv
      obtain ⟨hS3, h⟩ := hv
      refine zw_push hm_67 dX6_cleanAll_11 (v := .inr (.inr (some 87))) rfl ?_
      refine zw_gf hm_67 dX6_cleanAll_12 (v := .inr (.inr (some 88))) (zT_is hS3 s_87) (zT_t hS3 s_87) rfl f_6_14_6 (zT_f hS3 r_87_5) ?_
      refine zw_push hm_67 dX6_cleanAll_15 (v := .inl (512 : Int32)) rfl ?_
      refine zw_cv hm_67 dX6_cleanAll_18 v_6_69_10 hm_120 [.inl (512 : Int32)] [] rfl (zT_rt hS3 s_88 rfl) ⟨by omega, by omega⟩ rfl (zw_mono h (zi_go ?_ ?_))
      · intro v6 S5 hv
        obtain ⟨hS5, h⟩ := hv
        refine zw_stk hm_67 dX6_cleanAll_21 (st₉ := []) rfl rfl ?_
        refine zw_push hm_67 dX6_cleanAll_22 (v := .inl (0 : Int32)) rfl ?_
        refine zw_sto hm_67 dX6_cleanAll_23 [(1, .inl (0 : Int32)), (0, .inr (.inr (some 87)))] rfl rfl rfl ?_
        exact zw_sub (ma_nd_of (ks := [0, 1]) rfl (by decide)) (ma_nd_of (ks := [1, 0]) rfl (by decide)) (ma_le_cons rfl (ma_le_cons rfl (ma_le_nil _))) h
      · intro x S9 hx
        exact ⟨by decide, hx⟩
    · intro x S9 hx
      exact ⟨by decide, hx⟩
theorem g_67_87_s_24 {X : Nat × (Nat → Int32)} {d w : Nat} {S : ma_S} {Q : Option ma_V ⊕ Nat → ma_S → Prop} (l1 : Int32) (hd : 4 ≤ d) (hw : 92 ≤ w) (hS : zT S) (h : if (512 : Int32) ≤ l1 then (ma_wp X (d - 1) (w - 20) 70 0 [(0, .inr (.inr (some 87)))] [] S (zi (fun v2 S1 => zT S1 ∧ (Q (.inl (some (.inl v2))) S1)) (fun x S9 => Q (.inr x) S9))) else (ma_wp X (d - 1) (w - 20) 69 0 [(0, .inr (.inr (some 87)))] [] S (zi (fun v4 S3 => zT S3 ∧ (if v4 = 0 then (ma_wp X (d - 1) (w - 20) 70 0 [(0, .inr (.inr (some 87)))] [] S3 (zi (fun v6 S5 => zT S5 ∧ (Q (.inl (some (.inl v6))) S5)) (fun x S9 => Q (.inr x) S9))) else (ma_wp X (d - 1) (w - 24) 120 0 [(0, .inr (.inr (some 88))), (1, .inl (512 : Int32))] [] S3 (zi (fun v8 S7 => zT S7 ∧ (ma_wp X d w 67 24 [(0, .inr (.inr (some 87))), (1, .inl (l1 + (1 : Int32)))] [] S7 Q)) (fun x S9 => Q (.inr x) S9))))) (fun x S9 => Q (.inr x) S9)))) : ma_wp X d w 67 24 [(0, .inr (.inr (some 87))), (1, .inl l1)] [] S Q := by
  refine zw_push hm_67 dX6_cleanAll_24 (v := .inl l1) rfl ?_
  refine zw_push hm_67 dX6_cleanAll_25 (v := .inl (512 : Int32)) rfl ?_
  refine zw_if2 hm_67 dX6_cleanAll_28 (t := 55) rfl zc2_ge ?_ ?_
  · intro hc
    rw [if_pos hc] at h
    refine zw_push hm_67 dX6_cleanAll_55 (v := .inr (.inr (some 87))) rfl ?_
    refine zw_cv hm_67 dX6_cleanAll_56 v_6_76_6 hm_70 [] [] rfl (zT_rt hS s_87 rfl) ⟨by omega, by omega⟩ rfl (zw_mono h (zi_go ?_ ?_))
    · intro v2 S1 hv
      obtain ⟨hS1, h⟩ := hv
      exact zw_iret hm_67 dX6_cleanAll_59 h
    · intro x S9 hx
      exact ⟨by decide, hx⟩
  · intro hc
    rw [if_neg hc] at h
    refine zw_push hm_67 dX6_cleanAll_31 (v := .inr (.inr (some 87))) rfl ?_
    refine zw_cv hm_67 dX6_cleanAll_32 v_6_72_6 hm_69 [] [] rfl (zT_rt hS s_87 rfl) ⟨by omega, by omega⟩ rfl (zw_mono h (zi_go ?_ ?_))
    · intro v4 S3 hv
      obtain ⟨hS3, h⟩ := hv
      refine zw_if0 hm_67 dX6_cleanAll_35 (t := 55) rfl zc0_eq ?_ ?_
      · intro hc
        rw [if_pos hc] at h
        refine zw_push hm_67 dX6_cleanAll_55 (v := .inr (.inr (some 87))) rfl ?_
        refine zw_cv hm_67 dX6_cleanAll_56 v_6_76_6 hm_70 [] [] rfl (zT_rt hS3 s_87 rfl) ⟨by omega, by omega⟩ rfl (zw_mono h (zi_go ?_ ?_))
        · intro v6 S5 hv
          obtain ⟨hS5, h⟩ := hv
          exact zw_iret hm_67 dX6_cleanAll_59 h
        · intro x S9 hx
          exact ⟨by decide, hx⟩
      · intro hc
        rw [if_neg hc] at h
        refine zw_push hm_67 dX6_cleanAll_38 (v := .inr (.inr (some 87))) rfl ?_
        refine zw_gf hm_67 dX6_cleanAll_39 (v := .inr (.inr (some 88))) (zT_is hS3 s_87) (zT_t hS3 s_87) rfl f_6_14_6 (zT_f hS3 r_87_5) ?_
        refine zw_push hm_67 dX6_cleanAll_42 (v := .inl (512 : Int32)) rfl ?_
        refine zw_cv hm_67 dX6_cleanAll_45 v_6_69_10 hm_120 [.inl (512 : Int32)] [] rfl (zT_rt hS3 s_88 rfl) ⟨by omega, by omega⟩ rfl (zw_mono h (zi_go ?_ ?_))
        · intro v8 S7 hv
          obtain ⟨hS7, h⟩ := hv
          refine zw_stk hm_67 dX6_cleanAll_48 (st₉ := []) rfl rfl ?_
          refine zw_sto hm_67 dX6_cleanAll_49 [(1, .inl (l1 + (1 : Int32))), (0, .inr (.inr (some 87)))] rfl rfl rfl ?_
          refine zw_goto hm_67 dX6_cleanAll_52 (t := 24) rfl ?_
          exact zw_sub (ma_nd_of (ks := [0, 1]) rfl (by decide)) (ma_nd_of (ks := [1, 0]) rfl (by decide)) (ma_le_cons rfl (ma_le_cons rfl (ma_le_nil _))) h
        · intro x S9 hx
          exact ⟨by decide, hx⟩
    · intro x S9 hx
      exact ⟨by decide, hx⟩
theorem lp_67_87_s_24 {X : Nat × (Nat → Int32)} {d w : Nat} {f : Nat → Nat → Int32} {r : Nat → Nat → Option Nat} {C Z N : Nat} {Q : Option ma_V ⊕ Nat → ma_S → Prop} {ab : Nat→Nat→Int32} (hd : 4 ≤ d) (hw : 92 ≤ w) (K : ∀ v S₉, zJ87 f r C Z N S₉ → (True) → (xB S₉ (mR S₉ 70)) → (aS 88 S₉ = aCl ab ∧ v = aFv (aC1 ab)) → Q (.inl (some (.inl v))) S₉) : ∀ (n : Nat) (S : ma_S) (l1 : Int32), (512 - l1.toInt).toNat = n → zJ87 f r C Z N S → (0 ≤ l1.toInt) → (l1.toInt ≤ 512) → (xB S (mR S 70)) → (aC2 (512 - l1.toInt).toNat (aS 88 S) = aC1 ab) → ma_wp X d w 67 24 [(0, .inr (.inr (some 87))), (1, .inl l1)] [] S Q := by
  intro n
  induction n using Nat.strongRecOn with
  | _ n IH =>
    intro S l1 hmu hI  hi0 hi1 hi2 hi3
    refine g_67_87_s_24 l1 (by omega) (by omega) (zG_T hI) ?_
    have li1 : (512 : Int32).toInt = 512 := rfl
    have b2 := i_bd l1
    refine zd (fun h3 => ?_) (fun h3 => ?_)
    · skip
      have g4 := i_le h3
      refine sp_70_87_s (ab := (aS 88 S)) (by omega) (by omega) hI (show xB S (mR S 70) from by first | (exact xB_x (xC_o (W := 75) hi2).2)) (show aS 88 S = (aS 88 S) from by first | (exact rfl)) (fun v2 S1 hI_S1 hp_v2 rp0_S1 rp1_S1 => zi_n ⟨zG_T hI_S1, ?_⟩)
      have rp0_S1 : xB S1 (mR S1 70) := rp0_S1
      have rp1_S1 : aS 88 S1 = aFi (aS 88 S) ∧ v2 = aFv (aS 88 S) := rp1_S1
      have b5 := i_bd v2
      exact K (v2) _ hI_S1 trivial (show xB S1 (mR S1 70) from by first | (exact xB_x (xC_o (W := 75) rp0_S1).2)) (show aS 88 S1 = aCl ab ∧ v2 = aFv (aC1 ab) from by first | (exact ⟨rp1_S1.1.trans (congrArg aFi (show aS 88 S = aC1 ab from (by have q := hi3; rw [show (512 - l1.toInt).toNat = 0 from by omega] at q; exact q))), rp1_S1.2.trans (congrArg aFv (show aS 88 S = aC1 ab from (by have q := hi3; rw [show (512 - l1.toInt).toNat = 0 from by omega] at q; exact q)))⟩))
    · skip
      have g6 := i_nle h3
      refine sp_69_87_s (ab := (aS 88 S)) (by omega) (by omega) hI (show xB S (mR S 70) from by first | (exact xB_x (xC_o (W := 75) hi2).2)) (show aS 88 S = (aS 88 S) from by first | (exact rfl)) (fun v4 S3 hI_S3 hp_v4 rp0_S3 rp1_S3 rp2_S3 => zi_n ⟨zG_T hI_S3, ?_⟩)
      have rp0_S3 : xB S3 (mR S3 70) := rp0_S3
      have rp1_S3 : aS 88 S3 = aNw (aS 88 S) := rp1_S3
      have rp2_S3 : (v4.toInt = 1 ∧ (aS 88 S3 75 3).toInt < (aS 88 S3 75 4).toInt) ∨ (v4.toInt = 0 ∧ ¬ (aS 88 S3 75 3).toInt < (aS 88 S3 75 4).toInt) := rp2_S3
      have b7 := i_bd v4
      have li8 : (0 : Int32).toInt = 0 := rfl
      refine zd (fun h9 => ?_) (fun h9 => ?_)
      · skip
        have g10 := i_eq h9
        refine sp_70_87_s (ab := (aS 88 S3)) (by omega) (by omega) hI_S3 (show xB S3 (mR S3 70) from by first | (exact xB_x (xC_o (W := 75) rp0_S3).2)) (show aS 88 S3 = (aS 88 S3) from by first | (exact rfl)) (fun v6 S5 hI_S5 hp_v6 rp0_S5 rp1_S5 => zi_n ⟨zG_T hI_S5, ?_⟩)
        have rp0_S5 : xB S5 (mR S5 70) := rp0_S5
        have rp1_S5 : aS 88 S5 = aFi (aS 88 S3) ∧ v6 = aFv (aS 88 S3) := rp1_S5
        have b11 := i_bd v6
        exact K (v6) _ hI_S5 trivial (show xB S5 (mR S5 70) from by first | (exact xB_x (xC_o (W := 75) rp0_S5).2)) (show aS 88 S5 = aCl ab ∧ v6 = aFv (aC1 ab) from by first | (exact ⟨rp1_S5.1.trans (congrArg aFi (rp1_S3.trans ((aC2_n (k := (512 - l1.toInt - 1).toNat) (by rw [← rp1_S3]; have q := rp2_S3; omega)).symm.trans ((congrArg (fun q => aC2 q (aS 88 S)) (show (512 - l1.toInt - 1).toNat + 1 = (512 - l1.toInt).toNat by omega)).trans hi3)))), rp1_S5.2.trans (congrArg aFv (rp1_S3.trans ((aC2_n (k := (512 - l1.toInt - 1).toNat) (by rw [← rp1_S3]; have q := rp2_S3; omega)).symm.trans ((congrArg (fun q => aC2 q (aS 88 S)) (show (512 - l1.toInt - 1).toNat + 1 = (512 - l1.toInt).toNat by omega)).trans hi3))))⟩))
      · skip
        have g12 := i_ne h9
        refine sp_120_88_s (ab := (aS 88 S3)) (R := (mR S3 70)) ((512 : Int32)) (by omega) (by omega) (zJ87_dn hI_S3) (show xB S3 (mR S3 70) from by first | (exact xB_x (xC_o (W := 75) rp0_S3).2)) (show aS 88 S3 = (aS 88 S3) from by first | (exact rfl)) (by omega) (fun v8 S7 hL_S7 hp_v8 rp0_S7 rp1_S7 => zi_n ⟨zG_T hL_S7, ?_⟩)
        have hI_S7 := zJ87_up hI_S3 hL_S7
        have rp0_S7 : xB S7 (mR S3 70) := by
          have z := rp0_S7
          (try rw [show mI S3 65 = f 65 from funext (fun k => zG_z hI_S3 rfl)] at z)
          (try rw [show mI S3 64 1 = f 64 1 from zG_z hI_S3 rfl] at z)
          exact z
        have rp1_S7 : aS 88 S7 = aSp (512 : Int32).toInt.toNat (aS 88 S3) ∧ v8.toInt = (aSn (512 : Int32).toInt.toNat (aS 88 S3) : Int) := by
          have z := rp1_S7
          (try rw [show mI S3 65 = f 65 from funext (fun k => zG_z hI_S3 rfl)] at z)
          (try rw [show mI S3 64 1 = f 64 1 from zG_z hI_S3 rfl] at z)
          exact z
        first | have e13 : (l1 + (1 : Int32)).toInt = l1.toInt + (1) := i_addk rfl (by omega) (by omega) | have b14 := i_bd (l1 + (1 : Int32))
        exact IH _ (by omega) _ ((l1 + (1 : Int32))) rfl hI_S7 (by omega) (by omega) (show xB S7 (mR S7 70) from by first | (exact xB_x (xC_o (W := 75) rp0_S7).2)) (show aC2 (512 - ((l1 + (1 : Int32))).toInt).toNat (aS 88 S7) = aC1 ab from by first | (rw [rp1_S7.1, show (512 : Int32).toInt.toNat = 512 from rfl, rp1_S3]; refine ((aC2_y (by rw [← rp1_S3]; have q := rp2_S3; omega)).symm.trans (congrArg (fun q => aC2 q (aS 88 S)) ?_)).trans hi3; omega))
theorem sp_67_87_s {X : Nat × (Nat → Int32)} {d w : Nat} {f : Nat → Nat → Int32} {r : Nat → Nat → Option Nat} {C Z N : Nat} {Q : Option ma_V ⊕ Nat → ma_S → Prop} {ab : Nat→Nat→Int32} {S : ma_S}  (hd : 4 ≤ d) (hw : 92 ≤ w) (hI : zJ87 f r C Z N S) (hpre0 : xB S (mR S 70)) (hpre1 : aS 88 S = ab) (K : ∀ v S₉, zJ87 f r C Z N S₉ → (True) → (xB S₉ (mR S₉ 70)) → (aS 88 S₉ = aCl ab ∧ v = aFv (aC1 ab)) → Q (.inl (some (.inl v))) S₉) : ma_wp X d w 67 0 [(0, .inr (.inr (some 87)))] [] S Q := by
  refine g_67_87_s_0  (by omega) (by omega) (zG_T hI) ?_
  have f1 := zG_s hI (0) (1) (c := 87) (k := 8) (by decide)
  have li2 : (0 : Int32).toInt = 0 := rfl
  refine zd (fun h3 => ?_) (fun h3 => ?_)
  · skip
    have g4 := i_eq h3
    refine sp_68_87_s (ab := (aS 88 S)) (by omega) (by omega) hI (show xB S (mR S 70) from by first | (exact xB_x (xC_o (W := 75) hpre0).2)) (show aS 88 S = (aS 88 S) from by first | (exact rfl)) (fun S3 hI_S3 rp0_S3 rp1_S3 => zv_n ⟨zG_T hI_S3, ?_⟩)
    have rp0_S3 : xB S3 (mR S3 70) := rp0_S3
    have rp1_S3 : aS 88 S3 = aB0 (aS 88 S) := rp1_S3
    have li5 : (512 : Int32).toInt = 512 := rfl
    refine sp_120_88_s (ab := (aS 88 S3)) (R := (mR S3 70)) ((512 : Int32)) (by omega) (by omega) (zJ87_dn hI_S3) (show xB S3 (mR S3 70) from by first | (exact xB_x (xC_o (W := 75) rp0_S3).2)) (show aS 88 S3 = (aS 88 S3) from by first | (exact rfl)) (by omega) (fun v6 S5 hL_S5 hp_v6 rp0_S5 rp1_S5 => zi_n ⟨zG_T hL_S5, ?_⟩)
    have hI_S5 := zJ87_up hI_S3 hL_S5
    have rp0_S5 : xB S5 (mR S3 70) := by
      have z := rp0_S5
      (try rw [show mI S3 65 = f 65 from funext (fun k => zG_z hI_S3 rfl)] at z)
      (try rw [show mI S3 64 1 = f 64 1 from zG_z hI_S3 rfl] at z)
      exact z
    have rp1_S5 : aS 88 S5 = aSp (512 : Int32).toInt.toNat (aS 88 S3) ∧ v6.toInt = (aSn (512 : Int32).toInt.toNat (aS 88 S3) : Int) := by
      have z := rp1_S5
      (try rw [show mI S3 65 = f 65 from funext (fun k => zG_z hI_S3 rfl)] at z)
      (try rw [show mI S3 64 1 = f 64 1 from zG_z hI_S3 rfl] at z)
      exact z
    exact lp_67_87_s_24 (by omega) (by omega) K _ _ ((0 : Int32)) rfl hI_S5 (by omega) (by omega) (show xB S5 (mR S5 70) from by first | (exact xB_x (xC_o (W := 75) rp0_S5).2)) (show aC2 (512 - ((0 : Int32)).toInt).toNat (aS 88 S5) = aC1 ab from by first | (rw [rp1_S5.1, show (512 : Int32).toInt.toNat = 512 from rfl, rp1_S3, hpre1, ← aBg_y (by rw [← hpre1, (aS_I (W := 88) (S := S) (c := 87) (c₉ := 87) (k := 8) rfl rfl)]; assumption)]; rfl))
  · skip
    have g6 := i_ne h3
    have li7 : (512 : Int32).toInt = 512 := rfl
    refine sp_120_88_s (ab := (aS 88 S)) (R := (mR S 70)) ((512 : Int32)) (by omega) (by omega) (zJ87_dn hI) (show xB S (mR S 70) from by first | (exact xB_x (xC_o (W := 75) hpre0).2)) (show aS 88 S = (aS 88 S) from by first | (exact rfl)) (by omega) (fun v2 S1 hL_S1 hp_v2 rp0_S1 rp1_S1 => zi_n ⟨zG_T hL_S1, ?_⟩)
    have hI_S1 := zJ87_up hI hL_S1
    have rp0_S1 : xB S1 (mR S 70) := by
      have z := rp0_S1
      (try rw [show mI S 65 = f 65 from funext (fun k => zG_z hI rfl)] at z)
      (try rw [show mI S 64 1 = f 64 1 from zG_z hI rfl] at z)
      exact z
    have rp1_S1 : aS 88 S1 = aSp (512 : Int32).toInt.toNat (aS 88 S) ∧ v2.toInt = (aSn (512 : Int32).toInt.toNat (aS 88 S) : Int) := by
      have z := rp1_S1
      (try rw [show mI S 65 = f 65 from funext (fun k => zG_z hI rfl)] at z)
      (try rw [show mI S 64 1 = f 64 1 from zG_z hI rfl] at z)
      exact z
    exact lp_67_87_s_24 (by omega) (by omega) K _ _ ((0 : Int32)) rfl hI_S1 (by omega) (by omega) (show xB S1 (mR S1 70) from by first | (exact xB_x (xC_o (W := 75) rp0_S1).2)) (show aC2 (512 - ((0 : Int32)).toInt).toNat (aS 88 S1) = aC1 ab from by first | (rw [rp1_S1.1, show (512 : Int32).toInt.toNat = 512 from rfl, hpre1]; exact (congrArg (fun q => aC2 512 (aSp 512 q)) (aBg_n (by rw [← hpre1, (aS_I (W := 88) (S := S) (c := 87) (c₉ := 87) (k := 8) rfl rfl)]; assumption)).symm)))

