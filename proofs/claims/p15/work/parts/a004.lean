/-! from 93.b00 -/
/-! collectors, by what they keep (written by wip/tools/gen93b.py) -/
theorem g_264_80_0 {X : Nat × (Nat → Int32)} {d w : Nat} {S : ma_S} {Q : Option ma_V ⊕ Nat → ma_S → Prop}  (hd : 3 ≤ d) (hw : 72 ≤ w) (hS : zT S) (h : ma_wp X (d - 1) (w - 20) 116 0 [(0, .inr (.inr (some 75)))] [] S (zv (fun S1 => zT S1 ∧ (ma_wp X (d - 1) (w - 23) 83 0 [(0, .inr (.inr (some 69))), (1, .inr (.inr (some 75)))] [] S1 (zv (fun S3 => zT S3 ∧ (ma_wp X (d - 1) (w - 24) 86 0 [(0, .inr (.inr (some 69))), (1, .inr (.inr (some 75)))] [] S3 (zi (fun v6 S5 => zT S5 ∧ (Q (.inl (some (.inl v6))) S5)) (fun x S9 => Q (.inr x) S9)))) (fun x S9 => Q (.inr x) S9)))) (fun x S9 => Q (.inr x) S9))) : ma_wp X d w 264 0 [(0, .inr (.inr (some 80)))] [] S Q := by
  refine zw_push hm_264 dX1_removeUnreached_0 (v := .inr (.inr (some 80))) rfl ?_
  refine zw_gf hm_264 dX1_removeUnreached_1 (v := .inr (.inr (some 75))) (zT_is hS s_80) (zT_t hS s_80) rfl f_13_15_5 (zT_f hS r_80_1) ?_
  refine zw_cv hm_264 dX1_removeUnreached_4 v_13_19_10 hm_116 [] [] rfl (zT_rt hS s_75 rfl) ⟨by omega, by omega⟩ rfl (zw_mono h (zv_go ?_ ?_))
  · intro S1 hv
    obtain ⟨hS1, h⟩ := hv
    refine zw_push hm_264 dX1_removeUnreached_7 (v := .inr (.inr (some 80))) rfl ?_
    refine zw_gf hm_264 dX1_removeUnreached_8 (v := .inr (.inr (some 69))) (zT_is hS1 s_80) (zT_t hS1 s_80) rfl f_13_9_5 (zT_f hS1 r_80_0) ?_
    refine zw_push hm_264 dX1_removeUnreached_11 (v := .inr (.inr (some 80))) rfl ?_
    refine zw_gf hm_264 dX1_removeUnreached_12 (v := .inr (.inr (some 75))) (zT_is hS1 s_80) (zT_t hS1 s_80) rfl f_13_15_5 (zT_f hS1 r_80_1) ?_
    refine zw_cv hm_264 dX1_removeUnreached_15 v_13_24_7 hm_83 [.inr (.inr (some 75))] [] rfl (zT_rt hS1 s_69 rfl) ⟨by omega, by omega⟩ rfl (zw_mono h (zv_go ?_ ?_))
    · intro S3 hv
      obtain ⟨hS3, h⟩ := hv
      refine zw_push hm_264 dX1_removeUnreached_18 (v := .inr (.inr (some 80))) rfl ?_
      refine zw_gf hm_264 dX1_removeUnreached_19 (v := .inr (.inr (some 69))) (zT_is hS3 s_80) (zT_t hS3 s_80) rfl f_13_9_5 (zT_f hS3 r_80_0) ?_
      refine zw_push hm_264 dX1_removeUnreached_22 (v := .inr (.inr (some 80))) rfl ?_
      refine zw_gf hm_264 dX1_removeUnreached_23 (v := .inr (.inr (some 75))) (zT_is hS3 s_80) (zT_t hS3 s_80) rfl f_13_15_5 (zT_f hS3 r_80_1) ?_
      refine zw_cv hm_264 dX1_removeUnreached_26 v_13_30_7 hm_86 [.inr (.inr (some 75))] [] rfl (zT_rt hS3 s_69 rfl) ⟨by omega, by omega⟩ rfl (zw_mono h (zi_go ?_ ?_))
      · intro v6 S5 hv
        obtain ⟨hS5, h⟩ := hv
        exact zw_iret hm_264 dX1_removeUnreached_29 h
      · intro x S9 hx
        exact ⟨by decide, hx⟩
    · intro x S9 hx
      exact ⟨by decide, hx⟩
  · intro x S9 hx
    exact ⟨by decide, hx⟩
theorem sp_264_80 {X : Nat × (Nat → Int32)} {d w : Nat} {f : Nat → Nat → Int32} {r : Nat → Nat → Option Nat} {C Z N : Nat} {Q : Option ma_V ⊕ Nat → ma_S → Prop} {S : ma_S}  (hd : 3 ≤ d) (hw : 72 ≤ w) (hI : zI f r C Z N S)  (K : ∀ v S₉, zI f r C Z N S₉ → (True) → Q (.inl (some (.inl v))) S₉) : ma_wp X d w 264 0 [(0, .inr (.inr (some 80)))] [] S Q := by
  refine g_264_80_0  (by omega) (by omega) (zG_T hI) ?_
  refine sp_116_75  (by omega) (by omega) hI  (fun S1 hI_S1 => zv_n ⟨zG_T hI_S1, ?_⟩)
  refine sp_83_69_75  (by omega) (by omega) hI_S1  (fun S3 hI_S3 => zv_n ⟨zG_T hI_S3, ?_⟩)
  refine sp_86_69_75  (by omega) (by omega) hI_S3  (fun v6 S5 hI_S5 hp_v6 => zi_n ⟨zG_T hI_S5, ?_⟩)
  have b1 := i_bd v6
  exact K (v6) _ hI_S5 trivial
theorem g_264_81_0 {X : Nat × (Nat → Int32)} {d w : Nat} {S : ma_S} {Q : Option ma_V ⊕ Nat → ma_S → Prop}  (hd : 3 ≤ d) (hw : 72 ≤ w) (hS : zT S) (h : ma_wp X (d - 1) (w - 20) 116 0 [(0, .inr (.inr (some 75)))] [] S (zv (fun S1 => zT S1 ∧ (ma_wp X (d - 1) (w - 23) 83 0 [(0, .inr (.inr (some 69))), (1, .inr (.inr (some 75)))] [] S1 (zv (fun S3 => zT S3 ∧ (ma_wp X (d - 1) (w - 24) 86 0 [(0, .inr (.inr (some 69))), (1, .inr (.inr (some 75)))] [] S3 (zi (fun v6 S5 => zT S5 ∧ (Q (.inl (some (.inl v6))) S5)) (fun x S9 => Q (.inr x) S9)))) (fun x S9 => Q (.inr x) S9)))) (fun x S9 => Q (.inr x) S9))) : ma_wp X d w 264 0 [(0, .inr (.inr (some 81)))] [] S Q := by
  refine zw_push hm_264 dX1_removeUnreached_0 (v := .inr (.inr (some 81))) rfl ?_
  refine zw_gf hm_264 dX1_removeUnreached_1 (v := .inr (.inr (some 75))) (zT_is hS s_81) (zT_t hS s_81) rfl f_13_15_3 (zT_f hS r_81_1) ?_
  refine zw_cv hm_264 dX1_removeUnreached_4 v_13_19_10 hm_116 [] [] rfl (zT_rt hS s_75 rfl) ⟨by omega, by omega⟩ rfl (zw_mono h (zv_go ?_ ?_))
  · intro S1 hv
    obtain ⟨hS1, h⟩ := hv
    refine zw_push hm_264 dX1_removeUnreached_7 (v := .inr (.inr (some 81))) rfl ?_
    refine zw_gf hm_264 dX1_removeUnreached_8 (v := .inr (.inr (some 69))) (zT_is hS1 s_81) (zT_t hS1 s_81) rfl f_13_9_3 (zT_f hS1 r_81_0) ?_
    refine zw_push hm_264 dX1_removeUnreached_11 (v := .inr (.inr (some 81))) rfl ?_
    refine zw_gf hm_264 dX1_removeUnreached_12 (v := .inr (.inr (some 75))) (zT_is hS1 s_81) (zT_t hS1 s_81) rfl f_13_15_3 (zT_f hS1 r_81_1) ?_
    refine zw_cv hm_264 dX1_removeUnreached_15 v_13_24_7 hm_83 [.inr (.inr (some 75))] [] rfl (zT_rt hS1 s_69 rfl) ⟨by omega, by omega⟩ rfl (zw_mono h (zv_go ?_ ?_))
    · intro S3 hv
      obtain ⟨hS3, h⟩ := hv
      refine zw_push hm_264 dX1_removeUnreached_18 (v := .inr (.inr (some 81))) rfl ?_
      refine zw_gf hm_264 dX1_removeUnreached_19 (v := .inr (.inr (some 69))) (zT_is hS3 s_81) (zT_t hS3 s_81) rfl f_13_9_3 (zT_f hS3 r_81_0) ?_
      refine zw_push hm_264 dX1_removeUnreached_22 (v := .inr (.inr (some 81))) rfl ?_
      refine zw_gf hm_264 dX1_removeUnreached_23 (v := .inr (.inr (some 75))) (zT_is hS3 s_81) (zT_t hS3 s_81) rfl f_13_15_3 (zT_f hS3 r_81_1) ?_
      refine zw_cv hm_264 dX1_removeUnreached_26 v_13_30_7 hm_86 [.inr (.inr (some 75))] [] rfl (zT_rt hS3 s_69 rfl) ⟨by omega, by omega⟩ rfl (zw_mono h (zi_go ?_ ?_))
      · intro v6 S5 hv
        obtain ⟨hS5, h⟩ := hv
        exact zw_iret hm_264 dX1_removeUnreached_29 h
      · intro x S9 hx
        exact ⟨by decide, hx⟩
    · intro x S9 hx
      exact ⟨by decide, hx⟩
  · intro x S9 hx
    exact ⟨by decide, hx⟩
theorem sp_264_81 {X : Nat × (Nat → Int32)} {d w : Nat} {f : Nat → Nat → Int32} {r : Nat → Nat → Option Nat} {C Z N : Nat} {Q : Option ma_V ⊕ Nat → ma_S → Prop} {S : ma_S}  (hd : 3 ≤ d) (hw : 72 ≤ w) (hI : zI f r C Z N S)  (K : ∀ v S₉, zI f r C Z N S₉ → (True) → Q (.inl (some (.inl v))) S₉) : ma_wp X d w 264 0 [(0, .inr (.inr (some 81)))] [] S Q := by
  refine g_264_81_0  (by omega) (by omega) (zG_T hI) ?_
  refine sp_116_75  (by omega) (by omega) hI  (fun S1 hI_S1 => zv_n ⟨zG_T hI_S1, ?_⟩)
  refine sp_83_69_75  (by omega) (by omega) hI_S1  (fun S3 hI_S3 => zv_n ⟨zG_T hI_S3, ?_⟩)
  refine sp_86_69_75  (by omega) (by omega) hI_S3  (fun v6 S5 hI_S5 hp_v6 => zi_n ⟨zG_T hI_S5, ?_⟩)
  have b1 := i_bd v6
  exact K (v6) _ hI_S5 trivial
theorem g_264_91_0 {X : Nat × (Nat → Int32)} {d w : Nat} {S : ma_S} {Q : Option ma_V ⊕ Nat → ma_S → Prop}  (hd : 3 ≤ d) (hw : 72 ≤ w) (hS : zT S) (h : ma_wp X (d - 1) (w - 20) 116 0 [(0, .inr (.inr (some 75)))] [] S (zv (fun S1 => zT S1 ∧ (ma_wp X (d - 1) (w - 23) 83 0 [(0, .inr (.inr (some 69))), (1, .inr (.inr (some 75)))] [] S1 (zv (fun S3 => zT S3 ∧ (ma_wp X (d - 1) (w - 24) 86 0 [(0, .inr (.inr (some 69))), (1, .inr (.inr (some 75)))] [] S3 (zi (fun v6 S5 => zT S5 ∧ (Q (.inl (some (.inl v6))) S5)) (fun x S9 => Q (.inr x) S9)))) (fun x S9 => Q (.inr x) S9)))) (fun x S9 => Q (.inr x) S9))) : ma_wp X d w 264 0 [(0, .inr (.inr (some 91)))] [] S Q := by
  refine zw_push hm_264 dX1_removeUnreached_0 (v := .inr (.inr (some 91))) rfl ?_
  refine zw_gf hm_264 dX1_removeUnreached_1 (v := .inr (.inr (some 75))) (zT_is hS s_91) (zT_t hS s_91) rfl f_13_15_4 (zT_f hS r_91_1) ?_
  refine zw_cv hm_264 dX1_removeUnreached_4 v_13_19_10 hm_116 [] [] rfl (zT_rt hS s_75 rfl) ⟨by omega, by omega⟩ rfl (zw_mono h (zv_go ?_ ?_))
  · intro S1 hv
    obtain ⟨hS1, h⟩ := hv
    refine zw_push hm_264 dX1_removeUnreached_7 (v := .inr (.inr (some 91))) rfl ?_
    refine zw_gf hm_264 dX1_removeUnreached_8 (v := .inr (.inr (some 69))) (zT_is hS1 s_91) (zT_t hS1 s_91) rfl f_13_9_4 (zT_f hS1 r_91_0) ?_
    refine zw_push hm_264 dX1_removeUnreached_11 (v := .inr (.inr (some 91))) rfl ?_
    refine zw_gf hm_264 dX1_removeUnreached_12 (v := .inr (.inr (some 75))) (zT_is hS1 s_91) (zT_t hS1 s_91) rfl f_13_15_4 (zT_f hS1 r_91_1) ?_
    refine zw_cv hm_264 dX1_removeUnreached_15 v_13_24_7 hm_83 [.inr (.inr (some 75))] [] rfl (zT_rt hS1 s_69 rfl) ⟨by omega, by omega⟩ rfl (zw_mono h (zv_go ?_ ?_))
    · intro S3 hv
      obtain ⟨hS3, h⟩ := hv
      refine zw_push hm_264 dX1_removeUnreached_18 (v := .inr (.inr (some 91))) rfl ?_
      refine zw_gf hm_264 dX1_removeUnreached_19 (v := .inr (.inr (some 69))) (zT_is hS3 s_91) (zT_t hS3 s_91) rfl f_13_9_4 (zT_f hS3 r_91_0) ?_
      refine zw_push hm_264 dX1_removeUnreached_22 (v := .inr (.inr (some 91))) rfl ?_
      refine zw_gf hm_264 dX1_removeUnreached_23 (v := .inr (.inr (some 75))) (zT_is hS3 s_91) (zT_t hS3 s_91) rfl f_13_15_4 (zT_f hS3 r_91_1) ?_
      refine zw_cv hm_264 dX1_removeUnreached_26 v_13_30_7 hm_86 [.inr (.inr (some 75))] [] rfl (zT_rt hS3 s_69 rfl) ⟨by omega, by omega⟩ rfl (zw_mono h (zi_go ?_ ?_))
      · intro v6 S5 hv
        obtain ⟨hS5, h⟩ := hv
        exact zw_iret hm_264 dX1_removeUnreached_29 h
      · intro x S9 hx
        exact ⟨by decide, hx⟩
    · intro x S9 hx
      exact ⟨by decide, hx⟩
  · intro x S9 hx
    exact ⟨by decide, hx⟩
theorem sp_264_91 {X : Nat × (Nat → Int32)} {d w : Nat} {f : Nat → Nat → Int32} {r : Nat → Nat → Option Nat} {C Z N : Nat} {Q : Option ma_V ⊕ Nat → ma_S → Prop} {S : ma_S}  (hd : 3 ≤ d) (hw : 72 ≤ w) (hI : zI f r C Z N S)  (K : ∀ v S₉, zI f r C Z N S₉ → (True) → Q (.inl (some (.inl v))) S₉) : ma_wp X d w 264 0 [(0, .inr (.inr (some 91)))] [] S Q := by
  refine g_264_91_0  (by omega) (by omega) (zG_T hI) ?_
  refine sp_116_75  (by omega) (by omega) hI  (fun S1 hI_S1 => zv_n ⟨zG_T hI_S1, ?_⟩)
  refine sp_83_69_75  (by omega) (by omega) hI_S1  (fun S3 hI_S3 => zv_n ⟨zG_T hI_S3, ?_⟩)
  refine sp_86_69_75  (by omega) (by omega) hI_S3  (fun v6 S5 hI_S5 hp_v6 => zi_n ⟨zG_T hI_S5, ?_⟩)
  have b1 := i_bd v6
  exact K (v6) _ hI_S5 trivial
theorem g_263_80_0 {X : Nat × (Nat → Int32)} {d w : Nat} {S : ma_S} {Q : Option ma_V ⊕ Nat → ma_S → Prop} (n : Int32) (hd : 2 ≤ d) (hw : 92 ≤ w) (hS : zT S) (h : ma_wp X d w 263 4 [(0, .inr (.inr (some 80))), (1, .inl n), (2, .inl (0 : Int32)), (3, .inl (0 : Int32))] [] S Q) : ma_wp X d w 263 0 [(0, .inr (.inr (some 80))), (1, .inl n)] [] S Q := by
  refine zw_push hm_263 dX1_slideDown_0 (v := .inl (0 : Int32)) rfl ?_
  refine zw_sto hm_263 dX1_slideDown_1 [(2, .inl (0 : Int32)), (0, .inr (.inr (some 80))), (1, .inl n)] rfl rfl rfl ?_
  refine zw_push hm_263 dX1_slideDown_2 (v := .inl (0 : Int32)) rfl ?_
  refine zw_sto hm_263 dX1_slideDown_3 [(3, .inl (0 : Int32)), (2, .inl (0 : Int32)), (0, .inr (.inr (some 80))), (1, .inl n)] rfl rfl rfl ?_
  exact zw_sub (ma_nd_of (ks := [0, 1, 2, 3]) rfl (by decide)) (ma_nd_of (ks := [3, 2, 0, 1]) rfl (by decide)) (ma_le_cons rfl (ma_le_cons rfl (ma_le_cons rfl (ma_le_cons rfl (ma_le_nil _))))) h
theorem g_263_80_4 {X : Nat × (Nat → Int32)} {d w : Nat} {S : ma_S} {Q : Option ma_V ⊕ Nat → ma_S → Prop} (l1 : Int32) (l2 : Int32) (l3 : Int32) (hd : 2 ≤ d) (hw : 114 ≤ w) (hS : zT S) (h : if l1 ≤ l3 then (Q (.inl (some (.inl l2))) S) else (if l3 < 0 then (ma_wp X d w 263 4 [(0, .inr (.inr (some 80))), (1, .inl l1), (2, .inl l2), (3, .inl (l3 + (1 : Int32)))] [] S Q) else (if (4500 : Int32) ≤ l3 then (ma_wp X d w 263 4 [(0, .inr (.inr (some 80))), (1, .inl l1), (2, .inl l2), (3, .inl (l3 + (1 : Int32)))] [] S Q) else ((0 ≤ l3 ∧ l3.toNatClampNeg < 4500) ∧ (if (mI S 71 l3.toNatClampNeg) < 0 then (ma_wp X d w 263 4 [(0, .inr (.inr (some 80))), (1, .inl l1), (2, .inl l2), (3, .inl (l3 + (1 : Int32)))] [] S Q) else (if (512 : Int32) ≤ (mI S 71 l3.toNatClampNeg) then (ma_wp X d w 263 4 [(0, .inr (.inr (some 80))), (1, .inl l1), (2, .inl l2), (3, .inl (l3 + (1 : Int32)))] [] S Q) else ((0 ≤ (mI S 71 l3.toNatClampNeg) ∧ (mI S 71 l3.toNatClampNeg).toNatClampNeg < 512) ∧ (((mR S 70 (mI S 71 l3.toNatClampNeg).toNatClampNeg) = none → ma_wp X d w 263 4 [(0, .inr (.inr (some 80))), (1, .inl l1), (2, .inl l2), (3, .inl (l3 + (1 : Int32)))] [] S Q) ∧ (∀ c1, (mR S 70 (mI S 71 l3.toNatClampNeg).toNatClampNeg) = some c1 → (126 ≤ c1 ∧ c1 < mN S) ∧ ((126 ≤ c1 ∧ c1 < mN S) ∧ (if (mI S c1 7) = 0 then (ma_wp X (d - 1) (w - 24) 90 0 [(0, .inr (.inr (some 69))), (1, .inr (.inr (some c1))), (2, .inl l2)] [] S (zv (fun S2 => zT S2 ∧ ((126 ≤ c1 ∧ c1 < mN S2) ∧ ((126 ≤ c1 ∧ c1 < mN S2) ∧ (ma_wp X d w 263 4 [(0, .inr (.inr (some 80))), (1, .inl l1), (2, .inl ((mI S2 c1 4) + (mI S2 c1 2))), (3, .inl (l3 + (mI S c1 2)))] [] S2 Q)))) (fun x S9 => Q (.inr x) S9))) else ((126 ≤ c1 ∧ c1 < mN S) ∧ ((126 ≤ c1 ∧ c1 < mN S) ∧ (ma_wp X d w 263 4 [(0, .inr (.inr (some 80))), (1, .inl l1), (2, .inl ((mI S c1 4) + (mI S c1 2))), (3, .inl (l3 + (mI S c1 2)))] [] S Q)))))))))))))) : ma_wp X d w 263 4 [(0, .inr (.inr (some 80))), (1, .inl l1), (2, .inl l2), (3, .inl l3)] [] S Q := by
  refine zw_push hm_263 dX1_slideDown_4 (v := .inl l3) rfl ?_
  refine zw_push hm_263 dX1_slideDown_5 (v := .inl l1) rfl ?_
  refine zw_if2 hm_263 dX1_slideDown_6 (t := 71) rfl zc2_ge ?_ ?_
  · intro hc
    rw [if_pos hc] at h
    refine zw_push hm_263 dX1_slideDown_71 (v := .inl l2) rfl ?_
    exact zw_iret hm_263 dX1_slideDown_72 h
  · intro hc
    rw [if_neg hc] at h
    refine zw_push hm_263 dX1_slideDown_9 (v := .inr (.inr (some 80))) rfl ?_
    refine zw_gf hm_263 dX1_slideDown_10 (v := .inr (.inr (some 69))) (zT_is hS s_80) (zT_t hS s_80) rfl f_13_9_5 (zT_f hS r_80_0) ?_
    refine zw_push hm_263 dX1_slideDown_13 (v := .inl l3) rfl ?_
    refine zw_cv hm_263 dX1_slideDown_14 v_13_34_7 hm_89 [.inl l3] [] rfl (zT_rt hS s_69 rfl) ⟨by omega, by omega⟩ rfl ?_
    show ma_wp X (d - 1) (w - 22) 89 0 [(0, .inr (.inr (some 69))), (1, .inl l3)] [] S _
    refine zw_push hm_89 dX7_thingFrom_0 (v := .inl l3) rfl ?_
    refine zw_if0 hm_89 dX7_thingFrom_1 (t := 20) rfl zc0_lt ?_ ?_
    · intro hc
      rw [if_pos hc] at h
      refine zw_push hm_89 dX7_thingFrom_20 (v := .inl (-1 : Int32)) rfl ?_
      refine zw_sto hm_89 dX7_thingFrom_21 [(2, .inl (-1 : Int32)), (0, .inr (.inr (some 69))), (1, .inl l3)] rfl rfl rfl ?_
      refine zw_push hm_89 dX7_thingFrom_22 (v := .inl (-1 : Int32)) rfl ?_
      refine zw_if0 hm_89 dX7_thingFrom_23 (t := 42) rfl zc0_lt (fun _ => ?_) (fun hc => absurd (by decide) hc)
      refine zw_push hm_89 dX7_thingFrom_42 (v := .inr (.inr none)) rfl ?_
      refine zw_aret hm_89 dX7_thingFrom_43 ?_
      show ma_wp X d w 263 17 [(0, .inr (.inr (some 80))), (1, .inl l1), (2, .inl l2), (3, .inl l3)] [.inr (.inr none)] S _
      refine zw_sto hm_263 dX1_slideDown_17 [(4, .inr (.inr none)), (0, .inr (.inr (some 80))), (1, .inl l1), (2, .inl l2), (3, .inl l3)] rfl rfl rfl ?_
      refine zw_push hm_263 dX1_slideDown_19 (v := .inr (.inr none)) rfl ?_
      refine zw_ifnonnull hm_263 dX1_slideDown_21 (t := 30) rfl (fun _ => ?_) (fun _ z => by cases z)
      refine zw_sto hm_263 dX1_slideDown_24 [(3, .inl (l3 + (1 : Int32))), (4, .inr (.inr none)), (0, .inr (.inr (some 80))), (1, .inl l1), (2, .inl l2)] rfl rfl rfl ?_
      refine zw_goto hm_263 dX1_slideDown_27 (t := 68) rfl ?_
      refine zw_goto hm_263 dX1_slideDown_68 (t := 4) rfl ?_
      exact zw_sub (ma_nd_of (ks := [0, 1, 2, 3]) rfl (by decide)) (ma_nd_of (ks := [3, 4, 0, 1, 2]) rfl (by decide)) (ma_le_cons rfl (ma_le_cons rfl (ma_le_cons rfl (ma_le_cons rfl (ma_le_nil _))))) h
    · intro hc
      rw [if_neg hc] at h
      refine zw_push hm_89 dX7_thingFrom_4 (v := .inl l3) rfl ?_
      refine zw_push hm_89 dX7_thingFrom_5 (v := .inl (4500 : Int32)) rfl ?_
      refine zw_if2 hm_89 dX7_thingFrom_8 (t := 20) rfl zc2_ge ?_ ?_
      · intro hc
        rw [if_pos hc] at h
        refine zw_push hm_89 dX7_thingFrom_20 (v := .inl (-1 : Int32)) rfl ?_
        refine zw_sto hm_89 dX7_thingFrom_21 [(2, .inl (-1 : Int32)), (0, .inr (.inr (some 69))), (1, .inl l3)] rfl rfl rfl ?_
        refine zw_push hm_89 dX7_thingFrom_22 (v := .inl (-1 : Int32)) rfl ?_
        refine zw_if0 hm_89 dX7_thingFrom_23 (t := 42) rfl zc0_lt (fun _ => ?_) (fun hc => absurd (by decide) hc)
        refine zw_push hm_89 dX7_thingFrom_42 (v := .inr (.inr none)) rfl ?_
        refine zw_aret hm_89 dX7_thingFrom_43 ?_
        show ma_wp X d w 263 17 [(0, .inr (.inr (some 80))), (1, .inl l1), (2, .inl l2), (3, .inl l3)] [.inr (.inr none)] S _
        refine zw_sto hm_263 dX1_slideDown_17 [(4, .inr (.inr none)), (0, .inr (.inr (some 80))), (1, .inl l1), (2, .inl l2), (3, .inl l3)] rfl rfl rfl ?_
        refine zw_push hm_263 dX1_slideDown_19 (v := .inr (.inr none)) rfl ?_
        refine zw_ifnonnull hm_263 dX1_slideDown_21 (t := 30) rfl (fun _ => ?_) (fun _ z => by cases z)
        refine zw_sto hm_263 dX1_slideDown_24 [(3, .inl (l3 + (1 : Int32))), (4, .inr (.inr none)), (0, .inr (.inr (some 80))), (1, .inl l1), (2, .inl l2)] rfl rfl rfl ?_
        refine zw_goto hm_263 dX1_slideDown_27 (t := 68) rfl ?_
        refine zw_goto hm_263 dX1_slideDown_68 (t := 4) rfl ?_
        exact zw_sub (ma_nd_of (ks := [0, 1, 2, 3]) rfl (by decide)) (ma_nd_of (ks := [3, 4, 0, 1, 2]) rfl (by decide)) (ma_le_cons rfl (ma_le_cons rfl (ma_le_cons rfl (ma_le_cons rfl (ma_le_nil _))))) h
      · intro hc
        rw [if_neg hc] at h
        refine zw_push hm_89 dX7_thingFrom_11 (v := .inr (.inr (some 69))) rfl ?_
        refine zw_gf hm_89 dX7_thingFrom_12 (v := .inr (.inr (some 71))) (zT_is hS s_69) (zT_t hS s_69) rfl f_7_17_7 (zT_f hS r_69_1) ?_
        refine zw_push hm_89 dX7_thingFrom_15 (v := .inl l3) rfl ?_
        obtain ⟨hg, h⟩ := h
        refine zw_ia hm_89 dX7_thingFrom_16 (zT_is hS s_71) (zT_h hS s_71) rfl hg ?_
        show ma_wp X (d - 1) (w - 22) 89 17 [(0, .inr (.inr (some 69))), (1, .inl l3)] [.inl (mI S 71 l3.toNatClampNeg)] S _
        refine zw_goto hm_89 dX7_thingFrom_17 (t := 21) rfl ?_
        refine zw_sto hm_89 dX7_thingFrom_21 [(2, .inl (mI S 71 l3.toNatClampNeg)), (0, .inr (.inr (some 69))), (1, .inl l3)] rfl rfl rfl ?_
        refine zw_push hm_89 dX7_thingFrom_22 (v := .inl (mI S 71 l3.toNatClampNeg)) rfl ?_
        refine zw_if0 hm_89 dX7_thingFrom_23 (t := 42) rfl zc0_lt ?_ ?_
        · intro hc
          rw [if_pos hc] at h
          refine zw_push hm_89 dX7_thingFrom_42 (v := .inr (.inr none)) rfl ?_
          refine zw_aret hm_89 dX7_thingFrom_43 ?_
          show ma_wp X d w 263 17 [(0, .inr (.inr (some 80))), (1, .inl l1), (2, .inl l2), (3, .inl l3)] [.inr (.inr none)] S _
          refine zw_sto hm_263 dX1_slideDown_17 [(4, .inr (.inr none)), (0, .inr (.inr (some 80))), (1, .inl l1), (2, .inl l2), (3, .inl l3)] rfl rfl rfl ?_
          refine zw_push hm_263 dX1_slideDown_19 (v := .inr (.inr none)) rfl ?_
          refine zw_ifnonnull hm_263 dX1_slideDown_21 (t := 30) rfl (fun _ => ?_) (fun _ z => by cases z)
          refine zw_sto hm_263 dX1_slideDown_24 [(3, .inl (l3 + (1 : Int32))), (4, .inr (.inr none)), (0, .inr (.inr (some 80))), (1, .inl l1), (2, .inl l2)] rfl rfl rfl ?_
          refine zw_goto hm_263 dX1_slideDown_27 (t := 68) rfl ?_
          refine zw_goto hm_263 dX1_slideDown_68 (t := 4) rfl ?_
          exact zw_sub (ma_nd_of (ks := [0, 1, 2, 3]) rfl (by decide)) (ma_nd_of (ks := [3, 4, 0, 1, 2]) rfl (by decide)) (ma_le_cons rfl (ma_le_cons rfl (ma_le_cons rfl (ma_le_cons rfl (ma_le_nil _))))) h
        · intro hc
          rw [if_neg hc] at h
          refine zw_push hm_89 dX7_thingFrom_26 (v := .inl (mI S 71 l3.toNatClampNeg)) rfl ?_
          refine zw_push hm_89 dX7_thingFrom_27 (v := .inl (512 : Int32)) rfl ?_
          refine zw_if2 hm_89 dX7_thingFrom_30 (t := 42) rfl zc2_ge ?_ ?_
          · intro hc
            rw [if_pos hc] at h
            refine zw_push hm_89 dX7_thingFrom_42 (v := .inr (.inr none)) rfl ?_
            refine zw_aret hm_89 dX7_thingFrom_43 ?_
            show ma_wp X d w 263 17 [(0, .inr (.inr (some 80))), (1, .inl l1), (2, .inl l2), (3, .inl l3)] [.inr (.inr none)] S _
            refine zw_sto hm_263 dX1_slideDown_17 [(4, .inr (.inr none)), (0, .inr (.inr (some 80))), (1, .inl l1), (2, .inl l2), (3, .inl l3)] rfl rfl rfl ?_
            refine zw_push hm_263 dX1_slideDown_19 (v := .inr (.inr none)) rfl ?_
            refine zw_ifnonnull hm_263 dX1_slideDown_21 (t := 30) rfl (fun _ => ?_) (fun _ z => by cases z)
            refine zw_sto hm_263 dX1_slideDown_24 [(3, .inl (l3 + (1 : Int32))), (4, .inr (.inr none)), (0, .inr (.inr (some 80))), (1, .inl l1), (2, .inl l2)] rfl rfl rfl ?_
            refine zw_goto hm_263 dX1_slideDown_27 (t := 68) rfl ?_
            refine zw_goto hm_263 dX1_slideDown_68 (t := 4) rfl ?_
            exact zw_sub (ma_nd_of (ks := [0, 1, 2, 3]) rfl (by decide)) (ma_nd_of (ks := [3, 4, 0, 1, 2]) rfl (by decide)) (ma_le_cons rfl (ma_le_cons rfl (ma_le_cons rfl (ma_le_cons rfl (ma_le_nil _))))) h
          · intro hc
            rw [if_neg hc] at h
            refine zw_push hm_89 dX7_thingFrom_33 (v := .inr (.inr (some 69))) rfl ?_
            refine zw_gf hm_89 dX7_thingFrom_34 (v := .inr (.inr (some 70))) (zT_is hS s_69) (zT_t hS s_69) rfl f_7_11_7 (zT_f hS r_69_0) ?_
            refine zw_push hm_89 dX7_thingFrom_37 (v := .inl (mI S 71 l3.toNatClampNeg)) rfl ?_
            obtain ⟨hg, h⟩ := h
            refine zw_aa hm_89 dX7_thingFrom_38 (zT_is hS s_70) (zT_h hS s_70) rfl rfl hg rfl ?_
            show ma_wp X (d - 1) (w - 22) 89 39 [(2, .inl (mI S 71 l3.toNatClampNeg)), (0, .inr (.inr (some 69))), (1, .inl l3)] [.inr (.inr (mR S 70 (mI S 71 l3.toNatClampNeg).toNatClampNeg))] S _
            refine zw_goto hm_89 dX7_thingFrom_39 (t := 43) rfl ?_
            refine zw_aret hm_89 dX7_thingFrom_43 ?_
            show ma_wp X d w 263 17 [(0, .inr (.inr (some 80))), (1, .inl l1), (2, .inl l2), (3, .inl l3)] [.inr (.inr (mR S 70 (mI S 71 l3.toNatClampNeg).toNatClampNeg))] S _
            refine zw_sto hm_263 dX1_slideDown_17 [(4, .inr (.inr (mR S 70 (mI S 71 l3.toNatClampNeg).toNatClampNeg))), (0, .inr (.inr (some 80))), (1, .inl l1), (2, .inl l2), (3, .inl l3)] rfl rfl rfl ?_
            refine zw_push hm_263 dX1_slideDown_19 (v := .inr (.inr (mR S 70 (mI S 71 l3.toNatClampNeg).toNatClampNeg))) rfl ?_
            refine zw_ifnonnull hm_263 dX1_slideDown_21 (t := 30) rfl ?_ ?_
            · intro hc
              have h := h.1 hc
              (try rw [hc])
              show ma_wp X d w 263 24 [(4, .inr (.inr none)), (0, .inr (.inr (some 80))), (1, .inl l1), (2, .inl l2), (3, .inl l3)] [] S _
              refine zw_sto hm_263 dX1_slideDown_24 [(3, .inl (l3 + (1 : Int32))), (4, .inr (.inr none)), (0, .inr (.inr (some 80))), (1, .inl l1), (2, .inl l2)] rfl rfl rfl ?_
              refine zw_goto hm_263 dX1_slideDown_27 (t := 68) rfl ?_
              refine zw_goto hm_263 dX1_slideDown_68 (t := 4) rfl ?_
              exact zw_sub (ma_nd_of (ks := [0, 1, 2, 3]) rfl (by decide)) (ma_nd_of (ks := [3, 4, 0, 1, 2]) rfl (by decide)) (ma_le_cons rfl (ma_le_cons rfl (ma_le_cons rfl (ma_le_cons rfl (ma_le_nil _))))) h
            · intro c1 hc
              have h := h.2 c1 hc
              (try rw [hc])
              show ma_wp X d w 263 30 [(4, .inr (.inr (some c1))), (0, .inr (.inr (some 80))), (1, .inl l1), (2, .inl l2), (3, .inl l3)] [] S _
              refine zw_push hm_263 dX1_slideDown_30 (v := .inl l3) rfl ?_
              refine zw_push hm_263 dX1_slideDown_31 (v := .inr (.inr (some c1))) rfl ?_
              obtain ⟨hg, h⟩ := h
              refine zw_gf hm_263 dX1_slideDown_33 (v := .inl (mI S c1 2)) (zT_tis hS hg) (zT_tt hS hg) rfl f_13_38_9 rfl ?_
              refine zw_stk hm_263 dX1_slideDown_36 (st₉ := [.inl (l3 + (mI S c1 2))]) rfl rfl ?_
              refine zw_sto hm_263 dX1_slideDown_37 [(3, .inl (l3 + (mI S c1 2))), (4, .inr (.inr (some c1))), (0, .inr (.inr (some 80))), (1, .inl l1), (2, .inl l2)] rfl rfl rfl ?_
              refine zw_push hm_263 dX1_slideDown_38 (v := .inr (.inr (some c1))) rfl ?_
              obtain ⟨hg, h⟩ := h
              refine zw_gf hm_263 dX1_slideDown_40 (v := .inl (mI S c1 7)) (zT_tis hS hg) (zT_tt hS hg) rfl f_13_44_9 rfl ?_
              refine zw_if0 hm_263 dX1_slideDown_43 (t := 56) rfl zc0_ne ?_ ?_
              · intro hc
                rw [if_neg hc] at h
                refine zw_push hm_263 dX1_slideDown_56 (v := .inr (.inr (some c1))) rfl ?_
                obtain ⟨hg, h⟩ := h
                refine zw_gf hm_263 dX1_slideDown_58 (v := .inl (mI S c1 4)) (zT_tis hS hg) (zT_tt hS hg) rfl f_13_51_9 rfl ?_
                refine zw_push hm_263 dX1_slideDown_61 (v := .inr (.inr (some c1))) rfl ?_
                obtain ⟨hg, h⟩ := h
                refine zw_gf hm_263 dX1_slideDown_63 (v := .inl (mI S c1 2)) (zT_tis hS hg) (zT_tt hS hg) rfl f_13_38_9 rfl ?_
                refine zw_stk hm_263 dX1_slideDown_66 (st₉ := [.inl ((mI S c1 4) + (mI S c1 2))]) rfl rfl ?_
                refine zw_sto hm_263 dX1_slideDown_67 [(2, .inl ((mI S c1 4) + (mI S c1 2))), (3, .inl (l3 + (mI S c1 2))), (4, .inr (.inr (some c1))), (0, .inr (.inr (some 80))), (1, .inl l1)] rfl rfl rfl ?_
                refine zw_goto hm_263 dX1_slideDown_68 (t := 4) rfl ?_
                exact zw_sub (ma_nd_of (ks := [0, 1, 2, 3]) rfl (by decide)) (ma_nd_of (ks := [2, 3, 4, 0, 1]) rfl (by decide)) (ma_le_cons rfl (ma_le_cons rfl (ma_le_cons rfl (ma_le_cons rfl (ma_le_nil _))))) h
              · intro hc
                rw [if_pos (Classical.not_not.mp hc)] at h
                refine zw_push hm_263 dX1_slideDown_46 (v := .inr (.inr (some 80))) rfl ?_
                refine zw_gf hm_263 dX1_slideDown_47 (v := .inr (.inr (some 69))) (zT_is hS s_80) (zT_t hS s_80) rfl f_13_9_5 (zT_f hS r_80_0) ?_
                refine zw_push hm_263 dX1_slideDown_50 (v := .inr (.inr (some c1))) rfl ?_
                refine zw_push hm_263 dX1_slideDown_52 (v := .inl l2) rfl ?_
                refine zw_cv hm_263 dX1_slideDown_53 v_13_47_7 hm_90 [.inl l2, .inr (.inr (some c1))] [] rfl (zT_rt hS s_69 rfl) ⟨by omega, by omega⟩ rfl (zw_mono h (zv_go ?_ ?_))
                · intro S2 hv
                  obtain ⟨hS2, h⟩ := hv
                  refine zw_push hm_263 dX1_slideDown_56 (v := .inr (.inr (some c1))) rfl ?_
                  obtain ⟨hg, h⟩ := h
                  refine zw_gf hm_263 dX1_slideDown_58 (v := .inl (mI S2 c1 4)) (zT_tis hS2 hg) (zT_tt hS2 hg) rfl f_13_51_9 rfl ?_
                  refine zw_push hm_263 dX1_slideDown_61 (v := .inr (.inr (some c1))) rfl ?_
                  obtain ⟨hg, h⟩ := h
                  refine zw_gf hm_263 dX1_slideDown_63 (v := .inl (mI S2 c1 2)) (zT_tis hS2 hg) (zT_tt hS2 hg) rfl f_13_38_9 rfl ?_
                  refine zw_stk hm_263 dX1_slideDown_66 (st₉ := [.inl ((mI S2 c1 4) + (mI S2 c1 2))]) rfl rfl ?_
                  refine zw_sto hm_263 dX1_slideDown_67 [(2, .inl ((mI S2 c1 4) + (mI S2 c1 2))), (3, .inl (l3 + (mI S c1 2))), (4, .inr (.inr (some c1))), (0, .inr (.inr (some 80))), (1, .inl l1)] rfl rfl rfl ?_
                  refine zw_goto hm_263 dX1_slideDown_68 (t := 4) rfl ?_
                  exact zw_sub (ma_nd_of (ks := [0, 1, 2, 3]) rfl (by decide)) (ma_nd_of (ks := [2, 3, 4, 0, 1]) rfl (by decide)) (ma_le_cons rfl (ma_le_cons rfl (ma_le_cons rfl (ma_le_cons rfl (ma_le_nil _))))) h
                · intro x S9 hx
                  exact ⟨by decide, hx⟩
theorem lp_263_80_4 {X : Nat × (Nat → Int32)} {d w : Nat} {f : Nat → Nat → Int32} {r : Nat → Nat → Option Nat} {C Z N : Nat} {Q : Option ma_V ⊕ Nat → ma_S → Prop} (hd : 2 ≤ d) (hw : 114 ≤ w) (K : ∀ v S₉, zI f r C Z N S₉ → (0 ≤ v.toInt ∧ v.toInt ≤ 300000) → Q (.inl (some (.inl v))) S₉) : ∀ (n : Nat) (S : ma_S) (l1 : Int32) (l2 : Int32) (l3 : Int32), (l1.toInt - l3.toInt).toNat = n → zI f r C Z N S → (0 ≤ l2.toInt) → (l2.toInt ≤ 300000) → (l1.toInt ≤ 1500) → (0 ≤ l3.toInt) → ma_wp X d w 263 4 [(0, .inr (.inr (some 80))), (1, .inl l1), (2, .inl l2), (3, .inl l3)] [] S Q := by
  intro n
  induction n using Nat.strongRecOn with
  | _ n IH =>
    intro S l1 l2 l3 hmu hI  hi0 hi1 hi2 hi3
    refine g_263_80_4 l1 l2 l3 (by omega) (by omega) (zG_T hI) ?_
    have b1 := i_bd l1
    have b2 := i_bd l3
    refine zd (fun h3 => ?_) (fun h3 => ?_)
    · skip
      have g4 := i_le h3
      have b5 := i_bd l2
      exact K (l2) _ hI (by omega)
    · skip
      have g6 := i_nle h3
      have li7 : (0 : Int32).toInt = 0 := rfl
      refine zd (fun h8 => ?_) (fun h8 => ?_)
      · skip
        have g9 := i_lt h8
        have b10 := i_bd l2
        first | have e11 : (l3 + (1 : Int32)).toInt = l3.toInt + (1) := i_addk rfl (by omega) (by omega) | have b12 := i_bd (l3 + (1 : Int32))
        exact IH _ (by omega) _ (l1) (l2) ((l3 + (1 : Int32))) rfl hI (by omega) (by omega) (by omega) (by omega)
      · skip
        have g13 := i_nlt h8
        have li14 : (4500 : Int32).toInt = 4500 := rfl
        refine zd (fun h15 => ?_) (fun h15 => ?_)
        · skip
          have g16 := i_le h15
          have b17 := i_bd l2
          first | have e18 : (l3 + (1 : Int32)).toInt = l3.toInt + (1) := i_addk rfl (by omega) (by omega) | have b19 := i_bd (l3 + (1 : Int32))
          exact IH _ (by omega) _ (l1) (l2) ((l3 + (1 : Int32))) rfl hI (by omega) (by omega) (by omega) (by omega)
        · skip
          have g20 := i_nle h15
          refine ⟨i_ix (by omega) (by omega), ?_⟩
          have b21 := i_bd (mI S 71 l3.toNatClampNeg)
          refine zd (fun h22 => ?_) (fun h22 => ?_)
          · skip
            have g23 := i_lt h22
            have b24 := i_bd l2
            first | have e25 : (l3 + (1 : Int32)).toInt = l3.toInt + (1) := i_addk rfl (by omega) (by omega) | have b26 := i_bd (l3 + (1 : Int32))
            exact IH _ (by omega) _ (l1) (l2) ((l3 + (1 : Int32))) rfl hI (by omega) (by omega) (by omega) (by omega)
          · skip
            have g27 := i_nlt h22
            have li28 : (512 : Int32).toInt = 512 := rfl
            refine zd (fun h29 => ?_) (fun h29 => ?_)
            · skip
              have g30 := i_le h29
              have b31 := i_bd l2
              first | have e32 : (l3 + (1 : Int32)).toInt = l3.toInt + (1) := i_addk rfl (by omega) (by omega) | have b33 := i_bd (l3 + (1 : Int32))
              exact IH _ (by omega) _ (l1) (l2) ((l3 + (1 : Int32))) rfl hI (by omega) (by omega) (by omega) (by omega)
            · skip
              have g34 := i_nle h29
              refine ⟨i_ix (by omega) (by omega), ?_⟩
              refine ⟨fun _ => ?_, fun c1 hc => ?_⟩
              · skip
                have b35 := i_bd l2
                first | have e36 : (l3 + (1 : Int32)).toInt = l3.toInt + (1) := i_addk rfl (by omega) (by omega) | have b37 := i_bd (l3 + (1 : Int32))
                exact IH _ (by omega) _ (l1) (l2) ((l3 + (1 : Int32))) rfl hI (by omega) (by omega) (by omega) (by omega)
              · skip
                have th_c1 := (fun _ z => zG_70 hI (c := 70) (by decide) z) c1 hc
                refine ⟨zG_n hI th_c1, ?_⟩
                refine ⟨zG_n hI th_c1, ?_⟩
                have b38 := i_bd (mI S c1 7)
                refine zd (fun h39 => ?_) (fun h39 => ?_)
                · skip
                  have g40 := i_eq h39
                  have b41 := i_bd l2
                  refine sp_90_69 c1 (l2) (by omega) (by omega) hI th_c1 (by omega) (fun S2 hI_S2 => zv_n ⟨zG_T hI_S2, ?_⟩)
                  refine ⟨zG_n hI_S2 th_c1, ?_⟩
                  refine ⟨zG_n hI_S2 th_c1, ?_⟩
                  have f42 := zG_th hI_S2 th_c1
                  have f43 := zG_th hI_S2 th_c1
                  first | have e44 : ((mI S2 c1 4) + (mI S2 c1 2)).toInt = (mI S2 c1 4).toInt + (mI S2 c1 2).toInt := i_add (by omega) (by omega) | have b45 := i_bd ((mI S2 c1 4) + (mI S2 c1 2))
                  have f46 := zG_th hI th_c1
                  first | have e47 : (l3 + (mI S c1 2)).toInt = l3.toInt + (mI S c1 2).toInt := i_add (by omega) (by omega) | have b48 := i_bd (l3 + (mI S c1 2))
                  exact IH _ (by omega) _ (l1) (((mI S2 c1 4) + (mI S2 c1 2))) ((l3 + (mI S c1 2))) rfl hI_S2 (by omega) (by omega) (by omega) (by omega)
                · skip
                  have g49 := i_ne h39
                  refine ⟨zG_n hI th_c1, ?_⟩
                  refine ⟨zG_n hI th_c1, ?_⟩
                  have f50 := zG_th hI th_c1
                  have f51 := zG_th hI th_c1
                  first | have e52 : ((mI S c1 4) + (mI S c1 2)).toInt = (mI S c1 4).toInt + (mI S c1 2).toInt := i_add (by omega) (by omega) | have b53 := i_bd ((mI S c1 4) + (mI S c1 2))
                  first | have e54 : (l3 + (mI S c1 2)).toInt = l3.toInt + (mI S c1 2).toInt := i_add (by omega) (by omega) | have b55 := i_bd (l3 + (mI S c1 2))
                  exact IH _ (by omega) _ (l1) (((mI S c1 4) + (mI S c1 2))) ((l3 + (mI S c1 2))) rfl hI (by omega) (by omega) (by omega) (by omega)
theorem sp_263_80 {X : Nat × (Nat → Int32)} {d w : Nat} {f : Nat → Nat → Int32} {r : Nat → Nat → Option Nat} {C Z N : Nat} {Q : Option ma_V ⊕ Nat → ma_S → Prop} {S : ma_S} (n : Int32) (hd : 2 ≤ d) (hw : 114 ≤ w) (hI : zI f r C Z N S) (hpre0 : n.toInt ≤ 1500) (K : ∀ v S₉, zI f r C Z N S₉ → (0 ≤ v.toInt ∧ v.toInt ≤ 300000) → Q (.inl (some (.inl v))) S₉) : ma_wp X d w 263 0 [(0, .inr (.inr (some 80))), (1, .inl n)] [] S Q := by
  refine g_263_80_0 n (by omega) (by omega) (zG_T hI) ?_
  have b1 := i_bd n
  have li2 : (0 : Int32).toInt = 0 := rfl
  exact lp_263_80_4 (by omega) (by omega) K _ _ (n) ((0 : Int32)) ((0 : Int32)) rfl hI (by omega) (by omega) (by omega) (by omega)
theorem g_263_82_0 {X : Nat × (Nat → Int32)} {d w : Nat} {S : ma_S} {Q : Option ma_V ⊕ Nat → ma_S → Prop} (n : Int32) (hd : 2 ≤ d) (hw : 92 ≤ w) (hS : zT S) (h : ma_wp X d w 263 4 [(0, .inr (.inr (some 82))), (1, .inl n), (2, .inl (0 : Int32)), (3, .inl (0 : Int32))] [] S Q) : ma_wp X d w 263 0 [(0, .inr (.inr (some 82))), (1, .inl n)] [] S Q := by
  refine zw_push hm_263 dX1_slideDown_0 (v := .inl (0 : Int32)) rfl ?_
  refine zw_sto hm_263 dX1_slideDown_1 [(2, .inl (0 : Int32)), (0, .inr (.inr (some 82))), (1, .inl n)] rfl rfl rfl ?_
  refine zw_push hm_263 dX1_slideDown_2 (v := .inl (0 : Int32)) rfl ?_
  refine zw_sto hm_263 dX1_slideDown_3 [(3, .inl (0 : Int32)), (2, .inl (0 : Int32)), (0, .inr (.inr (some 82))), (1, .inl n)] rfl rfl rfl ?_
  exact zw_sub (ma_nd_of (ks := [0, 1, 2, 3]) rfl (by decide)) (ma_nd_of (ks := [3, 2, 0, 1]) rfl (by decide)) (ma_le_cons rfl (ma_le_cons rfl (ma_le_cons rfl (ma_le_cons rfl (ma_le_nil _))))) h
theorem g_263_82_4 {X : Nat × (Nat → Int32)} {d w : Nat} {S : ma_S} {Q : Option ma_V ⊕ Nat → ma_S → Prop} (l1 : Int32) (l2 : Int32) (l3 : Int32) (hd : 2 ≤ d) (hw : 114 ≤ w) (hS : zT S) (h : if l1 ≤ l3 then (Q (.inl (some (.inl l2))) S) else (if l3 < 0 then (ma_wp X d w 263 4 [(0, .inr (.inr (some 82))), (1, .inl l1), (2, .inl l2), (3, .inl (l3 + (1 : Int32)))] [] S Q) else (if (4500 : Int32) ≤ l3 then (ma_wp X d w 263 4 [(0, .inr (.inr (some 82))), (1, .inl l1), (2, .inl l2), (3, .inl (l3 + (1 : Int32)))] [] S Q) else ((0 ≤ l3 ∧ l3.toNatClampNeg < 4500) ∧ (if (mI S 71 l3.toNatClampNeg) < 0 then (ma_wp X d w 263 4 [(0, .inr (.inr (some 82))), (1, .inl l1), (2, .inl l2), (3, .inl (l3 + (1 : Int32)))] [] S Q) else (if (512 : Int32) ≤ (mI S 71 l3.toNatClampNeg) then (ma_wp X d w 263 4 [(0, .inr (.inr (some 82))), (1, .inl l1), (2, .inl l2), (3, .inl (l3 + (1 : Int32)))] [] S Q) else ((0 ≤ (mI S 71 l3.toNatClampNeg) ∧ (mI S 71 l3.toNatClampNeg).toNatClampNeg < 512) ∧ (((mR S 70 (mI S 71 l3.toNatClampNeg).toNatClampNeg) = none → ma_wp X d w 263 4 [(0, .inr (.inr (some 82))), (1, .inl l1), (2, .inl l2), (3, .inl (l3 + (1 : Int32)))] [] S Q) ∧ (∀ c1, (mR S 70 (mI S 71 l3.toNatClampNeg).toNatClampNeg) = some c1 → (126 ≤ c1 ∧ c1 < mN S) ∧ ((126 ≤ c1 ∧ c1 < mN S) ∧ (if (mI S c1 7) = 0 then (ma_wp X (d - 1) (w - 24) 90 0 [(0, .inr (.inr (some 69))), (1, .inr (.inr (some c1))), (2, .inl l2)] [] S (zv (fun S2 => zT S2 ∧ ((126 ≤ c1 ∧ c1 < mN S2) ∧ ((126 ≤ c1 ∧ c1 < mN S2) ∧ (ma_wp X d w 263 4 [(0, .inr (.inr (some 82))), (1, .inl l1), (2, .inl ((mI S2 c1 4) + (mI S2 c1 2))), (3, .inl (l3 + (mI S c1 2)))] [] S2 Q)))) (fun x S9 => Q (.inr x) S9))) else ((126 ≤ c1 ∧ c1 < mN S) ∧ ((126 ≤ c1 ∧ c1 < mN S) ∧ (ma_wp X d w 263 4 [(0, .inr (.inr (some 82))), (1, .inl l1), (2, .inl ((mI S c1 4) + (mI S c1 2))), (3, .inl (l3 + (mI S c1 2)))] [] S Q)))))))))))))) : ma_wp X d w 263 4 [(0, .inr (.inr (some 82))), (1, .inl l1), (2, .inl l2), (3, .inl l3)] [] S Q := by
  refine zw_push hm_263 dX1_slideDown_4 (v := .inl l3) rfl ?_
  refine zw_push hm_263 dX1_slideDown_5 (v := .inl l1) rfl ?_
  refine zw_if2 hm_263 dX1_slideDown_6 (t := 71) rfl zc2_ge ?_ ?_
  · intro hc
    rw [if_pos hc] at h
    refine zw_push hm_263 dX1_slideDown_71 (v := .inl l2) rfl ?_
    exact zw_iret hm_263 dX1_slideDown_72 h
  · intro hc
    rw [if_neg hc] at h
    refine zw_push hm_263 dX1_slideDown_9 (v := .inr (.inr (some 82))) rfl ?_
    refine zw_gf hm_263 dX1_slideDown_10 (v := .inr (.inr (some 69))) (zT_is hS s_82) (zT_t hS s_82) rfl f_13_9_1 (zT_f hS r_82_0) ?_
    refine zw_push hm_263 dX1_slideDown_13 (v := .inl l3) rfl ?_
    refine zw_cv hm_263 dX1_slideDown_14 v_13_34_7 hm_89 [.inl l3] [] rfl (zT_rt hS s_69 rfl) ⟨by omega, by omega⟩ rfl ?_
    show ma_wp X (d - 1) (w - 22) 89 0 [(0, .inr (.inr (some 69))), (1, .inl l3)] [] S _
    refine zw_push hm_89 dX7_thingFrom_0 (v := .inl l3) rfl ?_
    refine zw_if0 hm_89 dX7_thingFrom_1 (t := 20) rfl zc0_lt ?_ ?_
    · intro hc
      rw [if_pos hc] at h
      refine zw_push hm_89 dX7_thingFrom_20 (v := .inl (-1 : Int32)) rfl ?_
      refine zw_sto hm_89 dX7_thingFrom_21 [(2, .inl (-1 : Int32)), (0, .inr (.inr (some 69))), (1, .inl l3)] rfl rfl rfl ?_
      refine zw_push hm_89 dX7_thingFrom_22 (v := .inl (-1 : Int32)) rfl ?_
      refine zw_if0 hm_89 dX7_thingFrom_23 (t := 42) rfl zc0_lt (fun _ => ?_) (fun hc => absurd (by decide) hc)
      refine zw_push hm_89 dX7_thingFrom_42 (v := .inr (.inr none)) rfl ?_
      refine zw_aret hm_89 dX7_thingFrom_43 ?_
      show ma_wp X d w 263 17 [(0, .inr (.inr (some 82))), (1, .inl l1), (2, .inl l2), (3, .inl l3)] [.inr (.inr none)] S _
      refine zw_sto hm_263 dX1_slideDown_17 [(4, .inr (.inr none)), (0, .inr (.inr (some 82))), (1, .inl l1), (2, .inl l2), (3, .inl l3)] rfl rfl rfl ?_
      refine zw_push hm_263 dX1_slideDown_19 (v := .inr (.inr none)) rfl ?_
      refine zw_ifnonnull hm_263 dX1_slideDown_21 (t := 30) rfl (fun _ => ?_) (fun _ z => by cases z)
      refine zw_sto hm_263 dX1_slideDown_24 [(3, .inl (l3 + (1 : Int32))), (4, .inr (.inr none)), (0, .inr (.inr (some 82))), (1, .inl l1), (2, .inl l2)] rfl rfl rfl ?_
      refine zw_goto hm_263 dX1_slideDown_27 (t := 68) rfl ?_
      refine zw_goto hm_263 dX1_slideDown_68 (t := 4) rfl ?_
      exact zw_sub (ma_nd_of (ks := [0, 1, 2, 3]) rfl (by decide)) (ma_nd_of (ks := [3, 4, 0, 1, 2]) rfl (by decide)) (ma_le_cons rfl (ma_le_cons rfl (ma_le_cons rfl (ma_le_cons rfl (ma_le_nil _))))) h
    · intro hc
      rw [if_neg hc] at h
      refine zw_push hm_89 dX7_thingFrom_4 (v := .inl l3) rfl ?_
      refine zw_push hm_89 dX7_thingFrom_5 (v := .inl (4500 : Int32)) rfl ?_
      refine zw_if2 hm_89 dX7_thingFrom_8 (t := 20) rfl zc2_ge ?_ ?_
      · intro hc
        rw [if_pos hc] at h
        refine zw_push hm_89 dX7_thingFrom_20 (v := .inl (-1 : Int32)) rfl ?_
        refine zw_sto hm_89 dX7_thingFrom_21 [(2, .inl (-1 : Int32)), (0, .inr (.inr (some 69))), (1, .inl l3)] rfl rfl rfl ?_
        refine zw_push hm_89 dX7_thingFrom_22 (v := .inl (-1 : Int32)) rfl ?_
        refine zw_if0 hm_89 dX7_thingFrom_23 (t := 42) rfl zc0_lt (fun _ => ?_) (fun hc => absurd (by decide) hc)
        refine zw_push hm_89 dX7_thingFrom_42 (v := .inr (.inr none)) rfl ?_
        refine zw_aret hm_89 dX7_thingFrom_43 ?_
        show ma_wp X d w 263 17 [(0, .inr (.inr (some 82))), (1, .inl l1), (2, .inl l2), (3, .inl l3)] [.inr (.inr none)] S _
        refine zw_sto hm_263 dX1_slideDown_17 [(4, .inr (.inr none)), (0, .inr (.inr (some 82))), (1, .inl l1), (2, .inl l2), (3, .inl l3)] rfl rfl rfl ?_
        refine zw_push hm_263 dX1_slideDown_19 (v := .inr (.inr none)) rfl ?_
        refine zw_ifnonnull hm_263 dX1_slideDown_21 (t := 30) rfl (fun _ => ?_) (fun _ z => by cases z)
        refine zw_sto hm_263 dX1_slideDown_24 [(3, .inl (l3 + (1 : Int32))), (4, .inr (.inr none)), (0, .inr (.inr (some 82))), (1, .inl l1), (2, .inl l2)] rfl rfl rfl ?_
        refine zw_goto hm_263 dX1_slideDown_27 (t := 68) rfl ?_
        refine zw_goto hm_263 dX1_slideDown_68 (t := 4) rfl ?_
        exact zw_sub (ma_nd_of (ks := [0, 1, 2, 3]) rfl (by decide)) (ma_nd_of (ks := [3, 4, 0, 1, 2]) rfl (by decide)) (ma_le_cons rfl (ma_le_cons rfl (ma_le_cons rfl (ma_le_cons rfl (ma_le_nil _))))) h
      · intro hc
        rw [if_neg hc] at h
        refine zw_push hm_89 dX7_thingFrom_11 (v := .inr (.inr (some 69))) rfl ?_
        refine zw_gf hm_89 dX7_thingFrom_12 (v := .inr (.inr (some 71))) (zT_is hS s_69) (zT_t hS s_69) rfl f_7_17_7 (zT_f hS r_69_1) ?_
        refine zw_push hm_89 dX7_thingFrom_15 (v := .inl l3) rfl ?_
        obtain ⟨hg, h⟩ := h
        refine zw_ia hm_89 dX7_thingFrom_16 (zT_is hS s_71) (zT_h hS s_71) rfl hg ?_
        show ma_wp X (d - 1) (w - 22) 89 17 [(0, .inr (.inr (some 69))), (1, .inl l3)] [.inl (mI S 71 l3.toNatClampNeg)] S _
        refine zw_goto hm_89 dX7_thingFrom_17 (t := 21) rfl ?_
        refine zw_sto hm_89 dX7_thingFrom_21 [(2, .inl (mI S 71 l3.toNatClampNeg)), (0, .inr (.inr (some 69))), (1, .inl l3)] rfl rfl rfl ?_
        refine zw_push hm_89 dX7_thingFrom_22 (v := .inl (mI S 71 l3.toNatClampNeg)) rfl ?_
        refine zw_if0 hm_89 dX7_thingFrom_23 (t := 42) rfl zc0_lt ?_ ?_
        · intro hc
          rw [if_pos hc] at h
          refine zw_push hm_89 dX7_thingFrom_42 (v := .inr (.inr none)) rfl ?_
          refine zw_aret hm_89 dX7_thingFrom_43 ?_
          show ma_wp X d w 263 17 [(0, .inr (.inr (some 82))), (1, .inl l1), (2, .inl l2), (3, .inl l3)] [.inr (.inr none)] S _
          refine zw_sto hm_263 dX1_slideDown_17 [(4, .inr (.inr none)), (0, .inr (.inr (some 82))), (1, .inl l1), (2, .inl l2), (3, .inl l3)] rfl rfl rfl ?_
          refine zw_push hm_263 dX1_slideDown_19 (v := .inr (.inr none)) rfl ?_
          refine zw_ifnonnull hm_263 dX1_slideDown_21 (t := 30) rfl (fun _ => ?_) (fun _ z => by cases z)
          refine zw_sto hm_263 dX1_slideDown_24 [(3, .inl (l3 + (1 : Int32))), (4, .inr (.inr none)), (0, .inr (.inr (some 82))), (1, .inl l1), (2, .inl l2)] rfl rfl rfl ?_
          refine zw_goto hm_263 dX1_slideDown_27 (t := 68) rfl ?_
          refine zw_goto hm_263 dX1_slideDown_68 (t := 4) rfl ?_
          exact zw_sub (ma_nd_of (ks := [0, 1, 2, 3]) rfl (by decide)) (ma_nd_of (ks := [3, 4, 0, 1, 2]) rfl (by decide)) (ma_le_cons rfl (ma_le_cons rfl (ma_le_cons rfl (ma_le_cons rfl (ma_le_nil _))))) h
        · intro hc
          rw [if_neg hc] at h
          refine zw_push hm_89 dX7_thingFrom_26 (v := .inl (mI S 71 l3.toNatClampNeg)) rfl ?_
          refine zw_push hm_89 dX7_thingFrom_27 (v := .inl (512 : Int32)) rfl ?_
          refine zw_if2 hm_89 dX7_thingFrom_30 (t := 42) rfl zc2_ge ?_ ?_
          · intro hc
            rw [if_pos hc] at h
            refine zw_push hm_89 dX7_thingFrom_42 (v := .inr (.inr none)) rfl ?_
            refine zw_aret hm_89 dX7_thingFrom_43 ?_
            show ma_wp X d w 263 17 [(0, .inr (.inr (some 82))), (1, .inl l1), (2, .inl l2), (3, .inl l3)] [.inr (.inr none)] S _
            refine zw_sto hm_263 dX1_slideDown_17 [(4, .inr (.inr none)), (0, .inr (.inr (some 82))), (1, .inl l1), (2, .inl l2), (3, .inl l3)] rfl rfl rfl ?_
            refine zw_push hm_263 dX1_slideDown_19 (v := .inr (.inr none)) rfl ?_
            refine zw_ifnonnull hm_263 dX1_slideDown_21 (t := 30) rfl (fun _ => ?_) (fun _ z => by cases z)
            refine zw_sto hm_263 dX1_slideDown_24 [(3, .inl (l3 + (1 : Int32))), (4, .inr (.inr none)), (0, .inr (.inr (some 82))), (1, .inl l1), (2, .inl l2)] rfl rfl rfl ?_
            refine zw_goto hm_263 dX1_slideDown_27 (t := 68) rfl ?_
            refine zw_goto hm_263 dX1_slideDown_68 (t := 4) rfl ?_
            exact zw_sub (ma_nd_of (ks := [0, 1, 2, 3]) rfl (by decide)) (ma_nd_of (ks := [3, 4, 0, 1, 2]) rfl (by decide)) (ma_le_cons rfl (ma_le_cons rfl (ma_le_cons rfl (ma_le_cons rfl (ma_le_nil _))))) h
          · intro hc
            rw [if_neg hc] at h
            refine zw_push hm_89 dX7_thingFrom_33 (v := .inr (.inr (some 69))) rfl ?_
            refine zw_gf hm_89 dX7_thingFrom_34 (v := .inr (.inr (some 70))) (zT_is hS s_69) (zT_t hS s_69) rfl f_7_11_7 (zT_f hS r_69_0) ?_
            refine zw_push hm_89 dX7_thingFrom_37 (v := .inl (mI S 71 l3.toNatClampNeg)) rfl ?_
            obtain ⟨hg, h⟩ := h
            refine zw_aa hm_89 dX7_thingFrom_38 (zT_is hS s_70) (zT_h hS s_70) rfl rfl hg rfl ?_
            show ma_wp X (d - 1) (w - 22) 89 39 [(2, .inl (mI S 71 l3.toNatClampNeg)), (0, .inr (.inr (some 69))), (1, .inl l3)] [.inr (.inr (mR S 70 (mI S 71 l3.toNatClampNeg).toNatClampNeg))] S _
            refine zw_goto hm_89 dX7_thingFrom_39 (t := 43) rfl ?_
            refine zw_aret hm_89 dX7_thingFrom_43 ?_
            show ma_wp X d w 263 17 [(0, .inr (.inr (some 82))), (1, .inl l1), (2, .inl l2), (3, .inl l3)] [.inr (.inr (mR S 70 (mI S 71 l3.toNatClampNeg).toNatClampNeg))] S _
            refine zw_sto hm_263 dX1_slideDown_17 [(4, .inr (.inr (mR S 70 (mI S 71 l3.toNatClampNeg).toNatClampNeg))), (0, .inr (.inr (some 82))), (1, .inl l1), (2, .inl l2), (3, .inl l3)] rfl rfl rfl ?_
            refine zw_push hm_263 dX1_slideDown_19 (v := .inr (.inr (mR S 70 (mI S 71 l3.toNatClampNeg).toNatClampNeg))) rfl ?_
            refine zw_ifnonnull hm_263 dX1_slideDown_21 (t := 30) rfl ?_ ?_
            · intro hc
              have h := h.1 hc
              (try rw [hc])
              show ma_wp X d w 263 24 [(4, .inr (.inr none)), (0, .inr (.inr (some 82))), (1, .inl l1), (2, .inl l2), (3, .inl l3)] [] S _
              refine zw_sto hm_263 dX1_slideDown_24 [(3, .inl (l3 + (1 : Int32))), (4, .inr (.inr none)), (0, .inr (.inr (some 82))), (1, .inl l1), (2, .inl l2)] rfl rfl rfl ?_
              refine zw_goto hm_263 dX1_slideDown_27 (t := 68) rfl ?_
              refine zw_goto hm_263 dX1_slideDown_68 (t := 4) rfl ?_
              exact zw_sub (ma_nd_of (ks := [0, 1, 2, 3]) rfl (by decide)) (ma_nd_of (ks := [3, 4, 0, 1, 2]) rfl (by decide)) (ma_le_cons rfl (ma_le_cons rfl (ma_le_cons rfl (ma_le_cons rfl (ma_le_nil _))))) h
            · intro c1 hc
              have h := h.2 c1 hc
              (try rw [hc])
              show ma_wp X d w 263 30 [(4, .inr (.inr (some c1))), (0, .inr (.inr (some 82))), (1, .inl l1), (2, .inl l2), (3, .inl l3)] [] S _
              refine zw_push hm_263 dX1_slideDown_30 (v := .inl l3) rfl ?_
              refine zw_push hm_263 dX1_slideDown_31 (v := .inr (.inr (some c1))) rfl ?_
              obtain ⟨hg, h⟩ := h
              refine zw_gf hm_263 dX1_slideDown_33 (v := .inl (mI S c1 2)) (zT_tis hS hg) (zT_tt hS hg) rfl f_13_38_9 rfl ?_
              refine zw_stk hm_263 dX1_slideDown_36 (st₉ := [.inl (l3 + (mI S c1 2))]) rfl rfl ?_
              refine zw_sto hm_263 dX1_slideDown_37 [(3, .inl (l3 + (mI S c1 2))), (4, .inr (.inr (some c1))), (0, .inr (.inr (some 82))), (1, .inl l1), (2, .inl l2)] rfl rfl rfl ?_
              refine zw_push hm_263 dX1_slideDown_38 (v := .inr (.inr (some c1))) rfl ?_
              obtain ⟨hg, h⟩ := h
              refine zw_gf hm_263 dX1_slideDown_40 (v := .inl (mI S c1 7)) (zT_tis hS hg) (zT_tt hS hg) rfl f_13_44_9 rfl ?_
              refine zw_if0 hm_263 dX1_slideDown_43 (t := 56) rfl zc0_ne ?_ ?_
              · intro hc
                rw [if_neg hc] at h
                refine zw_push hm_263 dX1_slideDown_56 (v := .inr (.inr (some c1))) rfl ?_
                obtain ⟨hg, h⟩ := h
                refine zw_gf hm_263 dX1_slideDown_58 (v := .inl (mI S c1 4)) (zT_tis hS hg) (zT_tt hS hg) rfl f_13_51_9 rfl ?_
                refine zw_push hm_263 dX1_slideDown_61 (v := .inr (.inr (some c1))) rfl ?_
                obtain ⟨hg, h⟩ := h
                refine zw_gf hm_263 dX1_slideDown_63 (v := .inl (mI S c1 2)) (zT_tis hS hg) (zT_tt hS hg) rfl f_13_38_9 rfl ?_
                refine zw_stk hm_263 dX1_slideDown_66 (st₉ := [.inl ((mI S c1 4) + (mI S c1 2))]) rfl rfl ?_
                refine zw_sto hm_263 dX1_slideDown_67 [(2, .inl ((mI S c1 4) + (mI S c1 2))), (3, .inl (l3 + (mI S c1 2))), (4, .inr (.inr (some c1))), (0, .inr (.inr (some 82))), (1, .inl l1)] rfl rfl rfl ?_
                refine zw_goto hm_263 dX1_slideDown_68 (t := 4) rfl ?_
                exact zw_sub (ma_nd_of (ks := [0, 1, 2, 3]) rfl (by decide)) (ma_nd_of (ks := [2, 3, 4, 0, 1]) rfl (by decide)) (ma_le_cons rfl (ma_le_cons rfl (ma_le_cons rfl (ma_le_cons rfl (ma_le_nil _))))) h
              · intro hc
                rw [if_pos (Classical.not_not.mp hc)] at h
                refine zw_push hm_263 dX1_slideDown_46 (v := .inr (.inr (some 82))) rfl ?_
                refine zw_gf hm_263 dX1_slideDown_47 (v := .inr (.inr (some 69))) (zT_is hS s_82) (zT_t hS s_82) rfl f_13_9_1 (zT_f hS r_82_0) ?_
                refine zw_push hm_263 dX1_slideDown_50 (v := .inr (.inr (some c1))) rfl ?_
                refine zw_push hm_263 dX1_slideDown_52 (v := .inl l2) rfl ?_
                refine zw_cv hm_263 dX1_slideDown_53 v_13_47_7 hm_90 [.inl l2, .inr (.inr (some c1))] [] rfl (zT_rt hS s_69 rfl) ⟨by omega, by omega⟩ rfl (zw_mono h (zv_go ?_ ?_))
                · intro S2 hv
                  obtain ⟨hS2, h⟩ := hv
                  refine zw_push hm_263 dX1_slideDown_56 (v := .inr (.inr (some c1))) rfl ?_
                  obtain ⟨hg, h⟩ := h
                  refine zw_gf hm_263 dX1_slideDown_58 (v := .inl (mI S2 c1 4)) (zT_tis hS2 hg) (zT_tt hS2 hg) rfl f_13_51_9 rfl ?_
                  refine zw_push hm_263 dX1_slideDown_61 (v := .inr (.inr (some c1))) rfl ?_
                  obtain ⟨hg, h⟩ := h
                  refine zw_gf hm_263 dX1_slideDown_63 (v := .inl (mI S2 c1 2)) (zT_tis hS2 hg) (zT_tt hS2 hg) rfl f_13_38_9 rfl ?_
                  refine zw_stk hm_263 dX1_slideDown_66 (st₉ := [.inl ((mI S2 c1 4) + (mI S2 c1 2))]) rfl rfl ?_
                  refine zw_sto hm_263 dX1_slideDown_67 [(2, .inl ((mI S2 c1 4) + (mI S2 c1 2))), (3, .inl (l3 + (mI S c1 2))), (4, .inr (.inr (some c1))), (0, .inr (.inr (some 82))), (1, .inl l1)] rfl rfl rfl ?_
                  refine zw_goto hm_263 dX1_slideDown_68 (t := 4) rfl ?_
                  exact zw_sub (ma_nd_of (ks := [0, 1, 2, 3]) rfl (by decide)) (ma_nd_of (ks := [2, 3, 4, 0, 1]) rfl (by decide)) (ma_le_cons rfl (ma_le_cons rfl (ma_le_cons rfl (ma_le_cons rfl (ma_le_nil _))))) h
                · intro x S9 hx
                  exact ⟨by decide, hx⟩
theorem lp_263_82_4 {X : Nat × (Nat → Int32)} {d w : Nat} {f : Nat → Nat → Int32} {r : Nat → Nat → Option Nat} {C Z N : Nat} {Q : Option ma_V ⊕ Nat → ma_S → Prop} (hd : 2 ≤ d) (hw : 114 ≤ w) (K : ∀ v S₉, zI f r C Z N S₉ → (0 ≤ v.toInt ∧ v.toInt ≤ 300000) → Q (.inl (some (.inl v))) S₉) : ∀ (n : Nat) (S : ma_S) (l1 : Int32) (l2 : Int32) (l3 : Int32), (l1.toInt - l3.toInt).toNat = n → zI f r C Z N S → (0 ≤ l2.toInt) → (l2.toInt ≤ 300000) → (l1.toInt ≤ 1500) → (0 ≤ l3.toInt) → ma_wp X d w 263 4 [(0, .inr (.inr (some 82))), (1, .inl l1), (2, .inl l2), (3, .inl l3)] [] S Q := by
  intro n
  induction n using Nat.strongRecOn with
  | _ n IH =>
    intro S l1 l2 l3 hmu hI  hi0 hi1 hi2 hi3
    refine g_263_82_4 l1 l2 l3 (by omega) (by omega) (zG_T hI) ?_
    have b1 := i_bd l1
    have b2 := i_bd l3
    refine zd (fun h3 => ?_) (fun h3 => ?_)
    · skip
      have g4 := i_le h3
      have b5 := i_bd l2
      exact K (l2) _ hI (by omega)
    · skip
      have g6 := i_nle h3
      have li7 : (0 : Int32).toInt = 0 := rfl
      refine zd (fun h8 => ?_) (fun h8 => ?_)
      · skip
        have g9 := i_lt h8
        have b10 := i_bd l2
        first | have e11 : (l3 + (1 : Int32)).toInt = l3.toInt + (1) := i_addk rfl (by omega) (by omega) | have b12 := i_bd (l3 + (1 : Int32))
        exact IH _ (by omega) _ (l1) (l2) ((l3 + (1 : Int32))) rfl hI (by omega) (by omega) (by omega) (by omega)
      · skip
        have g13 := i_nlt h8
        have li14 : (4500 : Int32).toInt = 4500 := rfl
        refine zd (fun h15 => ?_) (fun h15 => ?_)
        · skip
          have g16 := i_le h15
          have b17 := i_bd l2
          first | have e18 : (l3 + (1 : Int32)).toInt = l3.toInt + (1) := i_addk rfl (by omega) (by omega) | have b19 := i_bd (l3 + (1 : Int32))
          exact IH _ (by omega) _ (l1) (l2) ((l3 + (1 : Int32))) rfl hI (by omega) (by omega) (by omega) (by omega)
        · skip
          have g20 := i_nle h15
          refine ⟨i_ix (by omega) (by omega), ?_⟩
          have b21 := i_bd (mI S 71 l3.toNatClampNeg)
          refine zd (fun h22 => ?_) (fun h22 => ?_)
          · skip
            have g23 := i_lt h22
            have b24 := i_bd l2
            first | have e25 : (l3 + (1 : Int32)).toInt = l3.toInt + (1) := i_addk rfl (by omega) (by omega) | have b26 := i_bd (l3 + (1 : Int32))
            exact IH _ (by omega) _ (l1) (l2) ((l3 + (1 : Int32))) rfl hI (by omega) (by omega) (by omega) (by omega)
          · skip
            have g27 := i_nlt h22
            have li28 : (512 : Int32).toInt = 512 := rfl
            refine zd (fun h29 => ?_) (fun h29 => ?_)
            · skip
              have g30 := i_le h29
              have b31 := i_bd l2
              first | have e32 : (l3 + (1 : Int32)).toInt = l3.toInt + (1) := i_addk rfl (by omega) (by omega) | have b33 := i_bd (l3 + (1 : Int32))
              exact IH _ (by omega) _ (l1) (l2) ((l3 + (1 : Int32))) rfl hI (by omega) (by omega) (by omega) (by omega)
            · skip
              have g34 := i_nle h29
              refine ⟨i_ix (by omega) (by omega), ?_⟩
              refine ⟨fun _ => ?_, fun c1 hc => ?_⟩
              · skip
                have b35 := i_bd l2
                first | have e36 : (l3 + (1 : Int32)).toInt = l3.toInt + (1) := i_addk rfl (by omega) (by omega) | have b37 := i_bd (l3 + (1 : Int32))
                exact IH _ (by omega) _ (l1) (l2) ((l3 + (1 : Int32))) rfl hI (by omega) (by omega) (by omega) (by omega)
              · skip
                have th_c1 := (fun _ z => zG_70 hI (c := 70) (by decide) z) c1 hc
                refine ⟨zG_n hI th_c1, ?_⟩
                refine ⟨zG_n hI th_c1, ?_⟩
                have b38 := i_bd (mI S c1 7)
                refine zd (fun h39 => ?_) (fun h39 => ?_)
                · skip
                  have g40 := i_eq h39
                  have b41 := i_bd l2
                  refine sp_90_69 c1 (l2) (by omega) (by omega) hI th_c1 (by omega) (fun S2 hI_S2 => zv_n ⟨zG_T hI_S2, ?_⟩)
                  refine ⟨zG_n hI_S2 th_c1, ?_⟩
                  refine ⟨zG_n hI_S2 th_c1, ?_⟩
                  have f42 := zG_th hI_S2 th_c1
                  have f43 := zG_th hI_S2 th_c1
                  first | have e44 : ((mI S2 c1 4) + (mI S2 c1 2)).toInt = (mI S2 c1 4).toInt + (mI S2 c1 2).toInt := i_add (by omega) (by omega) | have b45 := i_bd ((mI S2 c1 4) + (mI S2 c1 2))
                  have f46 := zG_th hI th_c1
                  first | have e47 : (l3 + (mI S c1 2)).toInt = l3.toInt + (mI S c1 2).toInt := i_add (by omega) (by omega) | have b48 := i_bd (l3 + (mI S c1 2))
                  exact IH _ (by omega) _ (l1) (((mI S2 c1 4) + (mI S2 c1 2))) ((l3 + (mI S c1 2))) rfl hI_S2 (by omega) (by omega) (by omega) (by omega)
                · skip
                  have g49 := i_ne h39
                  refine ⟨zG_n hI th_c1, ?_⟩
                  refine ⟨zG_n hI th_c1, ?_⟩
                  have f50 := zG_th hI th_c1
                  have f51 := zG_th hI th_c1
                  first | have e52 : ((mI S c1 4) + (mI S c1 2)).toInt = (mI S c1 4).toInt + (mI S c1 2).toInt := i_add (by omega) (by omega) | have b53 := i_bd ((mI S c1 4) + (mI S c1 2))
                  first | have e54 : (l3 + (mI S c1 2)).toInt = l3.toInt + (mI S c1 2).toInt := i_add (by omega) (by omega) | have b55 := i_bd (l3 + (mI S c1 2))
                  exact IH _ (by omega) _ (l1) (((mI S c1 4) + (mI S c1 2))) ((l3 + (mI S c1 2))) rfl hI (by omega) (by omega) (by omega) (by omega)
theorem sp_263_82 {X : Nat × (Nat → Int32)} {d w : Nat} {f : Nat → Nat → Int32} {r : Nat → Nat → Option Nat} {C Z N : Nat} {Q : Option ma_V ⊕ Nat → ma_S → Prop} {S : ma_S} (n : Int32) (hd : 2 ≤ d) (hw : 114 ≤ w) (hI : zI f r C Z N S) (hpre0 : n.toInt ≤ 1500) (K : ∀ v S₉, zI f r C Z N S₉ → (0 ≤ v.toInt ∧ v.toInt ≤ 300000) → Q (.inl (some (.inl v))) S₉) : ma_wp X d w 263 0 [(0, .inr (.inr (some 82))), (1, .inl n)] [] S Q := by
  refine g_263_82_0 n (by omega) (by omega) (zG_T hI) ?_
  have b1 := i_bd n
  have li2 : (0 : Int32).toInt = 0 := rfl
  exact lp_263_82_4 (by omega) (by omega) K _ _ (n) ((0 : Int32)) ((0 : Int32)) rfl hI (by omega) (by omega) (by omega) (by omega)
/-! from 93.b02 -/
/-! collectors, by what they keep (written by wip/tools/gen93b.py) -/
theorem g_62_80_0 {X : Nat × (Nat → Int32)} {d w : Nat} {S : ma_S} {Q : Option ma_V ⊕ Nat → ma_S → Prop}  (hd : 4 ≤ d) (hw : 138 ≤ w) (hS : zT S) (h : ma_wp X (d - 1) (w - 20) 264 0 [(0, .inr (.inr (some 80)))] [] S (zi (fun v2 S1 => zT S1 ∧ (ma_wp X (d - 1) (w - 24) 263 0 [(0, .inr (.inr (some 80))), (1, .inl (mI S1 80 2))] [] S1 (zi (fun v4 S3 => zT S3 ∧ (Q (.inl (some (.inl v2))) (ma_put S3 80 3 (.inl v4)))) (fun _ _ => False)))) (fun _ _ => False))) : ma_wp X d w 62 0 [(0, .inr (.inr (some 80)))] [] S Q := by
  refine zw_push hm_62 dX5_cleanAll_0 (v := .inr (.inr (some 80))) rfl ?_
  refine zw_cv hm_62 dX5_cleanAll_1 v_5_30_5 hm_264 [] [] rfl (zT_rt hS s_80 rfl) ⟨by omega, by omega⟩ rfl (zw_mono h (zi_go ?_ ?_))
  · intro v2 S1 hv
    obtain ⟨hS1, h⟩ := hv
    refine zw_sto hm_62 dX5_cleanAll_4 [(1, .inl v2), (0, .inr (.inr (some 80)))] rfl rfl rfl ?_
    refine zw_push hm_62 dX5_cleanAll_5 (v := .inr (.inr (some 80))) rfl ?_
    refine zw_push hm_62 dX5_cleanAll_6 (v := .inr (.inr (some 80))) rfl ?_
    refine zw_push hm_62 dX5_cleanAll_7 (v := .inr (.inr (some 80))) rfl ?_
    refine zw_gf hm_62 dX5_cleanAll_8 (v := .inl (mI S1 80 2)) (zT_is hS1 s_80) (zT_t hS1 s_80) rfl f_5_9_5 rfl ?_
    refine zw_cv hm_62 dX5_cleanAll_11 v_5_33_5 hm_263 [.inl (mI S1 80 2)] [.inr (.inr (some 80))] rfl (zT_rt hS1 s_80 rfl) ⟨by omega, by omega⟩ rfl (zw_mono h (zi_go ?_ ?_))
    · intro v4 S3 hv
      obtain ⟨hS3, h⟩ := hv
      refine zw_pf hm_62 dX5_cleanAll_14 (zT_is hS3 s_80) (zT_t hS3 s_80) p_5_15_5 zk_int ?_
      refine zw_push hm_62 dX5_cleanAll_17 (v := .inl v2) rfl ?_
      exact zw_iret hm_62 dX5_cleanAll_18 h
    · intro x S9 hx
      exact hx.elim
  · intro x S9 hx
    exact hx.elim
theorem sp_62_80 {X : Nat × (Nat → Int32)} {d w : Nat} {f : Nat → Nat → Int32} {r : Nat → Nat → Option Nat} {C Z N : Nat} {Q : Option ma_V ⊕ Nat → ma_S → Prop} {S : ma_S}  (hd : 4 ≤ d) (hw : 138 ≤ w) (hI : zJ80 f r C Z N S)  (K : ∀ v S₉, zJ80 f r C Z N S₉ → (True) → Q (.inl (some (.inl v))) S₉) : ma_wp X d w 62 0 [(0, .inr (.inr (some 80)))] [] S Q := by
  refine g_62_80_0  (by omega) (by omega) (zG_T hI) ?_
  refine sp_264_80  (by omega) (by omega) (zJ80_dn hI)  (fun v2 S1 hL_S1 hp_v2 => zi_n ⟨zG_T hL_S1, ?_⟩)
  have hI_S1 := zJ80_up hI hL_S1
  have f1 := zG_s hI (0) (1500) (c := 80) (k := 2) (by decide)
  have q2 : (mI S1 80 2).toInt = (mI S 80 2).toInt := zG_zi hL_S1 rfl
  have f3 := zG_s hI_S1 (0) (1500) (c := 80) (k := 2) (by decide)
  refine sp_263_80 ((mI S1 80 2)) (by omega) (by omega) (zJ80_dn hI_S1) (by omega) (fun v4 S3 hL_S3 hp_v4 => zi_n ⟨zG_T hL_S3, ?_⟩)
  have hI_S3 := zJ80_up hI_S1 hL_S3
  have b5 := i_bd v4
  have hI4 : zJ80 f r C Z N (ma_put S3 80 3 (.inl v4)) := zG_sp hI_S3 (0) (400000) rfl (by decide) (by decide) (by decide) trivial (by omega) (by omega)
  have b6 := i_bd v2
  exact K (v2) _ hI4 trivial
theorem g_63_80_0 {X : Nat × (Nat → Int32)} {d w : Nat} {S : ma_S} {Q : Option ma_V ⊕ Nat → ma_S → Prop} (t : Nat) (hd : 0 ≤ d) (hw : 0 ≤ w) (hS : zT S) (h : (126 ≤ t ∧ t < mN S) ∧ ((126 ≤ t ∧ t < mN S) ∧ (Q (.inl none) (ma_put S 80 3 (.inl ((mI S t 4) + (mI S t 2))))))) : ma_wp X d w 63 0 [(0, .inr (.inr (some 80))), (1, .inr (.inr (some t)))] [] S Q := by
  refine zw_push hm_63 dX5_noteMade_0 (v := .inr (.inr (some 80))) rfl ?_
  refine zw_push hm_63 dX5_noteMade_1 (v := .inr (.inr (some t))) rfl ?_
  obtain ⟨hg, h⟩ := h
  refine zw_gf hm_63 dX5_noteMade_2 (v := .inl (mI S t 4)) (zT_tis hS hg) (zT_tt hS hg) rfl f_5_22_9 rfl ?_
  refine zw_push hm_63 dX5_noteMade_5 (v := .inr (.inr (some t))) rfl ?_
  obtain ⟨hg, h⟩ := h
  refine zw_gf hm_63 dX5_noteMade_6 (v := .inl (mI S t 2)) (zT_tis hS hg) (zT_tt hS hg) rfl f_5_27_9 rfl ?_
  refine zw_stk hm_63 dX5_noteMade_9 (st₉ := [.inl ((mI S t 4) + (mI S t 2)), .inr (.inr (some 80))]) rfl rfl ?_
  refine zw_pf hm_63 dX5_noteMade_10 (zT_is hS s_80) (zT_t hS s_80) p_5_15_5 zk_int ?_
  exact zw_vret hm_63 dX5_noteMade_13 h
theorem sp_63_80 {X : Nat × (Nat → Int32)} {d w : Nat} {f : Nat → Nat → Int32} {r : Nat → Nat → Option Nat} {C Z N : Nat} {Q : Option ma_V ⊕ Nat → ma_S → Prop} {S : ma_S} (t : Nat) (hd : 0 ≤ d) (hw : 0 ≤ w) (hI : zJ80 f r C Z N S) (th_t : 126 ≤ t ∧ t < N) (K : ∀ S₉, zJ80 f r C Z N S₉ → Q (.inl none) S₉) : ma_wp X d w 63 0 [(0, .inr (.inr (some 80))), (1, .inr (.inr (some t)))] [] S Q := by
  refine g_63_80_0 t (by omega) (by omega) (zG_T hI) ?_
  refine ⟨zG_n hI th_t, ?_⟩
  refine ⟨zG_n hI th_t, ?_⟩
  have f2 := zG_th hI th_t
  have f3 := zG_th hI th_t
  first | have e4 : ((mI S t 4) + (mI S t 2)).toInt = (mI S t 4).toInt + (mI S t 2).toInt := i_add (by omega) (by omega) | have b5 := i_bd ((mI S t 4) + (mI S t 2))
  have hI1 : zJ80 f r C Z N (ma_put S 80 3 (.inl ((mI S t 4) + (mI S t 2)))) := zG_sp hI (0) (400000) rfl (by decide) (by decide) (by decide) trivial (by omega) (by omega)
  exact K _ hI1
theorem g_59_80_66_0 {X : Nat × (Nat → Int32)} {d w : Nat} {S : ma_S} {Q : Option ma_V ⊕ Nat → ma_S → Prop}  (hd : 0 ≤ d) (hw : 0 ≤ w) (hS : zT S) (h : Q (.inl none) (ma_put (ma_put S 80 2 (.inl (mI S 66 0))) 80 3 (.inl (0 : Int32)))) : ma_wp X d w 59 0 [(0, .inr (.inr (some 80))), (1, .inr (.inr (some 66)))] [] S Q := by
  refine zw_push hm_59 dX5_open_0 (v := .inr (.inr (some 80))) rfl ?_
  refine zw_push hm_59 dX5_open_1 (v := .inr (.inr (some 66))) rfl ?_
  refine zw_push hm_59 dX5_open_2 (v := .inl (0 : Int32)) rfl ?_
  refine zw_ia hm_59 dX5_open_3 (zT_is hS s_66) (zT_h hS s_66) rfl ⟨by decide, by decide⟩ ?_
  show ma_wp X d w 59 4 [(0, .inr (.inr (some 80))), (1, .inr (.inr (some 66)))] [.inl (mI S 66 0), .inr (.inr (some 80))] S _
  refine zw_pf hm_59 dX5_open_4 (zT_is hS s_80) (zT_t hS s_80) p_5_9_5 zk_int ?_
  refine zw_push hm_59 dX5_open_7 (v := .inr (.inr (some 80))) rfl ?_
  refine zw_push hm_59 dX5_open_8 (v := .inl (0 : Int32)) rfl ?_
  refine zw_pf hm_59 dX5_open_9 (zT_is (zT_pi hS) s_80) (zT_t (zT_pi hS) s_80) p_5_15_5 zk_int ?_
  exact zw_vret hm_59 dX5_open_12 h
theorem sp_59_80_66 {X : Nat × (Nat → Int32)} {d w : Nat} {f : Nat → Nat → Int32} {r : Nat → Nat → Option Nat} {C Z N : Nat} {Q : Option ma_V ⊕ Nat → ma_S → Prop} {S : ma_S}  (hd : 0 ≤ d) (hw : 0 ≤ w) (hI : zJ80 f r C Z N S) (hpre0 : 0 ≤ (mI S 66 0).toInt ∧ (mI S 66 0).toInt ≤ 1500) (K : ∀ S₉, zJ80 f r C Z N S₉ → Q (.inl none) S₉) : ma_wp X d w 59 0 [(0, .inr (.inr (some 80))), (1, .inr (.inr (some 66)))] [] S Q := by
  refine g_59_80_66_0  (by omega) (by omega) (zG_T hI) ?_
  have b2 := i_bd (mI S 66 0)
  have hI1 : zJ80 f r C Z N (ma_put S 80 2 (.inl (mI S 66 0))) := zG_sp hI (0) (1500) rfl (by decide) (by decide) (by decide) trivial (by omega) (by omega)
  have li4 : (0 : Int32).toInt = 0 := rfl
  have hI3 : zJ80 f r C Z N (ma_put (ma_put S 80 2 (.inl (mI S 66 0))) 80 3 (.inl (0 : Int32))) := zG_sp hI1 (0) (400000) rfl (by decide) (by decide) (by decide) trivial (by omega) (by omega)
  exact K _ hI3
theorem g_60_80_0 {X : Nat × (Nat → Int32)} {d w : Nat} {S : ma_S} {Q : Option ma_V ⊕ Nat → ma_S → Prop}  (hd : 0 ≤ d) (hw : 0 ≤ w) (hS : zT S) (h : Q (.inl (some (.inl (mI S 80 2)))) S) : ma_wp X d w 60 0 [(0, .inr (.inr (some 80)))] [] S Q := by
  refine zw_push hm_60 dX5_total_0 (v := .inr (.inr (some 80))) rfl ?_
  refine zw_gf hm_60 dX5_total_1 (v := .inl (mI S 80 2)) (zT_is hS s_80) (zT_t hS s_80) rfl f_5_9_5 rfl ?_
  exact zw_iret hm_60 dX5_total_4 h
theorem sp_60_80 {X : Nat × (Nat → Int32)} {d w : Nat} {f : Nat → Nat → Int32} {r : Nat → Nat → Option Nat} {C Z N : Nat} {Q : Option ma_V ⊕ Nat → ma_S → Prop} {S : ma_S}  (hd : 0 ≤ d) (hw : 0 ≤ w) (hI : zJ80 f r C Z N S)  (K : ∀ v S₉, zJ80 f r C Z N S₉ → (True) → Q (.inl (some (.inl v))) S₉) : ma_wp X d w 60 0 [(0, .inr (.inr (some 80)))] [] S Q := by
  refine g_60_80_0  (by omega) (by omega) (zG_T hI) ?_
  have f1 := zG_s hI (0) (1500) (c := 80) (k := 2) (by decide)
  exact K ((mI S 80 2)) _ hI trivial
/-! from 93.b03 -/
/-! collectors, by what they keep (written by wip/tools/gen93b.py) -/
theorem g_33_81_0 {X : Nat × (Nat → Int32)} {d w : Nat} {S : ma_S} {Q : Option ma_V ⊕ Nat → ma_S → Prop}  (hd : 4 ≤ d) (hw : 92 ≤ w) (hS : zT S) (h : ma_wp X (d - 1) (w - 20) 264 0 [(0, .inr (.inr (some 81)))] [] S (zi (fun v2 S1 => zT S1 ∧ (ma_wp X d w 33 28 [(0, .inr (.inr (some 81))), (1, .inl v2), (2, .inl (0 : Int32))] [] (ma_put (ma_put S1 81 3 (.inl ((mI S1 81 2) - (mI S1 81 3)))) 81 4 (.inl ((mI S1 81 2) - (mI S1 81 3)))) Q)) (fun _ _ => False))) : ma_wp X d w 33 0 [(0, .inr (.inr (some 81)))] [] S Q := by
  refine zw_push hm_33 dX3_cleanAll_0 (v := .inr (.inr (some 81))) rfl ?_
  refine zw_cv hm_33 dX3_cleanAll_1 v_3_37_3 hm_264 [] [] rfl (zT_rt hS s_81 rfl) ⟨by omega, by omega⟩ rfl (zw_mono h (zi_go ?_ ?_))
  · intro v2 S1 hv
    obtain ⟨hS1, h⟩ := hv
    refine zw_sto hm_33 dX3_cleanAll_4 [(1, .inl v2), (0, .inr (.inr (some 81)))] rfl rfl rfl ?_
    refine zw_push hm_33 dX3_cleanAll_5 (v := .inr (.inr (some 81))) rfl ?_
    refine zw_push hm_33 dX3_cleanAll_6 (v := .inr (.inr (some 81))) rfl ?_
    refine zw_gf hm_33 dX3_cleanAll_7 (v := .inl (mI S1 81 2)) (zT_is hS1 s_81) (zT_t hS1 s_81) rfl f_3_9_3 rfl ?_
    refine zw_push hm_33 dX3_cleanAll_10 (v := .inr (.inr (some 81))) rfl ?_
    refine zw_gf hm_33 dX3_cleanAll_11 (v := .inl (mI S1 81 3)) (zT_is hS1 s_81) (zT_t hS1 s_81) rfl f_3_15_3 rfl ?_
    refine zw_stk hm_33 dX3_cleanAll_14 (st₉ := [.inl ((mI S1 81 2) - (mI S1 81 3)), .inr (.inr (some 81))]) rfl rfl ?_
    refine zw_pf hm_33 dX3_cleanAll_15 (zT_is hS1 s_81) (zT_t hS1 s_81) p_3_15_3 zk_int ?_
    refine zw_push hm_33 dX3_cleanAll_18 (v := .inr (.inr (some 81))) rfl ?_
    refine zw_push hm_33 dX3_cleanAll_19 (v := .inr (.inr (some 81))) rfl ?_
    refine zw_gf hm_33 dX3_cleanAll_20 (v := .inl ((mI S1 81 2) - (mI S1 81 3))) (zT_is (zT_pi hS1) s_81) (zT_t (zT_pi hS1) s_81) rfl f_3_15_3 rfl ?_
    refine zw_pf hm_33 dX3_cleanAll_23 (zT_is (zT_pi hS1) s_81) (zT_t (zT_pi hS1) s_81) p_3_18_3 zk_int ?_
    refine zw_push hm_33 dX3_cleanAll_26 (v := .inl (0 : Int32)) rfl ?_
    refine zw_sto hm_33 dX3_cleanAll_27 [(2, .inl (0 : Int32)), (1, .inl v2), (0, .inr (.inr (some 81)))] rfl rfl rfl ?_
    exact zw_sub (ma_nd_of (ks := [0, 1, 2]) rfl (by decide)) (ma_nd_of (ks := [2, 1, 0]) rfl (by decide)) (ma_le_cons rfl (ma_le_cons rfl (ma_le_cons rfl (ma_le_nil _)))) h
  · intro x S9 hx
    exact hx.elim
theorem g_33_81_28 {X : Nat × (Nat → Int32)} {d w : Nat} {S : ma_S} {Q : Option ma_V ⊕ Nat → ma_S → Prop} (l1 : Int32) (l2 : Int32) (hd : 4 ≤ d) (hw : 114 ≤ w) (hS : zT S) (h : if (mI S 75 4) ≤ l2 then (Q (.inl (some (.inl l1))) S) else (ma_wp X (d - 1) (w - 21) 124 0 [(0, .inr (.inr (some 75))), (1, .inl l2)] [] S (zo (fun v2 S1 => zT S1 ∧ ((v2 = none → ma_wp X d w 33 28 [(0, .inr (.inr (some 81))), (1, .inl l1), (2, .inl (l2 + (1 : Int32)))] [] S1 Q) ∧ (∀ c3, v2 = some c3 → ma_wp X (d - 1) (w - 24) 90 0 [(0, .inr (.inr (some 69))), (1, .inr (.inr (some c3))), (2, .inl (mI S1 81 4))] [] S1 (zv (fun S4 => zT S4 ∧ ((126 ≤ c3 ∧ c3 < mN S4) ∧ (ma_wp X d w 33 28 [(0, .inr (.inr (some 81))), (1, .inl l1), (2, .inl (l2 + (1 : Int32)))] [] (ma_put S4 81 4 (.inl ((mI S4 81 4) + (mI S4 c3 2)))) Q))) (fun x S9 => Q (.inr x) S9))))) (fun x S9 => Q (.inr x) S9)))) : ma_wp X d w 33 28 [(0, .inr (.inr (some 81))), (1, .inl l1), (2, .inl l2)] [] S Q := by
  refine zw_push hm_33 dX3_cleanAll_28 (v := .inl l2) rfl ?_
  refine zw_push hm_33 dX3_cleanAll_29 (v := .inr (.inr (some 81))) rfl ?_
  refine zw_gf hm_33 dX3_cleanAll_30 (v := .inr (.inr (some 75))) (zT_is hS s_81) (zT_t hS s_81) rfl f_3_40_3 (zT_f hS r_81_1) ?_
  refine zw_gf hm_33 dX3_cleanAll_33 (v := .inl (mI S 75 4)) (zT_is hS s_75) (zT_t hS s_75) rfl f_3_44_10 rfl ?_
  refine zw_if2 hm_33 dX3_cleanAll_36 (t := 83) rfl zc2_ge ?_ ?_
  · intro hc
    rw [if_pos hc] at h
    refine zw_push hm_33 dX3_cleanAll_83 (v := .inl l1) rfl ?_
    exact zw_iret hm_33 dX3_cleanAll_84 h
  · intro hc
    rw [if_neg hc] at h
    refine zw_push hm_33 dX3_cleanAll_39 (v := .inr (.inr (some 81))) rfl ?_
    refine zw_gf hm_33 dX3_cleanAll_40 (v := .inr (.inr (some 75))) (zT_is hS s_81) (zT_t hS s_81) rfl f_3_40_3 (zT_f hS r_81_1) ?_
    refine zw_push hm_33 dX3_cleanAll_43 (v := .inl l2) rfl ?_
    refine zw_cv hm_33 dX3_cleanAll_44 v_3_49_10 hm_124 [.inl l2] [] rfl (zT_rt hS s_75 rfl) ⟨by omega, by omega⟩ rfl (zw_mono h (zo_go ?_ ?_))
    · intro v2 S1 hv
      obtain ⟨hS1, h⟩ := hv
      refine zw_sto hm_33 dX3_cleanAll_47 [(3, .inr (.inr v2)), (0, .inr (.inr (some 81))), (1, .inl l1), (2, .inl l2)] rfl rfl rfl ?_
      refine zw_push hm_33 dX3_cleanAll_48 (v := .inr (.inr v2)) rfl ?_
      refine zw_ifnull hm_33 dX3_cleanAll_49 (t := 77) rfl ?_ ?_
      · intro hc
        have h := h.1 hc
        (try rw [hc])
        show ma_wp X d w 33 77 [(3, .inr (.inr none)), (0, .inr (.inr (some 81))), (1, .inl l1), (2, .inl l2)] [] S1 _
        refine zw_sto hm_33 dX3_cleanAll_77 [(2, .inl (l2 + (1 : Int32))), (3, .inr (.inr none)), (0, .inr (.inr (some 81))), (1, .inl l1)] rfl rfl rfl ?_
        refine zw_goto hm_33 dX3_cleanAll_80 (t := 28) rfl ?_
        exact zw_sub (ma_nd_of (ks := [0, 1, 2]) rfl (by decide)) (ma_nd_of (ks := [2, 3, 0, 1]) rfl (by decide)) (ma_le_cons rfl (ma_le_cons rfl (ma_le_cons rfl (ma_le_nil _)))) h
      · intro c3 hc
        have h := h.2 c3 hc
        (try rw [hc])
        show ma_wp X d w 33 52 [(3, .inr (.inr (some c3))), (0, .inr (.inr (some 81))), (1, .inl l1), (2, .inl l2)] [] S1 _
        refine zw_push hm_33 dX3_cleanAll_52 (v := .inr (.inr (some 81))) rfl ?_
        refine zw_gf hm_33 dX3_cleanAll_53 (v := .inr (.inr (some 69))) (zT_is hS1 s_81) (zT_t hS1 s_81) rfl f_3_53_3 (zT_f hS1 r_81_0) ?_
        refine zw_push hm_33 dX3_cleanAll_56 (v := .inr (.inr (some c3))) rfl ?_
        refine zw_push hm_33 dX3_cleanAll_57 (v := .inr (.inr (some 81))) rfl ?_
        refine zw_gf hm_33 dX3_cleanAll_58 (v := .inl (mI S1 81 4)) (zT_is hS1 s_81) (zT_t hS1 s_81) rfl f_3_18_3 rfl ?_
        refine zw_cv hm_33 dX3_cleanAll_61 v_3_57_7 hm_90 [.inl (mI S1 81 4), .inr (.inr (some c3))] [] rfl (zT_rt hS1 s_69 rfl) ⟨by omega, by omega⟩ rfl (zw_mono h (zv_go ?_ ?_))
        · intro S4 hv
          obtain ⟨hS4, h⟩ := hv
          refine zw_push hm_33 dX3_cleanAll_64 (v := .inr (.inr (some 81))) rfl ?_
          refine zw_stk hm_33 dX3_cleanAll_65 (st₉ := [.inr (.inr (some 81)), .inr (.inr (some 81))]) rfl rfl ?_
          refine zw_gf hm_33 dX3_cleanAll_66 (v := .inl (mI S4 81 4)) (zT_is hS4 s_81) (zT_t hS4 s_81) rfl f_3_18_3 rfl ?_
          refine zw_push hm_33 dX3_cleanAll_69 (v := .inr (.inr (some c3))) rfl ?_
          obtain ⟨hg, h⟩ := h
          refine zw_gf hm_33 dX3_cleanAll_70 (v := .inl (mI S4 c3 2)) (zT_tis hS4 hg) (zT_tt hS4 hg) rfl f_3_34_9 rfl ?_
          refine zw_stk hm_33 dX3_cleanAll_73 (st₉ := [.inl ((mI S4 81 4) + (mI S4 c3 2)), .inr (.inr (some 81))]) rfl rfl ?_
          refine zw_pf hm_33 dX3_cleanAll_74 (zT_is hS4 s_81) (zT_t hS4 s_81) p_3_18_3 zk_int ?_
          refine zw_sto hm_33 dX3_cleanAll_77 [(2, .inl (l2 + (1 : Int32))), (3, .inr (.inr (some c3))), (0, .inr (.inr (some 81))), (1, .inl l1)] rfl rfl rfl ?_
          refine zw_goto hm_33 dX3_cleanAll_80 (t := 28) rfl ?_
          exact zw_sub (ma_nd_of (ks := [0, 1, 2]) rfl (by decide)) (ma_nd_of (ks := [2, 3, 0, 1]) rfl (by decide)) (ma_le_cons rfl (ma_le_cons rfl (ma_le_cons rfl (ma_le_nil _)))) h
        · intro x S9 hx
          exact ⟨by decide, hx⟩
    · intro x S9 hx
      exact ⟨by decide, hx⟩
theorem lp_33_81_28 {X : Nat × (Nat → Int32)} {d w : Nat} {f : Nat → Nat → Int32} {r : Nat → Nat → Option Nat} {C Z N : Nat} {Q : Option ma_V ⊕ Nat → ma_S → Prop} (hd : 4 ≤ d) (hw : 114 ≤ w) (K : ∀ v S₉, zJ81 f r C Z N S₉ → (True) → Q (.inl (some (.inl v))) S₉) : ∀ (n : Nat) (S : ma_S) (l1 : Int32) (l2 : Int32), (512 - l2.toInt).toNat = n → zJ81 f r C Z N S → (0 ≤ l2.toInt) → ((mI S 81 4).toInt ≤ 1500 + 61 * l2.toInt) → ma_wp X d w 33 28 [(0, .inr (.inr (some 81))), (1, .inl l1), (2, .inl l2)] [] S Q := by
  intro n
  induction n using Nat.strongRecOn with
  | _ n IH =>
    intro S l1 l2 hmu hI  hi0 hi1
    refine g_33_81_28 l1 l2 (by omega) (by omega) (zG_T hI) ?_
    have f1 := zG_s hI (0) (512) (c := 75) (k := 4) (by decide)
    have b2 := i_bd l2
    refine zd (fun h3 => ?_) (fun h3 => ?_)
    · skip
      have g4 := i_le h3
      have b5 := i_bd l1
      exact K (l1) _ hI trivial
    · skip
      have g6 := i_nle h3
      refine sp_124_75 (l2) (by omega) (by omega) (zJ81_dn hI)  (fun v2 S1 hL_S1 hq_v2 => zo_n ⟨zG_T hL_S1, ?_⟩)
      have hI_S1 := zJ81_up hI hL_S1
      refine ⟨fun _ => ?_, fun c3 hc => ?_⟩
      · skip
        have b7 := i_bd l1
        first | have e8 : (l2 + (1 : Int32)).toInt = l2.toInt + (1) := i_addk rfl (by omega) (by omega) | have b9 := i_bd (l2 + (1 : Int32))
        have f10 := zG_s hI (0) (400000) (c := 81) (k := 4) (by decide)
        have q11 : (mI S1 81 4).toInt = (mI S 81 4).toInt := zG_zi hL_S1 rfl
        have f12 := zG_s hI_S1 (0) (400000) (c := 81) (k := 4) (by decide)
        exact IH _ (by omega) _ (l1) ((l2 + (1 : Int32))) rfl hI_S1 (by omega) (show (mI S1 81 4).toInt ≤ 1500 + 61 * ((l2 + (1 : Int32))).toInt from by omega)
      · skip
        have th_c3 := hq_v2 c3 hc
        subst hc
        have f13 := zG_s hI (0) (400000) (c := 81) (k := 4) (by decide)
        have q14 : (mI S1 81 4).toInt = (mI S 81 4).toInt := zG_zi hL_S1 rfl
        have f15 := zG_s hI_S1 (0) (400000) (c := 81) (k := 4) (by decide)
        refine sp_90_69 c3 ((mI S1 81 4)) (by omega) (by omega) (zJ81_dn hI_S1) th_c3 (by omega) (fun S4 hL_S4 => zv_n ⟨zG_T hL_S4, ?_⟩)
        have hI_S4 := zJ81_up hI_S1 hL_S4
        refine ⟨zG_n hI_S4 th_c3, ?_⟩
        have q17 : (mI S4 81 4).toInt = (mI S1 81 4).toInt := zG_zi hL_S4 rfl
        have f18 := zG_s hI_S4 (0) (400000) (c := 81) (k := 4) (by decide)
        have f19 := zG_th hI_S4 th_c3
        first | have e20 : ((mI S4 81 4) + (mI S4 c3 2)).toInt = (mI S4 81 4).toInt + (mI S4 c3 2).toInt := i_add (by omega) (by omega) | have b21 := i_bd ((mI S4 81 4) + (mI S4 c3 2))
        have hI16 : zJ81 f r C Z N (ma_put S4 81 4 (.inl ((mI S4 81 4) + (mI S4 c3 2)))) := zG_sp hI_S4 (0) (400000) rfl (by decide) (by decide) (by decide) (show zJ81_x (mI S4) from zG_x hI_S4) (by omega) (by omega)
        have b22 := i_bd l1
        first | have e23 : (l2 + (1 : Int32)).toInt = l2.toInt + (1) := i_addk rfl (by omega) (by omega) | have b24 := i_bd (l2 + (1 : Int32))
        exact IH _ (by omega) _ (l1) ((l2 + (1 : Int32))) rfl hI16 (by omega) (show ((mI S4 81 4) + (mI S4 c3 2)).toInt ≤ 1500 + 61 * ((l2 + (1 : Int32))).toInt from by omega)
theorem sp_33_81 {X : Nat × (Nat → Int32)} {d w : Nat} {f : Nat → Nat → Int32} {r : Nat → Nat → Option Nat} {C Z N : Nat} {Q : Option ma_V ⊕ Nat → ma_S → Prop} {S : ma_S}  (hd : 4 ≤ d) (hw : 114 ≤ w) (hI : zJ81 f r C Z N S)  (K : ∀ v S₉, zJ81 f r C Z N S₉ → (True) → Q (.inl (some (.inl v))) S₉) : ma_wp X d w 33 0 [(0, .inr (.inr (some 81)))] [] S Q := by
  refine g_33_81_0  (by omega) (by omega) (zG_T hI) ?_
  refine sp_264_81  (by omega) (by omega) (zJ81_dn hI)  (fun v2 S1 hL_S1 hp_v2 => zi_n ⟨zG_T hL_S1, ?_⟩)
  have hI_S1 := zJ81_up hI hL_S1
  have x2 : 0 ≤ (mI S 81 3).toInt ∧ (mI S 81 3).toInt ≤ (mI S 81 2).toInt := zG_x hI
  have f3 := zG_s hI (0) (1500) (c := 81) (k := 2) (by decide)
  have q4 : (mI S1 81 2).toInt = (mI S 81 2).toInt := zG_zi hL_S1 rfl
  have x5 : 0 ≤ (mI S1 81 3).toInt ∧ (mI S1 81 3).toInt ≤ (mI S1 81 2).toInt := zG_x hI_S1
  have f6 := zG_s hI_S1 (0) (1500) (c := 81) (k := 2) (by decide)
  have f7 := zG_s hI (0) (1500) (c := 81) (k := 3) (by decide)
  have q8 : (mI S1 81 3).toInt = (mI S 81 3).toInt := zG_zi hL_S1 rfl
  have f9 := zG_s hI_S1 (0) (1500) (c := 81) (k := 3) (by decide)
  first | have e10 : ((mI S1 81 2) - (mI S1 81 3)).toInt = (mI S1 81 2).toInt - (mI S1 81 3).toInt := i_sub (by omega) (by omega) | have b11 := i_bd ((mI S1 81 2) - (mI S1 81 3))
  have hI1 : zJ81 f r C Z N (ma_put S1 81 3 (.inl ((mI S1 81 2) - (mI S1 81 3)))) := zG_sp hI_S1 (0) (1500) rfl (by decide) (by decide) (by decide) (show 0 ≤ ((mI S1 81 2) - (mI S1 81 3)).toInt ∧ ((mI S1 81 2) - (mI S1 81 3)).toInt ≤ (mI S1 81 2).toInt from by omega) (by omega) (by omega)
  have hI12 : zJ81 f r C Z N (ma_put (ma_put S1 81 3 (.inl ((mI S1 81 2) - (mI S1 81 3)))) 81 4 (.inl ((mI S1 81 2) - (mI S1 81 3)))) := zG_sp hI1 (0) (400000) rfl (by decide) (by decide) (by decide) (show zJ81_x (mI (ma_put S1 81 3 (.inl ((mI S1 81 2) - (mI S1 81 3))))) from zG_x hI1) (by omega) (by omega)
  have b13 := i_bd v2
  have li14 : (0 : Int32).toInt = 0 := rfl
  exact lp_33_81_28 (by omega) (by omega) K _ _ (v2) ((0 : Int32)) rfl hI12 (by omega) (show ((mI S1 81 2) - (mI S1 81 3)).toInt ≤ 1500 + 61 * ((0 : Int32)).toInt from by omega)
theorem g_34_81_0 {X : Nat × (Nat → Int32)} {d w : Nat} {S : ma_S} {Q : Option ma_V ⊕ Nat → ma_S → Prop} (t : Nat) (hd : 0 ≤ d) (hw : 0 ≤ w) (hS : zT S) (h : (126 ≤ t ∧ t < mN S) ∧ ((126 ≤ t ∧ t < mN S) ∧ (Q (.inl none) (ma_put S 81 4 (.inl ((mI S t 4) + (mI S t 2))))))) : ma_wp X d w 34 0 [(0, .inr (.inr (some 81))), (1, .inr (.inr (some t)))] [] S Q := by
  refine zw_push hm_34 dX3_noteMade_0 (v := .inr (.inr (some 81))) rfl ?_
  refine zw_push hm_34 dX3_noteMade_1 (v := .inr (.inr (some t))) rfl ?_
  obtain ⟨hg, h⟩ := h
  refine zw_gf hm_34 dX3_noteMade_2 (v := .inl (mI S t 4)) (zT_tis hS hg) (zT_tt hS hg) rfl f_3_29_9 rfl ?_
  refine zw_push hm_34 dX3_noteMade_5 (v := .inr (.inr (some t))) rfl ?_
  obtain ⟨hg, h⟩ := h
  refine zw_gf hm_34 dX3_noteMade_6 (v := .inl (mI S t 2)) (zT_tis hS hg) (zT_tt hS hg) rfl f_3_34_9 rfl ?_
  refine zw_stk hm_34 dX3_noteMade_9 (st₉ := [.inl ((mI S t 4) + (mI S t 2)), .inr (.inr (some 81))]) rfl rfl ?_
  refine zw_pf hm_34 dX3_noteMade_10 (zT_is hS s_81) (zT_t hS s_81) p_3_18_3 zk_int ?_
  exact zw_vret hm_34 dX3_noteMade_13 h
theorem sp_34_81 {X : Nat × (Nat → Int32)} {d w : Nat} {f : Nat → Nat → Int32} {r : Nat → Nat → Option Nat} {C Z N : Nat} {Q : Option ma_V ⊕ Nat → ma_S → Prop} {S : ma_S} (t : Nat) (hd : 0 ≤ d) (hw : 0 ≤ w) (hI : zJ81 f r C Z N S) (th_t : 126 ≤ t ∧ t < N) (K : ∀ S₉, zJ81 f r C Z N S₉ → Q (.inl none) S₉) : ma_wp X d w 34 0 [(0, .inr (.inr (some 81))), (1, .inr (.inr (some t)))] [] S Q := by
  refine g_34_81_0 t (by omega) (by omega) (zG_T hI) ?_
  refine ⟨zG_n hI th_t, ?_⟩
  refine ⟨zG_n hI th_t, ?_⟩
  have f2 := zG_th hI th_t
  have f3 := zG_th hI th_t
  first | have e4 : ((mI S t 4) + (mI S t 2)).toInt = (mI S t 4).toInt + (mI S t 2).toInt := i_add (by omega) (by omega) | have b5 := i_bd ((mI S t 4) + (mI S t 2))
  have hI1 : zJ81 f r C Z N (ma_put S 81 4 (.inl ((mI S t 4) + (mI S t 2)))) := zG_sp hI (0) (400000) rfl (by decide) (by decide) (by decide) (show zJ81_x (mI S) from zG_x hI) (by omega) (by omega)
  exact K _ hI1
theorem g_30_81_0 {X : Nat × (Nat → Int32)} {d w : Nat} {S : ma_S} {Q : Option ma_V ⊕ Nat → ma_S → Prop}  (hd : 0 ≤ d) (hw : 0 ≤ w) (hS : zT S) (h : Q (.inl (some (.inl ((2 : Int32) * (mI S 81 2))))) S) : ma_wp X d w 30 0 [(0, .inr (.inr (some 81)))] [] S Q := by
  refine zw_push hm_30 dX3_total_0 (v := .inl (2 : Int32)) rfl ?_
  refine zw_push hm_30 dX3_total_1 (v := .inr (.inr (some 81))) rfl ?_
  refine zw_gf hm_30 dX3_total_2 (v := .inl (mI S 81 2)) (zT_is hS s_81) (zT_t hS s_81) rfl f_3_9_3 rfl ?_
  refine zw_stk hm_30 dX3_total_5 (st₉ := [.inl ((2 : Int32) * (mI S 81 2))]) rfl rfl ?_
  exact zw_iret hm_30 dX3_total_6 h
theorem sp_30_81 {X : Nat × (Nat → Int32)} {d w : Nat} {f : Nat → Nat → Int32} {r : Nat → Nat → Option Nat} {C Z N : Nat} {Q : Option ma_V ⊕ Nat → ma_S → Prop} {S : ma_S}  (hd : 0 ≤ d) (hw : 0 ≤ w) (hI : zJ81 f r C Z N S)  (K : ∀ v S₉, zJ81 f r C Z N S₉ → (True) → Q (.inl (some (.inl v))) S₉) : ma_wp X d w 30 0 [(0, .inr (.inr (some 81)))] [] S Q := by
  refine g_30_81_0  (by omega) (by omega) (zG_T hI) ?_
  have li1 : (2 : Int32).toInt = 2 := rfl
  have x2 : 0 ≤ (mI S 81 3).toInt ∧ (mI S 81 3).toInt ≤ (mI S 81 2).toInt := zG_x hI
  have f3 := zG_s hI (0) (1500) (c := 81) (k := 2) (by decide)
  first | have f4 := i_muln (x := (2 : Int32)) (y := (mI S 81 2)) (by omega) (by omega) (by omega) (by omega) | have b5 := i_bd ((2 : Int32) * (mI S 81 2))
  exact K (((2 : Int32) * (mI S 81 2))) _ hI trivial
/-! from 93.b08 -/
/-! collectors, by what they keep (written by wip/tools/gen93b.py) -/
theorem g_29_81_66_zK81_0 {X : Nat × (Nat → Int32)} {d w : Nat} {S : ma_S} {Q : Option ma_V ⊕ Nat → ma_S → Prop}  (hd : 0 ≤ d) (hw : 0 ≤ w) (hS : zT S) (h : Q (.inl none) (ma_put (ma_put (ma_put S 81 2 (.inl (mI S 66 0))) 81 3 (.inl (0 : Int32))) 81 4 (.inl (0 : Int32)))) : ma_wp X d w 29 0 [(0, .inr (.inr (some 81))), (1, .inr (.inr (some 66)))] [] S Q := by
  refine zw_push hm_29 dX3_open_0 (v := .inr (.inr (some 81))) rfl ?_
  refine zw_push hm_29 dX3_open_1 (v := .inr (.inr (some 66))) rfl ?_
  refine zw_push hm_29 dX3_open_2 (v := .inl (0 : Int32)) rfl ?_
  refine zw_ia hm_29 dX3_open_3 (zT_is hS s_66) (zT_h hS s_66) rfl ⟨by decide, by decide⟩ ?_
  show ma_wp X d w 29 4 [(0, .inr (.inr (some 81))), (1, .inr (.inr (some 66)))] [.inl (mI S 66 0), .inr (.inr (some 81))] S _
  refine zw_pf hm_29 dX3_open_4 (zT_is hS s_81) (zT_t hS s_81) p_3_9_3 zk_int ?_
  refine zw_push hm_29 dX3_open_7 (v := .inr (.inr (some 81))) rfl ?_
  refine zw_push hm_29 dX3_open_8 (v := .inl (0 : Int32)) rfl ?_
  refine zw_pf hm_29 dX3_open_9 (zT_is (zT_pi hS) s_81) (zT_t (zT_pi hS) s_81) p_3_15_3 zk_int ?_
  refine zw_push hm_29 dX3_open_12 (v := .inr (.inr (some 81))) rfl ?_
  refine zw_push hm_29 dX3_open_13 (v := .inl (0 : Int32)) rfl ?_
  refine zw_pf hm_29 dX3_open_14 (zT_is (zT_pi (zT_pi hS)) s_81) (zT_t (zT_pi (zT_pi hS)) s_81) p_3_18_3 zk_int ?_
  exact zw_vret hm_29 dX3_open_17 h
theorem sp_29_81_66_zK81 {X : Nat × (Nat → Int32)} {d w : Nat} {f : Nat → Nat → Int32} {r : Nat → Nat → Option Nat} {C Z N : Nat} {Q : Option ma_V ⊕ Nat → ma_S → Prop} {S : ma_S}  (hd : 0 ≤ d) (hw : 0 ≤ w) (hI : zK81 f r C Z N S) (hpre0 : 0 ≤ (mI S 66 0).toInt ∧ (mI S 66 0).toInt ≤ 1500) (K : ∀ S₉, zK81 f r C Z N S₉ → (0 ≤ (mI S₉ 81 3).toInt ∧ (mI S₉ 81 3).toInt ≤ (mI S₉ 81 2).toInt) → Q (.inl none) S₉) : ma_wp X d w 29 0 [(0, .inr (.inr (some 81))), (1, .inr (.inr (some 66)))] [] S Q := by
  refine g_29_81_66_zK81_0  (by omega) (by omega) (zG_T hI) ?_
  have b2 := i_bd (mI S 66 0)
  have hI1 : zK81 f r C Z N (ma_put S 81 2 (.inl (mI S 66 0))) := zG_sp hI (0) (1500) rfl (by decide) (by decide) (by decide) trivial (by omega) (by omega)
  have li4 : (0 : Int32).toInt = 0 := rfl
  have hI3 : zK81 f r C Z N (ma_put (ma_put S 81 2 (.inl (mI S 66 0))) 81 3 (.inl (0 : Int32))) := zG_sp hI1 (0) (1500) rfl (by decide) (by decide) (by decide) trivial (by omega) (by omega)
  have hI5 : zK81 f r C Z N (ma_put (ma_put (ma_put S 81 2 (.inl (mI S 66 0))) 81 3 (.inl (0 : Int32))) 81 4 (.inl (0 : Int32))) := zG_sp hI3 (0) (400000) rfl (by decide) (by decide) (by decide) trivial (by omega) (by omega)
  exact K _ hI5 (show 0 ≤ (0 : Int32).toInt ∧ (0 : Int32).toInt ≤ (mI S 66 0).toInt from by omega)
theorem g_276_83_zK82_0 {X : Nat × (Nat → Int32)} {d w : Nat} {S : ma_S} {Q : Option ma_V ⊕ Nat → ma_S → Prop} (x : Int32) (hd : 0 ≤ d) (hw : 0 ≤ w) (hS : zT S) (h : ma_wp X d w 276 5 [(0, .inr (.inr (some 83))), (1, .inl x), (2, .inl (0 : Int32)), (3, .inl (375 : Int32))] [] S Q) : ma_wp X d w 276 0 [(0, .inr (.inr (some 83))), (1, .inl x)] [] S Q := by
  refine zw_push hm_276 dJ7_fill_53178_0 (v := .inl (0 : Int32)) rfl ?_
  refine zw_sto hm_276 dJ7_fill_53178_1 [(2, .inl (0 : Int32)), (0, .inr (.inr (some 83))), (1, .inl x)] rfl rfl rfl ?_
  refine zw_push hm_276 dJ7_fill_53178_2 (v := .inr (.inr (some 83))) rfl ?_
  refine zw_len hm_276 dJ7_fill_53178_3 (zT_is hS s_83) (zT_h hS s_83) rfl rfl ?_
  refine zw_sto hm_276 dJ7_fill_53178_4 [(3, .inl (375 : Int32)), (2, .inl (0 : Int32)), (0, .inr (.inr (some 83))), (1, .inl x)] rfl rfl rfl ?_
  exact zw_sub (ma_nd_of (ks := [0, 1, 2, 3]) rfl (by decide)) (ma_nd_of (ks := [3, 2, 0, 1]) rfl (by decide)) (ma_le_cons rfl (ma_le_cons rfl (ma_le_cons rfl (ma_le_cons rfl (ma_le_nil _))))) h
theorem g_276_83_zK82_5 {X : Nat × (Nat → Int32)} {d w : Nat} {S : ma_S} {Q : Option ma_V ⊕ Nat → ma_S → Prop} (l1 : Int32) (l2 : Int32) (l3 : Int32) (hd : 0 ≤ d) (hw : 0 ≤ w) (hS : zT S) (h : if l3 ≤ l2 then (Q (.inl none) S) else ((0 ≤ l2 ∧ l2.toNatClampNeg < 375) ∧ (ma_wp X d w 276 5 [(0, .inr (.inr (some 83))), (1, .inl l1), (2, .inl (l2 + (1 : Int32))), (3, .inl l3)] [] (ma_put S 83 l2.toNatClampNeg (.inl l1)) Q))) : ma_wp X d w 276 5 [(0, .inr (.inr (some 83))), (1, .inl l1), (2, .inl l2), (3, .inl l3)] [] S Q := by
  refine zw_push hm_276 dJ7_fill_53178_5 (v := .inl l2) rfl ?_
  refine zw_push hm_276 dJ7_fill_53178_6 (v := .inl l3) rfl ?_
  refine zw_if2 hm_276 dJ7_fill_53178_7 (t := 20) rfl zc2_ge ?_ ?_
  · intro hc
    rw [if_pos hc] at h
    exact zw_vret hm_276 dJ7_fill_53178_20 h
  · intro hc
    rw [if_neg hc] at h
    refine zw_push hm_276 dJ7_fill_53178_10 (v := .inr (.inr (some 83))) rfl ?_
    refine zw_push hm_276 dJ7_fill_53178_11 (v := .inl l2) rfl ?_
    refine zw_push hm_276 dJ7_fill_53178_12 (v := .inl l1) rfl ?_
    obtain ⟨hg, h⟩ := h
    refine zw_ias hm_276 dJ7_fill_53178_13 (zT_is hS s_83) (zT_h hS s_83) rfl hg ?_
    refine zw_sto hm_276 dJ7_fill_53178_14 [(2, .inl (l2 + (1 : Int32))), (0, .inr (.inr (some 83))), (1, .inl l1), (3, .inl l3)] rfl rfl rfl ?_
    refine zw_goto hm_276 dJ7_fill_53178_17 (t := 5) rfl ?_
    exact zw_sub (ma_nd_of (ks := [0, 1, 2, 3]) rfl (by decide)) (ma_nd_of (ks := [2, 0, 1, 3]) rfl (by decide)) (ma_le_cons rfl (ma_le_cons rfl (ma_le_cons rfl (ma_le_cons rfl (ma_le_nil _))))) h
theorem lp_276_83_zK82_5 {X : Nat × (Nat → Int32)} {d w : Nat} {f : Nat → Nat → Int32} {r : Nat → Nat → Option Nat} {C Z N : Nat} {Q : Option ma_V ⊕ Nat → ma_S → Prop} (hd : 0 ≤ d) (hw : 0 ≤ w) (K : ∀ S₉, zK82 f r C Z N S₉ → ((mI S₉ 82 3).toInt ≤ (mI S₉ 82 7).toInt ∧ (mI S₉ 82 7).toInt ≤ (mI S₉ 82 3).toInt + (mI S₉ 82 2).toInt) → Q (.inl none) S₉) : ∀ (n : Nat) (S : ma_S) (l1 : Int32) (l2 : Int32) (l3 : Int32), (l3.toInt - l2.toInt).toNat = n → zK82 f r C Z N S → (0 ≤ l2.toInt) → (l3.toInt = 375) → ((mI S 82 3).toInt ≤ (mI S 82 7).toInt ∧ (mI S 82 7).toInt ≤ (mI S 82 3).toInt + (mI S 82 2).toInt) → ma_wp X d w 276 5 [(0, .inr (.inr (some 83))), (1, .inl l1), (2, .inl l2), (3, .inl l3)] [] S Q := by
  intro n
  induction n using Nat.strongRecOn with
  | _ n IH =>
    intro S l1 l2 l3 hmu hI  hi0 hi1 hi2
    refine g_276_83_zK82_5 l1 l2 l3 (by omega) (by omega) (zG_T hI) ?_
    have b1 := i_bd l3
    have b2 := i_bd l2
    refine zd (fun h3 => ?_) (fun h3 => ?_)
    · skip
      have g4 := i_le h3
      have f5 := zG_s hI (0) (1500) (c := 82) (k := 3) (by decide)
      have f6 := zG_s hI (0) (3000) (c := 82) (k := 7) (by decide)
      have f7 := zG_s hI (0) (1500) (c := 82) (k := 2) (by decide)
      exact K _ hI (show (mI S 82 3).toInt ≤ (mI S 82 7).toInt ∧ (mI S 82 7).toInt ≤ (mI S 82 3).toInt + (mI S 82 2).toInt from by omega)
    · skip
      have g8 := i_nle h3
      refine ⟨i_ix (by omega) (by omega), ?_⟩
      have hI9 : zK82 f r C Z N (ma_put S 83 l2.toNatClampNeg (.inl l1)) := zG_fa hI rfl (by decide) (by decide) (by decide) trivial
      have b10 := i_bd l1
      first | have e11 : (l2 + (1 : Int32)).toInt = l2.toInt + (1) := i_addk rfl (by omega) (by omega) | have b12 := i_bd (l2 + (1 : Int32))
      have f13 := zG_s hI (0) (1500) (c := 82) (k := 3) (by decide)
      have f14 := zG_s hI (0) (3000) (c := 82) (k := 7) (by decide)
      have f15 := zG_s hI (0) (1500) (c := 82) (k := 2) (by decide)
      exact IH _ (by omega) _ (l1) ((l2 + (1 : Int32))) (l3) rfl hI9 (by omega) (by omega) (show (mI S 82 3).toInt ≤ (mI S 82 7).toInt ∧ (mI S 82 7).toInt ≤ (mI S 82 3).toInt + (mI S 82 2).toInt from by omega)
theorem sp_276_83_zK82 {X : Nat × (Nat → Int32)} {d w : Nat} {f : Nat → Nat → Int32} {r : Nat → Nat → Option Nat} {C Z N : Nat} {Q : Option ma_V ⊕ Nat → ma_S → Prop} {S : ma_S} (x : Int32) (hd : 0 ≤ d) (hw : 0 ≤ w) (hI : zK82 f r C Z N S) (hpre0 : (mI S 82 3).toInt ≤ (mI S 82 7).toInt ∧ (mI S 82 7).toInt ≤ (mI S 82 3).toInt + (mI S 82 2).toInt) (K : ∀ S₉, zK82 f r C Z N S₉ → ((mI S₉ 82 3).toInt ≤ (mI S₉ 82 7).toInt ∧ (mI S₉ 82 7).toInt ≤ (mI S₉ 82 3).toInt + (mI S₉ 82 2).toInt) → Q (.inl none) S₉) : ma_wp X d w 276 0 [(0, .inr (.inr (some 83))), (1, .inl x)] [] S Q := by
  refine g_276_83_zK82_0 x (by omega) (by omega) (zG_T hI) ?_
  have b1 := i_bd x
  have li2 : (0 : Int32).toInt = 0 := rfl
  have li3 : (375 : Int32).toInt = 375 := rfl
  have f4 := zG_s hI (0) (1500) (c := 82) (k := 3) (by decide)
  have f5 := zG_s hI (0) (3000) (c := 82) (k := 7) (by decide)
  have f6 := zG_s hI (0) (1500) (c := 82) (k := 2) (by decide)
  exact lp_276_83_zK82_5 (by omega) (by omega) K _ _ (x) ((0 : Int32)) ((375 : Int32)) rfl hI (by omega) (by omega) (show (mI S 82 3).toInt ≤ (mI S 82 7).toInt ∧ (mI S 82 7).toInt ≤ (mI S 82 3).toInt + (mI S 82 2).toInt from by omega)
theorem g_276_83_0 {X : Nat × (Nat → Int32)} {d w : Nat} {S : ma_S} {Q : Option ma_V ⊕ Nat → ma_S → Prop} (x : Int32) (hd : 0 ≤ d) (hw : 0 ≤ w) (hS : zT S) (h : ma_wp X d w 276 5 [(0, .inr (.inr (some 83))), (1, .inl x), (2, .inl (0 : Int32)), (3, .inl (375 : Int32))] [] S Q) : ma_wp X d w 276 0 [(0, .inr (.inr (some 83))), (1, .inl x)] [] S Q := by
  refine zw_push hm_276 dJ7_fill_53178_0 (v := .inl (0 : Int32)) rfl ?_
  refine zw_sto hm_276 dJ7_fill_53178_1 [(2, .inl (0 : Int32)), (0, .inr (.inr (some 83))), (1, .inl x)] rfl rfl rfl ?_
  refine zw_push hm_276 dJ7_fill_53178_2 (v := .inr (.inr (some 83))) rfl ?_
  refine zw_len hm_276 dJ7_fill_53178_3 (zT_is hS s_83) (zT_h hS s_83) rfl rfl ?_
  refine zw_sto hm_276 dJ7_fill_53178_4 [(3, .inl (375 : Int32)), (2, .inl (0 : Int32)), (0, .inr (.inr (some 83))), (1, .inl x)] rfl rfl rfl ?_
  exact zw_sub (ma_nd_of (ks := [0, 1, 2, 3]) rfl (by decide)) (ma_nd_of (ks := [3, 2, 0, 1]) rfl (by decide)) (ma_le_cons rfl (ma_le_cons rfl (ma_le_cons rfl (ma_le_cons rfl (ma_le_nil _))))) h
theorem g_276_83_5 {X : Nat × (Nat → Int32)} {d w : Nat} {S : ma_S} {Q : Option ma_V ⊕ Nat → ma_S → Prop} (l1 : Int32) (l2 : Int32) (l3 : Int32) (hd : 0 ≤ d) (hw : 0 ≤ w) (hS : zT S) (h : if l3 ≤ l2 then (Q (.inl none) S) else ((0 ≤ l2 ∧ l2.toNatClampNeg < 375) ∧ (ma_wp X d w 276 5 [(0, .inr (.inr (some 83))), (1, .inl l1), (2, .inl (l2 + (1 : Int32))), (3, .inl l3)] [] (ma_put S 83 l2.toNatClampNeg (.inl l1)) Q))) : ma_wp X d w 276 5 [(0, .inr (.inr (some 83))), (1, .inl l1), (2, .inl l2), (3, .inl l3)] [] S Q := by
  refine zw_push hm_276 dJ7_fill_53178_5 (v := .inl l2) rfl ?_
  refine zw_push hm_276 dJ7_fill_53178_6 (v := .inl l3) rfl ?_
  refine zw_if2 hm_276 dJ7_fill_53178_7 (t := 20) rfl zc2_ge ?_ ?_
  · intro hc
    rw [if_pos hc] at h
    exact zw_vret hm_276 dJ7_fill_53178_20 h
  · intro hc
    rw [if_neg hc] at h
    refine zw_push hm_276 dJ7_fill_53178_10 (v := .inr (.inr (some 83))) rfl ?_
    refine zw_push hm_276 dJ7_fill_53178_11 (v := .inl l2) rfl ?_
    refine zw_push hm_276 dJ7_fill_53178_12 (v := .inl l1) rfl ?_
    obtain ⟨hg, h⟩ := h
    refine zw_ias hm_276 dJ7_fill_53178_13 (zT_is hS s_83) (zT_h hS s_83) rfl hg ?_
    refine zw_sto hm_276 dJ7_fill_53178_14 [(2, .inl (l2 + (1 : Int32))), (0, .inr (.inr (some 83))), (1, .inl l1), (3, .inl l3)] rfl rfl rfl ?_
    refine zw_goto hm_276 dJ7_fill_53178_17 (t := 5) rfl ?_
    exact zw_sub (ma_nd_of (ks := [0, 1, 2, 3]) rfl (by decide)) (ma_nd_of (ks := [2, 0, 1, 3]) rfl (by decide)) (ma_le_cons rfl (ma_le_cons rfl (ma_le_cons rfl (ma_le_cons rfl (ma_le_nil _))))) h
theorem lp_276_83_5 {X : Nat × (Nat → Int32)} {d w : Nat} {f : Nat → Nat → Int32} {r : Nat → Nat → Option Nat} {C Z N : Nat} {Q : Option ma_V ⊕ Nat → ma_S → Prop} (hd : 0 ≤ d) (hw : 0 ≤ w) (K : ∀ S₉, zJ82 f r C Z N S₉ → Q (.inl none) S₉) : ∀ (n : Nat) (S : ma_S) (l1 : Int32) (l2 : Int32) (l3 : Int32), (l3.toInt - l2.toInt).toNat = n → zJ82 f r C Z N S → (0 ≤ l2.toInt) → (l3.toInt = 375) → ma_wp X d w 276 5 [(0, .inr (.inr (some 83))), (1, .inl l1), (2, .inl l2), (3, .inl l3)] [] S Q := by
  intro n
  induction n using Nat.strongRecOn with
  | _ n IH =>
    intro S l1 l2 l3 hmu hI  hi0 hi1
    refine g_276_83_5 l1 l2 l3 (by omega) (by omega) (zG_T hI) ?_
    have b1 := i_bd l3
    have b2 := i_bd l2
    refine zd (fun h3 => ?_) (fun h3 => ?_)
    · skip
      have g4 := i_le h3
      exact K _ hI
    · skip
      have g5 := i_nle h3
      refine ⟨i_ix (by omega) (by omega), ?_⟩
      have hI6 : zJ82 f r C Z N (ma_put S 83 l2.toNatClampNeg (.inl l1)) := zG_fa hI rfl (by decide) (by decide) (by decide) (show zJ82_x (mI S) from zG_x hI)
      have b7 := i_bd l1
      first | have e8 : (l2 + (1 : Int32)).toInt = l2.toInt + (1) := i_addk rfl (by omega) (by omega) | have b9 := i_bd (l2 + (1 : Int32))
      exact IH _ (by omega) _ (l1) ((l2 + (1 : Int32))) (l3) rfl hI6 (by omega) (by omega)
theorem sp_276_83 {X : Nat × (Nat → Int32)} {d w : Nat} {f : Nat → Nat → Int32} {r : Nat → Nat → Option Nat} {C Z N : Nat} {Q : Option ma_V ⊕ Nat → ma_S → Prop} {S : ma_S} (x : Int32) (hd : 0 ≤ d) (hw : 0 ≤ w) (hI : zJ82 f r C Z N S)  (K : ∀ S₉, zJ82 f r C Z N S₉ → Q (.inl none) S₉) : ma_wp X d w 276 0 [(0, .inr (.inr (some 83))), (1, .inl x)] [] S Q := by
  refine g_276_83_0 x (by omega) (by omega) (zG_T hI) ?_
  have b1 := i_bd x
  have li2 : (0 : Int32).toInt = 0 := rfl
  have li3 : (375 : Int32).toInt = 375 := rfl
  exact lp_276_83_5 (by omega) (by omega) K _ _ (x) ((0 : Int32)) ((375 : Int32)) rfl hI (by omega) (by omega)
theorem g_1_82_66_zK82_0 {X : Nat × (Nat → Int32)} {d w : Nat} {S : ma_S} {Q : Option ma_V ⊕ Nat → ma_S → Prop}  (hd : 1 ≤ d) (hw : 23 ≤ w) (hS : zT S) (h : ma_wp X (d - 1) (w - 23) 276 0 [(0, .inr (.inr (some 83))), (1, .inl (0 : Int32))] [] (ma_put (ma_put (ma_put (ma_put (ma_put (ma_put (ma_put S 82 2 (.inl (mI S 66 0))) 82 3 (.inl (mI S 66 1))) 82 4 (.inl (mI S 66 2))) 82 5 (.inl (mI S 66 3))) 82 6 (.inl (0 : Int32))) 82 7 (.inl (mI S 66 1))) 82 8 (.inl (mI S 66 1))) (zv (fun S1 => zT S1 ∧ (Q (.inl none) S1)) (fun _ _ => False))) : ma_wp X d w 1 0 [(0, .inr (.inr (some 82))), (1, .inr (.inr (some 66)))] [] S Q := by
  refine zw_push hm_1 dX0_open_0 (v := .inr (.inr (some 82))) rfl ?_
  refine zw_push hm_1 dX0_open_1 (v := .inr (.inr (some 66))) rfl ?_
  refine zw_push hm_1 dX0_open_2 (v := .inl (0 : Int32)) rfl ?_
  refine zw_ia hm_1 dX0_open_3 (zT_is hS s_66) (zT_h hS s_66) rfl ⟨by decide, by decide⟩ ?_
  show ma_wp X d w 1 4 [(0, .inr (.inr (some 82))), (1, .inr (.inr (some 66)))] [.inl (mI S 66 0), .inr (.inr (some 82))] S _
  refine zw_pf hm_1 dX0_open_4 (zT_is hS s_82) (zT_t hS s_82) p_1_15_1 zk_int ?_
  refine zw_push hm_1 dX0_open_7 (v := .inr (.inr (some 82))) rfl ?_
  refine zw_push hm_1 dX0_open_8 (v := .inr (.inr (some 66))) rfl ?_
  refine zw_push hm_1 dX0_open_9 (v := .inl (1 : Int32)) rfl ?_
  refine zw_ia hm_1 dX0_open_10 (zT_is (zT_pi hS) s_66) (zT_h (zT_pi hS) s_66) rfl ⟨by decide, by decide⟩ ?_
  show ma_wp X d w 1 11 [(0, .inr (.inr (some 82))), (1, .inr (.inr (some 66)))] [.inl (mI S 66 1), .inr (.inr (some 82))] (ma_put S 82 2 (.inl (mI S 66 0))) _
  refine zw_pf hm_1 dX0_open_11 (zT_is (zT_pi hS) s_82) (zT_t (zT_pi hS) s_82) p_1_19_1 zk_int ?_
  refine zw_push hm_1 dX0_open_14 (v := .inr (.inr (some 82))) rfl ?_
  refine zw_push hm_1 dX0_open_15 (v := .inr (.inr (some 66))) rfl ?_
  refine zw_push hm_1 dX0_open_16 (v := .inl (2 : Int32)) rfl ?_
  refine zw_ia hm_1 dX0_open_17 (zT_is (zT_pi (zT_pi hS)) s_66) (zT_h (zT_pi (zT_pi hS)) s_66) rfl ⟨by decide, by decide⟩ ?_
  show ma_wp X d w 1 18 [(0, .inr (.inr (some 82))), (1, .inr (.inr (some 66)))] [.inl (mI S 66 2), .inr (.inr (some 82))] (ma_put (ma_put S 82 2 (.inl (mI S 66 0))) 82 3 (.inl (mI S 66 1))) _
  refine zw_pf hm_1 dX0_open_18 (zT_is (zT_pi (zT_pi hS)) s_82) (zT_t (zT_pi (zT_pi hS)) s_82) p_1_22_1 zk_int ?_
  refine zw_push hm_1 dX0_open_21 (v := .inr (.inr (some 82))) rfl ?_
  refine zw_push hm_1 dX0_open_22 (v := .inr (.inr (some 66))) rfl ?_
  refine zw_push hm_1 dX0_open_23 (v := .inl (3 : Int32)) rfl ?_
  refine zw_ia hm_1 dX0_open_24 (zT_is (zT_pi (zT_pi (zT_pi hS))) s_66) (zT_h (zT_pi (zT_pi (zT_pi hS))) s_66) rfl ⟨by decide, by decide⟩ ?_
  show ma_wp X d w 1 25 [(0, .inr (.inr (some 82))), (1, .inr (.inr (some 66)))] [.inl (mI S 66 3), .inr (.inr (some 82))] (ma_put (ma_put (ma_put S 82 2 (.inl (mI S 66 0))) 82 3 (.inl (mI S 66 1))) 82 4 (.inl (mI S 66 2))) _
  refine zw_pf hm_1 dX0_open_25 (zT_is (zT_pi (zT_pi (zT_pi hS))) s_82) (zT_t (zT_pi (zT_pi (zT_pi hS))) s_82) p_1_25_1 zk_int ?_
  refine zw_push hm_1 dX0_open_28 (v := .inr (.inr (some 82))) rfl ?_
  refine zw_push hm_1 dX0_open_29 (v := .inl (0 : Int32)) rfl ?_
  refine zw_pf hm_1 dX0_open_30 (zT_is (zT_pi (zT_pi (zT_pi (zT_pi hS)))) s_82) (zT_t (zT_pi (zT_pi (zT_pi (zT_pi hS)))) s_82) p_1_28_1 zk_int ?_
  refine zw_push hm_1 dX0_open_33 (v := .inr (.inr (some 82))) rfl ?_
  refine zw_push hm_1 dX0_open_34 (v := .inr (.inr (some 82))) rfl ?_
  refine zw_gf hm_1 dX0_open_35 (v := .inl (mI S 66 1)) (zT_is (zT_pi (zT_pi (zT_pi (zT_pi (zT_pi hS))))) s_82) (zT_t (zT_pi (zT_pi (zT_pi (zT_pi (zT_pi hS))))) s_82) rfl f_1_19_1 rfl ?_
  refine zw_pf hm_1 dX0_open_38 (zT_is (zT_pi (zT_pi (zT_pi (zT_pi (zT_pi hS))))) s_82) (zT_t (zT_pi (zT_pi (zT_pi (zT_pi (zT_pi hS))))) s_82) p_1_31_1 zk_int ?_
  refine zw_push hm_1 dX0_open_41 (v := .inr (.inr (some 82))) rfl ?_
  refine zw_push hm_1 dX0_open_42 (v := .inr (.inr (some 82))) rfl ?_
  refine zw_gf hm_1 dX0_open_43 (v := .inl (mI S 66 1)) (zT_is (zT_pi (zT_pi (zT_pi (zT_pi (zT_pi (zT_pi hS)))))) s_82) (zT_t (zT_pi (zT_pi (zT_pi (zT_pi (zT_pi (zT_pi hS)))))) s_82) rfl f_1_19_1 rfl ?_
  refine zw_pf hm_1 dX0_open_46 (zT_is (zT_pi (zT_pi (zT_pi (zT_pi (zT_pi (zT_pi hS)))))) s_82) (zT_t (zT_pi (zT_pi (zT_pi (zT_pi (zT_pi (zT_pi hS)))))) s_82) p_1_34_1 zk_int ?_
  refine zw_push hm_1 dX0_open_49 (v := .inr (.inr (some 82))) rfl ?_
  refine zw_gf hm_1 dX0_open_50 (v := .inr (.inr (some 83))) (zT_is (zT_pi (zT_pi (zT_pi (zT_pi (zT_pi (zT_pi (zT_pi hS))))))) s_82) (zT_t (zT_pi (zT_pi (zT_pi (zT_pi (zT_pi (zT_pi (zT_pi hS))))))) s_82) rfl f_1_9_1 (zT_f (zT_pi (zT_pi (zT_pi (zT_pi (zT_pi (zT_pi (zT_pi hS))))))) r_82_9) ?_
  refine zw_push hm_1 dX0_open_53 (v := .inl (0 : Int32)) rfl ?_
  refine zw_cs hm_1 dX0_open_54 pn_1_37 sl_1_37 hm_276 [.inl (0 : Int32), .inr (.inr (some 83))] [] rfl ⟨by omega, by omega⟩ rfl (zw_mono h (zv_go ?_ ?_))
  · intro S1 hv
    obtain ⟨hS1, h⟩ := hv
    exact zw_vret hm_1 dX0_open_57 h
  · intro x S9 hx
    exact hx.elim
theorem sp_1_82_66_zK82 {X : Nat × (Nat → Int32)} {d w : Nat} {f : Nat → Nat → Int32} {r : Nat → Nat → Option Nat} {C Z N : Nat} {Q : Option ma_V ⊕ Nat → ma_S → Prop} {S : ma_S}  (hd : 1 ≤ d) (hw : 23 ≤ w) (hI : zK82 f r C Z N S) (hpre0 : 0 ≤ (mI S 66 0).toInt ∧ (mI S 66 0).toInt ≤ 1500 ∧ 0 ≤ (mI S 66 1).toInt ∧ (mI S 66 1).toInt ≤ 1500) (K : ∀ S₉, zK82 f r C Z N S₉ → ((mI S₉ 82 3).toInt ≤ (mI S₉ 82 7).toInt ∧ (mI S₉ 82 7).toInt ≤ (mI S₉ 82 3).toInt + (mI S₉ 82 2).toInt) → Q (.inl none) S₉) : ma_wp X d w 1 0 [(0, .inr (.inr (some 82))), (1, .inr (.inr (some 66)))] [] S Q := by
  refine g_1_82_66_zK82_0  (by omega) (by omega) (zG_T hI) ?_
  have li1 : (0 : Int32).toInt = 0 := rfl
  have b3 := i_bd (mI S 66 0)
  have hI2 : zK82 f r C Z N (ma_put S 82 2 (.inl (mI S 66 0))) := zG_sp hI (0) (1500) rfl (by decide) (by decide) (by decide) trivial (by omega) (by omega)
  have b5 := i_bd (mI S 66 1)
  have hI4 : zK82 f r C Z N (ma_put (ma_put S 82 2 (.inl (mI S 66 0))) 82 3 (.inl (mI S 66 1))) := zG_sp hI2 (0) (1500) rfl (by decide) (by decide) (by decide) trivial (by omega) (by omega)
  have hI6 : zK82 f r C Z N (ma_put (ma_put (ma_put S 82 2 (.inl (mI S 66 0))) 82 3 (.inl (mI S 66 1))) 82 4 (.inl (mI S 66 2))) := zG_fr hI4 rfl (by decide) (by decide) (by decide) trivial
  have hI7 : zK82 f r C Z N (ma_put (ma_put (ma_put (ma_put S 82 2 (.inl (mI S 66 0))) 82 3 (.inl (mI S 66 1))) 82 4 (.inl (mI S 66 2))) 82 5 (.inl (mI S 66 3))) := zG_fr hI6 rfl (by decide) (by decide) (by decide) trivial
  have hI8 : zK82 f r C Z N (ma_put (ma_put (ma_put (ma_put (ma_put S 82 2 (.inl (mI S 66 0))) 82 3 (.inl (mI S 66 1))) 82 4 (.inl (mI S 66 2))) 82 5 (.inl (mI S 66 3))) 82 6 (.inl (0 : Int32))) := zG_sp hI7 (0) (400000) rfl (by decide) (by decide) (by decide) trivial (by omega) (by omega)
  have hI9 : zK82 f r C Z N (ma_put (ma_put (ma_put (ma_put (ma_put (ma_put S 82 2 (.inl (mI S 66 0))) 82 3 (.inl (mI S 66 1))) 82 4 (.inl (mI S 66 2))) 82 5 (.inl (mI S 66 3))) 82 6 (.inl (0 : Int32))) 82 7 (.inl (mI S 66 1))) := zG_sp hI8 (0) (3000) rfl (by decide) (by decide) (by decide) trivial (by omega) (by omega)
  have hI10 : zK82 f r C Z N (ma_put (ma_put (ma_put (ma_put (ma_put (ma_put (ma_put S 82 2 (.inl (mI S 66 0))) 82 3 (.inl (mI S 66 1))) 82 4 (.inl (mI S 66 2))) 82 5 (.inl (mI S 66 3))) 82 6 (.inl (0 : Int32))) 82 7 (.inl (mI S 66 1))) 82 8 (.inl (mI S 66 1))) := zG_sp hI9 (0) (400000) rfl (by decide) (by decide) (by decide) trivial (by omega) (by omega)
  refine sp_276_83_zK82 ((0 : Int32)) (by omega) (by omega) hI10 (show (mI S 66 1).toInt ≤ (mI S 66 1).toInt ∧ (mI S 66 1).toInt ≤ (mI S 66 1).toInt + (mI S 66 0).toInt from by omega) (fun S1 hI_S1 hp_S1 => zv_n ⟨zG_T hI_S1, ?_⟩)
  have f11 := zG_s hI_S1 (0) (1500) (c := 82) (k := 3) (by decide)
  have f12 := zG_s hI_S1 (0) (3000) (c := 82) (k := 7) (by decide)
  have f13 := zG_s hI_S1 (0) (1500) (c := 82) (k := 2) (by decide)
  exact K _ hI_S1 (show (mI S1 82 3).toInt ≤ (mI S1 82 7).toInt ∧ (mI S1 82 7).toInt ≤ (mI S1 82 3).toInt + (mI S1 82 2).toInt from by omega)
theorem g_2_82_0 {X : Nat × (Nat → Int32)} {d w : Nat} {S : ma_S} {Q : Option ma_V ⊕ Nat → ma_S → Prop}  (hd : 0 ≤ d) (hw : 0 ≤ w) (hS : zT S) (h : Q (.inl (some (.inl ((mI S 82 3) + ((2 : Int32) * (mI S 82 2)))))) S) : ma_wp X d w 2 0 [(0, .inr (.inr (some 82)))] [] S Q := by
  refine zw_push hm_2 dX0_total_0 (v := .inr (.inr (some 82))) rfl ?_
  refine zw_gf hm_2 dX0_total_1 (v := .inl (mI S 82 3)) (zT_is hS s_82) (zT_t hS s_82) rfl f_1_19_1 rfl ?_
  refine zw_push hm_2 dX0_total_4 (v := .inl (2 : Int32)) rfl ?_
  refine zw_push hm_2 dX0_total_5 (v := .inr (.inr (some 82))) rfl ?_
  refine zw_gf hm_2 dX0_total_6 (v := .inl (mI S 82 2)) (zT_is hS s_82) (zT_t hS s_82) rfl f_1_15_1 rfl ?_
  refine zw_stk hm_2 dX0_total_9 (st₉ := [.inl ((2 : Int32) * (mI S 82 2)), .inl (mI S 82 3)]) rfl rfl ?_
  refine zw_stk hm_2 dX0_total_10 (st₉ := [.inl ((mI S 82 3) + ((2 : Int32) * (mI S 82 2)))]) rfl rfl ?_
  exact zw_iret hm_2 dX0_total_11 h
theorem sp_2_82 {X : Nat × (Nat → Int32)} {d w : Nat} {f : Nat → Nat → Int32} {r : Nat → Nat → Option Nat} {C Z N : Nat} {Q : Option ma_V ⊕ Nat → ma_S → Prop} {S : ma_S}  (hd : 0 ≤ d) (hw : 0 ≤ w) (hI : zJ82 f r C Z N S)  (K : ∀ v S₉, zJ82 f r C Z N S₉ → (True) → Q (.inl (some (.inl v))) S₉) : ma_wp X d w 2 0 [(0, .inr (.inr (some 82)))] [] S Q := by
  refine g_2_82_0  (by omega) (by omega) (zG_T hI) ?_
  have x1 : (mI S 82 3).toInt ≤ (mI S 82 7).toInt ∧ (mI S 82 7).toInt ≤ (mI S 82 3).toInt + (mI S 82 2).toInt := zG_x hI
  have f2 := zG_s hI (0) (1500) (c := 82) (k := 3) (by decide)
  have li3 : (2 : Int32).toInt = 2 := rfl
  have f4 := zG_s hI (0) (1500) (c := 82) (k := 2) (by decide)
  first | have f5 := i_muln (x := (2 : Int32)) (y := (mI S 82 2)) (by omega) (by omega) (by omega) (by omega) | have b6 := i_bd ((2 : Int32) * (mI S 82 2))
  first | have e7 : ((mI S 82 3) + ((2 : Int32) * (mI S 82 2))).toInt = (mI S 82 3).toInt + ((2 : Int32) * (mI S 82 2)).toInt := i_add (by omega) (by omega) | have b8 := i_bd ((mI S 82 3) + ((2 : Int32) * (mI S 82 2)))
  exact K (((mI S 82 3) + ((2 : Int32) * (mI S 82 2)))) _ hI trivial
theorem g_21_82_0 {X : Nat × (Nat → Int32)} {d w : Nat} {S : ma_S} {Q : Option ma_V ⊕ Nat → ma_S → Prop}  (hd : 0 ≤ d) (hw : 0 ≤ w) (hS : zT S) (h : Q (.inl (some (.inl (mI S 82 8)))) S) : ma_wp X d w 21 0 [(0, .inr (.inr (some 82)))] [] S Q := by
  refine zw_push hm_21 dX0_topPlace_0 (v := .inr (.inr (some 82))) rfl ?_
  refine zw_gf hm_21 dX0_topPlace_1 (v := .inl (mI S 82 8)) (zT_is hS s_82) (zT_t hS s_82) rfl f_1_34_1 rfl ?_
  exact zw_iret hm_21 dX0_topPlace_4 h
theorem sp_21_82 {X : Nat × (Nat → Int32)} {d w : Nat} {f : Nat → Nat → Int32} {r : Nat → Nat → Option Nat} {C Z N : Nat} {Q : Option ma_V ⊕ Nat → ma_S → Prop} {S : ma_S}  (hd : 0 ≤ d) (hw : 0 ≤ w) (hI : zJ82 f r C Z N S)  (K : ∀ v S₉, zJ82 f r C Z N S₉ → (True) → Q (.inl (some (.inl v))) S₉) : ma_wp X d w 21 0 [(0, .inr (.inr (some 82)))] [] S Q := by
  refine g_21_82_0  (by omega) (by omega) (zG_T hI) ?_
  have f1 := zG_s hI (0) (400000) (c := 82) (k := 8) (by decide)
  exact K ((mI S 82 8)) _ hI trivial

/-! from 93.b09 -/
/-! collectors, by what they keep (written by wip/tools/gen93b.py) -/
theorem g_22_82_0 {X : Nat × (Nat → Int32)} {d w : Nat} {S : ma_S} {Q : Option ma_V ⊕ Nat → ma_S → Prop}  (hd : 0 ≤ d) (hw : 0 ≤ w) (hS : zT S) (h : Q (.inl (some (.inl (mI S 82 6)))) S) : ma_wp X d w 22 0 [(0, .inr (.inr (some 82)))] [] S Q := by
  refine zw_push hm_22 dX0_oldTopOrRegion_0 (v := .inr (.inr (some 82))) rfl ?_
  refine zw_gf hm_22 dX0_oldTopOrRegion_1 (v := .inl (mI S 82 6)) (zT_is hS s_82) (zT_t hS s_82) rfl f_1_28_1 rfl ?_
  exact zw_iret hm_22 dX0_oldTopOrRegion_4 h
theorem sp_22_82 {X : Nat × (Nat → Int32)} {d w : Nat} {f : Nat → Nat → Int32} {r : Nat → Nat → Option Nat} {C Z N : Nat} {Q : Option ma_V ⊕ Nat → ma_S → Prop} {S : ma_S}  (hd : 0 ≤ d) (hw : 0 ≤ w) (hI : zJ82 f r C Z N S)  (K : ∀ v S₉, zJ82 f r C Z N S₉ → (True) → Q (.inl (some (.inl v))) S₉) : ma_wp X d w 22 0 [(0, .inr (.inr (some 82)))] [] S Q := by
  refine g_22_82_0  (by omega) (by omega) (zG_T hI) ?_
  have f1 := zG_s hI (0) (400000) (c := 82) (k := 6) (by decide)
  exact K ((mI S 82 6)) _ hI trivial
theorem g_18_82_0 {X : Nat × (Nat → Int32)} {d w : Nat} {S : ma_S} {Q : Option ma_V ⊕ Nat → ma_S → Prop} (t : Nat) (hd : 1 ≤ d) (hw : 21 ≤ w) (hS : zT S) (h : (126 ≤ t ∧ t < mN S) ∧ (if (mI S t 4) < (mI S 82 3) then (Q (.inl (some (.inl (1 : Int32)))) S) else (Q (.inl (some (.inl (0 : Int32)))) S))) : ma_wp X d w 18 0 [(0, .inr (.inr (some 82))), (1, .inr (.inr (some t)))] [] S Q := by
  refine zw_push hm_18 dX0_canHold_0 (v := .inr (.inr (some 82))) rfl ?_
  refine zw_push hm_18 dX0_canHold_1 (v := .inr (.inr (some t))) rfl ?_
  refine zw_cv hm_18 dX0_canHold_2 v_1_58_1 hm_7 [.inr (.inr (some t))] [] rfl (zT_rt hS s_82 rfl) ⟨by omega, by omega⟩ rfl ?_
  show ma_wp X (d - 1) (w - 21) 7 0 [(0, .inr (.inr (some 82))), (1, .inr (.inr (some t)))] [] S _
  refine zw_push hm_7 dX0_isYoung_0 (v := .inr (.inr (some t))) rfl ?_
  obtain ⟨hg, h⟩ := h
  refine zw_gf hm_7 dX0_isYoung_1 (v := .inl (mI S t 4)) (zT_tis hS hg) (zT_tt hS hg) rfl f_1_62_9 rfl ?_
  refine zw_push hm_7 dX0_isYoung_4 (v := .inr (.inr (some 82))) rfl ?_
  refine zw_gf hm_7 dX0_isYoung_5 (v := .inl (mI S 82 3)) (zT_is hS s_82) (zT_t hS s_82) rfl f_1_19_1 rfl ?_
  refine zw_if2 hm_7 dX0_isYoung_8 (t := 15) rfl zc2_lt ?_ ?_
  · intro hc
    rw [if_pos hc] at h
    refine zw_push hm_7 dX0_isYoung_15 (v := .inl (0 : Int32)) rfl ?_
    refine zw_bret hm_7 dX0_isYoung_16 (by decide) ?_
    show ma_wp X d w 18 5 [(0, .inr (.inr (some 82))), (1, .inr (.inr (some t)))] [.inl (0 : Int32)] S _
    refine zw_if0 hm_18 dX0_canHold_5 (t := 12) rfl zc0_ne (fun hc => absurd hc (by decide)) (fun _ => ?_)
    refine zw_push hm_18 dX0_canHold_8 (v := .inl (1 : Int32)) rfl ?_
    refine zw_goto hm_18 dX0_canHold_9 (t := 13) rfl ?_
    exact zw_bret hm_18 dX0_canHold_13 (by decide) h
  · intro hc
    rw [if_neg hc] at h
    refine zw_push hm_7 dX0_isYoung_11 (v := .inl (1 : Int32)) rfl ?_
    refine zw_goto hm_7 dX0_isYoung_12 (t := 16) rfl ?_
    refine zw_bret hm_7 dX0_isYoung_16 (by decide) ?_
    show ma_wp X d w 18 5 [(0, .inr (.inr (some 82))), (1, .inr (.inr (some t)))] [.inl (1 : Int32)] S _
    refine zw_if0 hm_18 dX0_canHold_5 (t := 12) rfl zc0_ne (fun _ => ?_) (fun hc => absurd (by decide) hc)
    refine zw_push hm_18 dX0_canHold_12 (v := .inl (0 : Int32)) rfl ?_
    exact zw_bret hm_18 dX0_canHold_13 (by decide) h
theorem sp_18_82 {X : Nat × (Nat → Int32)} {d w : Nat} {f : Nat → Nat → Int32} {r : Nat → Nat → Option Nat} {C Z N : Nat} {Q : Option ma_V ⊕ Nat → ma_S → Prop} {S : ma_S} (t : Nat) (hd : 1 ≤ d) (hw : 21 ≤ w) (hI : zJ82 f r C Z N S) (th_t : 126 ≤ t ∧ t < N) (K : ∀ v S₉, zJ82 f r C Z N S₉ → (v = 0 ∨ v = 1) → Q (.inl (some (.inl v))) S₉) : ma_wp X d w 18 0 [(0, .inr (.inr (some 82))), (1, .inr (.inr (some t)))] [] S Q := by
  refine g_18_82_0 t (by omega) (by omega) (zG_T hI) ?_
  refine ⟨zG_n hI th_t, ?_⟩
  have f1 := zG_th hI th_t
  have x2 : (mI S 82 3).toInt ≤ (mI S 82 7).toInt ∧ (mI S 82 7).toInt ≤ (mI S 82 3).toInt + (mI S 82 2).toInt := zG_x hI
  have f3 := zG_s hI (0) (1500) (c := 82) (k := 3) (by decide)
  refine zd (fun h4 => ?_) (fun h4 => ?_)
  · skip
    have g5 := i_lt h4
    have li6 : (1 : Int32).toInt = 1 := rfl
    exact K ((1 : Int32)) _ hI (by decide)
  · skip
    have g7 := i_nlt h4
    have li8 : (0 : Int32).toInt = 0 := rfl
    exact K ((0 : Int32)) _ hI (by decide)
theorem g_17_82_0 {X : Nat × (Nat → Int32)} {d w : Nat} {S : ma_S} {Q : Option ma_V ⊕ Nat → ma_S → Prop} (t : Nat) (hd : 1 ≤ d) (hw : 21 ≤ w) (hS : zT S) (h : (126 ≤ t ∧ t < mN S) ∧ (if (mI S t 4) < (mI S 82 3) then ((126 ≤ t ∧ t < mN S) ∧ ((126 ≤ t ∧ t < mN S) ∧ (Q (.inl none) (ma_put S 82 6 (.inl ((mI S t 4) + (mI S t 2))))))) else ((126 ≤ t ∧ t < mN S) ∧ ((126 ≤ t ∧ t < mN S) ∧ (Q (.inl none) (ma_put S 82 8 (.inl ((mI S t 4) + (mI S t 2))))))))) : ma_wp X d w 17 0 [(0, .inr (.inr (some 82))), (1, .inr (.inr (some t)))] [] S Q := by
  refine zw_push hm_17 dX0_noteMade_0 (v := .inr (.inr (some 82))) rfl ?_
  refine zw_push hm_17 dX0_noteMade_1 (v := .inr (.inr (some t))) rfl ?_
  refine zw_cv hm_17 dX0_noteMade_2 v_1_58_1 hm_7 [.inr (.inr (some t))] [] rfl (zT_rt hS s_82 rfl) ⟨by omega, by omega⟩ rfl ?_
  show ma_wp X (d - 1) (w - 21) 7 0 [(0, .inr (.inr (some 82))), (1, .inr (.inr (some t)))] [] S _
  refine zw_push hm_7 dX0_isYoung_0 (v := .inr (.inr (some t))) rfl ?_
  obtain ⟨hg, h⟩ := h
  refine zw_gf hm_7 dX0_isYoung_1 (v := .inl (mI S t 4)) (zT_tis hS hg) (zT_tt hS hg) rfl f_1_62_9 rfl ?_
  refine zw_push hm_7 dX0_isYoung_4 (v := .inr (.inr (some 82))) rfl ?_
  refine zw_gf hm_7 dX0_isYoung_5 (v := .inl (mI S 82 3)) (zT_is hS s_82) (zT_t hS s_82) rfl f_1_19_1 rfl ?_
  refine zw_if2 hm_7 dX0_isYoung_8 (t := 15) rfl zc2_lt ?_ ?_
  · intro hc
    rw [if_pos hc] at h
    refine zw_push hm_7 dX0_isYoung_15 (v := .inl (0 : Int32)) rfl ?_
    refine zw_bret hm_7 dX0_isYoung_16 (by decide) ?_
    show ma_wp X d w 17 5 [(0, .inr (.inr (some 82))), (1, .inr (.inr (some t)))] [.inl (0 : Int32)] S _
    refine zw_if0 hm_17 dX0_noteMade_5 (t := 24) rfl zc0_eq (fun _ => ?_) (fun hc => absurd (by decide) hc)
    refine zw_push hm_17 dX0_noteMade_24 (v := .inr (.inr (some 82))) rfl ?_
    refine zw_push hm_17 dX0_noteMade_25 (v := .inr (.inr (some t))) rfl ?_
    obtain ⟨hg, h⟩ := h
    refine zw_gf hm_17 dX0_noteMade_26 (v := .inl (mI S t 4)) (zT_tis hS hg) (zT_tt hS hg) rfl f_1_62_9 rfl ?_
    refine zw_push hm_17 dX0_noteMade_29 (v := .inr (.inr (some t))) rfl ?_
    obtain ⟨hg, h⟩ := h
    refine zw_gf hm_17 dX0_noteMade_30 (v := .inl (mI S t 2)) (zT_tis hS hg) (zT_tt hS hg) rfl f_1_67_9 rfl ?_
    refine zw_stk hm_17 dX0_noteMade_33 (st₉ := [.inl ((mI S t 4) + (mI S t 2)), .inr (.inr (some 82))]) rfl rfl ?_
    refine zw_pf hm_17 dX0_noteMade_34 (zT_is hS s_82) (zT_t hS s_82) p_1_28_1 zk_int ?_
    exact zw_vret hm_17 dX0_noteMade_37 h
  · intro hc
    rw [if_neg hc] at h
    refine zw_push hm_7 dX0_isYoung_11 (v := .inl (1 : Int32)) rfl ?_
    refine zw_goto hm_7 dX0_isYoung_12 (t := 16) rfl ?_
    refine zw_bret hm_7 dX0_isYoung_16 (by decide) ?_
    show ma_wp X d w 17 5 [(0, .inr (.inr (some 82))), (1, .inr (.inr (some t)))] [.inl (1 : Int32)] S _
    refine zw_if0 hm_17 dX0_noteMade_5 (t := 24) rfl zc0_eq (fun hc => absurd hc (by decide)) (fun _ => ?_)
    refine zw_push hm_17 dX0_noteMade_8 (v := .inr (.inr (some 82))) rfl ?_
    refine zw_push hm_17 dX0_noteMade_9 (v := .inr (.inr (some t))) rfl ?_
    obtain ⟨hg, h⟩ := h
    refine zw_gf hm_17 dX0_noteMade_10 (v := .inl (mI S t 4)) (zT_tis hS hg) (zT_tt hS hg) rfl f_1_62_9 rfl ?_
    refine zw_push hm_17 dX0_noteMade_13 (v := .inr (.inr (some t))) rfl ?_
    obtain ⟨hg, h⟩ := h
    refine zw_gf hm_17 dX0_noteMade_14 (v := .inl (mI S t 2)) (zT_tis hS hg) (zT_tt hS hg) rfl f_1_67_9 rfl ?_
    refine zw_stk hm_17 dX0_noteMade_17 (st₉ := [.inl ((mI S t 4) + (mI S t 2)), .inr (.inr (some 82))]) rfl rfl ?_
    refine zw_pf hm_17 dX0_noteMade_18 (zT_is hS s_82) (zT_t hS s_82) p_1_34_1 zk_int ?_
    refine zw_goto hm_17 dX0_noteMade_21 (t := 37) rfl ?_
    exact zw_vret hm_17 dX0_noteMade_37 h
theorem sp_17_82 {X : Nat × (Nat → Int32)} {d w : Nat} {f : Nat → Nat → Int32} {r : Nat → Nat → Option Nat} {C Z N : Nat} {Q : Option ma_V ⊕ Nat → ma_S → Prop} {S : ma_S} (t : Nat) (hd : 1 ≤ d) (hw : 21 ≤ w) (hI : zJ82 f r C Z N S) (th_t : 126 ≤ t ∧ t < N) (K : ∀ S₉, zJ82 f r C Z N S₉ → Q (.inl none) S₉) : ma_wp X d w 17 0 [(0, .inr (.inr (some 82))), (1, .inr (.inr (some t)))] [] S Q := by
  refine g_17_82_0 t (by omega) (by omega) (zG_T hI) ?_
  refine ⟨zG_n hI th_t, ?_⟩
  have f1 := zG_th hI th_t
  have x2 : (mI S 82 3).toInt ≤ (mI S 82 7).toInt ∧ (mI S 82 7).toInt ≤ (mI S 82 3).toInt + (mI S 82 2).toInt := zG_x hI
  have f3 := zG_s hI (0) (1500) (c := 82) (k := 3) (by decide)
  refine zd (fun h4 => ?_) (fun h4 => ?_)
  · skip
    have g5 := i_lt h4
    refine ⟨zG_n hI th_t, ?_⟩
    refine ⟨zG_n hI th_t, ?_⟩
    have f7 := zG_th hI th_t
    first | have e8 : ((mI S t 4) + (mI S t 2)).toInt = (mI S t 4).toInt + (mI S t 2).toInt := i_add (by omega) (by omega) | have b9 := i_bd ((mI S t 4) + (mI S t 2))
    have hI6 : zJ82 f r C Z N (ma_put S 82 6 (.inl ((mI S t 4) + (mI S t 2)))) := zG_sp hI (0) (400000) rfl (by decide) (by decide) (by decide) (show zJ82_x (mI S) from zG_x hI) (by omega) (by omega)
    exact K _ hI6
  · skip
    have g10 := i_nlt h4
    refine ⟨zG_n hI th_t, ?_⟩
    refine ⟨zG_n hI th_t, ?_⟩
    have f12 := zG_th hI th_t
    first | have e13 : ((mI S t 4) + (mI S t 2)).toInt = (mI S t 4).toInt + (mI S t 2).toInt := i_add (by omega) (by omega) | have b14 := i_bd ((mI S t 4) + (mI S t 2))
    have hI11 : zJ82 f r C Z N (ma_put S 82 8 (.inl ((mI S t 4) + (mI S t 2)))) := zG_sp hI (0) (400000) rfl (by decide) (by decide) (by decide) (show zJ82_x (mI S) from zG_x hI) (by omega) (by omega)
    exact K _ hI11
theorem g_20_82_0 {X : Nat × (Nat → Int32)} {d w : Nat} {S : ma_S} {Q : Option ma_V ⊕ Nat → ma_S → Prop}  (hd : 0 ≤ d) (hw : 0 ≤ w) (hS : zT S) (h : ma_wp X d w 20 4 [(0, .inr (.inr (some 82))), (1, .inl (0 : Int32)), (2, .inl (0 : Int32))] [] S Q) : ma_wp X d w 20 0 [(0, .inr (.inr (some 82)))] [] S Q := by
  refine zw_push hm_20 dX0_specials_0 (v := .inl (0 : Int32)) rfl ?_
  refine zw_sto hm_20 dX0_specials_1 [(1, .inl (0 : Int32)), (0, .inr (.inr (some 82)))] rfl rfl rfl ?_
  refine zw_push hm_20 dX0_specials_2 (v := .inl (0 : Int32)) rfl ?_
  refine zw_sto hm_20 dX0_specials_3 [(2, .inl (0 : Int32)), (1, .inl (0 : Int32)), (0, .inr (.inr (some 82)))] rfl rfl rfl ?_
  exact zw_sub (ma_nd_of (ks := [0, 1, 2]) rfl (by decide)) (ma_nd_of (ks := [2, 1, 0]) rfl (by decide)) (ma_le_cons rfl (ma_le_cons rfl (ma_le_cons rfl (ma_le_nil _)))) h
theorem g_20_82_4 {X : Nat × (Nat → Int32)} {d w : Nat} {S : ma_S} {Q : Option ma_V ⊕ Nat → ma_S → Prop} (l1 : Int32) (l2 : Int32) (hd : 0 ≤ d) (hw : 0 ≤ w) (hS : zT S) (h : if (375 : Int32) ≤ l2 then (Q (.inl (some (.inl l1))) S) else ((0 ≤ l2 ∧ l2.toNatClampNeg < 375) ∧ (ma_wp X d w 20 4 [(0, .inr (.inr (some 82))), (1, .inl (l1 + (mI S 83 l2.toNatClampNeg))), (2, .inl (l2 + (1 : Int32)))] [] S Q))) : ma_wp X d w 20 4 [(0, .inr (.inr (some 82))), (1, .inl l1), (2, .inl l2)] [] S Q := by
  refine zw_push hm_20 dX0_specials_4 (v := .inl l2) rfl ?_
  refine zw_push hm_20 dX0_specials_5 (v := .inl (375 : Int32)) rfl ?_
  refine zw_if2 hm_20 dX0_specials_8 (t := 26) rfl zc2_ge ?_ ?_
  · intro hc
    rw [if_pos hc] at h
    refine zw_push hm_20 dX0_specials_26 (v := .inl l1) rfl ?_
    exact zw_iret hm_20 dX0_specials_27 h
  · intro hc
    rw [if_neg hc] at h
    refine zw_push hm_20 dX0_specials_11 (v := .inl l1) rfl ?_
    refine zw_push hm_20 dX0_specials_12 (v := .inr (.inr (some 82))) rfl ?_
    refine zw_gf hm_20 dX0_specials_13 (v := .inr (.inr (some 83))) (zT_is hS s_82) (zT_t hS s_82) rfl f_1_9_1 (zT_f hS r_82_9) ?_
    refine zw_push hm_20 dX0_specials_16 (v := .inl l2) rfl ?_
    obtain ⟨hg, h⟩ := h
    refine zw_ia hm_20 dX0_specials_17 (zT_is hS s_83) (zT_h hS s_83) rfl hg ?_
    show ma_wp X d w 20 18 [(0, .inr (.inr (some 82))), (1, .inl l1), (2, .inl l2)] [.inl (mI S 83 l2.toNatClampNeg), .inl l1] S _
    refine zw_stk hm_20 dX0_specials_18 (st₉ := [.inl (l1 + (mI S 83 l2.toNatClampNeg))]) rfl rfl ?_
    refine zw_sto hm_20 dX0_specials_19 [(1, .inl (l1 + (mI S 83 l2.toNatClampNeg))), (0, .inr (.inr (some 82))), (2, .inl l2)] rfl rfl rfl ?_
    refine zw_sto hm_20 dX0_specials_20 [(2, .inl (l2 + (1 : Int32))), (1, .inl (l1 + (mI S 83 l2.toNatClampNeg))), (0, .inr (.inr (some 82)))] rfl rfl rfl ?_
    refine zw_goto hm_20 dX0_specials_23 (t := 4) rfl ?_
    exact zw_sub (ma_nd_of (ks := [0, 1, 2]) rfl (by decide)) (ma_nd_of (ks := [2, 1, 0]) rfl (by decide)) (ma_le_cons rfl (ma_le_cons rfl (ma_le_cons rfl (ma_le_nil _)))) h
theorem lp_20_82_4 {X : Nat × (Nat → Int32)} {d w : Nat} {f : Nat → Nat → Int32} {r : Nat → Nat → Option Nat} {C Z N : Nat} {Q : Option ma_V ⊕ Nat → ma_S → Prop} (hd : 0 ≤ d) (hw : 0 ≤ w) (K : ∀ v S₉, zJ82 f r C Z N S₉ → (True) → Q (.inl (some (.inl v))) S₉) : ∀ (n : Nat) (S : ma_S) (l1 : Int32) (l2 : Int32), (375 - l2.toInt).toNat = n → zJ82 f r C Z N S → (0 ≤ l2.toInt) → ma_wp X d w 20 4 [(0, .inr (.inr (some 82))), (1, .inl l1), (2, .inl l2)] [] S Q := by
  intro n
  induction n using Nat.strongRecOn with
  | _ n IH =>
    intro S l1 l2 hmu hI  hi0
    refine g_20_82_4 l1 l2 (by omega) (by omega) (zG_T hI) ?_
    have li1 : (375 : Int32).toInt = 375 := rfl
    have b2 := i_bd l2
    refine zd (fun h3 => ?_) (fun h3 => ?_)
    · skip
      have g4 := i_le h3
      have b5 := i_bd l1
      exact K (l1) _ hI trivial
    · skip
      have g6 := i_nle h3
      refine ⟨i_ix (by omega) (by omega), ?_⟩
      have b7 := i_bd l1
      have b8 := i_bd (mI S 83 l2.toNatClampNeg)
      first | have e9 : (l1 + (mI S 83 l2.toNatClampNeg)).toInt = l1.toInt + (mI S 83 l2.toNatClampNeg).toInt := i_add (by omega) (by omega) | have b10 := i_bd (l1 + (mI S 83 l2.toNatClampNeg))
      first | have e11 : (l2 + (1 : Int32)).toInt = l2.toInt + (1) := i_addk rfl (by omega) (by omega) | have b12 := i_bd (l2 + (1 : Int32))
      exact IH _ (by omega) _ ((l1 + (mI S 83 l2.toNatClampNeg))) ((l2 + (1 : Int32))) rfl hI (by omega)
theorem sp_20_82 {X : Nat × (Nat → Int32)} {d w : Nat} {f : Nat → Nat → Int32} {r : Nat → Nat → Option Nat} {C Z N : Nat} {Q : Option ma_V ⊕ Nat → ma_S → Prop} {S : ma_S}  (hd : 0 ≤ d) (hw : 0 ≤ w) (hI : zJ82 f r C Z N S)  (K : ∀ v S₉, zJ82 f r C Z N S₉ → (True) → Q (.inl (some (.inl v))) S₉) : ma_wp X d w 20 0 [(0, .inr (.inr (some 82)))] [] S Q := by
  refine g_20_82_0  (by omega) (by omega) (zG_T hI) ?_
  have li1 : (0 : Int32).toInt = 0 := rfl
  exact lp_20_82_4 (by omega) (by omega) K _ _ ((0 : Int32)) ((0 : Int32)) rfl hI (by omega)
theorem g_8_82_0 {X : Nat × (Nat → Int32)} {d w : Nat} {S : ma_S} {Q : Option ma_V ⊕ Nat → ma_S → Prop} (t : Nat) (i : Int32) (x : Option Nat) (hd : 1 ≤ d) (hw : 22 ≤ w) (hS : zT S) (h : if (mI S 82 5) ≤ 0 then ((x = none → Q (.inl none) S) ∧ (∀ c1, x = some c1 → (126 ≤ t ∧ t < mN S) ∧ (if (mI S t 4) < (mI S 82 3) then ((126 ≤ c1 ∧ c1 < mN S) ∧ (if (mI S c1 4) < (mI S 82 3) then (Q (.inl none) S) else (Q (.inl none) S))) else (Q (.inl none) S)))) else ((126 ≤ t ∧ t < mN S) ∧ ((mI S 82 5) ≠ 0 ∧ ((x = none → Q (.inl none) S) ∧ (∀ c2, x = some c2 → (126 ≤ t ∧ t < mN S) ∧ (if (mI S t 4) < (mI S 82 3) then ((126 ≤ c2 ∧ c2 < mN S) ∧ (if (mI S c2 4) < (mI S 82 3) then (Q (.inl none) S) else (if ((((mI S t 4) + (1 : Int32)) + i) / (mI S 82 5)) < 0 then (Q (.inl none) S) else (if (375 : Int32) ≤ ((((mI S t 4) + (1 : Int32)) + i) / (mI S 82 5)) then (Q (.inl none) S) else ((0 ≤ ((((mI S t 4) + (1 : Int32)) + i) / (mI S 82 5)) ∧ ((((mI S t 4) + (1 : Int32)) + i) / (mI S 82 5)).toNatClampNeg < 375) ∧ (Q (.inl none) (ma_put S 83 ((((mI S t 4) + (1 : Int32)) + i) / (mI S 82 5)).toNatClampNeg (.inl (1 : Int32))))))))) else (Q (.inl none) S))))))) : ma_wp X d w 8 0 [(0, .inr (.inr (some 82))), (1, .inr (.inr (some t))), (2, .inl i), (3, .inr (.inr x))] [] S Q := by
  refine zw_push hm_8 dX0_noteReference_0 (v := .inr (.inr (some 82))) rfl ?_
  refine zw_push hm_8 dX0_noteReference_1 (v := .inr (.inr (some t))) rfl ?_
  refine zw_push hm_8 dX0_noteReference_2 (v := .inl i) rfl ?_
  refine zw_cv hm_8 dX0_noteReference_3 v_1_136_1 hm_9 [.inl i, .inr (.inr (some t))] [] rfl (zT_rt hS s_82 rfl) ⟨by omega, by omega⟩ rfl ?_
  show ma_wp X (d - 1) (w - 22) 9 0 [(0, .inr (.inr (some 82))), (1, .inr (.inr (some t))), (2, .inl i)] [] S _
  refine zw_push hm_9 dX0_cardOf_0 (v := .inr (.inr (some 82))) rfl ?_
  refine zw_gf hm_9 dX0_cardOf_1 (v := .inl (mI S 82 5)) (zT_is hS s_82) (zT_t hS s_82) rfl f_1_25_1 rfl ?_
  refine zw_if0 hm_9 dX0_cardOf_4 (t := 23) rfl zc0_le ?_ ?_
  · intro hc
    rw [if_pos hc] at h
    refine zw_push hm_9 dX0_cardOf_23 (v := .inl (-1 : Int32)) rfl ?_
    refine zw_iret hm_9 dX0_cardOf_24 ?_
    show ma_wp X d w 8 6 [(0, .inr (.inr (some 82))), (1, .inr (.inr (some t))), (2, .inl i), (3, .inr (.inr x))] [.inl (-1 : Int32)] S _
    refine zw_sto hm_8 dX0_noteReference_6 [(4, .inl (-1 : Int32)), (0, .inr (.inr (some 82))), (1, .inr (.inr (some t))), (2, .inl i), (3, .inr (.inr x))] rfl rfl rfl ?_
    refine zw_push hm_8 dX0_noteReference_8 (v := .inr (.inr x)) rfl ?_
    refine zw_ifnull hm_8 dX0_noteReference_9 (t := 49) rfl ?_ ?_
    · intro hc
      have h := h.1 hc
      (try rw [hc])
      show ma_wp X d w 8 49 [(4, .inl (-1 : Int32)), (0, .inr (.inr (some 82))), (1, .inr (.inr (some t))), (2, .inl i), (3, .inr (.inr none))] [] S _
      exact zw_vret hm_8 dX0_noteReference_49 h
    · intro c1 hc
      have h := h.2 c1 hc
      (try rw [hc])
      show ma_wp X d w 8 12 [(4, .inl (-1 : Int32)), (0, .inr (.inr (some 82))), (1, .inr (.inr (some t))), (2, .inl i), (3, .inr (.inr (some c1)))] [] S _
      refine zw_push hm_8 dX0_noteReference_12 (v := .inr (.inr (some 82))) rfl ?_
      refine zw_push hm_8 dX0_noteReference_13 (v := .inr (.inr (some t))) rfl ?_
      refine zw_cv hm_8 dX0_noteReference_14 v_1_58_1 hm_7 [.inr (.inr (some t))] [] rfl (zT_rt hS s_82 rfl) ⟨by omega, by omega⟩ rfl ?_
      show ma_wp X (d - 1) (w - 21) 7 0 [(0, .inr (.inr (some 82))), (1, .inr (.inr (some t)))] [] S _
      refine zw_push hm_7 dX0_isYoung_0 (v := .inr (.inr (some t))) rfl ?_
      obtain ⟨hg, h⟩ := h
      refine zw_gf hm_7 dX0_isYoung_1 (v := .inl (mI S t 4)) (zT_tis hS hg) (zT_tt hS hg) rfl f_1_62_9 rfl ?_
      refine zw_push hm_7 dX0_isYoung_4 (v := .inr (.inr (some 82))) rfl ?_
      refine zw_gf hm_7 dX0_isYoung_5 (v := .inl (mI S 82 3)) (zT_is hS s_82) (zT_t hS s_82) rfl f_1_19_1 rfl ?_
      refine zw_if2 hm_7 dX0_isYoung_8 (t := 15) rfl zc2_lt ?_ ?_
      · intro hc
        rw [if_pos hc] at h
        refine zw_push hm_7 dX0_isYoung_15 (v := .inl (0 : Int32)) rfl ?_
        refine zw_bret hm_7 dX0_isYoung_16 (by decide) ?_
        show ma_wp X d w 8 17 [(4, .inl (-1 : Int32)), (0, .inr (.inr (some 82))), (1, .inr (.inr (some t))), (2, .inl i), (3, .inr (.inr (some c1)))] [.inl (0 : Int32)] S _
        refine zw_if0 hm_8 dX0_noteReference_17 (t := 49) rfl zc0_ne (fun hc => absurd hc (by decide)) (fun _ => ?_)
        refine zw_push hm_8 dX0_noteReference_20 (v := .inr (.inr (some 82))) rfl ?_
        refine zw_push hm_8 dX0_noteReference_21 (v := .inr (.inr (some c1))) rfl ?_
        refine zw_cv hm_8 dX0_noteReference_22 v_1_58_1 hm_7 [.inr (.inr (some c1))] [] rfl (zT_rt hS s_82 rfl) ⟨by omega, by omega⟩ rfl ?_
        show ma_wp X (d - 1) (w - 21) 7 0 [(0, .inr (.inr (some 82))), (1, .inr (.inr (some c1)))] [] S _
        refine zw_push hm_7 dX0_isYoung_0 (v := .inr (.inr (some c1))) rfl ?_
        obtain ⟨hg, h⟩ := h
        refine zw_gf hm_7 dX0_isYoung_1 (v := .inl (mI S c1 4)) (zT_tis hS hg) (zT_tt hS hg) rfl f_1_62_9 rfl ?_
        refine zw_push hm_7 dX0_isYoung_4 (v := .inr (.inr (some 82))) rfl ?_
        refine zw_gf hm_7 dX0_isYoung_5 (v := .inl (mI S 82 3)) (zT_is hS s_82) (zT_t hS s_82) rfl f_1_19_1 rfl ?_
        refine zw_if2 hm_7 dX0_isYoung_8 (t := 15) rfl zc2_lt ?_ ?_
        · intro hc
          rw [if_pos hc] at h
          refine zw_push hm_7 dX0_isYoung_15 (v := .inl (0 : Int32)) rfl ?_
          refine zw_bret hm_7 dX0_isYoung_16 (by decide) ?_
          show ma_wp X d w 8 25 [(4, .inl (-1 : Int32)), (0, .inr (.inr (some 82))), (1, .inr (.inr (some t))), (2, .inl i), (3, .inr (.inr (some c1)))] [.inl (0 : Int32)] S _
          refine zw_if0 hm_8 dX0_noteReference_25 (t := 49) rfl zc0_eq (fun _ => ?_) (fun hc => absurd (by decide) hc)
          exact zw_vret hm_8 dX0_noteReference_49 h
        · intro hc
          rw [if_neg hc] at h
          refine zw_push hm_7 dX0_isYoung_11 (v := .inl (1 : Int32)) rfl ?_
          refine zw_goto hm_7 dX0_isYoung_12 (t := 16) rfl ?_
          refine zw_bret hm_7 dX0_isYoung_16 (by decide) ?_
          show ma_wp X d w 8 25 [(4, .inl (-1 : Int32)), (0, .inr (.inr (some 82))), (1, .inr (.inr (some t))), (2, .inl i), (3, .inr (.inr (some c1)))] [.inl (1 : Int32)] S _
          refine zw_if0 hm_8 dX0_noteReference_25 (t := 49) rfl zc0_eq (fun hc => absurd hc (by decide)) (fun _ => ?_)
          refine zw_push hm_8 dX0_noteReference_28 (v := .inl (-1 : Int32)) rfl ?_
          refine zw_if0 hm_8 dX0_noteReference_30 (t := 49) rfl zc0_lt (fun _ => ?_) (fun hc => absurd (by decide) hc)
          exact zw_vret hm_8 dX0_noteReference_49 h
      · intro hc
        rw [if_neg hc] at h
        refine zw_push hm_7 dX0_isYoung_11 (v := .inl (1 : Int32)) rfl ?_
        refine zw_goto hm_7 dX0_isYoung_12 (t := 16) rfl ?_
        refine zw_bret hm_7 dX0_isYoung_16 (by decide) ?_
        show ma_wp X d w 8 17 [(4, .inl (-1 : Int32)), (0, .inr (.inr (some 82))), (1, .inr (.inr (some t))), (2, .inl i), (3, .inr (.inr (some c1)))] [.inl (1 : Int32)] S _
        refine zw_if0 hm_8 dX0_noteReference_17 (t := 49) rfl zc0_ne (fun _ => ?_) (fun hc => absurd (by decide) hc)
        exact zw_vret hm_8 dX0_noteReference_49 h
  · intro hc
    rw [if_neg hc] at h
    refine zw_push hm_9 dX0_cardOf_7 (v := .inr (.inr (some t))) rfl ?_
    obtain ⟨hg, h⟩ := h
    refine zw_gf hm_9 dX0_cardOf_8 (v := .inl (mI S t 4)) (zT_tis hS hg) (zT_tt hS hg) rfl f_1_62_9 rfl ?_
    refine zw_push hm_9 dX0_cardOf_11 (v := .inl (1 : Int32)) rfl ?_
    refine zw_stk hm_9 dX0_cardOf_12 (st₉ := [.inl ((mI S t 4) + (1 : Int32))]) rfl rfl ?_
    refine zw_push hm_9 dX0_cardOf_13 (v := .inl i) rfl ?_
    refine zw_stk hm_9 dX0_cardOf_14 (st₉ := [.inl (((mI S t 4) + (1 : Int32)) + i)]) rfl rfl ?_
    refine zw_push hm_9 dX0_cardOf_15 (v := .inr (.inr (some 82))) rfl ?_
    refine zw_gf hm_9 dX0_cardOf_16 (v := .inl (mI S 82 5)) (zT_is hS s_82) (zT_t hS s_82) rfl f_1_25_1 rfl ?_
    obtain ⟨hg, h⟩ := h
    refine zw_stk hm_9 dX0_cardOf_19 (st₉ := [.inl ((((mI S t 4) + (1 : Int32)) + i) / (mI S 82 5))]) rfl (if_neg hg) ?_
    refine zw_goto hm_9 dX0_cardOf_20 (t := 24) rfl ?_
    refine zw_iret hm_9 dX0_cardOf_24 ?_
    show ma_wp X d w 8 6 [(0, .inr (.inr (some 82))), (1, .inr (.inr (some t))), (2, .inl i), (3, .inr (.inr x))] [.inl ((((mI S t 4) + (1 : Int32)) + i) / (mI S 82 5))] S _
    refine zw_sto hm_8 dX0_noteReference_6 [(4, .inl ((((mI S t 4) + (1 : Int32)) + i) / (mI S 82 5))), (0, .inr (.inr (some 82))), (1, .inr (.inr (some t))), (2, .inl i), (3, .inr (.inr x))] rfl rfl rfl ?_
    refine zw_push hm_8 dX0_noteReference_8 (v := .inr (.inr x)) rfl ?_
    refine zw_ifnull hm_8 dX0_noteReference_9 (t := 49) rfl ?_ ?_
    · intro hc
      have h := h.1 hc
      (try rw [hc])
      show ma_wp X d w 8 49 [(4, .inl ((((mI S t 4) + (1 : Int32)) + i) / (mI S 82 5))), (0, .inr (.inr (some 82))), (1, .inr (.inr (some t))), (2, .inl i), (3, .inr (.inr none))] [] S _
      exact zw_vret hm_8 dX0_noteReference_49 h
    · intro c2 hc
      have h := h.2 c2 hc
      (try rw [hc])
      show ma_wp X d w 8 12 [(4, .inl ((((mI S t 4) + (1 : Int32)) + i) / (mI S 82 5))), (0, .inr (.inr (some 82))), (1, .inr (.inr (some t))), (2, .inl i), (3, .inr (.inr (some c2)))] [] S _
      refine zw_push hm_8 dX0_noteReference_12 (v := .inr (.inr (some 82))) rfl ?_
      refine zw_push hm_8 dX0_noteReference_13 (v := .inr (.inr (some t))) rfl ?_
      refine zw_cv hm_8 dX0_noteReference_14 v_1_58_1 hm_7 [.inr (.inr (some t))] [] rfl (zT_rt hS s_82 rfl) ⟨by omega, by omega⟩ rfl ?_
      show ma_wp X (d - 1) (w - 21) 7 0 [(0, .inr (.inr (some 82))), (1, .inr (.inr (some t)))] [] S _
      refine zw_push hm_7 dX0_isYoung_0 (v := .inr (.inr (some t))) rfl ?_
      obtain ⟨hg, h⟩ := h
      refine zw_gf hm_7 dX0_isYoung_1 (v := .inl (mI S t 4)) (zT_tis hS hg) (zT_tt hS hg) rfl f_1_62_9 rfl ?_
      refine zw_push hm_7 dX0_isYoung_4 (v := .inr (.inr (some 82))) rfl ?_
      refine zw_gf hm_7 dX0_isYoung_5 (v := .inl (mI S 82 3)) (zT_is hS s_82) (zT_t hS s_82) rfl f_1_19_1 rfl ?_
      refine zw_if2 hm_7 dX0_isYoung_8 (t := 15) rfl zc2_lt ?_ ?_
      · intro hc
        rw [if_pos hc] at h
        refine zw_push hm_7 dX0_isYoung_15 (v := .inl (0 : Int32)) rfl ?_
        refine zw_bret hm_7 dX0_isYoung_16 (by decide) ?_
        show ma_wp X d w 8 17 [(4, .inl ((((mI S t 4) + (1 : Int32)) + i) / (mI S 82 5))), (0, .inr (.inr (some 82))), (1, .inr (.inr (some t))), (2, .inl i), (3, .inr (.inr (some c2)))] [.inl (0 : Int32)] S _
        refine zw_if0 hm_8 dX0_noteReference_17 (t := 49) rfl zc0_ne (fun hc => absurd hc (by decide)) (fun _ => ?_)
        refine zw_push hm_8 dX0_noteReference_20 (v := .inr (.inr (some 82))) rfl ?_
        refine zw_push hm_8 dX0_noteReference_21 (v := .inr (.inr (some c2))) rfl ?_
        refine zw_cv hm_8 dX0_noteReference_22 v_1_58_1 hm_7 [.inr (.inr (some c2))] [] rfl (zT_rt hS s_82 rfl) ⟨by omega, by omega⟩ rfl ?_
        show ma_wp X (d - 1) (w - 21) 7 0 [(0, .inr (.inr (some 82))), (1, .inr (.inr (some c2)))] [] S _
        refine zw_push hm_7 dX0_isYoung_0 (v := .inr (.inr (some c2))) rfl ?_
        obtain ⟨hg, h⟩ := h
        refine zw_gf hm_7 dX0_isYoung_1 (v := .inl (mI S c2 4)) (zT_tis hS hg) (zT_tt hS hg) rfl f_1_62_9 rfl ?_
        refine zw_push hm_7 dX0_isYoung_4 (v := .inr (.inr (some 82))) rfl ?_
        refine zw_gf hm_7 dX0_isYoung_5 (v := .inl (mI S 82 3)) (zT_is hS s_82) (zT_t hS s_82) rfl f_1_19_1 rfl ?_
        refine zw_if2 hm_7 dX0_isYoung_8 (t := 15) rfl zc2_lt ?_ ?_
        · intro hc
          rw [if_pos hc] at h
          refine zw_push hm_7 dX0_isYoung_15 (v := .inl (0 : Int32)) rfl ?_
          refine zw_bret hm_7 dX0_isYoung_16 (by decide) ?_
          show ma_wp X d w 8 25 [(4, .inl ((((mI S t 4) + (1 : Int32)) + i) / (mI S 82 5))), (0, .inr (.inr (some 82))), (1, .inr (.inr (some t))), (2, .inl i), (3, .inr (.inr (some c2)))] [.inl (0 : Int32)] S _
          refine zw_if0 hm_8 dX0_noteReference_25 (t := 49) rfl zc0_eq (fun _ => ?_) (fun hc => absurd (by decide) hc)
          exact zw_vret hm_8 dX0_noteReference_49 h
        · intro hc
          rw [if_neg hc] at h
          refine zw_push hm_7 dX0_isYoung_11 (v := .inl (1 : Int32)) rfl ?_
          refine zw_goto hm_7 dX0_isYoung_12 (t := 16) rfl ?_
          refine zw_bret hm_7 dX0_isYoung_16 (by decide) ?_
          show ma_wp X d w 8 25 [(4, .inl ((((mI S t 4) + (1 : Int32)) + i) / (mI S 82 5))), (0, .inr (.inr (some 82))), (1, .inr (.inr (some t))), (2, .inl i), (3, .inr (.inr (some c2)))] [.inl (1 : Int32)] S _
          refine zw_if0 hm_8 dX0_noteReference_25 (t := 49) rfl zc0_eq (fun hc => absurd hc (by decide)) (fun _ => ?_)
          refine zw_push hm_8 dX0_noteReference_28 (v := .inl ((((mI S t 4) + (1 : Int32)) + i) / (mI S 82 5))) rfl ?_
          refine zw_if0 hm_8 dX0_noteReference_30 (t := 49) rfl zc0_lt ?_ ?_
          · intro hc
            rw [if_pos hc] at h
            exact zw_vret hm_8 dX0_noteReference_49 h
          · intro hc
            rw [if_neg hc] at h
            refine zw_push hm_8 dX0_noteReference_33 (v := .inl ((((mI S t 4) + (1 : Int32)) + i) / (mI S 82 5))) rfl ?_
            refine zw_push hm_8 dX0_noteReference_35 (v := .inl (375 : Int32)) rfl ?_
            refine zw_if2 hm_8 dX0_noteReference_38 (t := 49) rfl zc2_ge ?_ ?_
            · intro hc
              rw [if_pos hc] at h
              exact zw_vret hm_8 dX0_noteReference_49 h
            · intro hc
              rw [if_neg hc] at h
              refine zw_push hm_8 dX0_noteReference_41 (v := .inr (.inr (some 82))) rfl ?_
              refine zw_gf hm_8 dX0_noteReference_42 (v := .inr (.inr (some 83))) (zT_is hS s_82) (zT_t hS s_82) rfl f_1_9_1 (zT_f hS r_82_9) ?_
              refine zw_push hm_8 dX0_noteReference_45 (v := .inl ((((mI S t 4) + (1 : Int32)) + i) / (mI S 82 5))) rfl ?_
              refine zw_push hm_8 dX0_noteReference_47 (v := .inl (1 : Int32)) rfl ?_
              obtain ⟨hg, h⟩ := h
              refine zw_ias hm_8 dX0_noteReference_48 (zT_is hS s_83) (zT_h hS s_83) rfl hg ?_
              exact zw_vret hm_8 dX0_noteReference_49 h
      · intro hc
        rw [if_neg hc] at h
        refine zw_push hm_7 dX0_isYoung_11 (v := .inl (1 : Int32)) rfl ?_
        refine zw_goto hm_7 dX0_isYoung_12 (t := 16) rfl ?_
        refine zw_bret hm_7 dX0_isYoung_16 (by decide) ?_
        show ma_wp X d w 8 17 [(4, .inl ((((mI S t 4) + (1 : Int32)) + i) / (mI S 82 5))), (0, .inr (.inr (some 82))), (1, .inr (.inr (some t))), (2, .inl i), (3, .inr (.inr (some c2)))] [.inl (1 : Int32)] S _
        refine zw_if0 hm_8 dX0_noteReference_17 (t := 49) rfl zc0_ne (fun _ => ?_) (fun hc => absurd (by decide) hc)
        exact zw_vret hm_8 dX0_noteReference_49 h
theorem sp_8_82 {X : Nat × (Nat → Int32)} {d w : Nat} {f : Nat → Nat → Int32} {r : Nat → Nat → Option Nat} {C Z N : Nat} {Q : Option ma_V ⊕ Nat → ma_S → Prop} {S : ma_S} (t : Nat) (i : Int32) (x : Option Nat) (hd : 1 ≤ d) (hw : 22 ≤ w) (hI : zJ82 f r C Z N S) (th_t : 126 ≤ t ∧ t < N) (hq_x : ∀ c, x = some c → 126 ≤ c ∧ c < N) (K : ∀ S₉, zJ82 f r C Z N S₉ → Q (.inl none) S₉) : ma_wp X d w 8 0 [(0, .inr (.inr (some 82))), (1, .inr (.inr (some t))), (2, .inl i), (3, .inr (.inr x))] [] S Q := by
  refine g_8_82_0 t i x (by omega) (by omega) (zG_T hI) ?_
  have b1 := i_bd (mI S 82 5)
  have li2 : (0 : Int32).toInt = 0 := rfl
  refine zd (fun h3 => ?_) (fun h3 => ?_)
  · skip
    have g4 := i_le h3
    refine ⟨fun _ => ?_, fun c1 hc => ?_⟩
    · skip
      exact K _ hI
    · skip
      have th_c1 := hq_x c1 hc
      subst hc
      refine ⟨zG_n hI th_t, ?_⟩
      have f5 := zG_th hI th_t
      have x6 : (mI S 82 3).toInt ≤ (mI S 82 7).toInt ∧ (mI S 82 7).toInt ≤ (mI S 82 3).toInt + (mI S 82 2).toInt := zG_x hI
      have f7 := zG_s hI (0) (1500) (c := 82) (k := 3) (by decide)
      refine zd (fun h8 => ?_) (fun h8 => ?_)
      · skip
        have g9 := i_lt h8
        refine ⟨zG_n hI th_c1, ?_⟩
        have f10 := zG_th hI th_c1
        refine zd (fun h11 => ?_) (fun h11 => ?_)
        · skip
          have g12 := i_lt h11
          exact K _ hI
        · skip
          have g13 := i_nlt h11
          exact K _ hI
      · skip
        have g14 := i_nlt h8
        exact K _ hI
  · skip
    have g15 := i_nle h3
    refine ⟨zG_n hI th_t, ?_⟩
    refine ⟨i_nz (by omega), ?_⟩
    refine ⟨fun _ => ?_, fun c2 hc => ?_⟩
    · skip
      exact K _ hI
    · skip
      have th_c2 := hq_x c2 hc
      subst hc
      refine ⟨zG_n hI th_t, ?_⟩
      have f16 := zG_th hI th_t
      have x17 : (mI S 82 3).toInt ≤ (mI S 82 7).toInt ∧ (mI S 82 7).toInt ≤ (mI S 82 3).toInt + (mI S 82 2).toInt := zG_x hI
      have f18 := zG_s hI (0) (1500) (c := 82) (k := 3) (by decide)
      refine zd (fun h19 => ?_) (fun h19 => ?_)
      · skip
        have g20 := i_lt h19
        refine ⟨zG_n hI th_c2, ?_⟩
        have f21 := zG_th hI th_c2
        refine zd (fun h22 => ?_) (fun h22 => ?_)
        · skip
          have g23 := i_lt h22
          exact K _ hI
        · skip
          have g24 := i_nlt h22
          first | have e25 : ((mI S t 4) + (1 : Int32)).toInt = (mI S t 4).toInt + (1) := i_addk rfl (by omega) (by omega) | have b26 := i_bd ((mI S t 4) + (1 : Int32))
          have b27 := i_bd i
          first | have e28 : (((mI S t 4) + (1 : Int32)) + i).toInt = ((mI S t 4) + (1 : Int32)).toInt + i.toInt := i_add (by omega) (by omega) | have b29 := i_bd (((mI S t 4) + (1 : Int32)) + i)
          first | have f30 := i_div (x := (((mI S t 4) + (1 : Int32)) + i)) (y := (mI S 82 5)) (by omega) (by omega) | have b31 := i_bd ((((mI S t 4) + (1 : Int32)) + i) / (mI S 82 5))
          refine zd (fun h32 => ?_) (fun h32 => ?_)
          · skip
            have g33 := i_lt h32
            exact K _ hI
          · skip
            have g34 := i_nlt h32
            have li35 : (375 : Int32).toInt = 375 := rfl
            refine zd (fun h36 => ?_) (fun h36 => ?_)
            · skip
              have g37 := i_le h36
              exact K _ hI
            · skip
              have g38 := i_nle h36
              refine ⟨i_ix (by omega) (by omega), ?_⟩
              have hI39 : zJ82 f r C Z N (ma_put S 83 ((((mI S t 4) + (1 : Int32)) + i) / (mI S 82 5)).toNatClampNeg (.inl (1 : Int32))) := zG_fa hI rfl (by decide) (by decide) (by decide) (show zJ82_x (mI S) from zG_x hI)
              exact K _ hI39
      · skip
        have g40 := i_nlt h19
        exact K _ hI
theorem g_6_82_0 {X : Nat × (Nat → Int32)} {d w : Nat} {S : ma_S} {Q : Option ma_V ⊕ Nat → ma_S → Prop}  (hd : 2 ≤ d) (hw : 46 ≤ w) (hS : zT S) (h : ma_wp X (d - 1) (w - 23) 276 0 [(0, .inr (.inr (some 83))), (1, .inl (0 : Int32))] [] S (zv (fun S1 => zT S1 ∧ (ma_wp X d w 6 10 [(0, .inr (.inr (some 82))), (1, .inl (0 : Int32))] [] S1 Q)) (fun _ _ => False))) : ma_wp X d w 6 0 [(0, .inr (.inr (some 82)))] [] S Q := by
  refine zw_push hm_6 dX0_findDirty_0 (v := .inr (.inr (some 82))) rfl ?_
  refine zw_gf hm_6 dX0_findDirty_1 (v := .inr (.inr (some 83))) (zT_is hS s_82) (zT_t hS s_82) rfl f_1_9_1 (zT_f hS r_82_9) ?_
  refine zw_push hm_6 dX0_findDirty_4 (v := .inl (0 : Int32)) rfl ?_
  refine zw_cs hm_6 dX0_findDirty_5 pn_1_37 sl_1_37 hm_276 [.inl (0 : Int32), .inr (.inr (some 83))] [] rfl ⟨by omega, by omega⟩ rfl (zw_mono h (zv_go ?_ ?_))
  · intro S1 hv
    obtain ⟨hS1, h⟩ := hv
    refine zw_push hm_6 dX0_findDirty_8 (v := .inl (0 : Int32)) rfl ?_
    refine zw_sto hm_6 dX0_findDirty_9 [(1, .inl (0 : Int32)), (0, .inr (.inr (some 82)))] rfl rfl rfl ?_
    exact zw_sub (ma_nd_of (ks := [0, 1]) rfl (by decide)) (ma_nd_of (ks := [1, 0]) rfl (by decide)) (ma_le_cons rfl (ma_le_cons rfl (ma_le_nil _))) h
  · intro x S9 hx
    exact hx.elim
theorem g_6_82_10 {X : Nat × (Nat → Int32)} {d w : Nat} {S : ma_S} {Q : Option ma_V ⊕ Nat → ma_S → Prop} (l1 : Int32) (hd : 2 ≤ d) (hw : 46 ≤ w) (hS : zT S) (h : if (mI S 69 6) ≤ l1 then (Q (.inl none) S) else (if l1 < 0 then (ma_wp X d w 6 10 [(0, .inr (.inr (some 82))), (1, .inl (l1 + (1 : Int32)))] [] S Q) else (if (512 : Int32) ≤ l1 then (ma_wp X d w 6 10 [(0, .inr (.inr (some 82))), (1, .inl (l1 + (1 : Int32)))] [] S Q) else ((0 ≤ l1 ∧ l1.toNatClampNeg < 512) ∧ (((mR S 70 l1.toNatClampNeg) = none → ma_wp X d w 6 10 [(0, .inr (.inr (some 82))), (1, .inl (l1 + (1 : Int32)))] [] S Q) ∧ (∀ c1, (mR S 70 l1.toNatClampNeg) = some c1 → (126 ≤ c1 ∧ c1 < mN S) ∧ (if (mI S c1 4) < (mI S 82 3) then (ma_wp X d w 6 44 [(0, .inr (.inr (some 82))), (1, .inl l1), (2, .inr (.inr (some c1))), (3, .inl (0 : Int32))] [] S Q) else (ma_wp X d w 6 10 [(0, .inr (.inr (some 82))), (1, .inl (l1 + (1 : Int32)))] [] S Q)))))))) : ma_wp X d w 6 10 [(0, .inr (.inr (some 82))), (1, .inl l1)] [] S Q := by
  refine zw_push hm_6 dX0_findDirty_10 (v := .inl l1) rfl ?_
  refine zw_push hm_6 dX0_findDirty_11 (v := .inr (.inr (some 82))) rfl ?_
  refine zw_gf hm_6 dX0_findDirty_12 (v := .inr (.inr (some 69))) (zT_is hS s_82) (zT_t hS s_82) rfl f_1_80_1 (zT_f hS r_82_0) ?_
  refine zw_gf hm_6 dX0_findDirty_15 (v := .inl (mI S 69 6)) (zT_is hS s_69) (zT_t hS s_69) rfl f_1_119_7 rfl ?_
  refine zw_if2 hm_6 dX0_findDirty_18 (t := 81) rfl zc2_ge ?_ ?_
  · intro hc
    rw [if_pos hc] at h
    exact zw_vret hm_6 dX0_findDirty_81 h
  · intro hc
    rw [if_neg hc] at h
    refine zw_push hm_6 dX0_findDirty_21 (v := .inr (.inr (some 82))) rfl ?_
    refine zw_gf hm_6 dX0_findDirty_22 (v := .inr (.inr (some 69))) (zT_is hS s_82) (zT_t hS s_82) rfl f_1_80_1 (zT_f hS r_82_0) ?_
    refine zw_push hm_6 dX0_findDirty_25 (v := .inl l1) rfl ?_
    refine zw_cv hm_6 dX0_findDirty_26 v_1_122_7 hm_81 [.inl l1] [] rfl (zT_rt hS s_69 rfl) ⟨by omega, by omega⟩ rfl ?_
    show ma_wp X (d - 1) (w - 21) 81 0 [(0, .inr (.inr (some 69))), (1, .inl l1)] [] S _
    refine zw_push hm_81 dX7_thingAt_0 (v := .inl l1) rfl ?_
    refine zw_if0 hm_81 dX7_thingAt_1 (t := 20) rfl zc0_lt ?_ ?_
    · intro hc
      rw [if_pos hc] at h
      refine zw_push hm_81 dX7_thingAt_20 (v := .inr (.inr none)) rfl ?_
      refine zw_aret hm_81 dX7_thingAt_21 ?_
      show ma_wp X d w 6 29 [(0, .inr (.inr (some 82))), (1, .inl l1)] [.inr (.inr none)] S _
      refine zw_sto hm_6 dX0_findDirty_29 [(2, .inr (.inr none)), (0, .inr (.inr (some 82))), (1, .inl l1)] rfl rfl rfl ?_
      refine zw_push hm_6 dX0_findDirty_30 (v := .inr (.inr none)) rfl ?_
      refine zw_ifnull hm_6 dX0_findDirty_31 (t := 75) rfl (fun _ => ?_) (fun _ z => by cases z)
      refine zw_sto hm_6 dX0_findDirty_75 [(1, .inl (l1 + (1 : Int32))), (2, .inr (.inr none)), (0, .inr (.inr (some 82)))] rfl rfl rfl ?_
      refine zw_goto hm_6 dX0_findDirty_78 (t := 10) rfl ?_
      exact zw_sub (ma_nd_of (ks := [0, 1]) rfl (by decide)) (ma_nd_of (ks := [1, 2, 0]) rfl (by decide)) (ma_le_cons rfl (ma_le_cons rfl (ma_le_nil _))) h
    · intro hc
      rw [if_neg hc] at h
      refine zw_push hm_81 dX7_thingAt_4 (v := .inl l1) rfl ?_
      refine zw_push hm_81 dX7_thingAt_5 (v := .inl (512 : Int32)) rfl ?_
      refine zw_if2 hm_81 dX7_thingAt_8 (t := 20) rfl zc2_ge ?_ ?_
      · intro hc
        rw [if_pos hc] at h
        refine zw_push hm_81 dX7_thingAt_20 (v := .inr (.inr none)) rfl ?_
        refine zw_aret hm_81 dX7_thingAt_21 ?_
        show ma_wp X d w 6 29 [(0, .inr (.inr (some 82))), (1, .inl l1)] [.inr (.inr none)] S _
        refine zw_sto hm_6 dX0_findDirty_29 [(2, .inr (.inr none)), (0, .inr (.inr (some 82))), (1, .inl l1)] rfl rfl rfl ?_
        refine zw_push hm_6 dX0_findDirty_30 (v := .inr (.inr none)) rfl ?_
        refine zw_ifnull hm_6 dX0_findDirty_31 (t := 75) rfl (fun _ => ?_) (fun _ z => by cases z)
        refine zw_sto hm_6 dX0_findDirty_75 [(1, .inl (l1 + (1 : Int32))), (2, .inr (.inr none)), (0, .inr (.inr (some 82)))] rfl rfl rfl ?_
        refine zw_goto hm_6 dX0_findDirty_78 (t := 10) rfl ?_
        exact zw_sub (ma_nd_of (ks := [0, 1]) rfl (by decide)) (ma_nd_of (ks := [1, 2, 0]) rfl (by decide)) (ma_le_cons rfl (ma_le_cons rfl (ma_le_nil _))) h
      · intro hc
        rw [if_neg hc] at h
        refine zw_push hm_81 dX7_thingAt_11 (v := .inr (.inr (some 69))) rfl ?_
        refine zw_gf hm_81 dX7_thingAt_12 (v := .inr (.inr (some 70))) (zT_is hS s_69) (zT_t hS s_69) rfl f_7_11_7 (zT_f hS r_69_0) ?_
        refine zw_push hm_81 dX7_thingAt_15 (v := .inl l1) rfl ?_
        obtain ⟨hg, h⟩ := h
        refine zw_aa hm_81 dX7_thingAt_16 (zT_is hS s_70) (zT_h hS s_70) rfl rfl hg rfl ?_
        show ma_wp X (d - 1) (w - 21) 81 17 [(0, .inr (.inr (some 69))), (1, .inl l1)] [.inr (.inr (mR S 70 l1.toNatClampNeg))] S _
        refine zw_goto hm_81 dX7_thingAt_17 (t := 21) rfl ?_
        refine zw_aret hm_81 dX7_thingAt_21 ?_
        show ma_wp X d w 6 29 [(0, .inr (.inr (some 82))), (1, .inl l1)] [.inr (.inr (mR S 70 l1.toNatClampNeg))] S _
        refine zw_sto hm_6 dX0_findDirty_29 [(2, .inr (.inr (mR S 70 l1.toNatClampNeg))), (0, .inr (.inr (some 82))), (1, .inl l1)] rfl rfl rfl ?_
        refine zw_push hm_6 dX0_findDirty_30 (v := .inr (.inr (mR S 70 l1.toNatClampNeg))) rfl ?_
        refine zw_ifnull hm_6 dX0_findDirty_31 (t := 75) rfl ?_ ?_
        · intro hc
          have h := h.1 hc
          (try rw [hc])
          show ma_wp X d w 6 75 [(2, .inr (.inr none)), (0, .inr (.inr (some 82))), (1, .inl l1)] [] S _
          refine zw_sto hm_6 dX0_findDirty_75 [(1, .inl (l1 + (1 : Int32))), (2, .inr (.inr none)), (0, .inr (.inr (some 82)))] rfl rfl rfl ?_
          refine zw_goto hm_6 dX0_findDirty_78 (t := 10) rfl ?_
          exact zw_sub (ma_nd_of (ks := [0, 1]) rfl (by decide)) (ma_nd_of (ks := [1, 2, 0]) rfl (by decide)) (ma_le_cons rfl (ma_le_cons rfl (ma_le_nil _))) h
        · intro c1 hc
          have h := h.2 c1 hc
          (try rw [hc])
          show ma_wp X d w 6 34 [(2, .inr (.inr (some c1))), (0, .inr (.inr (some 82))), (1, .inl l1)] [] S _
          refine zw_push hm_6 dX0_findDirty_34 (v := .inr (.inr (some 82))) rfl ?_
          refine zw_push hm_6 dX0_findDirty_35 (v := .inr (.inr (some c1))) rfl ?_
          refine zw_cv hm_6 dX0_findDirty_36 v_1_58_1 hm_7 [.inr (.inr (some c1))] [] rfl (zT_rt hS s_82 rfl) ⟨by omega, by omega⟩ rfl ?_
          show ma_wp X (d - 1) (w - 21) 7 0 [(0, .inr (.inr (some 82))), (1, .inr (.inr (some c1)))] [] S _
          refine zw_push hm_7 dX0_isYoung_0 (v := .inr (.inr (some c1))) rfl ?_
          obtain ⟨hg, h⟩ := h
          refine zw_gf hm_7 dX0_isYoung_1 (v := .inl (mI S c1 4)) (zT_tis hS hg) (zT_tt hS hg) rfl f_1_62_9 rfl ?_
          refine zw_push hm_7 dX0_isYoung_4 (v := .inr (.inr (some 82))) rfl ?_
          refine zw_gf hm_7 dX0_isYoung_5 (v := .inl (mI S 82 3)) (zT_is hS s_82) (zT_t hS s_82) rfl f_1_19_1 rfl ?_
          refine zw_if2 hm_7 dX0_isYoung_8 (t := 15) rfl zc2_lt ?_ ?_
          · intro hc
            rw [if_pos hc] at h
            refine zw_push hm_7 dX0_isYoung_15 (v := .inl (0 : Int32)) rfl ?_
            refine zw_bret hm_7 dX0_isYoung_16 (by decide) ?_
            show ma_wp X d w 6 39 [(2, .inr (.inr (some c1))), (0, .inr (.inr (some 82))), (1, .inl l1)] [.inl (0 : Int32)] S _
            refine zw_if0 hm_6 dX0_findDirty_39 (t := 75) rfl zc0_ne (fun hc => absurd hc (by decide)) (fun _ => ?_)
            refine zw_push hm_6 dX0_findDirty_42 (v := .inl (0 : Int32)) rfl ?_
            refine zw_sto hm_6 dX0_findDirty_43 [(3, .inl (0 : Int32)), (2, .inr (.inr (some c1))), (0, .inr (.inr (some 82))), (1, .inl l1)] rfl rfl rfl ?_
            exact zw_sub (ma_nd_of (ks := [0, 1, 2, 3]) rfl (by decide)) (ma_nd_of (ks := [3, 2, 0, 1]) rfl (by decide)) (ma_le_cons rfl (ma_le_cons rfl (ma_le_cons rfl (ma_le_cons rfl (ma_le_nil _))))) h
          · intro hc
            rw [if_neg hc] at h
            refine zw_push hm_7 dX0_isYoung_11 (v := .inl (1 : Int32)) rfl ?_
            refine zw_goto hm_7 dX0_isYoung_12 (t := 16) rfl ?_
            refine zw_bret hm_7 dX0_isYoung_16 (by decide) ?_
            show ma_wp X d w 6 39 [(2, .inr (.inr (some c1))), (0, .inr (.inr (some 82))), (1, .inl l1)] [.inl (1 : Int32)] S _
            refine zw_if0 hm_6 dX0_findDirty_39 (t := 75) rfl zc0_ne (fun _ => ?_) (fun hc => absurd (by decide) hc)
            refine zw_sto hm_6 dX0_findDirty_75 [(1, .inl (l1 + (1 : Int32))), (2, .inr (.inr (some c1))), (0, .inr (.inr (some 82)))] rfl rfl rfl ?_
            refine zw_goto hm_6 dX0_findDirty_78 (t := 10) rfl ?_
            exact zw_sub (ma_nd_of (ks := [0, 1]) rfl (by decide)) (ma_nd_of (ks := [1, 2, 0]) rfl (by decide)) (ma_le_cons rfl (ma_le_cons rfl (ma_le_nil _))) h
theorem g_6_82_44 {X : Nat × (Nat → Int32)} {d w : Nat} {S : ma_S} {Q : Option ma_V ⊕ Nat → ma_S → Prop} (l1 : Int32) (l2 : Nat) (l3 : Int32) (hd : 2 ≤ d) (hw : 46 ≤ w) (hS : zT S) (h : (126 ≤ l2 ∧ l2 < mN S) ∧ (if ((mI S l2 2) - (1 : Int32)) ≤ l3 then (ma_wp X d w 6 10 [(0, .inr (.inr (some 82))), (1, .inl (l1 + (1 : Int32)))] [] S Q) else (ma_wp X (d - 1) (w - 25) 82 0 [(0, .inr (.inr (some 69))), (1, .inr (.inr (some l2))), (2, .inl l3)] [] S (zo (fun v2 S1 => zT S1 ∧ (ma_wp X (d - 1) (w - 24) 8 0 [(0, .inr (.inr (some 82))), (1, .inr (.inr (some l2))), (2, .inl l3), (3, .inr (.inr v2))] [] S1 (zv (fun S3 => zT S3 ∧ (ma_wp X d w 6 44 [(0, .inr (.inr (some 82))), (1, .inl l1), (2, .inr (.inr (some l2))), (3, .inl (l3 + (1 : Int32)))] [] S3 Q)) (fun x S9 => Q (.inr x) S9)))) (fun x S9 => Q (.inr x) S9))))) : ma_wp X d w 6 44 [(0, .inr (.inr (some 82))), (1, .inl l1), (2, .inr (.inr (some l2))), (3, .inl l3)] [] S Q := by
  refine zw_push hm_6 dX0_findDirty_44 (v := .inl l3) rfl ?_
  refine zw_push hm_6 dX0_findDirty_45 (v := .inr (.inr (some l2))) rfl ?_
  obtain ⟨hg, h⟩ := h
  refine zw_gf hm_6 dX0_findDirty_46 (v := .inl (mI S l2 2)) (zT_tis hS hg) (zT_tt hS hg) rfl f_1_67_9 rfl ?_
  refine zw_push hm_6 dX0_findDirty_49 (v := .inl (1 : Int32)) rfl ?_
  refine zw_stk hm_6 dX0_findDirty_50 (st₉ := [.inl ((mI S l2 2) - (1 : Int32)), .inl l3]) rfl rfl ?_
  refine zw_if2 hm_6 dX0_findDirty_51 (t := 75) rfl zc2_ge ?_ ?_
  · intro hc
    rw [if_pos hc] at h
    refine zw_sto hm_6 dX0_findDirty_75 [(1, .inl (l1 + (1 : Int32))), (0, .inr (.inr (some 82))), (2, .inr (.inr (some l2))), (3, .inl l3)] rfl rfl rfl ?_
    refine zw_goto hm_6 dX0_findDirty_78 (t := 10) rfl ?_
    exact zw_sub (ma_nd_of (ks := [0, 1]) rfl (by decide)) (ma_nd_of (ks := [1, 0, 2, 3]) rfl (by decide)) (ma_le_cons rfl (ma_le_cons rfl (ma_le_nil _))) h
  · intro hc
    rw [if_neg hc] at h
    refine zw_push hm_6 dX0_findDirty_54 (v := .inr (.inr (some 82))) rfl ?_
    refine zw_push hm_6 dX0_findDirty_55 (v := .inr (.inr (some l2))) rfl ?_
    refine zw_push hm_6 dX0_findDirty_56 (v := .inl l3) rfl ?_
    refine zw_push hm_6 dX0_findDirty_57 (v := .inr (.inr (some 82))) rfl ?_
    refine zw_gf hm_6 dX0_findDirty_58 (v := .inr (.inr (some 69))) (zT_is hS s_82) (zT_t hS s_82) rfl f_1_80_1 (zT_f hS r_82_0) ?_
    refine zw_push hm_6 dX0_findDirty_61 (v := .inr (.inr (some l2))) rfl ?_
    refine zw_push hm_6 dX0_findDirty_62 (v := .inl l3) rfl ?_
    refine zw_cv hm_6 dX0_findDirty_63 v_1_140_7 hm_82 [.inl l3, .inr (.inr (some l2))] [.inl l3, .inr (.inr (some l2)), .inr (.inr (some 82))] rfl (zT_rt hS s_69 rfl) ⟨by omega, by omega⟩ rfl (zw_mono h (zo_go ?_ ?_))
    · intro v2 S1 hv
      obtain ⟨hS1, h⟩ := hv
      refine zw_cv hm_6 dX0_findDirty_66 v_1_160_1 hm_8 [.inr (.inr v2), .inl l3, .inr (.inr (some l2))] [] rfl (zT_rt hS1 s_82 rfl) ⟨by omega, by omega⟩ rfl (zw_mono h (zv_go ?_ ?_))
      · intro S3 hv
        obtain ⟨hS3, h⟩ := hv
        refine zw_sto hm_6 dX0_findDirty_69 [(3, .inl (l3 + (1 : Int32))), (0, .inr (.inr (some 82))), (1, .inl l1), (2, .inr (.inr (some l2)))] rfl rfl rfl ?_
        refine zw_goto hm_6 dX0_findDirty_72 (t := 44) rfl ?_
        exact zw_sub (ma_nd_of (ks := [0, 1, 2, 3]) rfl (by decide)) (ma_nd_of (ks := [3, 0, 1, 2]) rfl (by decide)) (ma_le_cons rfl (ma_le_cons rfl (ma_le_cons rfl (ma_le_cons rfl (ma_le_nil _))))) h
      · intro x S9 hx
        exact ⟨by decide, hx⟩
    · intro x S9 hx
      exact ⟨by decide, hx⟩
theorem lp_6_82_44 {X : Nat × (Nat → Int32)} {d w : Nat} {f : Nat → Nat → Int32} {r : Nat → Nat → Option Nat} {C Z N : Nat} {Q : Option ma_V ⊕ Nat → ma_S → Prop} (hd : 2 ≤ d) (hw : 46 ≤ w) (K : ∀ S₉, zJ82 f r C Z N S₉ → Q (.inl none) S₉) {nB : Nat} (OUT : ∀ (S₉ : ma_S) (l1 : Int32), (512 - l1.toInt).toNat < nB → zJ82 f r C Z N S₉ → (0 ≤ l1.toInt) → ma_wp X d w 6 10 [(0, .inr (.inr (some 82))), (1, .inl l1)] [] S₉ Q) : ∀ (n : Nat) (S : ma_S) (l1 : Int32) (l2 : Nat) (l3 : Int32), (61 - l3.toInt).toNat = n → zJ82 f r C Z N S → (126 ≤ l2 ∧ l2 < N) → (0 ≤ l1.toInt) → (l1.toInt < 512) → ((512 - l1.toInt).toNat = nB) → ma_wp X d w 6 44 [(0, .inr (.inr (some 82))), (1, .inl l1), (2, .inr (.inr (some l2))), (3, .inl l3)] [] S Q := by
  intro n
  induction n using Nat.strongRecOn with
  | _ n IH =>
    intro S l1 l2 l3 hmu hI th_l2 hi0 hi1 hi2
    refine g_6_82_44 l1 l2 l3 (by omega) (by omega) (zG_T hI) ?_
    refine ⟨zG_n hI th_l2, ?_⟩
    have f1 := zG_th hI th_l2
    first | have e2 : ((mI S l2 2) - (1 : Int32)).toInt = (mI S l2 2).toInt - (1) := i_subk rfl (by omega) (by omega) | have b3 := i_bd ((mI S l2 2) - (1 : Int32))
    have b4 := i_bd l3
    refine zd (fun h5 => ?_) (fun h5 => ?_)
    · skip
      have g6 := i_le h5
      have b7 := i_bd l1
      first | have e8 : (l1 + (1 : Int32)).toInt = l1.toInt + (1) := i_addk rfl (by omega) (by omega) | have b9 := i_bd (l1 + (1 : Int32))
      exact OUT _ ((l1 + (1 : Int32))) (by omega) hI (by omega)
    · skip
      have g10 := i_nle h5
      refine sp_82_69 l2 (l3) (by omega) (by omega) (zJ82_dn hI) th_l2 (fun v2 S1 hL_S1 hq_v2 => zo_n ⟨zG_T hL_S1, ?_⟩)
      have hI_S1 := zJ82_up hI hL_S1
      refine sp_8_82 l2 (l3) (v2) (by omega) (by omega) hI_S1 th_l2 hq_v2 (fun S3 hI_S3 => zv_n ⟨zG_T hI_S3, ?_⟩)
      have b11 := i_bd l1
      first | have e12 : (l3 + (1 : Int32)).toInt = l3.toInt + (1) := i_addk rfl (by omega) (by omega) | have b13 := i_bd (l3 + (1 : Int32))
      exact IH _ (by omega) _ (l1) l2 ((l3 + (1 : Int32))) rfl hI_S3 th_l2 (by omega) (by omega) (by omega)
theorem lp_6_82_10 {X : Nat × (Nat → Int32)} {d w : Nat} {f : Nat → Nat → Int32} {r : Nat → Nat → Option Nat} {C Z N : Nat} {Q : Option ma_V ⊕ Nat → ma_S → Prop} (hd : 2 ≤ d) (hw : 46 ≤ w) (K : ∀ S₉, zJ82 f r C Z N S₉ → Q (.inl none) S₉) : ∀ (n : Nat) (S : ma_S) (l1 : Int32), (512 - l1.toInt).toNat = n → zJ82 f r C Z N S → (0 ≤ l1.toInt) → ma_wp X d w 6 10 [(0, .inr (.inr (some 82))), (1, .inl l1)] [] S Q := by
  intro n
  induction n using Nat.strongRecOn with
  | _ n IH =>
    intro S l1 hmu hI  hi0
    refine g_6_82_10 l1 (by omega) (by omega) (zG_T hI) ?_
    have f1 := zG_s hI (0) (512) (c := 69) (k := 6) (by decide)
    have b2 := i_bd l1
    refine zd (fun h3 => ?_) (fun h3 => ?_)
    · skip
      have g4 := i_le h3
      exact K _ hI
    · skip
      have g5 := i_nle h3
      have li6 : (0 : Int32).toInt = 0 := rfl
      refine zd (fun h7 => ?_) (fun h7 => ?_)
      · skip
        have g8 := i_lt h7
        first | have e9 : (l1 + (1 : Int32)).toInt = l1.toInt + (1) := i_addk rfl (by omega) (by omega) | have b10 := i_bd (l1 + (1 : Int32))
        exact IH _ (by omega) _ ((l1 + (1 : Int32))) rfl hI (by omega)
      · skip
        have g11 := i_nlt h7
        have li12 : (512 : Int32).toInt = 512 := rfl
        refine zd (fun h13 => ?_) (fun h13 => ?_)
        · skip
          have g14 := i_le h13
          first | have e15 : (l1 + (1 : Int32)).toInt = l1.toInt + (1) := i_addk rfl (by omega) (by omega) | have b16 := i_bd (l1 + (1 : Int32))
          exact IH _ (by omega) _ ((l1 + (1 : Int32))) rfl hI (by omega)
        · skip
          have g17 := i_nle h13
          refine ⟨i_ix (by omega) (by omega), ?_⟩
          refine ⟨fun _ => ?_, fun c1 hc => ?_⟩
          · skip
            first | have e18 : (l1 + (1 : Int32)).toInt = l1.toInt + (1) := i_addk rfl (by omega) (by omega) | have b19 := i_bd (l1 + (1 : Int32))
            exact IH _ (by omega) _ ((l1 + (1 : Int32))) rfl hI (by omega)
          · skip
            have th_c1 := (fun _ z => zG_70 hI (c := 70) (by decide) z) c1 hc
            refine ⟨zG_n hI th_c1, ?_⟩
            have f20 := zG_th hI th_c1
            have x21 : (mI S 82 3).toInt ≤ (mI S 82 7).toInt ∧ (mI S 82 7).toInt ≤ (mI S 82 3).toInt + (mI S 82 2).toInt := zG_x hI
            have f22 := zG_s hI (0) (1500) (c := 82) (k := 3) (by decide)
            refine zd (fun h23 => ?_) (fun h23 => ?_)
            · skip
              have g24 := i_lt h23
              exact lp_6_82_44 (by omega) (by omega) K (fun _ _ z1 z2 z3 => IH _ z1 _ _ rfl z2 z3) _ _ (l1) c1 ((0 : Int32)) rfl hI th_c1 (by omega) (by omega) (by omega)
            · skip
              have g25 := i_nlt h23
              first | have e26 : (l1 + (1 : Int32)).toInt = l1.toInt + (1) := i_addk rfl (by omega) (by omega) | have b27 := i_bd (l1 + (1 : Int32))
              exact IH _ (by omega) _ ((l1 + (1 : Int32))) rfl hI (by omega)
theorem sp_6_82 {X : Nat × (Nat → Int32)} {d w : Nat} {f : Nat → Nat → Int32} {r : Nat → Nat → Option Nat} {C Z N : Nat} {Q : Option ma_V ⊕ Nat → ma_S → Prop} {S : ma_S}  (hd : 2 ≤ d) (hw : 46 ≤ w) (hI : zJ82 f r C Z N S)  (K : ∀ S₉, zJ82 f r C Z N S₉ → Q (.inl none) S₉) : ma_wp X d w 6 0 [(0, .inr (.inr (some 82)))] [] S Q := by
  refine g_6_82_0  (by omega) (by omega) (zG_T hI) ?_
  have li1 : (0 : Int32).toInt = 0 := rfl
  refine sp_276_83 ((0 : Int32)) (by omega) (by omega) hI  (fun S1 hI_S1 => zv_n ⟨zG_T hI_S1, ?_⟩)
  exact lp_6_82_10 (by omega) (by omega) K _ _ ((0 : Int32)) rfl hI_S1 (by omega)
theorem g_5_82_0 {X : Nat × (Nat → Int32)} {d w : Nat} {S : ma_S} {Q : Option ma_V ⊕ Nat → ma_S → Prop}  (hd : 3 ≤ d) (hw : 138 ≤ w) (hS : zT S) (h : ma_wp X (d - 1) (w - 20) 116 0 [(0, .inr (.inr (some 75)))] [] S (zv (fun S1 => zT S1 ∧ (ma_wp X (d - 1) (w - 23) 83 0 [(0, .inr (.inr (some 69))), (1, .inr (.inr (some 75)))] [] S1 (zv (fun S3 => zT S3 ∧ (ma_wp X (d - 1) (w - 24) 86 0 [(0, .inr (.inr (some 69))), (1, .inr (.inr (some 75)))] [] S3 (zi (fun v6 S5 => zT S5 ∧ (ma_wp X (d - 1) (w - 24) 263 0 [(0, .inr (.inr (some 82))), (1, .inl (mI S5 82 3))] [] S5 (zi (fun v8 S7 => zT S7 ∧ (ma_wp X (d - 1) (w - 23) 6 0 [(0, .inr (.inr (some 82)))] [] (ma_put S7 82 6 (.inl v8)) (zv (fun S9 => zT S9 ∧ (Q (.inl (some (.inl v6))) S9)) (fun x S9 => Q (.inr x) S9)))) (fun _ _ => False)))) (fun x S9 => Q (.inr x) S9)))) (fun x S9 => Q (.inr x) S9)))) (fun x S9 => Q (.inr x) S9))) : ma_wp X d w 5 0 [(0, .inr (.inr (some 82)))] [] S Q := by
  refine zw_push hm_5 dX0_cleanOld_0 (v := .inr (.inr (some 82))) rfl ?_
  refine zw_gf hm_5 dX0_cleanOld_1 (v := .inr (.inr (some 75))) (zT_is hS s_82) (zT_t hS s_82) rfl f_1_70_1 (zT_f hS r_82_1) ?_
  refine zw_cv hm_5 dX0_cleanOld_4 v_1_74_10 hm_116 [] [] rfl (zT_rt hS s_75 rfl) ⟨by omega, by omega⟩ rfl (zw_mono h (zv_go ?_ ?_))
  · intro S1 hv
    obtain ⟨hS1, h⟩ := hv
    refine zw_push hm_5 dX0_cleanOld_7 (v := .inr (.inr (some 82))) rfl ?_
    refine zw_gf hm_5 dX0_cleanOld_8 (v := .inr (.inr (some 69))) (zT_is hS1 s_82) (zT_t hS1 s_82) rfl f_1_80_1 (zT_f hS1 r_82_0) ?_
    refine zw_push hm_5 dX0_cleanOld_11 (v := .inr (.inr (some 82))) rfl ?_
    refine zw_gf hm_5 dX0_cleanOld_12 (v := .inr (.inr (some 75))) (zT_is hS1 s_82) (zT_t hS1 s_82) rfl f_1_70_1 (zT_f hS1 r_82_1) ?_
    refine zw_cv hm_5 dX0_cleanOld_15 v_1_84_7 hm_83 [.inr (.inr (some 75))] [] rfl (zT_rt hS1 s_69 rfl) ⟨by omega, by omega⟩ rfl (zw_mono h (zv_go ?_ ?_))
    · intro S3 hv
      obtain ⟨hS3, h⟩ := hv
      refine zw_push hm_5 dX0_cleanOld_18 (v := .inr (.inr (some 82))) rfl ?_
      refine zw_gf hm_5 dX0_cleanOld_19 (v := .inr (.inr (some 69))) (zT_is hS3 s_82) (zT_t hS3 s_82) rfl f_1_80_1 (zT_f hS3 r_82_0) ?_
      refine zw_push hm_5 dX0_cleanOld_22 (v := .inr (.inr (some 82))) rfl ?_
      refine zw_gf hm_5 dX0_cleanOld_23 (v := .inr (.inr (some 75))) (zT_is hS3 s_82) (zT_t hS3 s_82) rfl f_1_70_1 (zT_f hS3 r_82_1) ?_
      refine zw_cv hm_5 dX0_cleanOld_26 v_1_90_7 hm_86 [.inr (.inr (some 75))] [] rfl (zT_rt hS3 s_69 rfl) ⟨by omega, by omega⟩ rfl (zw_mono h (zi_go ?_ ?_))
      · intro v6 S5 hv
        obtain ⟨hS5, h⟩ := hv
        refine zw_sto hm_5 dX0_cleanOld_29 [(1, .inl v6), (0, .inr (.inr (some 82)))] rfl rfl rfl ?_
        refine zw_push hm_5 dX0_cleanOld_30 (v := .inr (.inr (some 82))) rfl ?_
        refine zw_push hm_5 dX0_cleanOld_31 (v := .inr (.inr (some 82))) rfl ?_
        refine zw_push hm_5 dX0_cleanOld_32 (v := .inr (.inr (some 82))) rfl ?_
        refine zw_gf hm_5 dX0_cleanOld_33 (v := .inl (mI S5 82 3)) (zT_is hS5 s_82) (zT_t hS5 s_82) rfl f_1_19_1 rfl ?_
        refine zw_cv hm_5 dX0_cleanOld_36 v_1_94_1 hm_263 [.inl (mI S5 82 3)] [.inr (.inr (some 82))] rfl (zT_rt hS5 s_82 rfl) ⟨by omega, by omega⟩ rfl (zw_mono h (zi_go ?_ ?_))
        · intro v8 S7 hv
          obtain ⟨hS7, h⟩ := hv
          refine zw_pf hm_5 dX0_cleanOld_39 (zT_is hS7 s_82) (zT_t hS7 s_82) p_1_28_1 zk_int ?_
          refine zw_push hm_5 dX0_cleanOld_42 (v := .inr (.inr (some 82))) rfl ?_
          refine zw_cv hm_5 dX0_cleanOld_43 v_1_97_1 hm_6 [] [] rfl (zT_rt (zT_pi hS7) s_82 rfl) ⟨by omega, by omega⟩ rfl (zw_mono h (zv_go ?_ ?_))
          · intro S9 hv
            obtain ⟨hS9, h⟩ := hv
            refine zw_push hm_5 dX0_cleanOld_46 (v := .inl v6) rfl ?_
            exact zw_iret hm_5 dX0_cleanOld_47 h
          · intro x S9 hx
            exact ⟨by decide, hx⟩
        · intro x S9 hx
          exact hx.elim
      · intro x S9 hx
        exact ⟨by decide, hx⟩
    · intro x S9 hx
      exact ⟨by decide, hx⟩
  · intro x S9 hx
    exact ⟨by decide, hx⟩
theorem sp_5_82 {X : Nat × (Nat → Int32)} {d w : Nat} {f : Nat → Nat → Int32} {r : Nat → Nat → Option Nat} {C Z N : Nat} {Q : Option ma_V ⊕ Nat → ma_S → Prop} {S : ma_S}  (hd : 3 ≤ d) (hw : 138 ≤ w) (hI : zJ82 f r C Z N S)  (K : ∀ v S₉, zJ82 f r C Z N S₉ → (True) → Q (.inl (some (.inl v))) S₉) : ma_wp X d w 5 0 [(0, .inr (.inr (some 82)))] [] S Q := by
  refine g_5_82_0  (by omega) (by omega) (zG_T hI) ?_
  refine sp_116_75  (by omega) (by omega) (zJ82_dn hI)  (fun S1 hL_S1 => zv_n ⟨zG_T hL_S1, ?_⟩)
  have hI_S1 := zJ82_up hI hL_S1
  refine sp_83_69_75  (by omega) (by omega) (zJ82_dn hI_S1)  (fun S3 hL_S3 => zv_n ⟨zG_T hL_S3, ?_⟩)
  have hI_S3 := zJ82_up hI_S1 hL_S3
  refine sp_86_69_75  (by omega) (by omega) (zJ82_dn hI_S3)  (fun v6 S5 hL_S5 hp_v6 => zi_n ⟨zG_T hL_S5, ?_⟩)
  have hI_S5 := zJ82_up hI_S3 hL_S5
  have x1 : (mI S 82 3).toInt ≤ (mI S 82 7).toInt ∧ (mI S 82 7).toInt ≤ (mI S 82 3).toInt + (mI S 82 2).toInt := zG_x hI
  have f2 := zG_s hI (0) (1500) (c := 82) (k := 3) (by decide)
  have q3 : (mI S1 82 3).toInt = (mI S 82 3).toInt := zG_zi hL_S1 rfl
  have x4 : (mI S1 82 3).toInt ≤ (mI S1 82 7).toInt ∧ (mI S1 82 7).toInt ≤ (mI S1 82 3).toInt + (mI S1 82 2).toInt := zG_x hI_S1
  have f5 := zG_s hI_S1 (0) (1500) (c := 82) (k := 3) (by decide)
  have q6 : (mI S3 82 3).toInt = (mI S1 82 3).toInt := zG_zi hL_S3 rfl
  have x7 : (mI S3 82 3).toInt ≤ (mI S3 82 7).toInt ∧ (mI S3 82 7).toInt ≤ (mI S3 82 3).toInt + (mI S3 82 2).toInt := zG_x hI_S3
  have f8 := zG_s hI_S3 (0) (1500) (c := 82) (k := 3) (by decide)
  have q9 : (mI S5 82 3).toInt = (mI S3 82 3).toInt := zG_zi hL_S5 rfl
  have x10 : (mI S5 82 3).toInt ≤ (mI S5 82 7).toInt ∧ (mI S5 82 7).toInt ≤ (mI S5 82 3).toInt + (mI S5 82 2).toInt := zG_x hI_S5
  have f11 := zG_s hI_S5 (0) (1500) (c := 82) (k := 3) (by decide)
  refine sp_263_82 ((mI S5 82 3)) (by omega) (by omega) (zJ82_dn hI_S5) (by omega) (fun v8 S7 hL_S7 hp_v8 => zi_n ⟨zG_T hL_S7, ?_⟩)
  have hI_S7 := zJ82_up hI_S5 hL_S7
  have b13 := i_bd v8
  have hI12 : zJ82 f r C Z N (ma_put S7 82 6 (.inl v8)) := zG_sp hI_S7 (0) (400000) rfl (by decide) (by decide) (by decide) (show zJ82_x (mI S7) from zG_x hI_S7) (by omega) (by omega)
  refine sp_6_82  (by omega) (by omega) hI12  (fun S9 hI_S9 => zv_n ⟨zG_T hI_S9, ?_⟩)
  have b14 := i_bd v6
  exact K (v6) _ hI_S9 trivial
/-! from 93.b10 -/
/-! collectors, by what they keep (written by wip/tools/gen93b.py) -/
theorem zp_th {S : ma_S} {c₉ k₉ c k : Nat} {x : Int32} (hc : 126 ≤ c₉) (h : c < 126) : (mI (ma_put S c₉ k₉ (.inl x)) c k).toInt = (mI S c k).toInt := by
  have : mI (ma_put S c₉ k₉ (.inl x)) c k = mI S c k := if_neg (fun z => by omega)
  rw [this]
theorem g_12_82_0 {X : Nat × (Nat → Int32)} {d w : Nat} {S : ma_S} {Q : Option ma_V ⊕ Nat → ma_S → Prop}  (hd : 1 ≤ d) (hw : 21 ≤ w) (hS : zT S) (h : ma_wp X d w 12 4 [(0, .inr (.inr (some 82))), (1, .inl (0 : Int32)), (2, .inl (0 : Int32))] [] S Q) : ma_wp X d w 12 0 [(0, .inr (.inr (some 82)))] [] S Q := by
  refine zw_push hm_12 dX0_wordsGrowingOld_0 (v := .inl (0 : Int32)) rfl ?_
  refine zw_sto hm_12 dX0_wordsGrowingOld_1 [(1, .inl (0 : Int32)), (0, .inr (.inr (some 82)))] rfl rfl rfl ?_
  refine zw_push hm_12 dX0_wordsGrowingOld_2 (v := .inl (0 : Int32)) rfl ?_
  refine zw_sto hm_12 dX0_wordsGrowingOld_3 [(2, .inl (0 : Int32)), (1, .inl (0 : Int32)), (0, .inr (.inr (some 82)))] rfl rfl rfl ?_
  exact zw_sub (ma_nd_of (ks := [0, 1, 2]) rfl (by decide)) (ma_nd_of (ks := [2, 1, 0]) rfl (by decide)) (ma_le_cons rfl (ma_le_cons rfl (ma_le_cons rfl (ma_le_nil _)))) h
theorem g_12_82_4 {X : Nat × (Nat → Int32)} {d w : Nat} {S : ma_S} {Q : Option ma_V ⊕ Nat → ma_S → Prop} (l1 : Int32) (l2 : Int32) (hd : 1 ≤ d) (hw : 21 ≤ w) (hS : zT S) (h : if (mI S 69 6) ≤ l2 then (Q (.inl (some (.inl l1))) S) else (if l2 < 0 then (ma_wp X d w 12 4 [(0, .inr (.inr (some 82))), (1, .inl l1), (2, .inl (l2 + (1 : Int32)))] [] S Q) else (if (512 : Int32) ≤ l2 then (ma_wp X d w 12 4 [(0, .inr (.inr (some 82))), (1, .inl l1), (2, .inl (l2 + (1 : Int32)))] [] S Q) else ((0 ≤ l2 ∧ l2.toNatClampNeg < 512) ∧ (((mR S 70 l2.toNatClampNeg) = none → ma_wp X d w 12 4 [(0, .inr (.inr (some 82))), (1, .inl l1), (2, .inl (l2 + (1 : Int32)))] [] S Q) ∧ (∀ c1, (mR S 70 l2.toNatClampNeg) = some c1 → (126 ≤ c1 ∧ c1 < mN S) ∧ (if (mI S c1 4) < (mI S 82 3) then (ma_wp X d w 12 4 [(0, .inr (.inr (some 82))), (1, .inl l1), (2, .inl (l2 + (1 : Int32)))] [] S Q) else ((126 ≤ c1 ∧ c1 < mN S) ∧ (if ((mI S c1 5) + (1 : Int32)) < (mI S 82 4) then (ma_wp X d w 12 4 [(0, .inr (.inr (some 82))), (1, .inl l1), (2, .inl (l2 + (1 : Int32)))] [] S Q) else ((126 ≤ c1 ∧ c1 < mN S) ∧ (ma_wp X d w 12 4 [(0, .inr (.inr (some 82))), (1, .inl (l1 + (mI S c1 2))), (2, .inl (l2 + (1 : Int32)))] [] S Q))))))))))) : ma_wp X d w 12 4 [(0, .inr (.inr (some 82))), (1, .inl l1), (2, .inl l2)] [] S Q := by
  refine zw_push hm_12 dX0_wordsGrowingOld_4 (v := .inl l2) rfl ?_
  refine zw_push hm_12 dX0_wordsGrowingOld_5 (v := .inr (.inr (some 82))) rfl ?_
  refine zw_gf hm_12 dX0_wordsGrowingOld_6 (v := .inr (.inr (some 69))) (zT_is hS s_82) (zT_t hS s_82) rfl f_1_80_1 (zT_f hS r_82_0) ?_
  refine zw_gf hm_12 dX0_wordsGrowingOld_9 (v := .inl (mI S 69 6)) (zT_is hS s_69) (zT_t hS s_69) rfl f_1_119_7 rfl ?_
  refine zw_if2 hm_12 dX0_wordsGrowingOld_12 (t := 62) rfl zc2_ge ?_ ?_
  · intro hc
    rw [if_pos hc] at h
    refine zw_push hm_12 dX0_wordsGrowingOld_62 (v := .inl l1) rfl ?_
    exact zw_iret hm_12 dX0_wordsGrowingOld_63 h
  · intro hc
    rw [if_neg hc] at h
    refine zw_push hm_12 dX0_wordsGrowingOld_15 (v := .inr (.inr (some 82))) rfl ?_
    refine zw_gf hm_12 dX0_wordsGrowingOld_16 (v := .inr (.inr (some 69))) (zT_is hS s_82) (zT_t hS s_82) rfl f_1_80_1 (zT_f hS r_82_0) ?_
    refine zw_push hm_12 dX0_wordsGrowingOld_19 (v := .inl l2) rfl ?_
    refine zw_cv hm_12 dX0_wordsGrowingOld_20 v_1_122_7 hm_81 [.inl l2] [] rfl (zT_rt hS s_69 rfl) ⟨by omega, by omega⟩ rfl ?_
    show ma_wp X (d - 1) (w - 21) 81 0 [(0, .inr (.inr (some 69))), (1, .inl l2)] [] S _
    refine zw_push hm_81 dX7_thingAt_0 (v := .inl l2) rfl ?_
    refine zw_if0 hm_81 dX7_thingAt_1 (t := 20) rfl zc0_lt ?_ ?_
    · intro hc
      rw [if_pos hc] at h
      refine zw_push hm_81 dX7_thingAt_20 (v := .inr (.inr none)) rfl ?_
      refine zw_aret hm_81 dX7_thingAt_21 ?_
      show ma_wp X d w 12 23 [(0, .inr (.inr (some 82))), (1, .inl l1), (2, .inl l2)] [.inr (.inr none)] S _
      refine zw_sto hm_12 dX0_wordsGrowingOld_23 [(3, .inr (.inr none)), (0, .inr (.inr (some 82))), (1, .inl l1), (2, .inl l2)] rfl rfl rfl ?_
      refine zw_push hm_12 dX0_wordsGrowingOld_24 (v := .inr (.inr none)) rfl ?_
      refine zw_ifnull hm_12 dX0_wordsGrowingOld_25 (t := 56) rfl (fun _ => ?_) (fun _ z => by cases z)
      refine zw_sto hm_12 dX0_wordsGrowingOld_56 [(2, .inl (l2 + (1 : Int32))), (3, .inr (.inr none)), (0, .inr (.inr (some 82))), (1, .inl l1)] rfl rfl rfl ?_
      refine zw_goto hm_12 dX0_wordsGrowingOld_59 (t := 4) rfl ?_
      exact zw_sub (ma_nd_of (ks := [0, 1, 2]) rfl (by decide)) (ma_nd_of (ks := [2, 3, 0, 1]) rfl (by decide)) (ma_le_cons rfl (ma_le_cons rfl (ma_le_cons rfl (ma_le_nil _)))) h
    · intro hc
      rw [if_neg hc] at h
      refine zw_push hm_81 dX7_thingAt_4 (v := .inl l2) rfl ?_
      refine zw_push hm_81 dX7_thingAt_5 (v := .inl (512 : Int32)) rfl ?_
      refine zw_if2 hm_81 dX7_thingAt_8 (t := 20) rfl zc2_ge ?_ ?_
      · intro hc
        rw [if_pos hc] at h
        refine zw_push hm_81 dX7_thingAt_20 (v := .inr (.inr none)) rfl ?_
        refine zw_aret hm_81 dX7_thingAt_21 ?_
        show ma_wp X d w 12 23 [(0, .inr (.inr (some 82))), (1, .inl l1), (2, .inl l2)] [.inr (.inr none)] S _
        refine zw_sto hm_12 dX0_wordsGrowingOld_23 [(3, .inr (.inr none)), (0, .inr (.inr (some 82))), (1, .inl l1), (2, .inl l2)] rfl rfl rfl ?_
        refine zw_push hm_12 dX0_wordsGrowingOld_24 (v := .inr (.inr none)) rfl ?_
        refine zw_ifnull hm_12 dX0_wordsGrowingOld_25 (t := 56) rfl (fun _ => ?_) (fun _ z => by cases z)
        refine zw_sto hm_12 dX0_wordsGrowingOld_56 [(2, .inl (l2 + (1 : Int32))), (3, .inr (.inr none)), (0, .inr (.inr (some 82))), (1, .inl l1)] rfl rfl rfl ?_
        refine zw_goto hm_12 dX0_wordsGrowingOld_59 (t := 4) rfl ?_
        exact zw_sub (ma_nd_of (ks := [0, 1, 2]) rfl (by decide)) (ma_nd_of (ks := [2, 3, 0, 1]) rfl (by decide)) (ma_le_cons rfl (ma_le_cons rfl (ma_le_cons rfl (ma_le_nil _)))) h
      · intro hc
        rw [if_neg hc] at h
        refine zw_push hm_81 dX7_thingAt_11 (v := .inr (.inr (some 69))) rfl ?_
        refine zw_gf hm_81 dX7_thingAt_12 (v := .inr (.inr (some 70))) (zT_is hS s_69) (zT_t hS s_69) rfl f_7_11_7 (zT_f hS r_69_0) ?_
        refine zw_push hm_81 dX7_thingAt_15 (v := .inl l2) rfl ?_
        obtain ⟨hg, h⟩ := h
        refine zw_aa hm_81 dX7_thingAt_16 (zT_is hS s_70) (zT_h hS s_70) rfl rfl hg rfl ?_
        show ma_wp X (d - 1) (w - 21) 81 17 [(0, .inr (.inr (some 69))), (1, .inl l2)] [.inr (.inr (mR S 70 l2.toNatClampNeg))] S _
        refine zw_goto hm_81 dX7_thingAt_17 (t := 21) rfl ?_
        refine zw_aret hm_81 dX7_thingAt_21 ?_
        show ma_wp X d w 12 23 [(0, .inr (.inr (some 82))), (1, .inl l1), (2, .inl l2)] [.inr (.inr (mR S 70 l2.toNatClampNeg))] S _
        refine zw_sto hm_12 dX0_wordsGrowingOld_23 [(3, .inr (.inr (mR S 70 l2.toNatClampNeg))), (0, .inr (.inr (some 82))), (1, .inl l1), (2, .inl l2)] rfl rfl rfl ?_
        refine zw_push hm_12 dX0_wordsGrowingOld_24 (v := .inr (.inr (mR S 70 l2.toNatClampNeg))) rfl ?_
        refine zw_ifnull hm_12 dX0_wordsGrowingOld_25 (t := 56) rfl ?_ ?_
        · intro hc
          have h := h.1 hc
          (try rw [hc])
          show ma_wp X d w 12 56 [(3, .inr (.inr none)), (0, .inr (.inr (some 82))), (1, .inl l1), (2, .inl l2)] [] S _
          refine zw_sto hm_12 dX0_wordsGrowingOld_56 [(2, .inl (l2 + (1 : Int32))), (3, .inr (.inr none)), (0, .inr (.inr (some 82))), (1, .inl l1)] rfl rfl rfl ?_
          refine zw_goto hm_12 dX0_wordsGrowingOld_59 (t := 4) rfl ?_
          exact zw_sub (ma_nd_of (ks := [0, 1, 2]) rfl (by decide)) (ma_nd_of (ks := [2, 3, 0, 1]) rfl (by decide)) (ma_le_cons rfl (ma_le_cons rfl (ma_le_cons rfl (ma_le_nil _)))) h
        · intro c1 hc
          have h := h.2 c1 hc
          (try rw [hc])
          show ma_wp X d w 12 28 [(3, .inr (.inr (some c1))), (0, .inr (.inr (some 82))), (1, .inl l1), (2, .inl l2)] [] S _
          refine zw_push hm_12 dX0_wordsGrowingOld_28 (v := .inr (.inr (some 82))) rfl ?_
          refine zw_push hm_12 dX0_wordsGrowingOld_29 (v := .inr (.inr (some c1))) rfl ?_
          refine zw_cv hm_12 dX0_wordsGrowingOld_30 v_1_58_1 hm_7 [.inr (.inr (some c1))] [] rfl (zT_rt hS s_82 rfl) ⟨by omega, by omega⟩ rfl ?_
          show ma_wp X (d - 1) (w - 21) 7 0 [(0, .inr (.inr (some 82))), (1, .inr (.inr (some c1)))] [] S _
          refine zw_push hm_7 dX0_isYoung_0 (v := .inr (.inr (some c1))) rfl ?_
          obtain ⟨hg, h⟩ := h
          refine zw_gf hm_7 dX0_isYoung_1 (v := .inl (mI S c1 4)) (zT_tis hS hg) (zT_tt hS hg) rfl f_1_62_9 rfl ?_
          refine zw_push hm_7 dX0_isYoung_4 (v := .inr (.inr (some 82))) rfl ?_
          refine zw_gf hm_7 dX0_isYoung_5 (v := .inl (mI S 82 3)) (zT_is hS s_82) (zT_t hS s_82) rfl f_1_19_1 rfl ?_
          refine zw_if2 hm_7 dX0_isYoung_8 (t := 15) rfl zc2_lt ?_ ?_
          · intro hc
            rw [if_pos hc] at h
            refine zw_push hm_7 dX0_isYoung_15 (v := .inl (0 : Int32)) rfl ?_
            refine zw_bret hm_7 dX0_isYoung_16 (by decide) ?_
            show ma_wp X d w 12 33 [(3, .inr (.inr (some c1))), (0, .inr (.inr (some 82))), (1, .inl l1), (2, .inl l2)] [.inl (0 : Int32)] S _
            refine zw_if0 hm_12 dX0_wordsGrowingOld_33 (t := 56) rfl zc0_eq (fun _ => ?_) (fun hc => absurd (by decide) hc)
            refine zw_sto hm_12 dX0_wordsGrowingOld_56 [(2, .inl (l2 + (1 : Int32))), (3, .inr (.inr (some c1))), (0, .inr (.inr (some 82))), (1, .inl l1)] rfl rfl rfl ?_
            refine zw_goto hm_12 dX0_wordsGrowingOld_59 (t := 4) rfl ?_
            exact zw_sub (ma_nd_of (ks := [0, 1, 2]) rfl (by decide)) (ma_nd_of (ks := [2, 3, 0, 1]) rfl (by decide)) (ma_le_cons rfl (ma_le_cons rfl (ma_le_cons rfl (ma_le_nil _)))) h
          · intro hc
            rw [if_neg hc] at h
            refine zw_push hm_7 dX0_isYoung_11 (v := .inl (1 : Int32)) rfl ?_
            refine zw_goto hm_7 dX0_isYoung_12 (t := 16) rfl ?_
            refine zw_bret hm_7 dX0_isYoung_16 (by decide) ?_
            show ma_wp X d w 12 33 [(3, .inr (.inr (some c1))), (0, .inr (.inr (some 82))), (1, .inl l1), (2, .inl l2)] [.inl (1 : Int32)] S _
            refine zw_if0 hm_12 dX0_wordsGrowingOld_33 (t := 56) rfl zc0_eq (fun hc => absurd hc (by decide)) (fun _ => ?_)
            refine zw_push hm_12 dX0_wordsGrowingOld_36 (v := .inr (.inr (some c1))) rfl ?_
            obtain ⟨hg, h⟩ := h
            refine zw_gf hm_12 dX0_wordsGrowingOld_37 (v := .inl (mI S c1 5)) (zT_tis hS hg) (zT_tt hS hg) rfl f_1_126_9 rfl ?_
            refine zw_push hm_12 dX0_wordsGrowingOld_40 (v := .inl (1 : Int32)) rfl ?_
            refine zw_stk hm_12 dX0_wordsGrowingOld_41 (st₉ := [.inl ((mI S c1 5) + (1 : Int32))]) rfl rfl ?_
            refine zw_push hm_12 dX0_wordsGrowingOld_42 (v := .inr (.inr (some 82))) rfl ?_
            refine zw_gf hm_12 dX0_wordsGrowingOld_43 (v := .inl (mI S 82 4)) (zT_is hS s_82) (zT_t hS s_82) rfl f_1_22_1 rfl ?_
            refine zw_if2 hm_12 dX0_wordsGrowingOld_46 (t := 56) rfl zc2_lt ?_ ?_
            · intro hc
              rw [if_pos hc] at h
              refine zw_sto hm_12 dX0_wordsGrowingOld_56 [(2, .inl (l2 + (1 : Int32))), (3, .inr (.inr (some c1))), (0, .inr (.inr (some 82))), (1, .inl l1)] rfl rfl rfl ?_
              refine zw_goto hm_12 dX0_wordsGrowingOld_59 (t := 4) rfl ?_
              exact zw_sub (ma_nd_of (ks := [0, 1, 2]) rfl (by decide)) (ma_nd_of (ks := [2, 3, 0, 1]) rfl (by decide)) (ma_le_cons rfl (ma_le_cons rfl (ma_le_cons rfl (ma_le_nil _)))) h
            · intro hc
              rw [if_neg hc] at h
              refine zw_push hm_12 dX0_wordsGrowingOld_49 (v := .inl l1) rfl ?_
              refine zw_push hm_12 dX0_wordsGrowingOld_50 (v := .inr (.inr (some c1))) rfl ?_
              obtain ⟨hg, h⟩ := h
              refine zw_gf hm_12 dX0_wordsGrowingOld_51 (v := .inl (mI S c1 2)) (zT_tis hS hg) (zT_tt hS hg) rfl f_1_67_9 rfl ?_
              refine zw_stk hm_12 dX0_wordsGrowingOld_54 (st₉ := [.inl (l1 + (mI S c1 2))]) rfl rfl ?_
              refine zw_sto hm_12 dX0_wordsGrowingOld_55 [(1, .inl (l1 + (mI S c1 2))), (3, .inr (.inr (some c1))), (0, .inr (.inr (some 82))), (2, .inl l2)] rfl rfl rfl ?_
              refine zw_sto hm_12 dX0_wordsGrowingOld_56 [(2, .inl (l2 + (1 : Int32))), (1, .inl (l1 + (mI S c1 2))), (3, .inr (.inr (some c1))), (0, .inr (.inr (some 82)))] rfl rfl rfl ?_
              refine zw_goto hm_12 dX0_wordsGrowingOld_59 (t := 4) rfl ?_
              exact zw_sub (ma_nd_of (ks := [0, 1, 2]) rfl (by decide)) (ma_nd_of (ks := [2, 1, 3, 0]) rfl (by decide)) (ma_le_cons rfl (ma_le_cons rfl (ma_le_cons rfl (ma_le_nil _)))) h
theorem lp_12_82_4 {X : Nat × (Nat → Int32)} {d w : Nat} {f : Nat → Nat → Int32} {r : Nat → Nat → Option Nat} {C Z N : Nat} {Q : Option ma_V ⊕ Nat → ma_S → Prop} (hd : 1 ≤ d) (hw : 21 ≤ w) (K : ∀ v S₉, zI f r C Z N S₉ → (0 ≤ v.toInt ∧ v.toInt ≤ 40000) → Q (.inl (some (.inl v))) S₉) : ∀ (n : Nat) (S : ma_S) (l1 : Int32) (l2 : Int32), (512 - l2.toInt).toNat = n → zI f r C Z N S → (0 ≤ l2.toInt) → (l2.toInt ≤ 512) → (0 ≤ l1.toInt) → (l1.toInt ≤ 61 * l2.toInt) → ma_wp X d w 12 4 [(0, .inr (.inr (some 82))), (1, .inl l1), (2, .inl l2)] [] S Q := by
  intro n
  induction n using Nat.strongRecOn with
  | _ n IH =>
    intro S l1 l2 hmu hI  hi0 hi1 hi2 hi3
    refine g_12_82_4 l1 l2 (by omega) (by omega) (zG_T hI) ?_
    have f1 := zG_s hI (0) (512) (c := 69) (k := 6) (by decide)
    have b2 := i_bd l2
    refine zd (fun h3 => ?_) (fun h3 => ?_)
    · skip
      have g4 := i_le h3
      have b5 := i_bd l1
      exact K (l1) _ hI (by omega)
    · skip
      have g6 := i_nle h3
      have li7 : (0 : Int32).toInt = 0 := rfl
      refine zd (fun h8 => ?_) (fun h8 => ?_)
      · skip
        have g9 := i_lt h8
        have b10 := i_bd l1
        first | have e11 : (l2 + (1 : Int32)).toInt = l2.toInt + (1) := i_addk rfl (by omega) (by omega) | have b12 := i_bd (l2 + (1 : Int32))
        exact IH _ (by omega) _ (l1) ((l2 + (1 : Int32))) rfl hI (by omega) (by omega) (by omega) (by omega)
      · skip
        have g13 := i_nlt h8
        have li14 : (512 : Int32).toInt = 512 := rfl
        refine zd (fun h15 => ?_) (fun h15 => ?_)
        · skip
          have g16 := i_le h15
          have b17 := i_bd l1
          first | have e18 : (l2 + (1 : Int32)).toInt = l2.toInt + (1) := i_addk rfl (by omega) (by omega) | have b19 := i_bd (l2 + (1 : Int32))
          exact IH _ (by omega) _ (l1) ((l2 + (1 : Int32))) rfl hI (by omega) (by omega) (by omega) (by omega)
        · skip
          have g20 := i_nle h15
          refine ⟨i_ix (by omega) (by omega), ?_⟩
          refine ⟨fun _ => ?_, fun c1 hc => ?_⟩
          · skip
            have b21 := i_bd l1
            first | have e22 : (l2 + (1 : Int32)).toInt = l2.toInt + (1) := i_addk rfl (by omega) (by omega) | have b23 := i_bd (l2 + (1 : Int32))
            exact IH _ (by omega) _ (l1) ((l2 + (1 : Int32))) rfl hI (by omega) (by omega) (by omega) (by omega)
          · skip
            have th_c1 := (fun _ z => zG_70 hI (c := 70) (by decide) z) c1 hc
            refine ⟨zG_n hI th_c1, ?_⟩
            have f24 := zG_th hI th_c1
            have b25 := i_bd (mI S 82 3)
            refine zd (fun h26 => ?_) (fun h26 => ?_)
            · skip
              have g27 := i_lt h26
              have b28 := i_bd l1
              first | have e29 : (l2 + (1 : Int32)).toInt = l2.toInt + (1) := i_addk rfl (by omega) (by omega) | have b30 := i_bd (l2 + (1 : Int32))
              exact IH _ (by omega) _ (l1) ((l2 + (1 : Int32))) rfl hI (by omega) (by omega) (by omega) (by omega)
            · skip
              have g31 := i_nlt h26
              refine ⟨zG_n hI th_c1, ?_⟩
              have b32 := i_bd (mI S c1 5)
              first | have e33 : ((mI S c1 5) + (1 : Int32)).toInt = (mI S c1 5).toInt + (1) := i_addk rfl (by omega) (by omega) | have b34 := i_bd ((mI S c1 5) + (1 : Int32))
              have b35 := i_bd (mI S 82 4)
              refine zd (fun h36 => ?_) (fun h36 => ?_)
              · skip
                have g37 := i_lt h36
                have b38 := i_bd l1
                first | have e39 : (l2 + (1 : Int32)).toInt = l2.toInt + (1) := i_addk rfl (by omega) (by omega) | have b40 := i_bd (l2 + (1 : Int32))
                exact IH _ (by omega) _ (l1) ((l2 + (1 : Int32))) rfl hI (by omega) (by omega) (by omega) (by omega)
              · skip
                have g41 := i_nlt h36
                refine ⟨zG_n hI th_c1, ?_⟩
                have b42 := i_bd l1
                have f43 := zG_th hI th_c1
                first | have e44 : (l1 + (mI S c1 2)).toInt = l1.toInt + (mI S c1 2).toInt := i_add (by omega) (by omega) | have b45 := i_bd (l1 + (mI S c1 2))
                first | have e46 : (l2 + (1 : Int32)).toInt = l2.toInt + (1) := i_addk rfl (by omega) (by omega) | have b47 := i_bd (l2 + (1 : Int32))
                exact IH _ (by omega) _ ((l1 + (mI S c1 2))) ((l2 + (1 : Int32))) rfl hI (by omega) (by omega) (by omega) (by omega)
theorem sp_12_82 {X : Nat × (Nat → Int32)} {d w : Nat} {f : Nat → Nat → Int32} {r : Nat → Nat → Option Nat} {C Z N : Nat} {Q : Option ma_V ⊕ Nat → ma_S → Prop} {S : ma_S}  (hd : 1 ≤ d) (hw : 21 ≤ w) (hI : zI f r C Z N S)  (K : ∀ v S₉, zI f r C Z N S₉ → (0 ≤ v.toInt ∧ v.toInt ≤ 40000) → Q (.inl (some (.inl v))) S₉) : ma_wp X d w 12 0 [(0, .inr (.inr (some 82)))] [] S Q := by
  refine g_12_82_0  (by omega) (by omega) (zG_T hI) ?_
  have li1 : (0 : Int32).toInt = 0 := rfl
  exact lp_12_82_4 (by omega) (by omega) K _ _ ((0 : Int32)) ((0 : Int32)) rfl hI (by omega) (by omega) (by omega) (by omega)
theorem g_14_82_0 {X : Nat × (Nat → Int32)} {d w : Nat} {S : ma_S} {Q : Option ma_V ⊕ Nat → ma_S → Prop} (t : Nat) (hd : 1 ≤ d) (hw : 25 ≤ w) (hS : zT S) (h : ma_wp X d w 14 2 [(0, .inr (.inr (some 82))), (1, .inr (.inr (some t))), (2, .inl (0 : Int32))] [] S Q) : ma_wp X d w 14 0 [(0, .inr (.inr (some 82))), (1, .inr (.inr (some t)))] [] S Q := by
  refine zw_push hm_14 dX0_comeFromDirtyWords_0 (v := .inl (0 : Int32)) rfl ?_
  refine zw_sto hm_14 dX0_comeFromDirtyWords_1 [(2, .inl (0 : Int32)), (0, .inr (.inr (some 82))), (1, .inr (.inr (some t)))] rfl rfl rfl ?_
  exact zw_sub (ma_nd_of (ks := [0, 1, 2]) rfl (by decide)) (ma_nd_of (ks := [2, 0, 1]) rfl (by decide)) (ma_le_cons rfl (ma_le_cons rfl (ma_le_cons rfl (ma_le_nil _)))) h
theorem g_14_82_2 {X : Nat × (Nat → Int32)} {d w : Nat} {S : ma_S} {Q : Option ma_V ⊕ Nat → ma_S → Prop} (l1 : Nat) (l2 : Int32) (hd : 1 ≤ d) (hw : 25 ≤ w) (hS : zT S) (h : (126 ≤ l1 ∧ l1 < mN S) ∧ (if ((mI S l1 2) - (1 : Int32)) ≤ l2 then (Q (.inl none) S) else (if (mI S 82 5) ≤ 0 then (ma_wp X d w 14 2 [(0, .inr (.inr (some 82))), (1, .inr (.inr (some l1))), (2, .inl (l2 + (1 : Int32)))] [] S Q) else ((126 ≤ l1 ∧ l1 < mN S) ∧ ((mI S 82 5) ≠ 0 ∧ (if ((((mI S l1 4) + (1 : Int32)) + l2) / (mI S 82 5)) < 0 then (ma_wp X d w 14 2 [(0, .inr (.inr (some 82))), (1, .inr (.inr (some l1))), (2, .inl (l2 + (1 : Int32)))] [] S Q) else (if (375 : Int32) ≤ ((((mI S l1 4) + (1 : Int32)) + l2) / (mI S 82 5)) then (ma_wp X d w 14 2 [(0, .inr (.inr (some 82))), (1, .inr (.inr (some l1))), (2, .inl (l2 + (1 : Int32)))] [] S Q) else ((0 ≤ ((((mI S l1 4) + (1 : Int32)) + l2) / (mI S 82 5)) ∧ ((((mI S l1 4) + (1 : Int32)) + l2) / (mI S 82 5)).toNatClampNeg < 375) ∧ (if (mI S 83 ((((mI S l1 4) + (1 : Int32)) + l2) / (mI S 82 5)).toNatClampNeg) = 0 then (ma_wp X d w 14 2 [(0, .inr (.inr (some 82))), (1, .inr (.inr (some l1))), (2, .inl (l2 + (1 : Int32)))] [] S Q) else (ma_wp X (d - 1) (w - 25) 82 0 [(0, .inr (.inr (some 69))), (1, .inr (.inr (some l1))), (2, .inl l2)] [] S (zo (fun v2 S1 => zT S1 ∧ (ma_wp X (d - 1) (w - 21) 119 0 [(0, .inr (.inr (some 75))), (1, .inr (.inr v2))] [] S1 (zv (fun S3 => zT S3 ∧ (ma_wp X d w 14 2 [(0, .inr (.inr (some 82))), (1, .inr (.inr (some l1))), (2, .inl (l2 + (1 : Int32)))] [] S3 Q)) (fun x S9 => Q (.inr x) S9)))) (fun x S9 => Q (.inr x) S9)))))))))))) : ma_wp X d w 14 2 [(0, .inr (.inr (some 82))), (1, .inr (.inr (some l1))), (2, .inl l2)] [] S Q := by
  refine zw_push hm_14 dX0_comeFromDirtyWords_2 (v := .inl l2) rfl ?_
  refine zw_push hm_14 dX0_comeFromDirtyWords_3 (v := .inr (.inr (some l1))) rfl ?_
  obtain ⟨hg, h⟩ := h
  refine zw_gf hm_14 dX0_comeFromDirtyWords_4 (v := .inl (mI S l1 2)) (zT_tis hS hg) (zT_tt hS hg) rfl f_1_67_9 rfl ?_
  refine zw_push hm_14 dX0_comeFromDirtyWords_7 (v := .inl (1 : Int32)) rfl ?_
  refine zw_stk hm_14 dX0_comeFromDirtyWords_8 (st₉ := [.inl ((mI S l1 2) - (1 : Int32)), .inl l2]) rfl rfl ?_
  refine zw_if2 hm_14 dX0_comeFromDirtyWords_9 (t := 61) rfl zc2_ge ?_ ?_
  · intro hc
    rw [if_pos hc] at h
    exact zw_vret hm_14 dX0_comeFromDirtyWords_61 h
  · intro hc
    rw [if_neg hc] at h
    refine zw_push hm_14 dX0_comeFromDirtyWords_12 (v := .inr (.inr (some 82))) rfl ?_
    refine zw_push hm_14 dX0_comeFromDirtyWords_13 (v := .inr (.inr (some l1))) rfl ?_
    refine zw_push hm_14 dX0_comeFromDirtyWords_14 (v := .inl l2) rfl ?_
    refine zw_cv hm_14 dX0_comeFromDirtyWords_15 v_1_136_1 hm_9 [.inl l2, .inr (.inr (some l1))] [] rfl (zT_rt hS s_82 rfl) ⟨by omega, by omega⟩ rfl ?_
    show ma_wp X (d - 1) (w - 22) 9 0 [(0, .inr (.inr (some 82))), (1, .inr (.inr (some l1))), (2, .inl l2)] [] S _
    refine zw_push hm_9 dX0_cardOf_0 (v := .inr (.inr (some 82))) rfl ?_
    refine zw_gf hm_9 dX0_cardOf_1 (v := .inl (mI S 82 5)) (zT_is hS s_82) (zT_t hS s_82) rfl f_1_25_1 rfl ?_
    refine zw_if0 hm_9 dX0_cardOf_4 (t := 23) rfl zc0_le ?_ ?_
    · intro hc
      rw [if_pos hc] at h
      refine zw_push hm_9 dX0_cardOf_23 (v := .inl (-1 : Int32)) rfl ?_
      refine zw_iret hm_9 dX0_cardOf_24 ?_
      show ma_wp X d w 14 18 [(0, .inr (.inr (some 82))), (1, .inr (.inr (some l1))), (2, .inl l2)] [.inl (-1 : Int32)] S _
      refine zw_sto hm_14 dX0_comeFromDirtyWords_18 [(3, .inl (-1 : Int32)), (0, .inr (.inr (some 82))), (1, .inr (.inr (some l1))), (2, .inl l2)] rfl rfl rfl ?_
      refine zw_push hm_14 dX0_comeFromDirtyWords_19 (v := .inl (-1 : Int32)) rfl ?_
      refine zw_if0 hm_14 dX0_comeFromDirtyWords_20 (t := 55) rfl zc0_lt (fun _ => ?_) (fun hc => absurd (by decide) hc)
      refine zw_sto hm_14 dX0_comeFromDirtyWords_55 [(2, .inl (l2 + (1 : Int32))), (3, .inl (-1 : Int32)), (0, .inr (.inr (some 82))), (1, .inr (.inr (some l1)))] rfl rfl rfl ?_
      refine zw_goto hm_14 dX0_comeFromDirtyWords_58 (t := 2) rfl ?_
      exact zw_sub (ma_nd_of (ks := [0, 1, 2]) rfl (by decide)) (ma_nd_of (ks := [2, 3, 0, 1]) rfl (by decide)) (ma_le_cons rfl (ma_le_cons rfl (ma_le_cons rfl (ma_le_nil _)))) h
    · intro hc
      rw [if_neg hc] at h
      refine zw_push hm_9 dX0_cardOf_7 (v := .inr (.inr (some l1))) rfl ?_
      obtain ⟨hg, h⟩ := h
      refine zw_gf hm_9 dX0_cardOf_8 (v := .inl (mI S l1 4)) (zT_tis hS hg) (zT_tt hS hg) rfl f_1_62_9 rfl ?_
      refine zw_push hm_9 dX0_cardOf_11 (v := .inl (1 : Int32)) rfl ?_
      refine zw_stk hm_9 dX0_cardOf_12 (st₉ := [.inl ((mI S l1 4) + (1 : Int32))]) rfl rfl ?_
      refine zw_push hm_9 dX0_cardOf_13 (v := .inl l2) rfl ?_
      refine zw_stk hm_9 dX0_cardOf_14 (st₉ := [.inl (((mI S l1 4) + (1 : Int32)) + l2)]) rfl rfl ?_
      refine zw_push hm_9 dX0_cardOf_15 (v := .inr (.inr (some 82))) rfl ?_
      refine zw_gf hm_9 dX0_cardOf_16 (v := .inl (mI S 82 5)) (zT_is hS s_82) (zT_t hS s_82) rfl f_1_25_1 rfl ?_
      obtain ⟨hg, h⟩ := h
      refine zw_stk hm_9 dX0_cardOf_19 (st₉ := [.inl ((((mI S l1 4) + (1 : Int32)) + l2) / (mI S 82 5))]) rfl (if_neg hg) ?_
      refine zw_goto hm_9 dX0_cardOf_20 (t := 24) rfl ?_
      refine zw_iret hm_9 dX0_cardOf_24 ?_
      show ma_wp X d w 14 18 [(0, .inr (.inr (some 82))), (1, .inr (.inr (some l1))), (2, .inl l2)] [.inl ((((mI S l1 4) + (1 : Int32)) + l2) / (mI S 82 5))] S _
      refine zw_sto hm_14 dX0_comeFromDirtyWords_18 [(3, .inl ((((mI S l1 4) + (1 : Int32)) + l2) / (mI S 82 5))), (0, .inr (.inr (some 82))), (1, .inr (.inr (some l1))), (2, .inl l2)] rfl rfl rfl ?_
      refine zw_push hm_14 dX0_comeFromDirtyWords_19 (v := .inl ((((mI S l1 4) + (1 : Int32)) + l2) / (mI S 82 5))) rfl ?_
      refine zw_if0 hm_14 dX0_comeFromDirtyWords_20 (t := 55) rfl zc0_lt ?_ ?_
      · intro hc
        rw [if_pos hc] at h
        refine zw_sto hm_14 dX0_comeFromDirtyWords_55 [(2, .inl (l2 + (1 : Int32))), (3, .inl ((((mI S l1 4) + (1 : Int32)) + l2) / (mI S 82 5))), (0, .inr (.inr (some 82))), (1, .inr (.inr (some l1)))] rfl rfl rfl ?_
        refine zw_goto hm_14 dX0_comeFromDirtyWords_58 (t := 2) rfl ?_
        exact zw_sub (ma_nd_of (ks := [0, 1, 2]) rfl (by decide)) (ma_nd_of (ks := [2, 3, 0, 1]) rfl (by decide)) (ma_le_cons rfl (ma_le_cons rfl (ma_le_cons rfl (ma_le_nil _)))) h
      · intro hc
        rw [if_neg hc] at h
        refine zw_push hm_14 dX0_comeFromDirtyWords_23 (v := .inl ((((mI S l1 4) + (1 : Int32)) + l2) / (mI S 82 5))) rfl ?_
        refine zw_push hm_14 dX0_comeFromDirtyWords_24 (v := .inl (375 : Int32)) rfl ?_
        refine zw_if2 hm_14 dX0_comeFromDirtyWords_27 (t := 55) rfl zc2_ge ?_ ?_
        · intro hc
          rw [if_pos hc] at h
          refine zw_sto hm_14 dX0_comeFromDirtyWords_55 [(2, .inl (l2 + (1 : Int32))), (3, .inl ((((mI S l1 4) + (1 : Int32)) + l2) / (mI S 82 5))), (0, .inr (.inr (some 82))), (1, .inr (.inr (some l1)))] rfl rfl rfl ?_
          refine zw_goto hm_14 dX0_comeFromDirtyWords_58 (t := 2) rfl ?_
          exact zw_sub (ma_nd_of (ks := [0, 1, 2]) rfl (by decide)) (ma_nd_of (ks := [2, 3, 0, 1]) rfl (by decide)) (ma_le_cons rfl (ma_le_cons rfl (ma_le_cons rfl (ma_le_nil _)))) h
        · intro hc
          rw [if_neg hc] at h
          refine zw_push hm_14 dX0_comeFromDirtyWords_30 (v := .inr (.inr (some 82))) rfl ?_
          refine zw_gf hm_14 dX0_comeFromDirtyWords_31 (v := .inr (.inr (some 83))) (zT_is hS s_82) (zT_t hS s_82) rfl f_1_9_1 (zT_f hS r_82_9) ?_
          refine zw_push hm_14 dX0_comeFromDirtyWords_34 (v := .inl ((((mI S l1 4) + (1 : Int32)) + l2) / (mI S 82 5))) rfl ?_
          obtain ⟨hg, h⟩ := h
          refine zw_ia hm_14 dX0_comeFromDirtyWords_35 (zT_is hS s_83) (zT_h hS s_83) rfl hg ?_
          show ma_wp X d w 14 36 [(3, .inl ((((mI S l1 4) + (1 : Int32)) + l2) / (mI S 82 5))), (0, .inr (.inr (some 82))), (1, .inr (.inr (some l1))), (2, .inl l2)] [.inl (mI S 83 ((((mI S l1 4) + (1 : Int32)) + l2) / (mI S 82 5)).toNatClampNeg)] S _
          refine zw_if0 hm_14 dX0_comeFromDirtyWords_36 (t := 55) rfl zc0_eq ?_ ?_
          · intro hc
            rw [if_pos hc] at h
            refine zw_sto hm_14 dX0_comeFromDirtyWords_55 [(2, .inl (l2 + (1 : Int32))), (3, .inl ((((mI S l1 4) + (1 : Int32)) + l2) / (mI S 82 5))), (0, .inr (.inr (some 82))), (1, .inr (.inr (some l1)))] rfl rfl rfl ?_
            refine zw_goto hm_14 dX0_comeFromDirtyWords_58 (t := 2) rfl ?_
            exact zw_sub (ma_nd_of (ks := [0, 1, 2]) rfl (by decide)) (ma_nd_of (ks := [2, 3, 0, 1]) rfl (by decide)) (ma_le_cons rfl (ma_le_cons rfl (ma_le_cons rfl (ma_le_nil _)))) h
          · intro hc
            rw [if_neg hc] at h
            refine zw_push hm_14 dX0_comeFromDirtyWords_39 (v := .inr (.inr (some 82))) rfl ?_
            refine zw_gf hm_14 dX0_comeFromDirtyWords_40 (v := .inr (.inr (some 75))) (zT_is hS s_82) (zT_t hS s_82) rfl f_1_70_1 (zT_f hS r_82_1) ?_
            refine zw_push hm_14 dX0_comeFromDirtyWords_43 (v := .inr (.inr (some 82))) rfl ?_
            refine zw_gf hm_14 dX0_comeFromDirtyWords_44 (v := .inr (.inr (some 69))) (zT_is hS s_82) (zT_t hS s_82) rfl f_1_80_1 (zT_f hS r_82_0) ?_
            refine zw_push hm_14 dX0_comeFromDirtyWords_47 (v := .inr (.inr (some l1))) rfl ?_
            refine zw_push hm_14 dX0_comeFromDirtyWords_48 (v := .inl l2) rfl ?_
            refine zw_cv hm_14 dX0_comeFromDirtyWords_49 v_1_140_7 hm_82 [.inl l2, .inr (.inr (some l1))] [.inr (.inr (some 75))] rfl (zT_rt hS s_69 rfl) ⟨by omega, by omega⟩ rfl (zw_mono h (zo_go ?_ ?_))
            · intro v2 S1 hv
              obtain ⟨hS1, h⟩ := hv
              refine zw_cv hm_14 dX0_comeFromDirtyWords_52 v_1_144_10 hm_119 [.inr (.inr v2)] [] rfl (zT_rt hS1 s_75 rfl) ⟨by omega, by omega⟩ rfl (zw_mono h (zv_go ?_ ?_))
              · intro S3 hv
                obtain ⟨hS3, h⟩ := hv
                refine zw_sto hm_14 dX0_comeFromDirtyWords_55 [(2, .inl (l2 + (1 : Int32))), (3, .inl ((((mI S l1 4) + (1 : Int32)) + l2) / (mI S 82 5))), (0, .inr (.inr (some 82))), (1, .inr (.inr (some l1)))] rfl rfl rfl ?_
                refine zw_goto hm_14 dX0_comeFromDirtyWords_58 (t := 2) rfl ?_
                exact zw_sub (ma_nd_of (ks := [0, 1, 2]) rfl (by decide)) (ma_nd_of (ks := [2, 3, 0, 1]) rfl (by decide)) (ma_le_cons rfl (ma_le_cons rfl (ma_le_cons rfl (ma_le_nil _)))) h
              · intro x S9 hx
                exact ⟨by decide, hx⟩
            · intro x S9 hx
              exact ⟨by decide, hx⟩
theorem lp_14_82_2 {X : Nat × (Nat → Int32)} {d w : Nat} {f : Nat → Nat → Int32} {r : Nat → Nat → Option Nat} {C Z N : Nat} {Q : Option ma_V ⊕ Nat → ma_S → Prop} (hd : 1 ≤ d) (hw : 25 ≤ w) (K : ∀ S₉, zI f r C Z N S₉ → Q (.inl none) S₉) : ∀ (n : Nat) (S : ma_S) (l1 : Nat) (l2 : Int32), (61 - l2.toInt).toNat = n → zI f r C Z N S → (126 ≤ l1 ∧ l1 < N) → ma_wp X d w 14 2 [(0, .inr (.inr (some 82))), (1, .inr (.inr (some l1))), (2, .inl l2)] [] S Q := by
  intro n
  induction n using Nat.strongRecOn with
  | _ n IH =>
    intro S l1 l2 hmu hI th_l1 
    refine g_14_82_2 l1 l2 (by omega) (by omega) (zG_T hI) ?_
    refine ⟨zG_n hI th_l1, ?_⟩
    have f1 := zG_th hI th_l1
    first | have e2 : ((mI S l1 2) - (1 : Int32)).toInt = (mI S l1 2).toInt - (1) := i_subk rfl (by omega) (by omega) | have b3 := i_bd ((mI S l1 2) - (1 : Int32))
    have b4 := i_bd l2
    refine zd (fun h5 => ?_) (fun h5 => ?_)
    · skip
      have g6 := i_le h5
      exact K _ hI
    · skip
      have g7 := i_nle h5
      have b8 := i_bd (mI S 82 5)
      have li9 : (0 : Int32).toInt = 0 := rfl
      refine zd (fun h10 => ?_) (fun h10 => ?_)
      · skip
        have g11 := i_le h10
        first | have e12 : (l2 + (1 : Int32)).toInt = l2.toInt + (1) := i_addk rfl (by omega) (by omega) | have b13 := i_bd (l2 + (1 : Int32))
        exact IH _ (by omega) _ l1 ((l2 + (1 : Int32))) rfl hI th_l1
      · skip
        have g14 := i_nle h10
        refine ⟨zG_n hI th_l1, ?_⟩
        refine ⟨i_nz (by omega), ?_⟩
        have f15 := zG_th hI th_l1
        first | have e16 : ((mI S l1 4) + (1 : Int32)).toInt = (mI S l1 4).toInt + (1) := i_addk rfl (by omega) (by omega) | have b17 := i_bd ((mI S l1 4) + (1 : Int32))
        first | have e18 : (((mI S l1 4) + (1 : Int32)) + l2).toInt = ((mI S l1 4) + (1 : Int32)).toInt + l2.toInt := i_add (by omega) (by omega) | have b19 := i_bd (((mI S l1 4) + (1 : Int32)) + l2)
        first | have f20 := i_div (x := (((mI S l1 4) + (1 : Int32)) + l2)) (y := (mI S 82 5)) (by omega) (by omega) | have b21 := i_bd ((((mI S l1 4) + (1 : Int32)) + l2) / (mI S 82 5))
        refine zd (fun h22 => ?_) (fun h22 => ?_)
        · skip
          have g23 := i_lt h22
          first | have e24 : (l2 + (1 : Int32)).toInt = l2.toInt + (1) := i_addk rfl (by omega) (by omega) | have b25 := i_bd (l2 + (1 : Int32))
          exact IH _ (by omega) _ l1 ((l2 + (1 : Int32))) rfl hI th_l1
        · skip
          have g26 := i_nlt h22
          have li27 : (375 : Int32).toInt = 375 := rfl
          refine zd (fun h28 => ?_) (fun h28 => ?_)
          · skip
            have g29 := i_le h28
            first | have e30 : (l2 + (1 : Int32)).toInt = l2.toInt + (1) := i_addk rfl (by omega) (by omega) | have b31 := i_bd (l2 + (1 : Int32))
            exact IH _ (by omega) _ l1 ((l2 + (1 : Int32))) rfl hI th_l1
          · skip
            have g32 := i_nle h28
            refine ⟨i_ix (by omega) (by omega), ?_⟩
            have b33 := i_bd (mI S 83 ((((mI S l1 4) + (1 : Int32)) + l2) / (mI S 82 5)).toNatClampNeg)
            refine zd (fun h34 => ?_) (fun h34 => ?_)
            · skip
              have g35 := i_eq h34
              first | have e36 : (l2 + (1 : Int32)).toInt = l2.toInt + (1) := i_addk rfl (by omega) (by omega) | have b37 := i_bd (l2 + (1 : Int32))
              exact IH _ (by omega) _ l1 ((l2 + (1 : Int32))) rfl hI th_l1
            · skip
              have g38 := i_ne h34
              refine sp_82_69 l1 (l2) (by omega) (by omega) hI th_l1 (fun v2 S1 hI_S1 hq_v2 => zo_n ⟨zG_T hI_S1, ?_⟩)
              refine sp_119_75 (v2) (by omega) (by omega) hI_S1 hq_v2 (fun S3 hI_S3 => zv_n ⟨zG_T hI_S3, ?_⟩)
              first | have e39 : (l2 + (1 : Int32)).toInt = l2.toInt + (1) := i_addk rfl (by omega) (by omega) | have b40 := i_bd (l2 + (1 : Int32))
              exact IH _ (by omega) _ l1 ((l2 + (1 : Int32))) rfl hI_S3 th_l1
theorem sp_14_82 {X : Nat × (Nat → Int32)} {d w : Nat} {f : Nat → Nat → Int32} {r : Nat → Nat → Option Nat} {C Z N : Nat} {Q : Option ma_V ⊕ Nat → ma_S → Prop} {S : ma_S} (t : Nat) (hd : 1 ≤ d) (hw : 25 ≤ w) (hI : zI f r C Z N S) (th_t : 126 ≤ t ∧ t < N) (K : ∀ S₉, zI f r C Z N S₉ → Q (.inl none) S₉) : ma_wp X d w 14 0 [(0, .inr (.inr (some 82))), (1, .inr (.inr (some t)))] [] S Q := by
  refine g_14_82_0 t (by omega) (by omega) (zG_T hI) ?_
  have li1 : (0 : Int32).toInt = 0 := rfl
  exact lp_14_82_2 (by omega) (by omega) K _ _ t ((0 : Int32)) rfl hI th_t
theorem g_13_82_0 {X : Nat × (Nat → Int32)} {d w : Nat} {S : ma_S} {Q : Option ma_V ⊕ Nat → ma_S → Prop}  (hd : 2 ≤ d) (hw : 48 ≤ w) (hS : zT S) (h : ma_wp X d w 13 2 [(0, .inr (.inr (some 82))), (1, .inl (0 : Int32))] [] S Q) : ma_wp X d w 13 0 [(0, .inr (.inr (some 82)))] [] S Q := by
  refine zw_push hm_13 dX0_comeFromDirty_0 (v := .inl (0 : Int32)) rfl ?_
  refine zw_sto hm_13 dX0_comeFromDirty_1 [(1, .inl (0 : Int32)), (0, .inr (.inr (some 82)))] rfl rfl rfl ?_
  exact zw_sub (ma_nd_of (ks := [0, 1]) rfl (by decide)) (ma_nd_of (ks := [1, 0]) rfl (by decide)) (ma_le_cons rfl (ma_le_cons rfl (ma_le_nil _))) h
theorem g_13_82_2 {X : Nat × (Nat → Int32)} {d w : Nat} {S : ma_S} {Q : Option ma_V ⊕ Nat → ma_S → Prop} (l1 : Int32) (hd : 2 ≤ d) (hw : 48 ≤ w) (hS : zT S) (h : if (mI S 82 6) ≤ l1 then (Q (.inl none) S) else (if l1 < 0 then (ma_wp X d w 13 2 [(0, .inr (.inr (some 82))), (1, .inl (l1 + (1 : Int32)))] [] S Q) else (if (4500 : Int32) ≤ l1 then (ma_wp X d w 13 2 [(0, .inr (.inr (some 82))), (1, .inl (l1 + (1 : Int32)))] [] S Q) else ((0 ≤ l1 ∧ l1.toNatClampNeg < 4500) ∧ (if (mI S 71 l1.toNatClampNeg) < 0 then (ma_wp X d w 13 2 [(0, .inr (.inr (some 82))), (1, .inl (l1 + (1 : Int32)))] [] S Q) else (if (512 : Int32) ≤ (mI S 71 l1.toNatClampNeg) then (ma_wp X d w 13 2 [(0, .inr (.inr (some 82))), (1, .inl (l1 + (1 : Int32)))] [] S Q) else ((0 ≤ (mI S 71 l1.toNatClampNeg) ∧ (mI S 71 l1.toNatClampNeg).toNatClampNeg < 512) ∧ (((mR S 70 (mI S 71 l1.toNatClampNeg).toNatClampNeg) = none → ma_wp X d w 13 2 [(0, .inr (.inr (some 82))), (1, .inl (l1 + (1 : Int32)))] [] S Q) ∧ (∀ c1, (mR S 70 (mI S 71 l1.toNatClampNeg).toNatClampNeg) = some c1 → (126 ≤ c1 ∧ c1 < mN S) ∧ (ma_wp X (d - 1) (w - 23) 14 0 [(0, .inr (.inr (some 82))), (1, .inr (.inr (some c1)))] [] S (zv (fun S2 => zT S2 ∧ (ma_wp X d w 13 2 [(0, .inr (.inr (some 82))), (1, .inl (l1 + (mI S c1 2)))] [] S2 Q)) (fun x S9 => Q (.inr x) S9)))))))))))) : ma_wp X d w 13 2 [(0, .inr (.inr (some 82))), (1, .inl l1)] [] S Q := by
  refine zw_push hm_13 dX0_comeFromDirty_2 (v := .inl l1) rfl ?_
  refine zw_push hm_13 dX0_comeFromDirty_3 (v := .inr (.inr (some 82))) rfl ?_
  refine zw_gf hm_13 dX0_comeFromDirty_4 (v := .inl (mI S 82 6)) (zT_is hS s_82) (zT_t hS s_82) rfl f_1_28_1 rfl ?_
  refine zw_if2 hm_13 dX0_comeFromDirty_7 (t := 44) rfl zc2_ge ?_ ?_
  · intro hc
    rw [if_pos hc] at h
    exact zw_vret hm_13 dX0_comeFromDirty_44 h
  · intro hc
    rw [if_neg hc] at h
    refine zw_push hm_13 dX0_comeFromDirty_10 (v := .inr (.inr (some 82))) rfl ?_
    refine zw_gf hm_13 dX0_comeFromDirty_11 (v := .inr (.inr (some 69))) (zT_is hS s_82) (zT_t hS s_82) rfl f_1_80_1 (zT_f hS r_82_0) ?_
    refine zw_push hm_13 dX0_comeFromDirty_14 (v := .inl l1) rfl ?_
    refine zw_cv hm_13 dX0_comeFromDirty_15 v_1_129_7 hm_89 [.inl l1] [] rfl (zT_rt hS s_69 rfl) ⟨by omega, by omega⟩ rfl ?_
    show ma_wp X (d - 1) (w - 22) 89 0 [(0, .inr (.inr (some 69))), (1, .inl l1)] [] S _
    refine zw_push hm_89 dX7_thingFrom_0 (v := .inl l1) rfl ?_
    refine zw_if0 hm_89 dX7_thingFrom_1 (t := 20) rfl zc0_lt ?_ ?_
    · intro hc
      rw [if_pos hc] at h
      refine zw_push hm_89 dX7_thingFrom_20 (v := .inl (-1 : Int32)) rfl ?_
      refine zw_sto hm_89 dX7_thingFrom_21 [(2, .inl (-1 : Int32)), (0, .inr (.inr (some 69))), (1, .inl l1)] rfl rfl rfl ?_
      refine zw_push hm_89 dX7_thingFrom_22 (v := .inl (-1 : Int32)) rfl ?_
      refine zw_if0 hm_89 dX7_thingFrom_23 (t := 42) rfl zc0_lt (fun _ => ?_) (fun hc => absurd (by decide) hc)
      refine zw_push hm_89 dX7_thingFrom_42 (v := .inr (.inr none)) rfl ?_
      refine zw_aret hm_89 dX7_thingFrom_43 ?_
      show ma_wp X d w 13 18 [(0, .inr (.inr (some 82))), (1, .inl l1)] [.inr (.inr none)] S _
      refine zw_sto hm_13 dX0_comeFromDirty_18 [(2, .inr (.inr none)), (0, .inr (.inr (some 82))), (1, .inl l1)] rfl rfl rfl ?_
      refine zw_push hm_13 dX0_comeFromDirty_19 (v := .inr (.inr none)) rfl ?_
      refine zw_ifnonnull hm_13 dX0_comeFromDirty_20 (t := 29) rfl (fun _ => ?_) (fun _ z => by cases z)
      refine zw_sto hm_13 dX0_comeFromDirty_23 [(1, .inl (l1 + (1 : Int32))), (2, .inr (.inr none)), (0, .inr (.inr (some 82)))] rfl rfl rfl ?_
      refine zw_goto hm_13 dX0_comeFromDirty_26 (t := 41) rfl ?_
      refine zw_goto hm_13 dX0_comeFromDirty_41 (t := 2) rfl ?_
      exact zw_sub (ma_nd_of (ks := [0, 1]) rfl (by decide)) (ma_nd_of (ks := [1, 2, 0]) rfl (by decide)) (ma_le_cons rfl (ma_le_cons rfl (ma_le_nil _))) h
    · intro hc
      rw [if_neg hc] at h
      refine zw_push hm_89 dX7_thingFrom_4 (v := .inl l1) rfl ?_
      refine zw_push hm_89 dX7_thingFrom_5 (v := .inl (4500 : Int32)) rfl ?_
      refine zw_if2 hm_89 dX7_thingFrom_8 (t := 20) rfl zc2_ge ?_ ?_
      · intro hc
        rw [if_pos hc] at h
        refine zw_push hm_89 dX7_thingFrom_20 (v := .inl (-1 : Int32)) rfl ?_
        refine zw_sto hm_89 dX7_thingFrom_21 [(2, .inl (-1 : Int32)), (0, .inr (.inr (some 69))), (1, .inl l1)] rfl rfl rfl ?_
        refine zw_push hm_89 dX7_thingFrom_22 (v := .inl (-1 : Int32)) rfl ?_
        refine zw_if0 hm_89 dX7_thingFrom_23 (t := 42) rfl zc0_lt (fun _ => ?_) (fun hc => absurd (by decide) hc)
        refine zw_push hm_89 dX7_thingFrom_42 (v := .inr (.inr none)) rfl ?_
        refine zw_aret hm_89 dX7_thingFrom_43 ?_
        show ma_wp X d w 13 18 [(0, .inr (.inr (some 82))), (1, .inl l1)] [.inr (.inr none)] S _
        refine zw_sto hm_13 dX0_comeFromDirty_18 [(2, .inr (.inr none)), (0, .inr (.inr (some 82))), (1, .inl l1)] rfl rfl rfl ?_
        refine zw_push hm_13 dX0_comeFromDirty_19 (v := .inr (.inr none)) rfl ?_
        refine zw_ifnonnull hm_13 dX0_comeFromDirty_20 (t := 29) rfl (fun _ => ?_) (fun _ z => by cases z)
        refine zw_sto hm_13 dX0_comeFromDirty_23 [(1, .inl (l1 + (1 : Int32))), (2, .inr (.inr none)), (0, .inr (.inr (some 82)))] rfl rfl rfl ?_
        refine zw_goto hm_13 dX0_comeFromDirty_26 (t := 41) rfl ?_
        refine zw_goto hm_13 dX0_comeFromDirty_41 (t := 2) rfl ?_
        exact zw_sub (ma_nd_of (ks := [0, 1]) rfl (by decide)) (ma_nd_of (ks := [1, 2, 0]) rfl (by decide)) (ma_le_cons rfl (ma_le_cons rfl (ma_le_nil _))) h
      · intro hc
        rw [if_neg hc] at h
        refine zw_push hm_89 dX7_thingFrom_11 (v := .inr (.inr (some 69))) rfl ?_
        refine zw_gf hm_89 dX7_thingFrom_12 (v := .inr (.inr (some 71))) (zT_is hS s_69) (zT_t hS s_69) rfl f_7_17_7 (zT_f hS r_69_1) ?_
        refine zw_push hm_89 dX7_thingFrom_15 (v := .inl l1) rfl ?_
        obtain ⟨hg, h⟩ := h
        refine zw_ia hm_89 dX7_thingFrom_16 (zT_is hS s_71) (zT_h hS s_71) rfl hg ?_
        show ma_wp X (d - 1) (w - 22) 89 17 [(0, .inr (.inr (some 69))), (1, .inl l1)] [.inl (mI S 71 l1.toNatClampNeg)] S _
        refine zw_goto hm_89 dX7_thingFrom_17 (t := 21) rfl ?_
        refine zw_sto hm_89 dX7_thingFrom_21 [(2, .inl (mI S 71 l1.toNatClampNeg)), (0, .inr (.inr (some 69))), (1, .inl l1)] rfl rfl rfl ?_
        refine zw_push hm_89 dX7_thingFrom_22 (v := .inl (mI S 71 l1.toNatClampNeg)) rfl ?_
        refine zw_if0 hm_89 dX7_thingFrom_23 (t := 42) rfl zc0_lt ?_ ?_
        · intro hc
          rw [if_pos hc] at h
          refine zw_push hm_89 dX7_thingFrom_42 (v := .inr (.inr none)) rfl ?_
          refine zw_aret hm_89 dX7_thingFrom_43 ?_
          show ma_wp X d w 13 18 [(0, .inr (.inr (some 82))), (1, .inl l1)] [.inr (.inr none)] S _
          refine zw_sto hm_13 dX0_comeFromDirty_18 [(2, .inr (.inr none)), (0, .inr (.inr (some 82))), (1, .inl l1)] rfl rfl rfl ?_
          refine zw_push hm_13 dX0_comeFromDirty_19 (v := .inr (.inr none)) rfl ?_
          refine zw_ifnonnull hm_13 dX0_comeFromDirty_20 (t := 29) rfl (fun _ => ?_) (fun _ z => by cases z)
          refine zw_sto hm_13 dX0_comeFromDirty_23 [(1, .inl (l1 + (1 : Int32))), (2, .inr (.inr none)), (0, .inr (.inr (some 82)))] rfl rfl rfl ?_
          refine zw_goto hm_13 dX0_comeFromDirty_26 (t := 41) rfl ?_
          refine zw_goto hm_13 dX0_comeFromDirty_41 (t := 2) rfl ?_
          exact zw_sub (ma_nd_of (ks := [0, 1]) rfl (by decide)) (ma_nd_of (ks := [1, 2, 0]) rfl (by decide)) (ma_le_cons rfl (ma_le_cons rfl (ma_le_nil _))) h
        · intro hc
          rw [if_neg hc] at h
          refine zw_push hm_89 dX7_thingFrom_26 (v := .inl (mI S 71 l1.toNatClampNeg)) rfl ?_
          refine zw_push hm_89 dX7_thingFrom_27 (v := .inl (512 : Int32)) rfl ?_
          refine zw_if2 hm_89 dX7_thingFrom_30 (t := 42) rfl zc2_ge ?_ ?_
          · intro hc
            rw [if_pos hc] at h
            refine zw_push hm_89 dX7_thingFrom_42 (v := .inr (.inr none)) rfl ?_
            refine zw_aret hm_89 dX7_thingFrom_43 ?_
            show ma_wp X d w 13 18 [(0, .inr (.inr (some 82))), (1, .inl l1)] [.inr (.inr none)] S _
            refine zw_sto hm_13 dX0_comeFromDirty_18 [(2, .inr (.inr none)), (0, .inr (.inr (some 82))), (1, .inl l1)] rfl rfl rfl ?_
            refine zw_push hm_13 dX0_comeFromDirty_19 (v := .inr (.inr none)) rfl ?_
            refine zw_ifnonnull hm_13 dX0_comeFromDirty_20 (t := 29) rfl (fun _ => ?_) (fun _ z => by cases z)
            refine zw_sto hm_13 dX0_comeFromDirty_23 [(1, .inl (l1 + (1 : Int32))), (2, .inr (.inr none)), (0, .inr (.inr (some 82)))] rfl rfl rfl ?_
            refine zw_goto hm_13 dX0_comeFromDirty_26 (t := 41) rfl ?_
            refine zw_goto hm_13 dX0_comeFromDirty_41 (t := 2) rfl ?_
            exact zw_sub (ma_nd_of (ks := [0, 1]) rfl (by decide)) (ma_nd_of (ks := [1, 2, 0]) rfl (by decide)) (ma_le_cons rfl (ma_le_cons rfl (ma_le_nil _))) h
          · intro hc
            rw [if_neg hc] at h
            refine zw_push hm_89 dX7_thingFrom_33 (v := .inr (.inr (some 69))) rfl ?_
            refine zw_gf hm_89 dX7_thingFrom_34 (v := .inr (.inr (some 70))) (zT_is hS s_69) (zT_t hS s_69) rfl f_7_11_7 (zT_f hS r_69_0) ?_
            refine zw_push hm_89 dX7_thingFrom_37 (v := .inl (mI S 71 l1.toNatClampNeg)) rfl ?_
            obtain ⟨hg, h⟩ := h
            refine zw_aa hm_89 dX7_thingFrom_38 (zT_is hS s_70) (zT_h hS s_70) rfl rfl hg rfl ?_
            show ma_wp X (d - 1) (w - 22) 89 39 [(2, .inl (mI S 71 l1.toNatClampNeg)), (0, .inr (.inr (some 69))), (1, .inl l1)] [.inr (.inr (mR S 70 (mI S 71 l1.toNatClampNeg).toNatClampNeg))] S _
            refine zw_goto hm_89 dX7_thingFrom_39 (t := 43) rfl ?_
            refine zw_aret hm_89 dX7_thingFrom_43 ?_
            show ma_wp X d w 13 18 [(0, .inr (.inr (some 82))), (1, .inl l1)] [.inr (.inr (mR S 70 (mI S 71 l1.toNatClampNeg).toNatClampNeg))] S _
            refine zw_sto hm_13 dX0_comeFromDirty_18 [(2, .inr (.inr (mR S 70 (mI S 71 l1.toNatClampNeg).toNatClampNeg))), (0, .inr (.inr (some 82))), (1, .inl l1)] rfl rfl rfl ?_
            refine zw_push hm_13 dX0_comeFromDirty_19 (v := .inr (.inr (mR S 70 (mI S 71 l1.toNatClampNeg).toNatClampNeg))) rfl ?_
            refine zw_ifnonnull hm_13 dX0_comeFromDirty_20 (t := 29) rfl ?_ ?_
            · intro hc
              have h := h.1 hc
              (try rw [hc])
              show ma_wp X d w 13 23 [(2, .inr (.inr none)), (0, .inr (.inr (some 82))), (1, .inl l1)] [] S _
              refine zw_sto hm_13 dX0_comeFromDirty_23 [(1, .inl (l1 + (1 : Int32))), (2, .inr (.inr none)), (0, .inr (.inr (some 82)))] rfl rfl rfl ?_
              refine zw_goto hm_13 dX0_comeFromDirty_26 (t := 41) rfl ?_
              refine zw_goto hm_13 dX0_comeFromDirty_41 (t := 2) rfl ?_
              exact zw_sub (ma_nd_of (ks := [0, 1]) rfl (by decide)) (ma_nd_of (ks := [1, 2, 0]) rfl (by decide)) (ma_le_cons rfl (ma_le_cons rfl (ma_le_nil _))) h
            · intro c1 hc
              have h := h.2 c1 hc
              (try rw [hc])
              show ma_wp X d w 13 29 [(2, .inr (.inr (some c1))), (0, .inr (.inr (some 82))), (1, .inl l1)] [] S _
              refine zw_push hm_13 dX0_comeFromDirty_29 (v := .inl l1) rfl ?_
              refine zw_push hm_13 dX0_comeFromDirty_30 (v := .inr (.inr (some c1))) rfl ?_
              obtain ⟨hg, h⟩ := h
              refine zw_gf hm_13 dX0_comeFromDirty_31 (v := .inl (mI S c1 2)) (zT_tis hS hg) (zT_tt hS hg) rfl f_1_67_9 rfl ?_
              refine zw_stk hm_13 dX0_comeFromDirty_34 (st₉ := [.inl (l1 + (mI S c1 2))]) rfl rfl ?_
              refine zw_sto hm_13 dX0_comeFromDirty_35 [(1, .inl (l1 + (mI S c1 2))), (2, .inr (.inr (some c1))), (0, .inr (.inr (some 82)))] rfl rfl rfl ?_
              refine zw_push hm_13 dX0_comeFromDirty_36 (v := .inr (.inr (some 82))) rfl ?_
              refine zw_push hm_13 dX0_comeFromDirty_37 (v := .inr (.inr (some c1))) rfl ?_
              refine zw_cv hm_13 dX0_comeFromDirty_38 v_1_132_1 hm_14 [.inr (.inr (some c1))] [] rfl (zT_rt hS s_82 rfl) ⟨by omega, by omega⟩ rfl (zw_mono h (zv_go ?_ ?_))
              · intro S2 hv
                obtain ⟨hS2, h⟩ := hv
                refine zw_goto hm_13 dX0_comeFromDirty_41 (t := 2) rfl ?_
                exact zw_sub (ma_nd_of (ks := [0, 1]) rfl (by decide)) (ma_nd_of (ks := [1, 2, 0]) rfl (by decide)) (ma_le_cons rfl (ma_le_cons rfl (ma_le_nil _))) h
              · intro x S9 hx
                exact ⟨by decide, hx⟩
theorem lp_13_82_2 {X : Nat × (Nat → Int32)} {d w : Nat} {f : Nat → Nat → Int32} {r : Nat → Nat → Option Nat} {C Z N : Nat} {Q : Option ma_V ⊕ Nat → ma_S → Prop} (hd : 2 ≤ d) (hw : 48 ≤ w) (K : ∀ S₉, zI f r C Z N S₉ → Q (.inl none) S₉) : ∀ (n : Nat) (S : ma_S) (l1 : Int32), (400000 - l1.toInt).toNat = n → zI f r C Z N S → (0 ≤ l1.toInt) → ((mI S 82 6).toInt ≤ 400000) → ma_wp X d w 13 2 [(0, .inr (.inr (some 82))), (1, .inl l1)] [] S Q := by
  intro n
  induction n using Nat.strongRecOn with
  | _ n IH =>
    intro S l1 hmu hI  hi0 hi1
    refine g_13_82_2 l1 (by omega) (by omega) (zG_T hI) ?_
    have q1 : (mI S 82 6).toInt = (f 82 6).toInt := zG_zi hI rfl
    have b2 := i_bd (mI S 82 6)
    have b3 := i_bd l1
    refine zd (fun h4 => ?_) (fun h4 => ?_)
    · skip
      have g5 := i_le h4
      exact K _ hI
    · skip
      have g6 := i_nle h4
      have li7 : (0 : Int32).toInt = 0 := rfl
      refine zd (fun h8 => ?_) (fun h8 => ?_)
      · skip
        have g9 := i_lt h8
        first | have e10 : (l1 + (1 : Int32)).toInt = l1.toInt + (1) := i_addk rfl (by omega) (by omega) | have b11 := i_bd (l1 + (1 : Int32))
        exact IH _ (by omega) _ ((l1 + (1 : Int32))) rfl hI (by omega) (show (mI S 82 6).toInt ≤ 400000 from by omega)
      · skip
        have g12 := i_nlt h8
        have li13 : (4500 : Int32).toInt = 4500 := rfl
        refine zd (fun h14 => ?_) (fun h14 => ?_)
        · skip
          have g15 := i_le h14
          first | have e16 : (l1 + (1 : Int32)).toInt = l1.toInt + (1) := i_addk rfl (by omega) (by omega) | have b17 := i_bd (l1 + (1 : Int32))
          exact IH _ (by omega) _ ((l1 + (1 : Int32))) rfl hI (by omega) (show (mI S 82 6).toInt ≤ 400000 from by omega)
        · skip
          have g18 := i_nle h14
          refine ⟨i_ix (by omega) (by omega), ?_⟩
          have b19 := i_bd (mI S 71 l1.toNatClampNeg)
          refine zd (fun h20 => ?_) (fun h20 => ?_)
          · skip
            have g21 := i_lt h20
            first | have e22 : (l1 + (1 : Int32)).toInt = l1.toInt + (1) := i_addk rfl (by omega) (by omega) | have b23 := i_bd (l1 + (1 : Int32))
            exact IH _ (by omega) _ ((l1 + (1 : Int32))) rfl hI (by omega) (show (mI S 82 6).toInt ≤ 400000 from by omega)
          · skip
            have g24 := i_nlt h20
            have li25 : (512 : Int32).toInt = 512 := rfl
            refine zd (fun h26 => ?_) (fun h26 => ?_)
            · skip
              have g27 := i_le h26
              first | have e28 : (l1 + (1 : Int32)).toInt = l1.toInt + (1) := i_addk rfl (by omega) (by omega) | have b29 := i_bd (l1 + (1 : Int32))
              exact IH _ (by omega) _ ((l1 + (1 : Int32))) rfl hI (by omega) (show (mI S 82 6).toInt ≤ 400000 from by omega)
            · skip
              have g30 := i_nle h26
              refine ⟨i_ix (by omega) (by omega), ?_⟩
              refine ⟨fun _ => ?_, fun c1 hc => ?_⟩
              · skip
                first | have e31 : (l1 + (1 : Int32)).toInt = l1.toInt + (1) := i_addk rfl (by omega) (by omega) | have b32 := i_bd (l1 + (1 : Int32))
                exact IH _ (by omega) _ ((l1 + (1 : Int32))) rfl hI (by omega) (show (mI S 82 6).toInt ≤ 400000 from by omega)
              · skip
                have th_c1 := (fun _ z => zG_70 hI (c := 70) (by decide) z) c1 hc
                refine ⟨zG_n hI th_c1, ?_⟩
                refine sp_14_82 c1 (by omega) (by omega) hI th_c1 (fun S2 hI_S2 => zv_n ⟨zG_T hI_S2, ?_⟩)
                have f33 := zG_th hI th_c1
                first | have e34 : (l1 + (mI S c1 2)).toInt = l1.toInt + (mI S c1 2).toInt := i_add (by omega) (by omega) | have b35 := i_bd (l1 + (mI S c1 2))
                have q36 : (mI S2 82 6).toInt = (f 82 6).toInt := zG_zi hI_S2 rfl
                have b37 := i_bd (mI S2 82 6)
                exact IH _ (by omega) _ ((l1 + (mI S c1 2))) rfl hI_S2 (by omega) (show (mI S2 82 6).toInt ≤ 400000 from by omega)
theorem sp_13_82 {X : Nat × (Nat → Int32)} {d w : Nat} {f : Nat → Nat → Int32} {r : Nat → Nat → Option Nat} {C Z N : Nat} {Q : Option ma_V ⊕ Nat → ma_S → Prop} {S : ma_S}  (hd : 2 ≤ d) (hw : 48 ≤ w) (hI : zI f r C Z N S) (hpre0 : (mI S 82 6).toInt ≤ 400000) (K : ∀ S₉, zI f r C Z N S₉ → Q (.inl none) S₉) : ma_wp X d w 13 0 [(0, .inr (.inr (some 82)))] [] S Q := by
  refine g_13_82_0  (by omega) (by omega) (zG_T hI) ?_
  have q1 : (mI S 82 6).toInt = (f 82 6).toInt := zG_zi hI rfl
  have b2 := i_bd (mI S 82 6)
  have li3 : (0 : Int32).toInt = 0 := rfl
  exact lp_13_82_2 (by omega) (by omega) K _ _ ((0 : Int32)) rfl hI (by omega) (show (mI S 82 6).toInt ≤ 400000 from by omega)
theorem g_15_82_0 {X : Nat × (Nat → Int32)} {d w : Nat} {S : ma_S} {Q : Option ma_V ⊕ Nat → ma_S → Prop}  (hd : 3 ≤ d) (hw : 113 ≤ w) (hS : zT S) (h : ma_wp X d w 15 33 [(0, .inr (.inr (some 82))), (1, .inl (0 : Int32))] [] (ma_put (ma_put S 82 7 (.inl ((((mI S 82 3) + (mI S 82 2)) + (mI S 82 3)) - (mI S 82 7)))) 82 8 (.inl ((((mI S 82 3) + (mI S 82 2)) + (mI S 82 3)) - (mI S 82 7)))) Q) : ma_wp X d w 15 0 [(0, .inr (.inr (some 82)))] [] S Q := by
  refine zw_push hm_15 dX0_moveKept_0 (v := .inr (.inr (some 82))) rfl ?_
  refine zw_push hm_15 dX0_moveKept_1 (v := .inr (.inr (some 82))) rfl ?_
  refine zw_gf hm_15 dX0_moveKept_2 (v := .inl (mI S 82 3)) (zT_is hS s_82) (zT_t hS s_82) rfl f_1_19_1 rfl ?_
  refine zw_push hm_15 dX0_moveKept_5 (v := .inr (.inr (some 82))) rfl ?_
  refine zw_gf hm_15 dX0_moveKept_6 (v := .inl (mI S 82 2)) (zT_is hS s_82) (zT_t hS s_82) rfl f_1_15_1 rfl ?_
  refine zw_stk hm_15 dX0_moveKept_9 (st₉ := [.inl ((mI S 82 3) + (mI S 82 2)), .inr (.inr (some 82))]) rfl rfl ?_
  refine zw_push hm_15 dX0_moveKept_10 (v := .inr (.inr (some 82))) rfl ?_
  refine zw_gf hm_15 dX0_moveKept_11 (v := .inl (mI S 82 3)) (zT_is hS s_82) (zT_t hS s_82) rfl f_1_19_1 rfl ?_
  refine zw_stk hm_15 dX0_moveKept_14 (st₉ := [.inl (((mI S 82 3) + (mI S 82 2)) + (mI S 82 3)), .inr (.inr (some 82))]) rfl rfl ?_
  refine zw_push hm_15 dX0_moveKept_15 (v := .inr (.inr (some 82))) rfl ?_
  refine zw_gf hm_15 dX0_moveKept_16 (v := .inl (mI S 82 7)) (zT_is hS s_82) (zT_t hS s_82) rfl f_1_31_1 rfl ?_
  refine zw_stk hm_15 dX0_moveKept_19 (st₉ := [.inl ((((mI S 82 3) + (mI S 82 2)) + (mI S 82 3)) - (mI S 82 7)), .inr (.inr (some 82))]) rfl rfl ?_
  refine zw_pf hm_15 dX0_moveKept_20 (zT_is hS s_82) (zT_t hS s_82) p_1_31_1 zk_int ?_
  refine zw_push hm_15 dX0_moveKept_23 (v := .inr (.inr (some 82))) rfl ?_
  refine zw_push hm_15 dX0_moveKept_24 (v := .inr (.inr (some 82))) rfl ?_
  refine zw_gf hm_15 dX0_moveKept_25 (v := .inl ((((mI S 82 3) + (mI S 82 2)) + (mI S 82 3)) - (mI S 82 7))) (zT_is (zT_pi hS) s_82) (zT_t (zT_pi hS) s_82) rfl f_1_31_1 rfl ?_
  refine zw_pf hm_15 dX0_moveKept_28 (zT_is (zT_pi hS) s_82) (zT_t (zT_pi hS) s_82) p_1_34_1 zk_int ?_
  refine zw_push hm_15 dX0_moveKept_31 (v := .inl (0 : Int32)) rfl ?_
  refine zw_sto hm_15 dX0_moveKept_32 [(1, .inl (0 : Int32)), (0, .inr (.inr (some 82)))] rfl rfl rfl ?_
  exact zw_sub (ma_nd_of (ks := [0, 1]) rfl (by decide)) (ma_nd_of (ks := [1, 0]) rfl (by decide)) (ma_le_cons rfl (ma_le_cons rfl (ma_le_nil _))) h
theorem g_15_82_33 {X : Nat × (Nat → Int32)} {d w : Nat} {S : ma_S} {Q : Option ma_V ⊕ Nat → ma_S → Prop} (l1 : Int32) (hd : 3 ≤ d) (hw : 135 ≤ w) (hS : zT S) (h : if (mI S 75 4) ≤ l1 then (Q (.inl none) S) else (ma_wp X (d - 1) (w - 21) 124 0 [(0, .inr (.inr (some 75))), (1, .inl l1)] [] S (zo (fun v2 S1 => zT S1 ∧ ((v2 = none → ma_wp X d w 15 33 [(0, .inr (.inr (some 82))), (1, .inl (l1 + (1 : Int32)))] [] S1 Q) ∧ (∀ c3, v2 = some c3 → (126 ≤ c3 ∧ c3 < mN S1) ∧ ((126 ≤ c3 ∧ c3 < mN S1) ∧ ((126 ≤ c3 ∧ c3 < mN (ma_put S1 c3 5 (.inl ((mI S1 c3 5) + (1 : Int32))))) ∧ (if (mI (ma_put S1 c3 5 (.inl ((mI S1 c3 5) + (1 : Int32)))) c3 5) < (mI (ma_put S1 c3 5 (.inl ((mI S1 c3 5) + (1 : Int32)))) 82 4) then (ma_wp X ((d - 1) - 1) ((w - 21) - 24) 90 0 [(0, .inr (.inr (some 69))), (1, .inr (.inr (some c3))), (2, .inl (mI (ma_put S1 c3 5 (.inl ((mI S1 c3 5) + (1 : Int32)))) 82 8))] [] (ma_put S1 c3 5 (.inl ((mI S1 c3 5) + (1 : Int32)))) (zv (fun S4 => zT S4 ∧ ((126 ≤ c3 ∧ c3 < mN S4) ∧ (ma_wp X d w 15 33 [(0, .inr (.inr (some 82))), (1, .inl (l1 + (1 : Int32)))] [] (ma_put S4 82 8 (.inl ((mI S4 82 8) + (mI S4 c3 2)))) Q))) (fun _ _ => False))) else (ma_wp X ((d - 1) - 1) ((w - 21) - 24) 90 0 [(0, .inr (.inr (some 69))), (1, .inr (.inr (some c3))), (2, .inl (mI (ma_put S1 c3 5 (.inl ((mI S1 c3 5) + (1 : Int32)))) 82 6))] [] (ma_put S1 c3 5 (.inl ((mI S1 c3 5) + (1 : Int32)))) (zv (fun S6 => zT S6 ∧ ((126 ≤ c3 ∧ c3 < mN S6) ∧ (ma_wp X d w 15 33 [(0, .inr (.inr (some 82))), (1, .inl (l1 + (1 : Int32)))] [] (ma_put S6 82 6 (.inl ((mI S6 82 6) + (mI S6 c3 2)))) Q))) (fun _ _ => False))))))))) (fun x S9 => Q (.inr x) S9)))) : ma_wp X d w 15 33 [(0, .inr (.inr (some 82))), (1, .inl l1)] [] S Q := by
  refine zw_push hm_15 dX0_moveKept_33 (v := .inl l1) rfl ?_
  refine zw_push hm_15 dX0_moveKept_34 (v := .inr (.inr (some 82))) rfl ?_
  refine zw_gf hm_15 dX0_moveKept_35 (v := .inr (.inr (some 75))) (zT_is hS s_82) (zT_t hS s_82) rfl f_1_70_1 (zT_f hS r_82_1) ?_
  refine zw_gf hm_15 dX0_moveKept_38 (v := .inl (mI S 75 4)) (zT_is hS s_75) (zT_t hS s_75) rfl f_1_147_10 rfl ?_
  refine zw_if2 hm_15 dX0_moveKept_41 (t := 68) rfl zc2_ge ?_ ?_
  · intro hc
    rw [if_pos hc] at h
    exact zw_vret hm_15 dX0_moveKept_68 h
  · intro hc
    rw [if_neg hc] at h
    refine zw_push hm_15 dX0_moveKept_44 (v := .inr (.inr (some 82))) rfl ?_
    refine zw_gf hm_15 dX0_moveKept_45 (v := .inr (.inr (some 75))) (zT_is hS s_82) (zT_t hS s_82) rfl f_1_70_1 (zT_f hS r_82_1) ?_
    refine zw_push hm_15 dX0_moveKept_48 (v := .inl l1) rfl ?_
    refine zw_cv hm_15 dX0_moveKept_49 v_1_150_10 hm_124 [.inl l1] [] rfl (zT_rt hS s_75 rfl) ⟨by omega, by omega⟩ rfl (zw_mono h (zo_go ?_ ?_))
    · intro v2 S1 hv
      obtain ⟨hS1, h⟩ := hv
      refine zw_sto hm_15 dX0_moveKept_52 [(2, .inr (.inr v2)), (0, .inr (.inr (some 82))), (1, .inl l1)] rfl rfl rfl ?_
      refine zw_push hm_15 dX0_moveKept_53 (v := .inr (.inr v2)) rfl ?_
      refine zw_ifnull hm_15 dX0_moveKept_54 (t := 62) rfl ?_ ?_
      · intro hc
        have h := h.1 hc
        (try rw [hc])
        show ma_wp X d w 15 62 [(2, .inr (.inr none)), (0, .inr (.inr (some 82))), (1, .inl l1)] [] S1 _
        refine zw_sto hm_15 dX0_moveKept_62 [(1, .inl (l1 + (1 : Int32))), (2, .inr (.inr none)), (0, .inr (.inr (some 82)))] rfl rfl rfl ?_
        refine zw_goto hm_15 dX0_moveKept_65 (t := 33) rfl ?_
        exact zw_sub (ma_nd_of (ks := [0, 1]) rfl (by decide)) (ma_nd_of (ks := [1, 2, 0]) rfl (by decide)) (ma_le_cons rfl (ma_le_cons rfl (ma_le_nil _))) h
      · intro c3 hc
        have h := h.2 c3 hc
        (try rw [hc])
        show ma_wp X d w 15 57 [(2, .inr (.inr (some c3))), (0, .inr (.inr (some 82))), (1, .inl l1)] [] S1 _
        refine zw_push hm_15 dX0_moveKept_57 (v := .inr (.inr (some 82))) rfl ?_
        refine zw_push hm_15 dX0_moveKept_58 (v := .inr (.inr (some c3))) rfl ?_
        refine zw_cv hm_15 dX0_moveKept_59 v_1_153_1 hm_16 [.inr (.inr (some c3))] [] rfl (zT_rt hS1 s_82 rfl) ⟨by omega, by omega⟩ rfl ?_
        show ma_wp X (d - 1) (w - 21) 16 0 [(0, .inr (.inr (some 82))), (1, .inr (.inr (some c3)))] [] S1 _
        refine zw_push hm_16 dX0_moveOlder_0 (v := .inr (.inr (some c3))) rfl ?_
        refine zw_stk hm_16 dX0_moveOlder_1 (st₉ := [.inr (.inr (some c3)), .inr (.inr (some c3))]) rfl rfl ?_
        obtain ⟨hg, h⟩ := h
        refine zw_gf hm_16 dX0_moveOlder_2 (v := .inl (mI S1 c3 5)) (zT_tis hS1 hg) (zT_tt hS1 hg) rfl f_1_126_9 rfl ?_
        refine zw_push hm_16 dX0_moveOlder_5 (v := .inl (1 : Int32)) rfl ?_
        refine zw_stk hm_16 dX0_moveOlder_6 (st₉ := [.inl ((mI S1 c3 5) + (1 : Int32)), .inr (.inr (some c3))]) rfl rfl ?_
        obtain ⟨hg, h⟩ := h
        refine zw_pf hm_16 dX0_moveOlder_7 (zT_tis hS1 hg) (zT_tt hS1 hg) p_1_126_9 zk_int ?_
        refine zw_push hm_16 dX0_moveOlder_10 (v := .inr (.inr (some c3))) rfl ?_
        obtain ⟨hg, h⟩ := h
        refine zw_gf hm_16 dX0_moveOlder_11 (v := .inl (mI (ma_put S1 c3 5 (.inl ((mI S1 c3 5) + (1 : Int32)))) c3 5)) (zT_tis (zT_pi hS1) hg) (zT_tt (zT_pi hS1) hg) rfl f_1_126_9 rfl ?_
        refine zw_push hm_16 dX0_moveOlder_14 (v := .inr (.inr (some 82))) rfl ?_
        refine zw_gf hm_16 dX0_moveOlder_15 (v := .inl (mI (ma_put S1 c3 5 (.inl ((mI S1 c3 5) + (1 : Int32)))) 82 4)) (zT_is (zT_pi hS1) s_82) (zT_t (zT_pi hS1) s_82) rfl f_1_22_1 rfl ?_
        refine zw_if2 hm_16 dX0_moveOlder_18 (t := 49) rfl zc2_lt ?_ ?_
        · intro hc
          rw [if_pos hc] at h
          refine zw_push hm_16 dX0_moveOlder_49 (v := .inr (.inr (some 82))) rfl ?_
          refine zw_gf hm_16 dX0_moveOlder_50 (v := .inr (.inr (some 69))) (zT_is (zT_pi hS1) s_82) (zT_t (zT_pi hS1) s_82) rfl f_1_80_1 (zT_f (zT_pi hS1) r_82_0) ?_
          refine zw_push hm_16 dX0_moveOlder_53 (v := .inr (.inr (some c3))) rfl ?_
          refine zw_push hm_16 dX0_moveOlder_54 (v := .inr (.inr (some 82))) rfl ?_
          refine zw_gf hm_16 dX0_moveOlder_55 (v := .inl (mI (ma_put S1 c3 5 (.inl ((mI S1 c3 5) + (1 : Int32)))) 82 8)) (zT_is (zT_pi hS1) s_82) (zT_t (zT_pi hS1) s_82) rfl f_1_34_1 rfl ?_
          refine zw_cv hm_16 dX0_moveOlder_58 v_1_156_7 hm_90 [.inl (mI (ma_put S1 c3 5 (.inl ((mI S1 c3 5) + (1 : Int32)))) 82 8), .inr (.inr (some c3))] [] rfl (zT_rt (zT_pi hS1) s_69 rfl) ⟨by omega, by omega⟩ rfl (zw_mono h (zv_go ?_ ?_))
          · intro S4 hv
            obtain ⟨hS4, h⟩ := hv
            refine zw_push hm_16 dX0_moveOlder_61 (v := .inr (.inr (some 82))) rfl ?_
            refine zw_stk hm_16 dX0_moveOlder_62 (st₉ := [.inr (.inr (some 82)), .inr (.inr (some 82))]) rfl rfl ?_
            refine zw_gf hm_16 dX0_moveOlder_63 (v := .inl (mI S4 82 8)) (zT_is hS4 s_82) (zT_t hS4 s_82) rfl f_1_34_1 rfl ?_
            refine zw_push hm_16 dX0_moveOlder_66 (v := .inr (.inr (some c3))) rfl ?_
            obtain ⟨hg, h⟩ := h
            refine zw_gf hm_16 dX0_moveOlder_67 (v := .inl (mI S4 c3 2)) (zT_tis hS4 hg) (zT_tt hS4 hg) rfl f_1_67_9 rfl ?_
            refine zw_stk hm_16 dX0_moveOlder_70 (st₉ := [.inl ((mI S4 82 8) + (mI S4 c3 2)), .inr (.inr (some 82))]) rfl rfl ?_
            refine zw_pf hm_16 dX0_moveOlder_71 (zT_is hS4 s_82) (zT_t hS4 s_82) p_1_34_1 zk_int ?_
            refine zw_vret hm_16 dX0_moveOlder_74 ?_
            show ma_wp X d w 15 62 [(2, .inr (.inr (some c3))), (0, .inr (.inr (some 82))), (1, .inl l1)] [] (ma_put S4 82 8 (.inl ((mI S4 82 8) + (mI S4 c3 2)))) _
            refine zw_sto hm_15 dX0_moveKept_62 [(1, .inl (l1 + (1 : Int32))), (2, .inr (.inr (some c3))), (0, .inr (.inr (some 82)))] rfl rfl rfl ?_
            refine zw_goto hm_15 dX0_moveKept_65 (t := 33) rfl ?_
            exact zw_sub (ma_nd_of (ks := [0, 1]) rfl (by decide)) (ma_nd_of (ks := [1, 2, 0]) rfl (by decide)) (ma_le_cons rfl (ma_le_cons rfl (ma_le_nil _))) h
          · intro x S9 hx
            exact hx.elim
        · intro hc
          rw [if_neg hc] at h
          refine zw_push hm_16 dX0_moveOlder_21 (v := .inr (.inr (some 82))) rfl ?_
          refine zw_gf hm_16 dX0_moveOlder_22 (v := .inr (.inr (some 69))) (zT_is (zT_pi hS1) s_82) (zT_t (zT_pi hS1) s_82) rfl f_1_80_1 (zT_f (zT_pi hS1) r_82_0) ?_
          refine zw_push hm_16 dX0_moveOlder_25 (v := .inr (.inr (some c3))) rfl ?_
          refine zw_push hm_16 dX0_moveOlder_26 (v := .inr (.inr (some 82))) rfl ?_
          refine zw_gf hm_16 dX0_moveOlder_27 (v := .inl (mI (ma_put S1 c3 5 (.inl ((mI S1 c3 5) + (1 : Int32)))) 82 6)) (zT_is (zT_pi hS1) s_82) (zT_t (zT_pi hS1) s_82) rfl f_1_28_1 rfl ?_
          refine zw_cv hm_16 dX0_moveOlder_30 v_1_156_7 hm_90 [.inl (mI (ma_put S1 c3 5 (.inl ((mI S1 c3 5) + (1 : Int32)))) 82 6), .inr (.inr (some c3))] [] rfl (zT_rt (zT_pi hS1) s_69 rfl) ⟨by omega, by omega⟩ rfl (zw_mono h (zv_go ?_ ?_))
          · intro S6 hv
            obtain ⟨hS6, h⟩ := hv
            refine zw_push hm_16 dX0_moveOlder_33 (v := .inr (.inr (some 82))) rfl ?_
            refine zw_stk hm_16 dX0_moveOlder_34 (st₉ := [.inr (.inr (some 82)), .inr (.inr (some 82))]) rfl rfl ?_
            refine zw_gf hm_16 dX0_moveOlder_35 (v := .inl (mI S6 82 6)) (zT_is hS6 s_82) (zT_t hS6 s_82) rfl f_1_28_1 rfl ?_
            refine zw_push hm_16 dX0_moveOlder_38 (v := .inr (.inr (some c3))) rfl ?_
            obtain ⟨hg, h⟩ := h
            refine zw_gf hm_16 dX0_moveOlder_39 (v := .inl (mI S6 c3 2)) (zT_tis hS6 hg) (zT_tt hS6 hg) rfl f_1_67_9 rfl ?_
            refine zw_stk hm_16 dX0_moveOlder_42 (st₉ := [.inl ((mI S6 82 6) + (mI S6 c3 2)), .inr (.inr (some 82))]) rfl rfl ?_
            refine zw_pf hm_16 dX0_moveOlder_43 (zT_is hS6 s_82) (zT_t hS6 s_82) p_1_28_1 zk_int ?_
            refine zw_goto hm_16 dX0_moveOlder_46 (t := 74) rfl ?_
            refine zw_vret hm_16 dX0_moveOlder_74 ?_
            show ma_wp X d w 15 62 [(2, .inr (.inr (some c3))), (0, .inr (.inr (some 82))), (1, .inl l1)] [] (ma_put S6 82 6 (.inl ((mI S6 82 6) + (mI S6 c3 2)))) _
            refine zw_sto hm_15 dX0_moveKept_62 [(1, .inl (l1 + (1 : Int32))), (2, .inr (.inr (some c3))), (0, .inr (.inr (some 82)))] rfl rfl rfl ?_
            refine zw_goto hm_15 dX0_moveKept_65 (t := 33) rfl ?_
            exact zw_sub (ma_nd_of (ks := [0, 1]) rfl (by decide)) (ma_nd_of (ks := [1, 2, 0]) rfl (by decide)) (ma_le_cons rfl (ma_le_cons rfl (ma_le_nil _))) h
          · intro x S9 hx
            exact hx.elim
    · intro x S9 hx
      exact ⟨by decide, hx⟩
theorem lp_15_82_33 {X : Nat × (Nat → Int32)} {d w : Nat} {f : Nat → Nat → Int32} {r : Nat → Nat → Option Nat} {C Z N : Nat} {Q : Option ma_V ⊕ Nat → ma_S → Prop} (hd : 3 ≤ d) (hw : 135 ≤ w) (K : ∀ S₉, zJ82 f r C Z N S₉ → Q (.inl none) S₉) : ∀ (n : Nat) (S : ma_S) (l1 : Int32), (512 - l1.toInt).toNat = n → zJ82 f r C Z N S → (0 ≤ l1.toInt) → ((mI S 82 6).toInt ≤ 1500 + 61 * l1.toInt) → ((mI S 82 8).toInt ≤ 3000 + 61 * l1.toInt) → ma_wp X d w 15 33 [(0, .inr (.inr (some 82))), (1, .inl l1)] [] S Q := by
  intro n
  induction n using Nat.strongRecOn with
  | _ n IH =>
    intro S l1 hmu hI  hi0 hi1 hi2
    refine g_15_82_33 l1 (by omega) (by omega) (zG_T hI) ?_
    have f1 := zG_s hI (0) (512) (c := 75) (k := 4) (by decide)
    have b2 := i_bd l1
    refine zd (fun h3 => ?_) (fun h3 => ?_)
    · skip
      have g4 := i_le h3
      exact K _ hI
    · skip
      have g5 := i_nle h3
      refine sp_124_75 (l1) (by omega) (by omega) (zJ82_dn hI)  (fun v2 S1 hL_S1 hq_v2 => zo_n ⟨zG_T hL_S1, ?_⟩)
      have hI_S1 := zJ82_up hI hL_S1
      refine ⟨fun _ => ?_, fun c3 hc => ?_⟩
      · skip
        first | have e6 : (l1 + (1 : Int32)).toInt = l1.toInt + (1) := i_addk rfl (by omega) (by omega) | have b7 := i_bd (l1 + (1 : Int32))
        have f8 := zG_s hI (0) (400000) (c := 82) (k := 6) (by decide)
        have q9 : (mI S1 82 6).toInt = (mI S 82 6).toInt := zG_zi hL_S1 rfl
        have f10 := zG_s hI_S1 (0) (400000) (c := 82) (k := 6) (by decide)
        have f11 := zG_s hI (0) (400000) (c := 82) (k := 8) (by decide)
        have q12 : (mI S1 82 8).toInt = (mI S 82 8).toInt := zG_zi hL_S1 rfl
        have f13 := zG_s hI_S1 (0) (400000) (c := 82) (k := 8) (by decide)
        exact IH _ (by omega) _ ((l1 + (1 : Int32))) rfl hI_S1 (by omega) (show (mI S1 82 6).toInt ≤ 1500 + 61 * ((l1 + (1 : Int32))).toInt from by omega) (show (mI S1 82 8).toInt ≤ 3000 + 61 * ((l1 + (1 : Int32))).toInt from by omega)
      · skip
        have th_c3 := hq_v2 c3 hc
        subst hc
        refine ⟨zG_n hI_S1 th_c3, ?_⟩
        refine ⟨zG_n hI_S1 th_c3, ?_⟩
        have hI14 : zJ82 f r C Z N (ma_put S1 c3 5 (.inl ((mI S1 c3 5) + (1 : Int32)))) := zG_tf hI_S1 th_c3.1 zJ82_t (by decide) (by decide) (zJ82_xt (S := S1) th_c3.1 (zG_x hI_S1)) (by decide) (by decide) (by decide)
        refine ⟨zG_n hI14 th_c3, ?_⟩
        have b15 := i_bd (mI (ma_put S1 c3 5 (.inl ((mI S1 c3 5) + (1 : Int32)))) c3 5)
        have b16 := i_bd (mI S 82 4)
        have q17 : (mI S1 82 4).toInt = (mI S 82 4).toInt := zG_zi hL_S1 rfl
        have b18 := i_bd (mI S1 82 4)
        have q19 : (mI (ma_put S1 c3 5 (.inl ((mI S1 c3 5) + (1 : Int32)))) 82 4).toInt = (mI S1 82 4).toInt := zp_th th_c3.1 (by decide)
        have b20 := i_bd (mI (ma_put S1 c3 5 (.inl ((mI S1 c3 5) + (1 : Int32)))) 82 4)
        refine zd (fun h21 => ?_) (fun h21 => ?_)
        · skip
          have g22 := i_lt h21
          have f23 := zG_s hI (0) (400000) (c := 82) (k := 8) (by decide)
          have q24 : (mI S1 82 8).toInt = (mI S 82 8).toInt := zG_zi hL_S1 rfl
          have f25 := zG_s hI_S1 (0) (400000) (c := 82) (k := 8) (by decide)
          have q26 : (mI (ma_put S1 c3 5 (.inl ((mI S1 c3 5) + (1 : Int32)))) 82 8).toInt = (mI S1 82 8).toInt := zp_th th_c3.1 (by decide)
          have f27 := zG_s hI14 (0) (400000) (c := 82) (k := 8) (by decide)
          refine sp_90_69 c3 ((mI (ma_put S1 c3 5 (.inl ((mI S1 c3 5) + (1 : Int32)))) 82 8)) (by omega) (by omega) (zJ82_dn hI14) th_c3 (by omega) (fun S4 hL_S4 => zv_n ⟨zG_T hL_S4, ?_⟩)
          have hI_S4 := zJ82_up hI14 hL_S4
          refine ⟨zG_n hI_S4 th_c3, ?_⟩
          have q29 : (mI S4 82 8).toInt = (mI (ma_put S1 c3 5 (.inl ((mI S1 c3 5) + (1 : Int32)))) 82 8).toInt := zG_zi hL_S4 rfl
          have f30 := zG_s hI_S4 (0) (400000) (c := 82) (k := 8) (by decide)
          have f31 := zG_th hI_S4 th_c3
          first | have e32 : ((mI S4 82 8) + (mI S4 c3 2)).toInt = (mI S4 82 8).toInt + (mI S4 c3 2).toInt := i_add (by omega) (by omega) | have b33 := i_bd ((mI S4 82 8) + (mI S4 c3 2))
          have hI28 : zJ82 f r C Z N (ma_put S4 82 8 (.inl ((mI S4 82 8) + (mI S4 c3 2)))) := zG_sp hI_S4 (0) (400000) rfl (by decide) (by decide) (by decide) (show zJ82_x (mI S4) from zG_x hI_S4) (by omega) (by omega)
          first | have e34 : (l1 + (1 : Int32)).toInt = l1.toInt + (1) := i_addk rfl (by omega) (by omega) | have b35 := i_bd (l1 + (1 : Int32))
          have f36 := zG_s hI (0) (400000) (c := 82) (k := 6) (by decide)
          have q37 : (mI S1 82 6).toInt = (mI S 82 6).toInt := zG_zi hL_S1 rfl
          have f38 := zG_s hI_S1 (0) (400000) (c := 82) (k := 6) (by decide)
          have q39 : (mI (ma_put S1 c3 5 (.inl ((mI S1 c3 5) + (1 : Int32)))) 82 6).toInt = (mI S1 82 6).toInt := zp_th th_c3.1 (by decide)
          have f40 := zG_s hI14 (0) (400000) (c := 82) (k := 6) (by decide)
          have q41 : (mI S4 82 6).toInt = (mI (ma_put S1 c3 5 (.inl ((mI S1 c3 5) + (1 : Int32)))) 82 6).toInt := zG_zi hL_S4 rfl
          have f42 := zG_s hI_S4 (0) (400000) (c := 82) (k := 6) (by decide)
          exact IH _ (by omega) _ ((l1 + (1 : Int32))) rfl hI28 (by omega) (show (mI S4 82 6).toInt ≤ 1500 + 61 * ((l1 + (1 : Int32))).toInt from by omega) (show ((mI S4 82 8) + (mI S4 c3 2)).toInt ≤ 3000 + 61 * ((l1 + (1 : Int32))).toInt from by omega)
        · skip
          have g43 := i_nlt h21
          have f44 := zG_s hI (0) (400000) (c := 82) (k := 6) (by decide)
          have q45 : (mI S1 82 6).toInt = (mI S 82 6).toInt := zG_zi hL_S1 rfl
          have f46 := zG_s hI_S1 (0) (400000) (c := 82) (k := 6) (by decide)
          have q47 : (mI (ma_put S1 c3 5 (.inl ((mI S1 c3 5) + (1 : Int32)))) 82 6).toInt = (mI S1 82 6).toInt := zp_th th_c3.1 (by decide)
          have f48 := zG_s hI14 (0) (400000) (c := 82) (k := 6) (by decide)
          refine sp_90_69 c3 ((mI (ma_put S1 c3 5 (.inl ((mI S1 c3 5) + (1 : Int32)))) 82 6)) (by omega) (by omega) (zJ82_dn hI14) th_c3 (by omega) (fun S6 hL_S6 => zv_n ⟨zG_T hL_S6, ?_⟩)
          have hI_S6 := zJ82_up hI14 hL_S6
          refine ⟨zG_n hI_S6 th_c3, ?_⟩
          have q50 : (mI S6 82 6).toInt = (mI (ma_put S1 c3 5 (.inl ((mI S1 c3 5) + (1 : Int32)))) 82 6).toInt := zG_zi hL_S6 rfl
          have f51 := zG_s hI_S6 (0) (400000) (c := 82) (k := 6) (by decide)
          have f52 := zG_th hI_S6 th_c3
          first | have e53 : ((mI S6 82 6) + (mI S6 c3 2)).toInt = (mI S6 82 6).toInt + (mI S6 c3 2).toInt := i_add (by omega) (by omega) | have b54 := i_bd ((mI S6 82 6) + (mI S6 c3 2))
          have hI49 : zJ82 f r C Z N (ma_put S6 82 6 (.inl ((mI S6 82 6) + (mI S6 c3 2)))) := zG_sp hI_S6 (0) (400000) rfl (by decide) (by decide) (by decide) (show zJ82_x (mI S6) from zG_x hI_S6) (by omega) (by omega)
          first | have e55 : (l1 + (1 : Int32)).toInt = l1.toInt + (1) := i_addk rfl (by omega) (by omega) | have b56 := i_bd (l1 + (1 : Int32))
          have f57 := zG_s hI (0) (400000) (c := 82) (k := 8) (by decide)
          have q58 : (mI S1 82 8).toInt = (mI S 82 8).toInt := zG_zi hL_S1 rfl
          have f59 := zG_s hI_S1 (0) (400000) (c := 82) (k := 8) (by decide)
          have q60 : (mI (ma_put S1 c3 5 (.inl ((mI S1 c3 5) + (1 : Int32)))) 82 8).toInt = (mI S1 82 8).toInt := zp_th th_c3.1 (by decide)
          have f61 := zG_s hI14 (0) (400000) (c := 82) (k := 8) (by decide)
          have q62 : (mI S6 82 8).toInt = (mI (ma_put S1 c3 5 (.inl ((mI S1 c3 5) + (1 : Int32)))) 82 8).toInt := zG_zi hL_S6 rfl
          have f63 := zG_s hI_S6 (0) (400000) (c := 82) (k := 8) (by decide)
          exact IH _ (by omega) _ ((l1 + (1 : Int32))) rfl hI49 (by omega) (show ((mI S6 82 6) + (mI S6 c3 2)).toInt ≤ 1500 + 61 * ((l1 + (1 : Int32))).toInt from by omega) (show (mI S6 82 8).toInt ≤ 3000 + 61 * ((l1 + (1 : Int32))).toInt from by omega)
theorem sp_15_82 {X : Nat × (Nat → Int32)} {d w : Nat} {f : Nat → Nat → Int32} {r : Nat → Nat → Option Nat} {C Z N : Nat} {Q : Option ma_V ⊕ Nat → ma_S → Prop} {S : ma_S}  (hd : 3 ≤ d) (hw : 135 ≤ w) (hI : zJ82 f r C Z N S) (hpre0 : (mI S 82 6).toInt ≤ 1500) (K : ∀ S₉, zJ82 f r C Z N S₉ → Q (.inl none) S₉) : ma_wp X d w 15 0 [(0, .inr (.inr (some 82)))] [] S Q := by
  refine g_15_82_0  (by omega) (by omega) (zG_T hI) ?_
  have x2 : (mI S 82 3).toInt ≤ (mI S 82 7).toInt ∧ (mI S 82 7).toInt ≤ (mI S 82 3).toInt + (mI S 82 2).toInt := zG_x hI
  have f3 := zG_s hI (0) (1500) (c := 82) (k := 3) (by decide)
  have f4 := zG_s hI (0) (1500) (c := 82) (k := 2) (by decide)
  first | have e5 : ((mI S 82 3) + (mI S 82 2)).toInt = (mI S 82 3).toInt + (mI S 82 2).toInt := i_add (by omega) (by omega) | have b6 := i_bd ((mI S 82 3) + (mI S 82 2))
  first | have e7 : (((mI S 82 3) + (mI S 82 2)) + (mI S 82 3)).toInt = ((mI S 82 3) + (mI S 82 2)).toInt + (mI S 82 3).toInt := i_add (by omega) (by omega) | have b8 := i_bd (((mI S 82 3) + (mI S 82 2)) + (mI S 82 3))
  have f9 := zG_s hI (0) (3000) (c := 82) (k := 7) (by decide)
  first | have e10 : ((((mI S 82 3) + (mI S 82 2)) + (mI S 82 3)) - (mI S 82 7)).toInt = (((mI S 82 3) + (mI S 82 2)) + (mI S 82 3)).toInt - (mI S 82 7).toInt := i_sub (by omega) (by omega) | have b11 := i_bd ((((mI S 82 3) + (mI S 82 2)) + (mI S 82 3)) - (mI S 82 7))
  have hI1 : zJ82 f r C Z N (ma_put S 82 7 (.inl ((((mI S 82 3) + (mI S 82 2)) + (mI S 82 3)) - (mI S 82 7)))) := zG_sp hI (0) (3000) rfl (by decide) (by decide) (by decide) (show (mI S 82 3).toInt ≤ ((((mI S 82 3) + (mI S 82 2)) + (mI S 82 3)) - (mI S 82 7)).toInt ∧ ((((mI S 82 3) + (mI S 82 2)) + (mI S 82 3)) - (mI S 82 7)).toInt ≤ (mI S 82 3).toInt + (mI S 82 2).toInt from by omega) (by omega) (by omega)
  have hI12 : zJ82 f r C Z N (ma_put (ma_put S 82 7 (.inl ((((mI S 82 3) + (mI S 82 2)) + (mI S 82 3)) - (mI S 82 7)))) 82 8 (.inl ((((mI S 82 3) + (mI S 82 2)) + (mI S 82 3)) - (mI S 82 7)))) := zG_sp hI1 (0) (400000) rfl (by decide) (by decide) (by decide) (show zJ82_x (mI (ma_put S 82 7 (.inl ((((mI S 82 3) + (mI S 82 2)) + (mI S 82 3)) - (mI S 82 7))))) from zG_x hI1) (by omega) (by omega)
  have li13 : (0 : Int32).toInt = 0 := rfl
  have f14 := zG_s hI (0) (400000) (c := 82) (k := 6) (by decide)
  exact lp_15_82_33 (by omega) (by omega) K _ _ ((0 : Int32)) rfl hI12 (by omega) (show (mI S 82 6).toInt ≤ 1500 + 61 * ((0 : Int32)).toInt from by omega) (show ((((mI S 82 3) + (mI S 82 2)) + (mI S 82 3)) - (mI S 82 7)).toInt ≤ 3000 + 61 * ((0 : Int32)).toInt from by omega)
theorem g_11_82_0 {X : Nat × (Nat → Int32)} {d w : Nat} {S : ma_S} {Q : Option ma_V ⊕ Nat → ma_S → Prop}  (hd : 4 ≤ d) (hw : 159 ≤ w) (hS : zT S) (h : ma_wp X (d - 1) (w - 23) 12 0 [(0, .inr (.inr (some 82)))] [] S (zi (fun v2 S1 => zT S1 ∧ (if ((mI S 82 6) + v2) ≤ (mI S1 82 3) then (ma_wp X (d - 1) (w - 23) 12 0 [(0, .inr (.inr (some 82)))] [] S1 (zi (fun v4 S3 => zT S3 ∧ (if ((mI S1 82 6) + v4) ≤ (mI S3 82 3) then (ma_wp X (d - 1) (w - 21) 117 0 [(0, .inr (.inr (some 75))), (1, .inl (mI S3 82 3))] [] S3 (zv (fun S5 => zT S5 ∧ (ma_wp X (d - 1) (w - 22) 118 0 [(0, .inr (.inr (some 75)))] [] S5 (zv (fun S7 => zT S7 ∧ (ma_wp X (d - 1) (w - 22) 13 0 [(0, .inr (.inr (some 82)))] [] S7 (zv (fun S9 => zT S9 ∧ (ma_wp X (d - 1) (w - 24) 120 0 [(0, .inr (.inr (some 75))), (1, .inl (512 : Int32))] [] S9 (zi (fun v12 S11 => zT S11 ∧ (ma_wp X (d - 1) (w - 23) 83 0 [(0, .inr (.inr (some 69))), (1, .inr (.inr (some 75)))] [] S11 (zv (fun S13 => zT S13 ∧ (ma_wp X (d - 1) (w - 24) 86 0 [(0, .inr (.inr (some 69))), (1, .inr (.inr (some 75)))] [] S13 (zi (fun v16 S15 => zT S15 ∧ (ma_wp X (d - 1) (w - 22) 15 0 [(0, .inr (.inr (some 82)))] [] S15 (zv (fun S17 => zT S17 ∧ (ma_wp X (d - 1) (w - 23) 6 0 [(0, .inr (.inr (some 82)))] [] S17 (zv (fun S19 => zT S19 ∧ (Q (.inl (some (.inl ((0 : Int32) + v16)))) S19)) (fun x S9 => Q (.inr x) S9)))) (fun x S9 => Q (.inr x) S9)))) (fun x S9 => Q (.inr x) S9)))) (fun x S9 => Q (.inr x) S9)))) (fun x S9 => Q (.inr x) S9)))) (fun x S9 => Q (.inr x) S9)))) (fun x S9 => Q (.inr x) S9)))) (fun x S9 => Q (.inr x) S9))) else (Q (.inl (some (.inl (0 : Int32)))) S3))) (fun x S9 => Q (.inr x) S9))) else (ma_wp X (d - 1) (w - 21) 5 0 [(0, .inr (.inr (some 82)))] [] S1 (zi (fun v22 S21 => zT S21 ∧ (ma_wp X (d - 1) (w - 23) 12 0 [(0, .inr (.inr (some 82)))] [] S21 (zi (fun v24 S23 => zT S23 ∧ (if ((mI S21 82 6) + v24) ≤ (mI S23 82 3) then (ma_wp X (d - 1) (w - 21) 117 0 [(0, .inr (.inr (some 75))), (1, .inl (mI S23 82 3))] [] S23 (zv (fun S25 => zT S25 ∧ (ma_wp X (d - 1) (w - 22) 118 0 [(0, .inr (.inr (some 75)))] [] S25 (zv (fun S27 => zT S27 ∧ (ma_wp X (d - 1) (w - 22) 13 0 [(0, .inr (.inr (some 82)))] [] S27 (zv (fun S29 => zT S29 ∧ (ma_wp X (d - 1) (w - 24) 120 0 [(0, .inr (.inr (some 75))), (1, .inl (512 : Int32))] [] S29 (zi (fun v32 S31 => zT S31 ∧ (ma_wp X (d - 1) (w - 23) 83 0 [(0, .inr (.inr (some 69))), (1, .inr (.inr (some 75)))] [] S31 (zv (fun S33 => zT S33 ∧ (ma_wp X (d - 1) (w - 24) 86 0 [(0, .inr (.inr (some 69))), (1, .inr (.inr (some 75)))] [] S33 (zi (fun v36 S35 => zT S35 ∧ (ma_wp X (d - 1) (w - 22) 15 0 [(0, .inr (.inr (some 82)))] [] S35 (zv (fun S37 => zT S37 ∧ (ma_wp X (d - 1) (w - 23) 6 0 [(0, .inr (.inr (some 82)))] [] S37 (zv (fun S39 => zT S39 ∧ (Q (.inl (some (.inl (v22 + v36)))) S39)) (fun x S9 => Q (.inr x) S9)))) (fun x S9 => Q (.inr x) S9)))) (fun x S9 => Q (.inr x) S9)))) (fun x S9 => Q (.inr x) S9)))) (fun x S9 => Q (.inr x) S9)))) (fun x S9 => Q (.inr x) S9)))) (fun x S9 => Q (.inr x) S9)))) (fun x S9 => Q (.inr x) S9))) else (Q (.inl (some (.inl v22))) S23))) (fun x S9 => Q (.inr x) S9)))) (fun x S9 => Q (.inr x) S9))))) (fun x S9 => Q (.inr x) S9))) : ma_wp X d w 11 0 [(0, .inr (.inr (some 82)))] [] S Q := by
  refine zw_push hm_11 dX0_cleanYoung_0 (v := .inl (0 : Int32)) rfl ?_
  refine zw_sto hm_11 dX0_cleanYoung_1 [(1, .inl (0 : Int32)), (0, .inr (.inr (some 82)))] rfl rfl rfl ?_
  refine zw_push hm_11 dX0_cleanYoung_2 (v := .inr (.inr (some 82))) rfl ?_
  refine zw_gf hm_11 dX0_cleanYoung_3 (v := .inl (mI S 82 6)) (zT_is hS s_82) (zT_t hS s_82) rfl f_1_28_1 rfl ?_
  refine zw_push hm_11 dX0_cleanYoung_6 (v := .inr (.inr (some 82))) rfl ?_
  refine zw_cv hm_11 dX0_cleanYoung_7 v_1_100_1 hm_12 [] [.inl (mI S 82 6)] rfl (zT_rt hS s_82 rfl) ⟨by omega, by omega⟩ rfl (zw_mono h (zi_go ?_ ?_))
  · intro v2 S1 hv
    obtain ⟨hS1, h⟩ := hv
    refine zw_stk hm_11 dX0_cleanYoung_10 (st₉ := [.inl ((mI S 82 6) + v2)]) rfl rfl ?_
    refine zw_push hm_11 dX0_cleanYoung_11 (v := .inr (.inr (some 82))) rfl ?_
    refine zw_gf hm_11 dX0_cleanYoung_12 (v := .inl (mI S1 82 3)) (zT_is hS1 s_82) (zT_t hS1 s_82) rfl f_1_19_1 rfl ?_
    refine zw_if2 hm_11 dX0_cleanYoung_15 (t := 23) rfl zc2_le ?_ ?_
    · intro hc
      rw [if_pos hc] at h
      refine zw_push hm_11 dX0_cleanYoung_23 (v := .inr (.inr (some 82))) rfl ?_
      refine zw_gf hm_11 dX0_cleanYoung_24 (v := .inl (mI S1 82 6)) (zT_is hS1 s_82) (zT_t hS1 s_82) rfl f_1_28_1 rfl ?_
      refine zw_push hm_11 dX0_cleanYoung_27 (v := .inr (.inr (some 82))) rfl ?_
      refine zw_cv hm_11 dX0_cleanYoung_28 v_1_100_1 hm_12 [] [.inl (mI S1 82 6)] rfl (zT_rt hS1 s_82 rfl) ⟨by omega, by omega⟩ rfl (zw_mono h (zi_go ?_ ?_))
      · intro v4 S3 hv
        obtain ⟨hS3, h⟩ := hv
        refine zw_stk hm_11 dX0_cleanYoung_31 (st₉ := [.inl ((mI S1 82 6) + v4)]) rfl rfl ?_
        refine zw_push hm_11 dX0_cleanYoung_32 (v := .inr (.inr (some 82))) rfl ?_
        refine zw_gf hm_11 dX0_cleanYoung_33 (v := .inl (mI S3 82 3)) (zT_is hS3 s_82) (zT_t hS3 s_82) rfl f_1_19_1 rfl ?_
        refine zw_if2 hm_11 dX0_cleanYoung_36 (t := 41) rfl zc2_le ?_ ?_
        · intro hc
          rw [if_pos hc] at h
          refine zw_push hm_11 dX0_cleanYoung_41 (v := .inr (.inr (some 82))) rfl ?_
          refine zw_gf hm_11 dX0_cleanYoung_42 (v := .inr (.inr (some 75))) (zT_is hS3 s_82) (zT_t hS3 s_82) rfl f_1_70_1 (zT_f hS3 r_82_1) ?_
          refine zw_push hm_11 dX0_cleanYoung_45 (v := .inr (.inr (some 82))) rfl ?_
          refine zw_gf hm_11 dX0_cleanYoung_46 (v := .inl (mI S3 82 3)) (zT_is hS3 s_82) (zT_t hS3 s_82) rfl f_1_19_1 rfl ?_
          refine zw_cv hm_11 dX0_cleanYoung_49 v_1_103_10 hm_117 [.inl (mI S3 82 3)] [] rfl (zT_rt hS3 s_75 rfl) ⟨by omega, by omega⟩ rfl (zw_mono h (zv_go ?_ ?_))
          · intro S5 hv
            obtain ⟨hS5, h⟩ := hv
            refine zw_push hm_11 dX0_cleanYoung_52 (v := .inr (.inr (some 82))) rfl ?_
            refine zw_gf hm_11 dX0_cleanYoung_53 (v := .inr (.inr (some 75))) (zT_is hS5 s_82) (zT_t hS5 s_82) rfl f_1_70_1 (zT_f hS5 r_82_1) ?_
            refine zw_cv hm_11 dX0_cleanYoung_56 v_1_107_10 hm_118 [] [] rfl (zT_rt hS5 s_75 rfl) ⟨by omega, by omega⟩ rfl (zw_mono h (zv_go ?_ ?_))
            · intro S7 hv
              obtain ⟨hS7, h⟩ := hv
              refine zw_push hm_11 dX0_cleanYoung_59 (v := .inr (.inr (some 82))) rfl ?_
              refine zw_cv hm_11 dX0_cleanYoung_60 v_1_110_1 hm_13 [] [] rfl (zT_rt hS7 s_82 rfl) ⟨by omega, by omega⟩ rfl (zw_mono h (zv_go ?_ ?_))
              · intro S9 hv
                obtain ⟨hS9, h⟩ := hv
                refine zw_push hm_11 dX0_cleanYoung_63 (v := .inr (.inr (some 82))) rfl ?_
                refine zw_gf hm_11 dX0_cleanYoung_64 (v := .inr (.inr (some 75))) (zT_is hS9 s_82) (zT_t hS9 s_82) rfl f_1_70_1 (zT_f hS9 r_82_1) ?_
                refine zw_push hm_11 dX0_cleanYoung_67 (v := .inl (512 : Int32)) rfl ?_
                refine zw_cv hm_11 dX0_cleanYoung_70 v_1_113_10 hm_120 [.inl (512 : Int32)] [] rfl (zT_rt hS9 s_75 rfl) ⟨by omega, by omega⟩ rfl (zw_mono h (zi_go ?_ ?_))
                · intro v12 S11 hv
                  obtain ⟨hS11, h⟩ := hv
                  refine zw_stk hm_11 dX0_cleanYoung_73 (st₉ := []) rfl rfl ?_
                  refine zw_push hm_11 dX0_cleanYoung_74 (v := .inr (.inr (some 82))) rfl ?_
                  refine zw_gf hm_11 dX0_cleanYoung_75 (v := .inr (.inr (some 69))) (zT_is hS11 s_82) (zT_t hS11 s_82) rfl f_1_80_1 (zT_f hS11 r_82_0) ?_
                  refine zw_push hm_11 dX0_cleanYoung_78 (v := .inr (.inr (some 82))) rfl ?_
                  refine zw_gf hm_11 dX0_cleanYoung_79 (v := .inr (.inr (some 75))) (zT_is hS11 s_82) (zT_t hS11 s_82) rfl f_1_70_1 (zT_f hS11 r_82_1) ?_
                  refine zw_cv hm_11 dX0_cleanYoung_82 v_1_84_7 hm_83 [.inr (.inr (some 75))] [] rfl (zT_rt hS11 s_69 rfl) ⟨by omega, by omega⟩ rfl (zw_mono h (zv_go ?_ ?_))
                  · intro S13 hv
                    obtain ⟨hS13, h⟩ := hv
                    refine zw_push hm_11 dX0_cleanYoung_85 (v := .inl (0 : Int32)) rfl ?_
                    refine zw_push hm_11 dX0_cleanYoung_86 (v := .inr (.inr (some 82))) rfl ?_
                    refine zw_gf hm_11 dX0_cleanYoung_87 (v := .inr (.inr (some 69))) (zT_is hS13 s_82) (zT_t hS13 s_82) rfl f_1_80_1 (zT_f hS13 r_82_0) ?_
                    refine zw_push hm_11 dX0_cleanYoung_90 (v := .inr (.inr (some 82))) rfl ?_
                    refine zw_gf hm_11 dX0_cleanYoung_91 (v := .inr (.inr (some 75))) (zT_is hS13 s_82) (zT_t hS13 s_82) rfl f_1_70_1 (zT_f hS13 r_82_1) ?_
                    refine zw_cv hm_11 dX0_cleanYoung_94 v_1_90_7 hm_86 [.inr (.inr (some 75))] [.inl (0 : Int32)] rfl (zT_rt hS13 s_69 rfl) ⟨by omega, by omega⟩ rfl (zw_mono h (zi_go ?_ ?_))
                    · intro v16 S15 hv
                      obtain ⟨hS15, h⟩ := hv
                      refine zw_stk hm_11 dX0_cleanYoung_97 (st₉ := [.inl ((0 : Int32) + v16)]) rfl rfl ?_
                      refine zw_sto hm_11 dX0_cleanYoung_98 [(1, .inl ((0 : Int32) + v16)), (0, .inr (.inr (some 82)))] rfl rfl rfl ?_
                      refine zw_push hm_11 dX0_cleanYoung_99 (v := .inr (.inr (some 82))) rfl ?_
                      refine zw_cv hm_11 dX0_cleanYoung_100 v_1_116_1 hm_15 [] [] rfl (zT_rt hS15 s_82 rfl) ⟨by omega, by omega⟩ rfl (zw_mono h (zv_go ?_ ?_))
                      · intro S17 hv
                        obtain ⟨hS17, h⟩ := hv
                        refine zw_push hm_11 dX0_cleanYoung_103 (v := .inr (.inr (some 82))) rfl ?_
                        refine zw_cv hm_11 dX0_cleanYoung_104 v_1_97_1 hm_6 [] [] rfl (zT_rt hS17 s_82 rfl) ⟨by omega, by omega⟩ rfl (zw_mono h (zv_go ?_ ?_))
                        · intro S19 hv
                          obtain ⟨hS19, h⟩ := hv
                          refine zw_push hm_11 dX0_cleanYoung_107 (v := .inl ((0 : Int32) + v16)) rfl ?_
                          exact zw_iret hm_11 dX0_cleanYoung_108 h
                        · intro x S9 hx
                          exact ⟨by decide, hx⟩
                      · intro x S9 hx
                        exact ⟨by decide, hx⟩
                    · intro x S9 hx
                      exact ⟨by decide, hx⟩
                  · intro x S9 hx
                    exact ⟨by decide, hx⟩
                · intro x S9 hx
                  exact ⟨by decide, hx⟩
              · intro x S9 hx
                exact ⟨by decide, hx⟩
            · intro x S9 hx
              exact ⟨by decide, hx⟩
          · intro x S9 hx
            exact ⟨by decide, hx⟩
        · intro hc
          rw [if_neg hc] at h
          refine zw_push hm_11 dX0_cleanYoung_39 (v := .inl (0 : Int32)) rfl ?_
          exact zw_iret hm_11 dX0_cleanYoung_40 h
      · intro x S9 hx
        exact ⟨by decide, hx⟩
    · intro hc
      rw [if_neg hc] at h
      refine zw_push hm_11 dX0_cleanYoung_18 (v := .inr (.inr (some 82))) rfl ?_
      refine zw_cv hm_11 dX0_cleanYoung_19 v_1_55_1 hm_5 [] [] rfl (zT_rt hS1 s_82 rfl) ⟨by omega, by omega⟩ rfl (zw_mono h (zi_go ?_ ?_))
      · intro v22 S21 hv
        obtain ⟨hS21, h⟩ := hv
        refine zw_sto hm_11 dX0_cleanYoung_22 [(1, .inl v22), (0, .inr (.inr (some 82)))] rfl rfl rfl ?_
        refine zw_push hm_11 dX0_cleanYoung_23 (v := .inr (.inr (some 82))) rfl ?_
        refine zw_gf hm_11 dX0_cleanYoung_24 (v := .inl (mI S21 82 6)) (zT_is hS21 s_82) (zT_t hS21 s_82) rfl f_1_28_1 rfl ?_
        refine zw_push hm_11 dX0_cleanYoung_27 (v := .inr (.inr (some 82))) rfl ?_
        refine zw_cv hm_11 dX0_cleanYoung_28 v_1_100_1 hm_12 [] [.inl (mI S21 82 6)] rfl (zT_rt hS21 s_82 rfl) ⟨by omega, by omega⟩ rfl (zw_mono h (zi_go ?_ ?_))
        · intro v24 S23 hv
          obtain ⟨hS23, h⟩ := hv
          refine zw_stk hm_11 dX0_cleanYoung_31 (st₉ := [.inl ((mI S21 82 6) + v24)]) rfl rfl ?_
          refine zw_push hm_11 dX0_cleanYoung_32 (v := .inr (.inr (some 82))) rfl ?_
          refine zw_gf hm_11 dX0_cleanYoung_33 (v := .inl (mI S23 82 3)) (zT_is hS23 s_82) (zT_t hS23 s_82) rfl f_1_19_1 rfl ?_
          refine zw_if2 hm_11 dX0_cleanYoung_36 (t := 41) rfl zc2_le ?_ ?_
          · intro hc
            rw [if_pos hc] at h
            refine zw_push hm_11 dX0_cleanYoung_41 (v := .inr (.inr (some 82))) rfl ?_
            refine zw_gf hm_11 dX0_cleanYoung_42 (v := .inr (.inr (some 75))) (zT_is hS23 s_82) (zT_t hS23 s_82) rfl f_1_70_1 (zT_f hS23 r_82_1) ?_
            refine zw_push hm_11 dX0_cleanYoung_45 (v := .inr (.inr (some 82))) rfl ?_
            refine zw_gf hm_11 dX0_cleanYoung_46 (v := .inl (mI S23 82 3)) (zT_is hS23 s_82) (zT_t hS23 s_82) rfl f_1_19_1 rfl ?_
            refine zw_cv hm_11 dX0_cleanYoung_49 v_1_103_10 hm_117 [.inl (mI S23 82 3)] [] rfl (zT_rt hS23 s_75 rfl) ⟨by omega, by omega⟩ rfl (zw_mono h (zv_go ?_ ?_))
            · intro S25 hv
              obtain ⟨hS25, h⟩ := hv
              refine zw_push hm_11 dX0_cleanYoung_52 (v := .inr (.inr (some 82))) rfl ?_
              refine zw_gf hm_11 dX0_cleanYoung_53 (v := .inr (.inr (some 75))) (zT_is hS25 s_82) (zT_t hS25 s_82) rfl f_1_70_1 (zT_f hS25 r_82_1) ?_
              refine zw_cv hm_11 dX0_cleanYoung_56 v_1_107_10 hm_118 [] [] rfl (zT_rt hS25 s_75 rfl) ⟨by omega, by omega⟩ rfl (zw_mono h (zv_go ?_ ?_))
              · intro S27 hv
                obtain ⟨hS27, h⟩ := hv
                refine zw_push hm_11 dX0_cleanYoung_59 (v := .inr (.inr (some 82))) rfl ?_
                refine zw_cv hm_11 dX0_cleanYoung_60 v_1_110_1 hm_13 [] [] rfl (zT_rt hS27 s_82 rfl) ⟨by omega, by omega⟩ rfl (zw_mono h (zv_go ?_ ?_))
                · intro S29 hv
                  obtain ⟨hS29, h⟩ := hv
                  refine zw_push hm_11 dX0_cleanYoung_63 (v := .inr (.inr (some 82))) rfl ?_
                  refine zw_gf hm_11 dX0_cleanYoung_64 (v := .inr (.inr (some 75))) (zT_is hS29 s_82) (zT_t hS29 s_82) rfl f_1_70_1 (zT_f hS29 r_82_1) ?_
                  refine zw_push hm_11 dX0_cleanYoung_67 (v := .inl (512 : Int32)) rfl ?_
                  refine zw_cv hm_11 dX0_cleanYoung_70 v_1_113_10 hm_120 [.inl (512 : Int32)] [] rfl (zT_rt hS29 s_75 rfl) ⟨by omega, by omega⟩ rfl (zw_mono h (zi_go ?_ ?_))
                  · intro v32 S31 hv
                    obtain ⟨hS31, h⟩ := hv
                    refine zw_stk hm_11 dX0_cleanYoung_73 (st₉ := []) rfl rfl ?_
                    refine zw_push hm_11 dX0_cleanYoung_74 (v := .inr (.inr (some 82))) rfl ?_
                    refine zw_gf hm_11 dX0_cleanYoung_75 (v := .inr (.inr (some 69))) (zT_is hS31 s_82) (zT_t hS31 s_82) rfl f_1_80_1 (zT_f hS31 r_82_0) ?_
                    refine zw_push hm_11 dX0_cleanYoung_78 (v := .inr (.inr (some 82))) rfl ?_
                    refine zw_gf hm_11 dX0_cleanYoung_79 (v := .inr (.inr (some 75))) (zT_is hS31 s_82) (zT_t hS31 s_82) rfl f_1_70_1 (zT_f hS31 r_82_1) ?_
                    refine zw_cv hm_11 dX0_cleanYoung_82 v_1_84_7 hm_83 [.inr (.inr (some 75))] [] rfl (zT_rt hS31 s_69 rfl) ⟨by omega, by omega⟩ rfl (zw_mono h (zv_go ?_ ?_))
                    · intro S33 hv
                      obtain ⟨hS33, h⟩ := hv
                      refine zw_push hm_11 dX0_cleanYoung_85 (v := .inl v22) rfl ?_
                      refine zw_push hm_11 dX0_cleanYoung_86 (v := .inr (.inr (some 82))) rfl ?_
                      refine zw_gf hm_11 dX0_cleanYoung_87 (v := .inr (.inr (some 69))) (zT_is hS33 s_82) (zT_t hS33 s_82) rfl f_1_80_1 (zT_f hS33 r_82_0) ?_
                      refine zw_push hm_11 dX0_cleanYoung_90 (v := .inr (.inr (some 82))) rfl ?_
                      refine zw_gf hm_11 dX0_cleanYoung_91 (v := .inr (.inr (some 75))) (zT_is hS33 s_82) (zT_t hS33 s_82) rfl f_1_70_1 (zT_f hS33 r_82_1) ?_
                      refine zw_cv hm_11 dX0_cleanYoung_94 v_1_90_7 hm_86 [.inr (.inr (some 75))] [.inl v22] rfl (zT_rt hS33 s_69 rfl) ⟨by omega, by omega⟩ rfl (zw_mono h (zi_go ?_ ?_))
                      · intro v36 S35 hv
                        obtain ⟨hS35, h⟩ := hv
                        refine zw_stk hm_11 dX0_cleanYoung_97 (st₉ := [.inl (v22 + v36)]) rfl rfl ?_
                        refine zw_sto hm_11 dX0_cleanYoung_98 [(1, .inl (v22 + v36)), (0, .inr (.inr (some 82)))] rfl rfl rfl ?_
                        refine zw_push hm_11 dX0_cleanYoung_99 (v := .inr (.inr (some 82))) rfl ?_
                        refine zw_cv hm_11 dX0_cleanYoung_100 v_1_116_1 hm_15 [] [] rfl (zT_rt hS35 s_82 rfl) ⟨by omega, by omega⟩ rfl (zw_mono h (zv_go ?_ ?_))
                        · intro S37 hv
                          obtain ⟨hS37, h⟩ := hv
                          refine zw_push hm_11 dX0_cleanYoung_103 (v := .inr (.inr (some 82))) rfl ?_
                          refine zw_cv hm_11 dX0_cleanYoung_104 v_1_97_1 hm_6 [] [] rfl (zT_rt hS37 s_82 rfl) ⟨by omega, by omega⟩ rfl (zw_mono h (zv_go ?_ ?_))
                          · intro S39 hv
                            obtain ⟨hS39, h⟩ := hv
                            refine zw_push hm_11 dX0_cleanYoung_107 (v := .inl (v22 + v36)) rfl ?_
                            exact zw_iret hm_11 dX0_cleanYoung_108 h
                          · intro x S9 hx
                            exact ⟨by decide, hx⟩
                        · intro x S9 hx
                          exact ⟨by decide, hx⟩
                      · intro x S9 hx
                        exact ⟨by decide, hx⟩
                    · intro x S9 hx
                      exact ⟨by decide, hx⟩
                  · intro x S9 hx
                    exact ⟨by decide, hx⟩
                · intro x S9 hx
                  exact ⟨by decide, hx⟩
              · intro x S9 hx
                exact ⟨by decide, hx⟩
            · intro x S9 hx
              exact ⟨by decide, hx⟩
          · intro hc
            rw [if_neg hc] at h
            refine zw_push hm_11 dX0_cleanYoung_39 (v := .inl v22) rfl ?_
            exact zw_iret hm_11 dX0_cleanYoung_40 h
        · intro x S9 hx
          exact ⟨by decide, hx⟩
      · intro x S9 hx
        exact ⟨by decide, hx⟩
  · intro x S9 hx
    exact ⟨by decide, hx⟩
theorem sp_11_82 {X : Nat × (Nat → Int32)} {d w : Nat} {f : Nat → Nat → Int32} {r : Nat → Nat → Option Nat} {C Z N : Nat} {Q : Option ma_V ⊕ Nat → ma_S → Prop} {S : ma_S}  (hd : 4 ≤ d) (hw : 159 ≤ w) (hI : zJ82 f r C Z N S)  (K : ∀ v S₉, zJ82 f r C Z N S₉ → (True) → Q (.inl (some (.inl v))) S₉) : ma_wp X d w 11 0 [(0, .inr (.inr (some 82)))] [] S Q := by
  refine g_11_82_0  (by omega) (by omega) (zG_T hI) ?_
  refine sp_12_82  (by omega) (by omega) (zJ82_dn hI)  (fun v2 S1 hL_S1 hp_v2 => zi_n ⟨zG_T hL_S1, ?_⟩)
  have hI_S1 := zJ82_up hI hL_S1
  have f1 := zG_s hI (0) (400000) (c := 82) (k := 6) (by decide)
  have b2 := i_bd v2
  first | have e3 : ((mI S 82 6) + v2).toInt = (mI S 82 6).toInt + v2.toInt := i_add (by omega) (by omega) | have b4 := i_bd ((mI S 82 6) + v2)
  have x5 : (mI S 82 3).toInt ≤ (mI S 82 7).toInt ∧ (mI S 82 7).toInt ≤ (mI S 82 3).toInt + (mI S 82 2).toInt := zG_x hI
  have f6 := zG_s hI (0) (1500) (c := 82) (k := 3) (by decide)
  have q7 : (mI S1 82 3).toInt = (mI S 82 3).toInt := zG_zi hL_S1 rfl
  have x8 : (mI S1 82 3).toInt ≤ (mI S1 82 7).toInt ∧ (mI S1 82 7).toInt ≤ (mI S1 82 3).toInt + (mI S1 82 2).toInt := zG_x hI_S1
  have f9 := zG_s hI_S1 (0) (1500) (c := 82) (k := 3) (by decide)
  refine zd (fun h10 => ?_) (fun h10 => ?_)
  · skip
    have g11 := i_le h10
    refine sp_12_82  (by omega) (by omega) (zJ82_dn hI_S1)  (fun v4 S3 hL_S3 hp_v4 => zi_n ⟨zG_T hL_S3, ?_⟩)
    have hI_S3 := zJ82_up hI_S1 hL_S3
    have q12 : (mI S1 82 6).toInt = (mI S 82 6).toInt := zG_zi hL_S1 rfl
    have f13 := zG_s hI_S1 (0) (400000) (c := 82) (k := 6) (by decide)
    have b14 := i_bd v4
    first | have e15 : ((mI S1 82 6) + v4).toInt = (mI S1 82 6).toInt + v4.toInt := i_add (by omega) (by omega) | have b16 := i_bd ((mI S1 82 6) + v4)
    have q17 : (mI S3 82 3).toInt = (mI S1 82 3).toInt := zG_zi hL_S3 rfl
    have x18 : (mI S3 82 3).toInt ≤ (mI S3 82 7).toInt ∧ (mI S3 82 7).toInt ≤ (mI S3 82 3).toInt + (mI S3 82 2).toInt := zG_x hI_S3
    have f19 := zG_s hI_S3 (0) (1500) (c := 82) (k := 3) (by decide)
    refine zd (fun h20 => ?_) (fun h20 => ?_)
    · skip
      have g21 := i_le h20
      refine sp_117_75 ((mI S3 82 3)) (by omega) (by omega) (zJ82_dn hI_S3)  (fun S5 hL_S5 => zv_n ⟨zG_T hL_S5, ?_⟩)
      have hI_S5 := zJ82_up hI_S3 hL_S5
      refine sp_118_75  (by omega) (by omega) (zJ82_dn hI_S5)  (fun S7 hL_S7 => zv_n ⟨zG_T hL_S7, ?_⟩)
      have hI_S7 := zJ82_up hI_S5 hL_S7
      have q22 : (mI S3 82 6).toInt = (mI S1 82 6).toInt := zG_zi hL_S3 rfl
      have f23 := zG_s hI_S3 (0) (400000) (c := 82) (k := 6) (by decide)
      have q24 : (mI S5 82 6).toInt = (mI S3 82 6).toInt := zG_zi hL_S5 rfl
      have f25 := zG_s hI_S5 (0) (400000) (c := 82) (k := 6) (by decide)
      have q26 : (mI S7 82 6).toInt = (mI S5 82 6).toInt := zG_zi hL_S7 rfl
      have f27 := zG_s hI_S7 (0) (400000) (c := 82) (k := 6) (by decide)
      refine sp_13_82  (by omega) (by omega) (zJ82_dn hI_S7) (show (mI S7 82 6).toInt ≤ 400000 from by omega) (fun S9 hL_S9 => zv_n ⟨zG_T hL_S9, ?_⟩)
      have hI_S9 := zJ82_up hI_S7 hL_S9
      have li28 : (512 : Int32).toInt = 512 := rfl
      refine sp_120_75 ((512 : Int32)) (by omega) (by omega) (zJ82_dn hI_S9)  (fun v12 S11 hL_S11 hp_v12 => zi_n ⟨zG_T hL_S11, ?_⟩)
      have hI_S11 := zJ82_up hI_S9 hL_S11
      refine sp_83_69_75  (by omega) (by omega) (zJ82_dn hI_S11)  (fun S13 hL_S13 => zv_n ⟨zG_T hL_S13, ?_⟩)
      have hI_S13 := zJ82_up hI_S11 hL_S13
      refine sp_86_69_75  (by omega) (by omega) (zJ82_dn hI_S13)  (fun v16 S15 hL_S15 hp_v16 => zi_n ⟨zG_T hL_S15, ?_⟩)
      have hI_S15 := zJ82_up hI_S13 hL_S15
      have q29 : (mI S9 82 6).toInt = (mI S7 82 6).toInt := zG_zi hL_S9 rfl
      have f30 := zG_s hI_S9 (0) (400000) (c := 82) (k := 6) (by decide)
      have q31 : (mI S11 82 6).toInt = (mI S9 82 6).toInt := zG_zi hL_S11 rfl
      have f32 := zG_s hI_S11 (0) (400000) (c := 82) (k := 6) (by decide)
      have q33 : (mI S13 82 6).toInt = (mI S11 82 6).toInt := zG_zi hL_S13 rfl
      have f34 := zG_s hI_S13 (0) (400000) (c := 82) (k := 6) (by decide)
      have q35 : (mI S15 82 6).toInt = (mI S13 82 6).toInt := zG_zi hL_S15 rfl
      have f36 := zG_s hI_S15 (0) (400000) (c := 82) (k := 6) (by decide)
      refine sp_15_82  (by omega) (by omega) hI_S15 (show (mI S15 82 6).toInt ≤ 1500 from by omega) (fun S17 hI_S17 => zv_n ⟨zG_T hI_S17, ?_⟩)
      refine sp_6_82  (by omega) (by omega) hI_S17  (fun S19 hI_S19 => zv_n ⟨zG_T hI_S19, ?_⟩)
      have li37 : (0 : Int32).toInt = 0 := rfl
      have b38 := i_bd v16
      first | have e39 : ((0 : Int32) + v16).toInt = (0 : Int32).toInt + v16.toInt := i_add (by omega) (by omega) | have b40 := i_bd ((0 : Int32) + v16)
      exact K (((0 : Int32) + v16)) _ hI_S19 trivial
    · skip
      have g41 := i_nle h20
      have li42 : (0 : Int32).toInt = 0 := rfl
      exact K ((0 : Int32)) _ hI_S3 trivial
  · skip
    have g43 := i_nle h10
    refine sp_5_82  (by omega) (by omega) hI_S1  (fun v22 S21 hI_S21 hp_v22 => zi_n ⟨zG_T hI_S21, ?_⟩)
    refine sp_12_82  (by omega) (by omega) (zJ82_dn hI_S21)  (fun v24 S23 hL_S23 hp_v24 => zi_n ⟨zG_T hL_S23, ?_⟩)
    have hI_S23 := zJ82_up hI_S21 hL_S23
    have f44 := zG_s hI_S21 (0) (400000) (c := 82) (k := 6) (by decide)
    have b45 := i_bd v24
    first | have e46 : ((mI S21 82 6) + v24).toInt = (mI S21 82 6).toInt + v24.toInt := i_add (by omega) (by omega) | have b47 := i_bd ((mI S21 82 6) + v24)
    have x48 : (mI S21 82 3).toInt ≤ (mI S21 82 7).toInt ∧ (mI S21 82 7).toInt ≤ (mI S21 82 3).toInt + (mI S21 82 2).toInt := zG_x hI_S21
    have f49 := zG_s hI_S21 (0) (1500) (c := 82) (k := 3) (by decide)
    have q50 : (mI S23 82 3).toInt = (mI S21 82 3).toInt := zG_zi hL_S23 rfl
    have x51 : (mI S23 82 3).toInt ≤ (mI S23 82 7).toInt ∧ (mI S23 82 7).toInt ≤ (mI S23 82 3).toInt + (mI S23 82 2).toInt := zG_x hI_S23
    have f52 := zG_s hI_S23 (0) (1500) (c := 82) (k := 3) (by decide)
    refine zd (fun h53 => ?_) (fun h53 => ?_)
    · skip
      have g54 := i_le h53
      refine sp_117_75 ((mI S23 82 3)) (by omega) (by omega) (zJ82_dn hI_S23)  (fun S25 hL_S25 => zv_n ⟨zG_T hL_S25, ?_⟩)
      have hI_S25 := zJ82_up hI_S23 hL_S25
      refine sp_118_75  (by omega) (by omega) (zJ82_dn hI_S25)  (fun S27 hL_S27 => zv_n ⟨zG_T hL_S27, ?_⟩)
      have hI_S27 := zJ82_up hI_S25 hL_S27
      have q55 : (mI S23 82 6).toInt = (mI S21 82 6).toInt := zG_zi hL_S23 rfl
      have f56 := zG_s hI_S23 (0) (400000) (c := 82) (k := 6) (by decide)
      have q57 : (mI S25 82 6).toInt = (mI S23 82 6).toInt := zG_zi hL_S25 rfl
      have f58 := zG_s hI_S25 (0) (400000) (c := 82) (k := 6) (by decide)
      have q59 : (mI S27 82 6).toInt = (mI S25 82 6).toInt := zG_zi hL_S27 rfl
      have f60 := zG_s hI_S27 (0) (400000) (c := 82) (k := 6) (by decide)
      refine sp_13_82  (by omega) (by omega) (zJ82_dn hI_S27) (show (mI S27 82 6).toInt ≤ 400000 from by omega) (fun S29 hL_S29 => zv_n ⟨zG_T hL_S29, ?_⟩)
      have hI_S29 := zJ82_up hI_S27 hL_S29
      have li61 : (512 : Int32).toInt = 512 := rfl
      refine sp_120_75 ((512 : Int32)) (by omega) (by omega) (zJ82_dn hI_S29)  (fun v32 S31 hL_S31 hp_v32 => zi_n ⟨zG_T hL_S31, ?_⟩)
      have hI_S31 := zJ82_up hI_S29 hL_S31
      refine sp_83_69_75  (by omega) (by omega) (zJ82_dn hI_S31)  (fun S33 hL_S33 => zv_n ⟨zG_T hL_S33, ?_⟩)
      have hI_S33 := zJ82_up hI_S31 hL_S33
      refine sp_86_69_75  (by omega) (by omega) (zJ82_dn hI_S33)  (fun v36 S35 hL_S35 hp_v36 => zi_n ⟨zG_T hL_S35, ?_⟩)
      have hI_S35 := zJ82_up hI_S33 hL_S35
      have q62 : (mI S29 82 6).toInt = (mI S27 82 6).toInt := zG_zi hL_S29 rfl
      have f63 := zG_s hI_S29 (0) (400000) (c := 82) (k := 6) (by decide)
      have q64 : (mI S31 82 6).toInt = (mI S29 82 6).toInt := zG_zi hL_S31 rfl
      have f65 := zG_s hI_S31 (0) (400000) (c := 82) (k := 6) (by decide)
      have q66 : (mI S33 82 6).toInt = (mI S31 82 6).toInt := zG_zi hL_S33 rfl
      have f67 := zG_s hI_S33 (0) (400000) (c := 82) (k := 6) (by decide)
      have q68 : (mI S35 82 6).toInt = (mI S33 82 6).toInt := zG_zi hL_S35 rfl
      have f69 := zG_s hI_S35 (0) (400000) (c := 82) (k := 6) (by decide)
      refine sp_15_82  (by omega) (by omega) hI_S35 (show (mI S35 82 6).toInt ≤ 1500 from by omega) (fun S37 hI_S37 => zv_n ⟨zG_T hI_S37, ?_⟩)
      refine sp_6_82  (by omega) (by omega) hI_S37  (fun S39 hI_S39 => zv_n ⟨zG_T hI_S39, ?_⟩)
      have b70 := i_bd v22
      have b71 := i_bd v36
      first | have e72 : (v22 + v36).toInt = v22.toInt + v36.toInt := i_add (by omega) (by omega) | have b73 := i_bd (v22 + v36)
      exact K ((v22 + v36)) _ hI_S39 trivial
    · skip
      have g74 := i_nle h53
      have b75 := i_bd v22
      exact K (v22) _ hI_S23 trivial
theorem g_19_82_0 {X : Nat × (Nat → Int32)} {d w : Nat} {S : ma_S} {Q : Option ma_V ⊕ Nat → ma_S → Prop}  (hd : 5 ≤ d) (hw : 180 ≤ w) (hS : zT S) (h : ma_wp X (d - 1) (w - 21) 5 0 [(0, .inr (.inr (some 82)))] [] S (zi (fun v2 S1 => zT S1 ∧ (ma_wp X (d - 1) (w - 21) 11 0 [(0, .inr (.inr (some 82)))] [] S1 (zi (fun v4 S3 => zT S3 ∧ (Q (.inl (some (.inl (v2 + v4)))) S3)) (fun x S9 => Q (.inr x) S9)))) (fun x S9 => Q (.inr x) S9))) : ma_wp X d w 19 0 [(0, .inr (.inr (some 82)))] [] S Q := by
  refine zw_push hm_19 dX0_cleanAll_0 (v := .inr (.inr (some 82))) rfl ?_
  refine zw_cv hm_19 dX0_cleanAll_1 v_1_55_1 hm_5 [] [] rfl (zT_rt hS s_82 rfl) ⟨by omega, by omega⟩ rfl (zw_mono h (zi_go ?_ ?_))
  · intro v2 S1 hv
    obtain ⟨hS1, h⟩ := hv
    refine zw_sto hm_19 dX0_cleanAll_4 [(1, .inl v2), (0, .inr (.inr (some 82)))] rfl rfl rfl ?_
    refine zw_push hm_19 dX0_cleanAll_5 (v := .inl v2) rfl ?_
    refine zw_push hm_19 dX0_cleanAll_6 (v := .inr (.inr (some 82))) rfl ?_
    refine zw_cv hm_19 dX0_cleanAll_7 v_1_51_1 hm_11 [] [.inl v2] rfl (zT_rt hS1 s_82 rfl) ⟨by omega, by omega⟩ rfl (zw_mono h (zi_go ?_ ?_))
    · intro v4 S3 hv
      obtain ⟨hS3, h⟩ := hv
      refine zw_stk hm_19 dX0_cleanAll_10 (st₉ := [.inl (v2 + v4)]) rfl rfl ?_
      exact zw_iret hm_19 dX0_cleanAll_11 h
    · intro x S9 hx
      exact ⟨by decide, hx⟩
  · intro x S9 hx
    exact ⟨by decide, hx⟩
theorem sp_19_82 {X : Nat × (Nat → Int32)} {d w : Nat} {f : Nat → Nat → Int32} {r : Nat → Nat → Option Nat} {C Z N : Nat} {Q : Option ma_V ⊕ Nat → ma_S → Prop} {S : ma_S}  (hd : 5 ≤ d) (hw : 180 ≤ w) (hI : zJ82 f r C Z N S)  (K : ∀ v S₉, zJ82 f r C Z N S₉ → (True) → Q (.inl (some (.inl v))) S₉) : ma_wp X d w 19 0 [(0, .inr (.inr (some 82)))] [] S Q := by
  refine g_19_82_0  (by omega) (by omega) (zG_T hI) ?_
  refine sp_5_82  (by omega) (by omega) hI  (fun v2 S1 hI_S1 hp_v2 => zi_n ⟨zG_T hI_S1, ?_⟩)
  refine sp_11_82  (by omega) (by omega) hI_S1  (fun v4 S3 hI_S3 hp_v4 => zi_n ⟨zG_T hI_S3, ?_⟩)
  have b1 := i_bd v2
  have b2 := i_bd v4
  first | have e3 : (v2 + v4).toInt = v2.toInt + v4.toInt := i_add (by omega) (by omega) | have b4 := i_bd (v2 + v4)
  exact K ((v2 + v4)) _ hI_S3 trivial
/-! from 94.0m -/
/-! THE REFERENCE, over its ints alone: its runs change nothing else -/
def zst (S : ma_S) (m : Nat → Nat → Int32) : ma_S := (S.1, S.2.1, S.2.2.1, S.2.2.2.1, m, S.2.2.2.2.2.1, S.2.2.2.2.2.2)
theorem zT_zst {S : ma_S} (h : zT S) (m : Nat → Nat → Int32) : zT (zst S m) := h
/-- from here the run of that method of the reference answers, and P holds of the answer and of its ints -/
def zm (X : Nat × (Nat → Int32)) (D W M pc : Nat) (L : ma_L) (m : Nat → Nat → Int32) (P : Option ma_V → (Nat → Nat → Int32) → Prop) : Prop :=
  ∀ (d w : Nat) (S : ma_S) (Q : Option ma_V ⊕ Nat → ma_S → Prop), D ≤ d → W ≤ w → zT S → mI S = m → (∀ v m₉, P v m₉ → Q (.inl v) (zst S m₉)) → ma_wp X d w M pc L [] S Q
def zmi (K : Int32 → (Nat → Nat → Int32) → Prop) : Option ma_V → (Nat → Nat → Int32) → Prop := fun o m => match o with
  | some (.inl v) => K v m
  | _ => False
def zmv (K : (Nat → Nat → Int32) → Prop) : Option ma_V → (Nat → Nat → Int32) → Prop := fun o m => match o with
  | none => K m
  | _ => False
theorem zmi_n {K : Int32 → (Nat → Nat → Int32) → Prop} {v : Int32} {m : Nat → Nat → Int32} (h : K v m) : zmi K (some (.inl v)) m := h
theorem zmv_n {K : (Nat → Nat → Int32) → Prop} {m : Nat → Nat → Int32} (h : K m) : zmv K none m := h
theorem zmi_of {K : Int32 → (Nat → Nat → Int32) → Prop} {o : Option ma_V} {m : Nat → Nat → Int32} (z : zmi K o m) : ∃ v, o = some (.inl v) ∧ K v m := by
  rcases o with _ | v
  · exact z.elim
  · rcases v with v | v
    · exact ⟨v, rfl, z⟩
    · exact z.elim
theorem zmv_of {K : (Nat → Nat → Int32) → Prop} {o : Option ma_V} {m : Nat → Nat → Int32} (z : zmv K o m) : o = none ∧ K m := by
  rcases o with _ | v
  · exact ⟨rfl, z⟩
  · exact z.elim
/-- the cells that may have changed -/
def zov (wr : Nat → Nat → Bool) (m m₉ : Nat → Nat → Int32) : Nat → Nat → Int32 := fun c k => cond (wr c k) (m₉ c k) (m c k)
def zF (wr : Nat → Nat → Bool) (m0 m : Nat → Nat → Int32) : Prop := ∀ c k, wr c k = false → m c k = m0 c k
section ZM1
variable {wr w2 : Nat → Nat → Bool} {m0 m m₉ : Nat → Nat → Int32} {c k : Nat} {x : Int32}
theorem zF_rfl : zF wr m m := fun _ _ _ => rfl
theorem zF_u (h : zF wr m0 m) (hw : wr c k = true) : zF wr m0 (ma_u m c k x) := by
  intro c₉ k₉ z
  show (if c₉ = c ∧ k₉ = k then x else m c₉ k₉) = m0 c₉ k₉
  rw [if_neg (fun q => by rw [q.1, q.2, hw] at z; cases z)]
  exact h c₉ k₉ z
theorem zF_zov (h : zF wr m0 m) (hw : ∀ c k, w2 c k = true → wr c k = true) : zF wr m0 (zov w2 m m₉) := by
  intro c k z
  have : w2 c k = false := by
    cases e : w2 c k with
    | false => rfl
    | true => rw [hw c k e] at z; cases z
  show cond (w2 c k) (m₉ c k) (m c k) = m0 c k
  rw [this]
  exact h c k z
theorem zov_eq (h : zF wr m0 m) : m = zov wr m0 m := by
  funext c k
  show m c k = cond (wr c k) (m c k) (m0 c k)
  cases e : wr c k with
  | true => rfl
  | false => exact h c k e
end ZM1
section ZM2
variable {X : Nat × (Nat → Int32)} {d w M pc : Nat} {L : ma_L} {st r : List ma_V} {S : ma_S} {o nL : Nat} {y : MethodName} {cc : ByteArray} {ret : Option FieldType} {Q : Option ma_V ⊕ Nat → ma_S → Prop}
theorem zw_bas22l (hm : ma_md M = some (o, y, cc, nL, ret)) (hd : decode cc pc = .ok (.bastore, 1)) {c N a : Nat} {j x : Int32} (yv : Int32) (hx : vp_nar .boolean x = yv) (hs : ma_is S c = true) (ht : mH S c = (22, N)) (ha : j.toNatClampNeg = a) (hj : 0 ≤ j ∧ a < N) (K : ma_wp X d w M (pc + 1) L r (ma_put S c a (.inl yv)) Q) : ma_wp X d w M pc L (.inl x :: .inl j :: .inr (.inr (some c)) :: r) S Q := by
  subst hx
  exact zw_bas22 hm hd hs ht ha hj K
end ZM2
theorem i_mulk {x y : Int32} {k : Int} (hk : y.toInt = k) (h1 : -2147483648 ≤ x.toInt * k) (h2 : x.toInt * k ≤ 2147483647) : (x * y).toInt = x.toInt * k := by
  rw [← hk] at h1 h2 ⊢
  exact i_mul h1 h2
theorem i_mulk2 {x y : Int32} {k : Int} (hk : x.toInt = k) (h1 : -2147483648 ≤ k * y.toInt) (h2 : k * y.toInt ≤ 2147483647) : (x * y).toInt = k * y.toInt := by
  rw [← hk] at h1 h2 ⊢
  exact i_mul h1 h2
theorem i_01 {x : Int32} (h : x = 0 ∨ x = 1) : 0 ≤ x.toInt ∧ x.toInt ≤ 1 := by
  rcases h with rfl | rfl <;> decide

