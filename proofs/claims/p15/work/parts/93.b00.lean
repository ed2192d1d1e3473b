/-! collectors, by what they keep (written by wip/tools/gen93b.py) -/
theorem g_264_79_0 {X : Nat × (Nat → Int32)} {d w : Nat} {S : ma_S} {Q : Option ma_V ⊕ Nat → ma_S → Prop}  (hd : 3 ≤ d) (hw : 72 ≤ w) (hS : zT S) (h : ma_wp X (d - 1) (w - 20) 116 0 [(0, .inr (.inr (some 75)))] [] S (zv (fun S1 => zT S1 ∧ (ma_wp X (d - 1) (w - 23) 83 0 [(0, .inr (.inr (some 69))), (1, .inr (.inr (some 75)))] [] S1 (zv (fun S3 => zT S3 ∧ (ma_wp X (d - 1) (w - 24) 86 0 [(0, .inr (.inr (some 69))), (1, .inr (.inr (some 75)))] [] S3 (zi (fun v6 S5 => zT S5 ∧ (Q (.inl (some (.inl v6))) S5)) (fun x S9 => Q (.inr x) S9)))) (fun x S9 => Q (.inr x) S9)))) (fun x S9 => Q (.inr x) S9))) : ma_wp X d w 264 0 [(0, .inr (.inr (some 79)))] [] S Q := by
  refine zw_push hm_264 dX1_removeUnreached_0 (v := .inr (.inr (some 79))) rfl ?_
  refine zw_gf hm_264 dX1_removeUnreached_1 (v := .inr (.inr (some 75))) (zT_is hS s_79) (zT_t hS s_79) rfl f_13_15_8 (zT_f hS r_79_1) ?_
  refine zw_cv hm_264 dX1_removeUnreached_4 v_13_19_10 hm_116 [] [] rfl (zT_rt hS s_75 rfl) ⟨by omega, by omega⟩ rfl (zw_mono h (zv_go ?_ ?_))
  · intro S1 hv
    obtain ⟨hS1, h⟩ := hv
    refine zw_push hm_264 dX1_removeUnreached_7 (v := .inr (.inr (some 79))) rfl ?_
    refine zw_gf hm_264 dX1_removeUnreached_8 (v := .inr (.inr (some 69))) (zT_is hS1 s_79) (zT_t hS1 s_79) rfl f_13_9_8 (zT_f hS1 r_79_0) ?_
    refine zw_push hm_264 dX1_removeUnreached_11 (v := .inr (.inr (some 79))) rfl ?_
    refine zw_gf hm_264 dX1_removeUnreached_12 (v := .inr (.inr (some 75))) (zT_is hS1 s_79) (zT_t hS1 s_79) rfl f_13_15_8 (zT_f hS1 r_79_1) ?_
    refine zw_cv hm_264 dX1_removeUnreached_15 v_13_24_7 hm_83 [.inr (.inr (some 75))] [] rfl (zT_rt hS1 s_69 rfl) ⟨by omega, by omega⟩ rfl (zw_mono h (zv_go ?_ ?_))
    · intro S3 hv
      obtain ⟨hS3, h⟩ := hv
      refine zw_push hm_264 dX1_removeUnreached_18 (v := .inr (.inr (some 79))) rfl ?_
      refine zw_gf hm_264 dX1_removeUnreached_19 (v := .inr (.inr (some 69))) (zT_is hS3 s_79) (zT_t hS3 s_79) rfl f_13_9_8 (zT_f hS3 r_79_0) ?_
      refine zw_push hm_264 dX1_removeUnreached_22 (v := .inr (.inr (some 79))) rfl ?_
      refine zw_gf hm_264 dX1_removeUnreached_23 (v := .inr (.inr (some 75))) (zT_is hS3 s_79) (zT_t hS3 s_79) rfl f_13_15_8 (zT_f hS3 r_79_1) ?_
      refine zw_cv hm_264 dX1_removeUnreached_26 v_13_30_7 hm_86 [.inr (.inr (some 75))] [] rfl (zT_rt hS3 s_69 rfl) ⟨by omega, by omega⟩ rfl (zw_mono h (zi_go ?_ ?_))
      · intro v6 S5 hv
        obtain ⟨hS5, h⟩ := hv
        exact zw_iret hm_264 dX1_removeUnreached_29 h
      · intro x S9 hx
        exact ⟨by decide, hx⟩
    · intro x S9 hx
      exact ⟨by decide, hx⟩
  · intro x S9 hx
    exact ⟨by decide, hx⟩
theorem sp_264_79 {X : Nat × (Nat → Int32)} {d w : Nat} {f : Nat → Nat → Int32} {r : Nat → Nat → Option Nat} {C Z N : Nat} {Q : Option ma_V ⊕ Nat → ma_S → Prop} {S : ma_S}  (hd : 3 ≤ d) (hw : 72 ≤ w) (hI : zI f r C Z N S)  (K : ∀ v S', zI f r C Z N S' → (True) → Q (.inl (some (.inl v))) S') : ma_wp X d w 264 0 [(0, .inr (.inr (some 79)))] [] S Q := by
  refine g_264_79_0  (by omega) (by omega) (zG_T hI) ?_
  refine sp_116_75  (by omega) (by omega) hI  (fun S1 hI_S1 => zv_n ⟨zG_T hI_S1, ?_⟩)
  refine sp_83_69_75  (by omega) (by omega) hI_S1  (fun S3 hI_S3 => zv_n ⟨zG_T hI_S3, ?_⟩)
  refine sp_86_69_75  (by omega) (by omega) hI_S3  (fun v6 S5 hI_S5 hp_v6 => zi_n ⟨zG_T hI_S5, ?_⟩)
  have b1 := i_bd v6
  exact K (v6) _ hI_S5 trivial
theorem g_264_84_0 {X : Nat × (Nat → Int32)} {d w : Nat} {S : ma_S} {Q : Option ma_V ⊕ Nat → ma_S → Prop}  (hd : 3 ≤ d) (hw : 72 ≤ w) (hS : zT S) (h : ma_wp X (d - 1) (w - 20) 116 0 [(0, .inr (.inr (some 75)))] [] S (zv (fun S1 => zT S1 ∧ (ma_wp X (d - 1) (w - 23) 83 0 [(0, .inr (.inr (some 69))), (1, .inr (.inr (some 75)))] [] S1 (zv (fun S3 => zT S3 ∧ (ma_wp X (d - 1) (w - 24) 86 0 [(0, .inr (.inr (some 69))), (1, .inr (.inr (some 75)))] [] S3 (zi (fun v6 S5 => zT S5 ∧ (Q (.inl (some (.inl v6))) S5)) (fun x S9 => Q (.inr x) S9)))) (fun x S9 => Q (.inr x) S9)))) (fun x S9 => Q (.inr x) S9))) : ma_wp X d w 264 0 [(0, .inr (.inr (some 84)))] [] S Q := by
  refine zw_push hm_264 dX1_removeUnreached_0 (v := .inr (.inr (some 84))) rfl ?_
  refine zw_gf hm_264 dX1_removeUnreached_1 (v := .inr (.inr (some 75))) (zT_is hS s_84) (zT_t hS s_84) rfl f_13_15_2 (zT_f hS r_84_4) ?_
  refine zw_cv hm_264 dX1_removeUnreached_4 v_13_19_10 hm_116 [] [] rfl (zT_rt hS s_75 rfl) ⟨by omega, by omega⟩ rfl (zw_mono h (zv_go ?_ ?_))
  · intro S1 hv
    obtain ⟨hS1, h⟩ := hv
    refine zw_push hm_264 dX1_removeUnreached_7 (v := .inr (.inr (some 84))) rfl ?_
    refine zw_gf hm_264 dX1_removeUnreached_8 (v := .inr (.inr (some 69))) (zT_is hS1 s_84) (zT_t hS1 s_84) rfl f_13_9_2 (zT_f hS1 r_84_3) ?_
    refine zw_push hm_264 dX1_removeUnreached_11 (v := .inr (.inr (some 84))) rfl ?_
    refine zw_gf hm_264 dX1_removeUnreached_12 (v := .inr (.inr (some 75))) (zT_is hS1 s_84) (zT_t hS1 s_84) rfl f_13_15_2 (zT_f hS1 r_84_4) ?_
    refine zw_cv hm_264 dX1_removeUnreached_15 v_13_24_7 hm_83 [.inr (.inr (some 75))] [] rfl (zT_rt hS1 s_69 rfl) ⟨by omega, by omega⟩ rfl (zw_mono h (zv_go ?_ ?_))
    · intro S3 hv
      obtain ⟨hS3, h⟩ := hv
      refine zw_push hm_264 dX1_removeUnreached_18 (v := .inr (.inr (some 84))) rfl ?_
      refine zw_gf hm_264 dX1_removeUnreached_19 (v := .inr (.inr (some 69))) (zT_is hS3 s_84) (zT_t hS3 s_84) rfl f_13_9_2 (zT_f hS3 r_84_3) ?_
      refine zw_push hm_264 dX1_removeUnreached_22 (v := .inr (.inr (some 84))) rfl ?_
      refine zw_gf hm_264 dX1_removeUnreached_23 (v := .inr (.inr (some 75))) (zT_is hS3 s_84) (zT_t hS3 s_84) rfl f_13_15_2 (zT_f hS3 r_84_4) ?_
      refine zw_cv hm_264 dX1_removeUnreached_26 v_13_30_7 hm_86 [.inr (.inr (some 75))] [] rfl (zT_rt hS3 s_69 rfl) ⟨by omega, by omega⟩ rfl (zw_mono h (zi_go ?_ ?_))
      · intro v6 S5 hv
        obtain ⟨hS5, h⟩ := hv
        exact zw_iret hm_264 dX1_removeUnreached_29 h
      · intro x S9 hx
        exact ⟨by decide, hx⟩
    · intro x S9 hx
      exact ⟨by decide, hx⟩
  · intro x S9 hx
    exact ⟨by decide, hx⟩
theorem sp_264_84 {X : Nat × (Nat → Int32)} {d w : Nat} {f : Nat → Nat → Int32} {r : Nat → Nat → Option Nat} {C Z N : Nat} {Q : Option ma_V ⊕ Nat → ma_S → Prop} {S : ma_S}  (hd : 3 ≤ d) (hw : 72 ≤ w) (hI : zI f r C Z N S)  (K : ∀ v S', zI f r C Z N S' → (True) → Q (.inl (some (.inl v))) S') : ma_wp X d w 264 0 [(0, .inr (.inr (some 84)))] [] S Q := by
  refine g_264_84_0  (by omega) (by omega) (zG_T hI) ?_
  refine sp_116_75  (by omega) (by omega) hI  (fun S1 hI_S1 => zv_n ⟨zG_T hI_S1, ?_⟩)
  refine sp_83_69_75  (by omega) (by omega) hI_S1  (fun S3 hI_S3 => zv_n ⟨zG_T hI_S3, ?_⟩)
  refine sp_86_69_75  (by omega) (by omega) hI_S3  (fun v6 S5 hI_S5 hp_v6 => zi_n ⟨zG_T hI_S5, ?_⟩)
  have b1 := i_bd v6
  exact K (v6) _ hI_S5 trivial
theorem g_264_80_0 {X : Nat × (Nat → Int32)} {d w : Nat} {S : ma_S} {Q : Option ma_V ⊕ Nat → ma_S → Prop}  (hd : 3 ≤ d) (hw : 72 ≤ w) (hS : zT S) (h : ma_wp X (d - 1) (w - 20) 116 0 [(0, .inr (.inr (some 75)))] [] S (zv (fun S1 => zT S1 ∧ (ma_wp X (d - 1) (w - 23) 83 0 [(0, .inr (.inr (some 69))), (1, .inr (.inr (some 75)))] [] S1 (zv (fun S3 => zT S3 ∧ (ma_wp X (d - 1) (w - 24) 86 0 [(0, .inr (.inr (some 69))), (1, .inr (.inr (some 75)))] [] S3 (zi (fun v6 S5 => zT S5 ∧ (Q (.inl (some (.inl v6))) S5)) (fun x S9 => Q (.inr x) S9)))) (fun x S9 => Q (.inr x) S9)))) (fun x S9 => Q (.inr x) S9))) : ma_wp X d w 264 0 [(0, .inr (.inr (some 80)))] [] S Q := by
  refine zw_push hm_264 dX1_removeUnreached_0 (v := .inr (.inr (some 80))) rfl ?_
  refine zw_gf hm_264 dX1_removeUnreached_1 (v := .inr (.inr (some 75))) (zT_is hS s_80) (zT_t hS s_80) rfl f_13_15_5 (zT_f hS r_80_1) ?_
  refine zw_cv hm_264 dX1_removeUnreached_4 v_13_19_10 hm_116 [] [] rfl (zT_rt hS s_75 rfl) ⟨by omega, by omega⟩ rfl (zw_mono h (zv_go ?_ ?_))
  · intro S1 hv
    obtain ⟨hS1, h⟩ := hv
    refine zw_push hm_264 dX1_removeUnreached_7 (v := .inr (.inr (some 80))) rfl ?_
    refine zw_gf hm_264 dX1_removeUnreached_8 (v := .inr (.inr (some 69))) (zT_is hS1 s_80) (zT_t hS1 s_80) rfl f_13_9_5 (zT_f hS1 r_80_0) ?_
    refine zw_push hm_264 dX1_removeUnreached_11 (v := .inr (.inr (some 80))) rfl ?_
    refine zw_gf hm_264 dX1_removeUnreached_12 (v := .inr (.inr (some 75))) (zT_is hS1 s_80) (zT_t hS1 s_80) rfl f_13_15_5 (zT_f hS1 r_80_1) ?_
    refine zw_cv hm_264 dX1_removeUnreached_15 v_13_24_7 hm_83 [.inr (.inr (some 75))] [] rfl (zT_rt hS1 s_69 rfl) ⟨by omega, by omega⟩ rfl (zw_mono h (zv_go ?_ ?_))
    · intro S3 hv
      obtain ⟨hS3, h⟩ := hv
      refine zw_push hm_264 dX1_removeUnreached_18 (v := .inr (.inr (some 80))) rfl ?_
      refine zw_gf hm_264 dX1_removeUnreached_19 (v := .inr (.inr (some 69))) (zT_is hS3 s_80) (zT_t hS3 s_80) rfl f_13_9_5 (zT_f hS3 r_80_0) ?_
      refine zw_push hm_264 dX1_removeUnreached_22 (v := .inr (.inr (some 80))) rfl ?_
      refine zw_gf hm_264 dX1_removeUnreached_23 (v := .inr (.inr (some 75))) (zT_is hS3 s_80) (zT_t hS3 s_80) rfl f_13_15_5 (zT_f hS3 r_80_1) ?_
      refine zw_cv hm_264 dX1_removeUnreached_26 v_13_30_7 hm_86 [.inr (.inr (some 75))] [] rfl (zT_rt hS3 s_69 rfl) ⟨by omega, by omega⟩ rfl (zw_mono h (zi_go ?_ ?_))
      · intro v6 S5 hv
        obtain ⟨hS5, h⟩ := hv
        exact zw_iret hm_264 dX1_removeUnreached_29 h
      · intro x S9 hx
        exact ⟨by decide, hx⟩
    · intro x S9 hx
      exact ⟨by decide, hx⟩
  · intro x S9 hx
    exact ⟨by decide, hx⟩
theorem sp_264_80 {X : Nat × (Nat → Int32)} {d w : Nat} {f : Nat → Nat → Int32} {r : Nat → Nat → Option Nat} {C Z N : Nat} {Q : Option ma_V ⊕ Nat → ma_S → Prop} {S : ma_S}  (hd : 3 ≤ d) (hw : 72 ≤ w) (hI : zI f r C Z N S)  (K : ∀ v S', zI f r C Z N S' → (True) → Q (.inl (some (.inl v))) S') : ma_wp X d w 264 0 [(0, .inr (.inr (some 80)))] [] S Q := by
  refine g_264_80_0  (by omega) (by omega) (zG_T hI) ?_
  refine sp_116_75  (by omega) (by omega) hI  (fun S1 hI_S1 => zv_n ⟨zG_T hI_S1, ?_⟩)
  refine sp_83_69_75  (by omega) (by omega) hI_S1  (fun S3 hI_S3 => zv_n ⟨zG_T hI_S3, ?_⟩)
  refine sp_86_69_75  (by omega) (by omega) hI_S3  (fun v6 S5 hI_S5 hp_v6 => zi_n ⟨zG_T hI_S5, ?_⟩)
  have b1 := i_bd v6
  exact K (v6) _ hI_S5 trivial
theorem g_264_81_0 {X : Nat × (Nat → Int32)} {d w : Nat} {S : ma_S} {Q : Option ma_V ⊕ Nat → ma_S → Prop}  (hd : 3 ≤ d) (hw : 72 ≤ w) (hS : zT S) (h : ma_wp X (d - 1) (w - 20) 116 0 [(0, .inr (.inr (some 75)))] [] S (zv (fun S1 => zT S1 ∧ (ma_wp X (d - 1) (w - 23) 83 0 [(0, .inr (.inr (some 69))), (1, .inr (.inr (some 75)))] [] S1 (zv (fun S3 => zT S3 ∧ (ma_wp X (d - 1) (w - 24) 86 0 [(0, .inr (.inr (some 69))), (1, .inr (.inr (some 75)))] [] S3 (zi (fun v6 S5 => zT S5 ∧ (Q (.inl (some (.inl v6))) S5)) (fun x S9 => Q (.inr x) S9)))) (fun x S9 => Q (.inr x) S9)))) (fun x S9 => Q (.inr x) S9))) : ma_wp X d w 264 0 [(0, .inr (.inr (some 81)))] [] S Q := by
  refine zw_push hm_264 dX1_removeUnreached_0 (v := .inr (.inr (some 81))) rfl ?_
  refine zw_gf hm_264 dX1_removeUnreached_1 (v := .inr (.inr (some 75))) (zT_is hS s_81) (zT_t hS s_81) rfl f_13_15_3 (zT_f hS r_81_1) ?_
  refine zw_cv hm_264 dX1_removeUnreached_4 v_13_19_10 hm_116 [] [] rfl (zT_rt hS s_75 rfl) ⟨by omega, by omega⟩ rfl (zw_mono h (zv_go ?_ ?_))
  · intro S1 hv
    obtain ⟨hS1, h⟩ := hv
    refine zw_push hm_264 dX1_removeUnreached_7 (v := .inr (.inr (some 81))) rfl ?_
    refine zw_gf hm_264 dX1_removeUnreached_8 (v := .inr (.inr (some 69))) (zT_is hS1 s_81) (zT_t hS1 s_81) rfl f_13_9_3 (zT_f hS1 r_81_0) ?_
    refine zw_push hm_264 dX1_removeUnreached_11 (v := .inr (.inr (some 81))) rfl ?_
    refine zw_gf hm_264 dX1_removeUnreached_12 (v := .inr (.inr (some 75))) (zT_is hS1 s_81) (zT_t hS1 s_81) rfl f_13_15_3 (zT_f hS1 r_81_1) ?_
    refine zw_cv hm_264 dX1_removeUnreached_15 v_13_24_7 hm_83 [.inr (.inr (some 75))] [] rfl (zT_rt hS1 s_69 rfl) ⟨by omega, by omega⟩ rfl (zw_mono h (zv_go ?_ ?_))
    · intro S3 hv
      obtain ⟨hS3, h⟩ := hv
      refine zw_push hm_264 dX1_removeUnreached_18 (v := .inr (.inr (some 81))) rfl ?_
      refine zw_gf hm_264 dX1_removeUnreached_19 (v := .inr (.inr (some 69))) (zT_is hS3 s_81) (zT_t hS3 s_81) rfl f_13_9_3 (zT_f hS3 r_81_0) ?_
      refine zw_push hm_264 dX1_removeUnreached_22 (v := .inr (.inr (some 81))) rfl ?_
      refine zw_gf hm_264 dX1_removeUnreached_23 (v := .inr (.inr (some 75))) (zT_is hS3 s_81) (zT_t hS3 s_81) rfl f_13_15_3 (zT_f hS3 r_81_1) ?_
      refine zw_cv hm_264 dX1_removeUnreached_26 v_13_30_7 hm_86 [.inr (.inr (some 75))] [] rfl (zT_rt hS3 s_69 rfl) ⟨by omega, by omega⟩ rfl (zw_mono h (zi_go ?_ ?_))
      · intro v6 S5 hv
        obtain ⟨hS5, h⟩ := hv
        exact zw_iret hm_264 dX1_removeUnreached_29 h
      · intro x S9 hx
        exact ⟨by decide, hx⟩
    · intro x S9 hx
      exact ⟨by decide, hx⟩
  · intro x S9 hx
    exact ⟨by decide, hx⟩
theorem sp_264_81 {X : Nat × (Nat → Int32)} {d w : Nat} {f : Nat → Nat → Int32} {r : Nat → Nat → Option Nat} {C Z N : Nat} {Q : Option ma_V ⊕ Nat → ma_S → Prop} {S : ma_S}  (hd : 3 ≤ d) (hw : 72 ≤ w) (hI : zI f r C Z N S)  (K : ∀ v S', zI f r C Z N S' → (True) → Q (.inl (some (.inl v))) S') : ma_wp X d w 264 0 [(0, .inr (.inr (some 81)))] [] S Q := by
  refine g_264_81_0  (by omega) (by omega) (zG_T hI) ?_
  refine sp_116_75  (by omega) (by omega) hI  (fun S1 hI_S1 => zv_n ⟨zG_T hI_S1, ?_⟩)
  refine sp_83_69_75  (by omega) (by omega) hI_S1  (fun S3 hI_S3 => zv_n ⟨zG_T hI_S3, ?_⟩)
  refine sp_86_69_75  (by omega) (by omega) hI_S3  (fun v6 S5 hI_S5 hp_v6 => zi_n ⟨zG_T hI_S5, ?_⟩)
  have b1 := i_bd v6
  exact K (v6) _ hI_S5 trivial
theorem g_264_91_0 {X : Nat × (Nat → Int32)} {d w : Nat} {S : ma_S} {Q : Option ma_V ⊕ Nat → ma_S → Prop}  (hd : 3 ≤ d) (hw : 72 ≤ w) (hS : zT S) (h : ma_wp X (d - 1) (w - 20) 116 0 [(0, .inr (.inr (some 75)))] [] S (zv (fun S1 => zT S1 ∧ (ma_wp X (d - 1) (w - 23) 83 0 [(0, .inr (.inr (some 69))), (1, .inr (.inr (some 75)))] [] S1 (zv (fun S3 => zT S3 ∧ (ma_wp X (d - 1) (w - 24) 86 0 [(0, .inr (.inr (some 69))), (1, .inr (.inr (some 75)))] [] S3 (zi (fun v6 S5 => zT S5 ∧ (Q (.inl (some (.inl v6))) S5)) (fun x S9 => Q (.inr x) S9)))) (fun x S9 => Q (.inr x) S9)))) (fun x S9 => Q (.inr x) S9))) : ma_wp X d w 264 0 [(0, .inr (.inr (some 91)))] [] S Q := by
  refine zw_push hm_264 dX1_removeUnreached_0 (v := .inr (.inr (some 91))) rfl ?_
  refine zw_gf hm_264 dX1_removeUnreached_1 (v := .inr (.inr (some 75))) (zT_is hS s_91) (zT_t hS s_91) rfl f_13_15_4 (zT_f hS r_91_1) ?_
  refine zw_cv hm_264 dX1_removeUnreached_4 v_13_19_10 hm_116 [] [] rfl (zT_rt hS s_75 rfl) ⟨by omega, by omega⟩ rfl (zw_mono h (zv_go ?_ ?_))
  · intro S1 hv
    obtain ⟨hS1, h⟩ := hv
    refine zw_push hm_264 dX1_removeUnreached_7 (v := .inr (.inr (some 91))) rfl ?_
    refine zw_gf hm_264 dX1_removeUnreached_8 (v := .inr (.inr (some 69))) (zT_is hS1 s_91) (zT_t hS1 s_91) rfl f_13_9_4 (zT_f hS1 r_91_0) ?_
    refine zw_push hm_264 dX1_removeUnreached_11 (v := .inr (.inr (some 91))) rfl ?_
    refine zw_gf hm_264 dX1_removeUnreached_12 (v := .inr (.inr (some 75))) (zT_is hS1 s_91) (zT_t hS1 s_91) rfl f_13_15_4 (zT_f hS1 r_91_1) ?_
    refine zw_cv hm_264 dX1_removeUnreached_15 v_13_24_7 hm_83 [.inr (.inr (some 75))] [] rfl (zT_rt hS1 s_69 rfl) ⟨by omega, by omega⟩ rfl (zw_mono h (zv_go ?_ ?_))
    · intro S3 hv
      obtain ⟨hS3, h⟩ := hv
      refine zw_push hm_264 dX1_removeUnreached_18 (v := .inr (.inr (some 91))) rfl ?_
      refine zw_gf hm_264 dX1_removeUnreached_19 (v := .inr (.inr (some 69))) (zT_is hS3 s_91) (zT_t hS3 s_91) rfl f_13_9_4 (zT_f hS3 r_91_0) ?_
      refine zw_push hm_264 dX1_removeUnreached_22 (v := .inr (.inr (some 91))) rfl ?_
      refine zw_gf hm_264 dX1_removeUnreached_23 (v := .inr (.inr (some 75))) (zT_is hS3 s_91) (zT_t hS3 s_91) rfl f_13_15_4 (zT_f hS3 r_91_1) ?_
      refine zw_cv hm_264 dX1_removeUnreached_26 v_13_30_7 hm_86 [.inr (.inr (some 75))] [] rfl (zT_rt hS3 s_69 rfl) ⟨by omega, by omega⟩ rfl (zw_mono h (zi_go ?_ ?_))
      · intro v6 S5 hv
        obtain ⟨hS5, h⟩ := hv
        exact zw_iret hm_264 dX1_removeUnreached_29 h
      · intro x S9 hx
        exact ⟨by decide, hx⟩
    · intro x S9 hx
      exact ⟨by decide, hx⟩
  · intro x S9 hx
    exact ⟨by decide, hx⟩
theorem sp_264_91 {X : Nat × (Nat → Int32)} {d w : Nat} {f : Nat → Nat → Int32} {r : Nat → Nat → Option Nat} {C Z N : Nat} {Q : Option ma_V ⊕ Nat → ma_S → Prop} {S : ma_S}  (hd : 3 ≤ d) (hw : 72 ≤ w) (hI : zI f r C Z N S)  (K : ∀ v S', zI f r C Z N S' → (True) → Q (.inl (some (.inl v))) S') : ma_wp X d w 264 0 [(0, .inr (.inr (some 91)))] [] S Q := by
  refine g_264_91_0  (by omega) (by omega) (zG_T hI) ?_
  refine sp_116_75  (by omega) (by omega) hI  (fun S1 hI_S1 => zv_n ⟨zG_T hI_S1, ?_⟩)
  refine sp_83_69_75  (by omega) (by omega) hI_S1  (fun S3 hI_S3 => zv_n ⟨zG_T hI_S3, ?_⟩)
  refine sp_86_69_75  (by omega) (by omega) hI_S3  (fun v6 S5 hI_S5 hp_v6 => zi_n ⟨zG_T hI_S5, ?_⟩)
  have b1 := i_bd v6
  exact K (v6) _ hI_S5 trivial
theorem g_263_80_0 {X : Nat × (Nat → Int32)} {d w : Nat} {S : ma_S} {Q : Option ma_V ⊕ Nat → ma_S → Prop} (n : Int32) (hd : 2 ≤ d) (hw : 92 ≤ w) (hS : zT S) (h : ma_wp X d w 263 4 [(0, .inr (.inr (some 80))), (1, .inl n), (2, .inl (0 : Int32)), (3, .inl (0 : Int32))] [] S Q) : ma_wp X d w 263 0 [(0, .inr (.inr (some 80))), (1, .inl n)] [] S Q := by
  refine zw_push hm_263 dX1_slideDown_0 (v := .inl (0 : Int32)) rfl ?_
  refine zw_sto hm_263 dX1_slideDown_1 [(2, .inl (0 : Int32)), (0, .inr (.inr (some 80))), (1, .inl n)] rfl rfl rfl ?_
  refine zw_push hm_263 dX1_slideDown_2 (v := .inl (0 : Int32)) rfl ?_
  refine zw_sto hm_263 dX1_slideDown_3 [(3, .inl (0 : Int32)), (2, .inl (0 : Int32)), (0, .inr (.inr (some 80))), (1, .inl n)] rfl rfl rfl ?_
  exact zw_sub (ma_nd_of (ks := [0, 1, 2, 3]) rfl (by decide)) (ma_nd_of (ks := [3, 2, 0, 1]) rfl (by decide)) (ma_le_cons rfl (ma_le_cons rfl (ma_le_cons rfl (ma_le_cons rfl (ma_le_nil _))))) h
theorem g_263_80_4 {X : Nat × (Nat → Int32)} {d w : Nat} {S : ma_S} {Q : Option ma_V ⊕ Nat → ma_S → Prop} (l1 : Int32) (l2 : Int32) (l3 : Int32) (hd : 2 ≤ d) (hw : 114 ≤ w) (hS : zT S) (h : if l1 ≤ l3 then (Q (.inl (some (.inl l2))) S) else (if l3 < 0 then (ma_wp X d w 263 4 [(0, .inr (.inr (some 80))), (1, .inl l1), (2, .inl l2), (3, .inl (l3 + (1 : Int32)))] [] S Q) else (if (4500 : Int32) ≤ l3 then (ma_wp X d w 263 4 [(0, .inr (.inr (some 80))), (1, .inl l1), (2, .inl l2), (3, .inl (l3 + (1 : Int32)))] [] S Q) else ((0 ≤ l3 ∧ l3.toNatClampNeg < 4500) ∧ (if (mI S 71 l3.toNatClampNeg) < 0 then (ma_wp X d w 263 4 [(0, .inr (.inr (some 80))), (1, .inl l1), (2, .inl l2), (3, .inl (l3 + (1 : Int32)))] [] S Q) else (if (512 : Int32) ≤ (mI S 71 l3.toNatClampNeg) then (ma_wp X d w 263 4 [(0, .inr (.inr (some 80))), (1, .inl l1), (2, .inl l2), (3, .inl (l3 + (1 : Int32)))] [] S Q) else ((0 ≤ (mI S 71 l3.toNatClampNeg) ∧ (mI S 71 l3.toNatClampNeg).toNatClampNeg < 512) ∧ (((mR S 70 (mI S 71 l3.toNatClampNeg).toNatClampNeg) = none → ma_wp X d w 263 4 [(0, .inr (.inr (some 80))), (1, .inl l1), (2, .inl l2), (3, .inl (l3 + (1 : Int32)))] [] S Q) ∧ (∀ c1, (mR S 70 (mI S 71 l3.toNatClampNeg).toNatClampNeg) = some c1 → (126 ≤ c1 ∧ c1 < mN S) ∧ ((126 ≤ c1 ∧ c1 < mN S) ∧ (if (mI S c1 7) = 0 then (ma_wp X (d - 1) (w - 24) 90 0 [(0, .inr (.inr (some 69))), (1, .inr (.inr (some c1))), (2, .inl l2)] [] S (zv (fun S2 => zT S2 ∧ ((126 ≤ c1 ∧ c1 < mN S2) ∧ ((126 ≤ c1 ∧ c1 < mN S2) ∧ (ma_wp X d w 263 4 [(0, .inr (.inr (some 80))), (1, .inl l1), (2, .inl ((mI S2 c1 4) + (mI S2 c1 2))), (3, .inl (l3 + (mI S c1 2)))] [] S2 Q)))) (fun x S9 => Q (.inr x) S9))) else ((126 ≤ c1 ∧ c1 < mN S) ∧ ((126 ≤ c1 ∧ c1 < mN S) ∧ (ma_wp X d w 263 4 [(0, .inr (.inr (some 80))), (1, .inl l1), (2, .inl ((mI S c1 4) + (mI S c1 2))), (3, .inl (l3 + (mI S c1 2)))] [] S Q)))))))))))))) : ma_wp X d w 263 4 [(0, .inr (.inr (some 80))), (1, .inl l1), (2, .inl l2), (3, .inl l3)] [] S Q := by
  refine zw_push hm_263 dX1_slideDown_4 (v := .inl l3) rfl ?_
  refine zw_push hm_263 dX1_slideDown_5 (v := .inl l1) rfl ?_
  refine zw_if2 hm_263 dX1_slideDown_6 (t := 71) rfl zc2_ge ?_ ?_
  · intro hc
    rw [if_pos hc] at h
    refine zw_push hm_263 dX1_slideDown_71 (v := .inl l2) rfl ?_
    exact zw_iret hm_263 dX1_slideDown_72 h
  · intro hc
    rw [if_neg hc] at h
    refine zw_push hm_263 dX1_slideDown_9 (v := .inr (.inr (some 80))) rfl ?_
    refine zw_gf hm_263 dX1_slideDown_10 (v := .inr (.inr (some 69))) (zT_is hS s_80) (zT_t hS s_80) rfl f_13_9_5 (zT_f hS r_80_0) ?_
    refine zw_push hm_263 dX1_slideDown_13 (v := .inl l3) rfl ?_
    refine zw_cv hm_263 dX1_slideDown_14 v_13_34_7 hm_89 [.inl l3] [] rfl (zT_rt hS s_69 rfl) ⟨by omega, by omega⟩ rfl ?_
    show ma_wp X (d - 1) (w - 22) 89 0 [(0, .inr (.inr (some 69))), (1, .inl l3)] [] S _
    refine zw_push hm_89 dX7_thingFrom_0 (v := .inl l3) rfl ?_
    refine zw_if0 hm_89 dX7_thingFrom_1 (t := 20) rfl zc0_lt ?_ ?_
    · intro hc
      rw [if_pos hc] at h
      refine zw_push hm_89 dX7_thingFrom_20 (v := .inl (-1 : Int32)) rfl ?_
      refine zw_sto hm_89 dX7_thingFrom_21 [(2, .inl (-1 : Int32)), (0, .inr (.inr (some 69))), (1, .inl l3)] rfl rfl rfl ?_
      refine zw_push hm_89 dX7_thingFrom_22 (v := .inl (-1 : Int32)) rfl ?_
      refine zw_if0 hm_89 dX7_thingFrom_23 (t := 42) rfl zc0_lt (fun _ => ?_) (fun hc => absurd (by decide) hc)
      refine zw_push hm_89 dX7_thingFrom_42 (v := .inr (.inr none)) rfl ?_
      refine zw_aret hm_89 dX7_thingFrom_43 ?_
      show ma_wp X d w 263 17 [(0, .inr (.inr (some 80))), (1, .inl l1), (2, .inl l2), (3, .inl l3)] [.inr (.inr none)] S _
      refine zw_sto hm_263 dX1_slideDown_17 [(4, .inr (.inr none)), (0, .inr (.inr (some 80))), (1, .inl l1), (2, .inl l2), (3, .inl l3)] rfl rfl rfl ?_
      refine zw_push hm_263 dX1_slideDown_19 (v := .inr (.inr none)) rfl ?_
      refine zw_ifnonnull hm_263 dX1_slideDown_21 (t := 30) rfl (fun _ => ?_) (fun _ z => by cases z)
      refine zw_sto hm_263 dX1_slideDown_24 [(3, .inl (l3 + (1 : Int32))), (4, .inr (.inr none)), (0, .inr (.inr (some 80))), (1, .inl l1), (2, .inl l2)] rfl rfl rfl ?_
      refine zw_goto hm_263 dX1_slideDown_27 (t := 68) rfl ?_
      refine zw_goto hm_263 dX1_slideDown_68 (t := 4) rfl ?_
      exact zw_sub (ma_nd_of (ks := [0, 1, 2, 3]) rfl (by decide)) (ma_nd_of (ks := [3, 4, 0, 1, 2]) rfl (by decide)) (ma_le_cons rfl (ma_le_cons rfl (ma_le_cons rfl (ma_le_cons rfl (ma_le_nil _))))) h
    · intro hc
      rw [if_neg hc] at h
      refine zw_push hm_89 dX7_thingFrom_4 (v := .inl l3) rfl ?_
      refine zw_push hm_89 dX7_thingFrom_5 (v := .inl (4500 : Int32)) rfl ?_
      refine zw_if2 hm_89 dX7_thingFrom_8 (t := 20) rfl zc2_ge ?_ ?_
      · intro hc
        rw [if_pos hc] at h
        refine zw_push hm_89 dX7_thingFrom_20 (v := .inl (-1 : Int32)) rfl ?_
        refine zw_sto hm_89 dX7_thingFrom_21 [(2, .inl (-1 : Int32)), (0, .inr (.inr (some 69))), (1, .inl l3)] rfl rfl rfl ?_
        refine zw_push hm_89 dX7_thingFrom_22 (v := .inl (-1 : Int32)) rfl ?_
        refine zw_if0 hm_89 dX7_thingFrom_23 (t := 42) rfl zc0_lt (fun _ => ?_) (fun hc => absurd (by decide) hc)
        refine zw_push hm_89 dX7_thingFrom_42 (v := .inr (.inr none)) rfl ?_
        refine zw_aret hm_89 dX7_thingFrom_43 ?_
        show ma_wp X d w 263 17 [(0, .inr (.inr (some 80))), (1, .inl l1), (2, .inl l2), (3, .inl l3)] [.inr (.inr none)] S _
        refine zw_sto hm_263 dX1_slideDown_17 [(4, .inr (.inr none)), (0, .inr (.inr (some 80))), (1, .inl l1), (2, .inl l2), (3, .inl l3)] rfl rfl rfl ?_
        refine zw_push hm_263 dX1_slideDown_19 (v := .inr (.inr none)) rfl ?_
        refine zw_ifnonnull hm_263 dX1_slideDown_21 (t := 30) rfl (fun _ => ?_) (fun _ z => by cases z)
        refine zw_sto hm_263 dX1_slideDown_24 [(3, .inl (l3 + (1 : Int32))), (4, .inr (.inr none)), (0, .inr (.inr (some 80))), (1, .inl l1), (2, .inl l2)] rfl rfl rfl ?_
        refine zw_goto hm_263 dX1_slideDown_27 (t := 68) rfl ?_
        refine zw_goto hm_263 dX1_slideDown_68 (t := 4) rfl ?_
        exact zw_sub (ma_nd_of (ks := [0, 1, 2, 3]) rfl (by decide)) (ma_nd_of (ks := [3, 4, 0, 1, 2]) rfl (by decide)) (ma_le_cons rfl (ma_le_cons rfl (ma_le_cons rfl (ma_le_cons rfl (ma_le_nil _))))) h
      · intro hc
        rw [if_neg hc] at h
        refine zw_push hm_89 dX7_thingFrom_11 (v := .inr (.inr (some 69))) rfl ?_
        refine zw_gf hm_89 dX7_thingFrom_12 (v := .inr (.inr (some 71))) (zT_is hS s_69) (zT_t hS s_69) rfl f_7_17_7 (zT_f hS r_69_1) ?_
        refine zw_push hm_89 dX7_thingFrom_15 (v := .inl l3) rfl ?_
        obtain ⟨hg, h⟩ := h
        refine zw_ia hm_89 dX7_thingFrom_16 (zT_is hS s_71) (zT_h hS s_71) rfl hg ?_
        show ma_wp X (d - 1) (w - 22) 89 17 [(0, .inr (.inr (some 69))), (1, .inl l3)] [.inl (mI S 71 l3.toNatClampNeg)] S _
        refine zw_goto hm_89 dX7_thingFrom_17 (t := 21) rfl ?_
        refine zw_sto hm_89 dX7_thingFrom_21 [(2, .inl (mI S 71 l3.toNatClampNeg)), (0, .inr (.inr (some 69))), (1, .inl l3)] rfl rfl rfl ?_
        refine zw_push hm_89 dX7_thingFrom_22 (v := .inl (mI S 71 l3.toNatClampNeg)) rfl ?_
        refine zw_if0 hm_89 dX7_thingFrom_23 (t := 42) rfl zc0_lt ?_ ?_
        · intro hc
          rw [if_pos hc] at h
          refine zw_push hm_89 dX7_thingFrom_42 (v := .inr (.inr none)) rfl ?_
          refine zw_aret hm_89 dX7_thingFrom_43 ?_
          show ma_wp X d w 263 17 [(0, .inr (.inr (some 80))), (1, .inl l1), (2, .inl l2), (3, .inl l3)] [.inr (.inr none)] S _
          refine zw_sto hm_263 dX1_slideDown_17 [(4, .inr (.inr none)), (0, .inr (.inr (some 80))), (1, .inl l1), (2, .inl l2), (3, .inl l3)] rfl rfl rfl ?_
          refine zw_push hm_263 dX1_slideDown_19 (v := .inr (.inr none)) rfl ?_
          refine zw_ifnonnull hm_263 dX1_slideDown_21 (t := 30) rfl (fun _ => ?_) (fun _ z => by cases z)
          refine zw_sto hm_263 dX1_slideDown_24 [(3, .inl (l3 + (1 : Int32))), (4, .inr (.inr none)), (0, .inr (.inr (some 80))), (1, .inl l1), (2, .inl l2)] rfl rfl rfl ?_
          refine zw_goto hm_263 dX1_slideDown_27 (t := 68) rfl ?_
          refine zw_goto hm_263 dX1_slideDown_68 (t := 4) rfl ?_
          exact zw_sub (ma_nd_of (ks := [0, 1, 2, 3]) rfl (by decide)) (ma_nd_of (ks := [3, 4, 0, 1, 2]) rfl (by decide)) (ma_le_cons rfl (ma_le_cons rfl (ma_le_cons rfl (ma_le_cons rfl (ma_le_nil _))))) h
        · intro hc
          rw [if_neg hc] at h
          refine zw_push hm_89 dX7_thingFrom_26 (v := .inl (mI S 71 l3.toNatClampNeg)) rfl ?_
          refine zw_push hm_89 dX7_thingFrom_27 (v := .inl (512 : Int32)) rfl ?_
          refine zw_if2 hm_89 dX7_thingFrom_30 (t := 42) rfl zc2_ge ?_ ?_
          · intro hc
            rw [if_pos hc] at h
            refine zw_push hm_89 dX7_thingFrom_42 (v := .inr (.inr none)) rfl ?_
            refine zw_aret hm_89 dX7_thingFrom_43 ?_
            show ma_wp X d w 263 17 [(0, .inr (.inr (some 80))), (1, .inl l1), (2, .inl l2), (3, .inl l3)] [.inr (.inr none)] S _
            refine zw_sto hm_263 dX1_slideDown_17 [(4, .inr (.inr none)), (0, .inr (.inr (some 80))), (1, .inl l1), (2, .inl l2), (3, .inl l3)] rfl rfl rfl ?_
            refine zw_push hm_263 dX1_slideDown_19 (v := .inr (.inr none)) rfl ?_
            refine zw_ifnonnull hm_263 dX1_slideDown_21 (t := 30) rfl (fun _ => ?_) (fun _ z => by cases z)
            refine zw_sto hm_263 dX1_slideDown_24 [(3, .inl (l3 + (1 : Int32))), (4, .inr (.inr none)), (0, .inr (.inr (some 80))), (1, .inl l1), (2, .inl l2)] rfl rfl rfl ?_
            refine zw_goto hm_263 dX1_slideDown_27 (t := 68) rfl ?_
            refine zw_goto hm_263 dX1_slideDown_68 (t := 4) rfl ?_
            exact zw_sub (ma_nd_of (ks := [0, 1, 2, 3]) rfl (by decide)) (ma_nd_of (ks := [3, 4, 0, 1, 2]) rfl (by decide)) (ma_le_cons rfl (ma_le_cons rfl (ma_le_cons rfl (ma_le_cons rfl (ma_le_nil _))))) h
          · intro hc
            rw [if_neg hc] at h
            refine zw_push hm_89 dX7_thingFrom_33 (v := .inr (.inr (some 69))) rfl ?_
            refine zw_gf hm_89 dX7_thingFrom_34 (v := .inr (.inr (some 70))) (zT_is hS s_69) (zT_t hS s_69) rfl f_7_11_7 (zT_f hS r_69_0) ?_
            refine zw_push hm_89 dX7_thingFrom_37 (v := .inl (mI S 71 l3.toNatClampNeg)) rfl ?_
            obtain ⟨hg, h⟩ := h
            refine zw_aa hm_89 dX7_thingFrom_38 (zT_is hS s_70) (zT_h hS s_70) rfl rfl hg rfl ?_
            show ma_wp X (d - 1) (w - 22) 89 39 [(2, .inl (mI S 71 l3.toNatClampNeg)), (0, .inr (.inr (some 69))), (1, .inl l3)] [.inr (.inr (mR S 70 (mI S 71 l3.toNatClampNeg).toNatClampNeg))] S _
            refine zw_goto hm_89 dX7_thingFrom_39 (t := 43) rfl ?_
            refine zw_aret hm_89 dX7_thingFrom_43 ?_
            show ma_wp X d w 263 17 [(0, .inr (.inr (some 80))), (1, .inl l1), (2, .inl l2), (3, .inl l3)] [.inr (.inr (mR S 70 (mI S 71 l3.toNatClampNeg).toNatClampNeg))] S _
            refine zw_sto hm_263 dX1_slideDown_17 [(4, .inr (.inr (mR S 70 (mI S 71 l3.toNatClampNeg).toNatClampNeg))), (0, .inr (.inr (some 80))), (1, .inl l1), (2, .inl l2), (3, .inl l3)] rfl rfl rfl ?_
            refine zw_push hm_263 dX1_slideDown_19 (v := .inr (.inr (mR S 70 (mI S 71 l3.toNatClampNeg).toNatClampNeg))) rfl ?_
            refine zw_ifnonnull hm_263 dX1_slideDown_21 (t := 30) rfl ?_ ?_
            · intro hc
              have h := h.1 hc
              (try rw [hc])
              show ma_wp X d w 263 24 [(4, .inr (.inr none)), (0, .inr (.inr (some 80))), (1, .inl l1), (2, .inl l2), (3, .inl l3)] [] S _
              refine zw_sto hm_263 dX1_slideDown_24 [(3, .inl (l3 + (1 : Int32))), (4, .inr (.inr none)), (0, .inr (.inr (some 80))), (1, .inl l1), (2, .inl l2)] rfl rfl rfl ?_
              refine zw_goto hm_263 dX1_slideDown_27 (t := 68) rfl ?_
              refine zw_goto hm_263 dX1_slideDown_68 (t := 4) rfl ?_
              exact zw_sub (ma_nd_of (ks := [0, 1, 2, 3]) rfl (by decide)) (ma_nd_of (ks := [3, 4, 0, 1, 2]) rfl (by decide)) (ma_le_cons rfl (ma_le_cons rfl (ma_le_cons rfl (ma_le_cons rfl (ma_le_nil _))))) h
            · intro c1 hc
              have h := h.2 c1 hc
              (try rw [hc])
              show ma_wp X d w 263 30 [(4, .inr (.inr (some c1))), (0, .inr (.inr (some 80))), (1, .inl l1), (2, .inl l2), (3, .inl l3)] [] S _
              refine zw_push hm_263 dX1_slideDown_30 (v := .inl l3) rfl ?_
              refine zw_push hm_263 dX1_slideDown_31 (v := .inr (.inr (some c1))) rfl ?_
              obtain ⟨hg, h⟩ := h
              refine zw_gf hm_263 dX1_slideDown_33 (v := .inl (mI S c1 2)) (zT_tis hS hg) (zT_tt hS hg) rfl f_13_38_9 rfl ?_
              refine zw_stk hm_263 dX1_slideDown_36 (st' := [.inl (l3 + (mI S c1 2))]) rfl rfl ?_
              refine zw_sto hm_263 dX1_slideDown_37 [(3, .inl (l3 + (mI S c1 2))), (4, .inr (.inr (some c1))), (0, .inr (.inr (some 80))), (1, .inl l1), (2, .inl l2)] rfl rfl rfl ?_
              refine zw_push hm_263 dX1_slideDown_38 (v := .inr (.inr (some c1))) rfl ?_
              obtain ⟨hg, h⟩ := h
              refine zw_gf hm_263 dX1_slideDown_40 (v := .inl (mI S c1 7)) (zT_tis hS hg) (zT_tt hS hg) rfl f_13_44_9 rfl ?_
              refine zw_if0 hm_263 dX1_slideDown_43 (t := 56) rfl zc0_ne ?_ ?_
              · intro hc
                rw [if_neg hc] at h
                refine zw_push hm_263 dX1_slideDown_56 (v := .inr (.inr (some c1))) rfl ?_
                obtain ⟨hg, h⟩ := h
                refine zw_gf hm_263 dX1_slideDown_58 (v := .inl (mI S c1 4)) (zT_tis hS hg) (zT_tt hS hg) rfl f_13_51_9 rfl ?_
                refine zw_push hm_263 dX1_slideDown_61 (v := .inr (.inr (some c1))) rfl ?_
                obtain ⟨hg, h⟩ := h
                refine zw_gf hm_263 dX1_slideDown_63 (v := .inl (mI S c1 2)) (zT_tis hS hg) (zT_tt hS hg) rfl f_13_38_9 rfl ?_
                refine zw_stk hm_263 dX1_slideDown_66 (st' := [.inl ((mI S c1 4) + (mI S c1 2))]) rfl rfl ?_
                refine zw_sto hm_263 dX1_slideDown_67 [(2, .inl ((mI S c1 4) + (mI S c1 2))), (3, .inl (l3 + (mI S c1 2))), (4, .inr (.inr (some c1))), (0, .inr (.inr (some 80))), (1, .inl l1)] rfl rfl rfl ?_
                refine zw_goto hm_263 dX1_slideDown_68 (t := 4) rfl ?_
                exact zw_sub (ma_nd_of (ks := [0, 1, 2, 3]) rfl (by decide)) (ma_nd_of (ks := [2, 3, 4, 0, 1]) rfl (by decide)) (ma_le_cons rfl (ma_le_cons rfl (ma_le_cons rfl (ma_le_cons rfl (ma_le_nil _))))) h
              · intro hc
                rw [if_pos (Classical.not_not.mp hc)] at h
                refine zw_push hm_263 dX1_slideDown_46 (v := .inr (.inr (some 80))) rfl ?_
                refine zw_gf hm_263 dX1_slideDown_47 (v := .inr (.inr (some 69))) (zT_is hS s_80) (zT_t hS s_80) rfl f_13_9_5 (zT_f hS r_80_0) ?_
                refine zw_push hm_263 dX1_slideDown_50 (v := .inr (.inr (some c1))) rfl ?_
                refine zw_push hm_263 dX1_slideDown_52 (v := .inl l2) rfl ?_
                refine zw_cv hm_263 dX1_slideDown_53 v_13_47_7 hm_90 [.inl l2, .inr (.inr (some c1))] [] rfl (zT_rt hS s_69 rfl) ⟨by omega, by omega⟩ rfl (zw_mono h (zv_go ?_ ?_))
                · intro S2 hv
                  obtain ⟨hS2, h⟩ := hv
                  refine zw_push hm_263 dX1_slideDown_56 (v := .inr (.inr (some c1))) rfl ?_
                  obtain ⟨hg, h⟩ := h
                  refine zw_gf hm_263 dX1_slideDown_58 (v := .inl (mI S2 c1 4)) (zT_tis hS2 hg) (zT_tt hS2 hg) rfl f_13_51_9 rfl ?_
                  refine zw_push hm_263 dX1_slideDown_61 (v := .inr (.inr (some c1))) rfl ?_
                  obtain ⟨hg, h⟩ := h
                  refine zw_gf hm_263 dX1_slideDown_63 (v := .inl (mI S2 c1 2)) (zT_tis hS2 hg) (zT_tt hS2 hg) rfl f_13_38_9 rfl ?_
                  refine zw_stk hm_263 dX1_slideDown_66 (st' := [.inl ((mI S2 c1 4) + (mI S2 c1 2))]) rfl rfl ?_
                  refine zw_sto hm_263 dX1_slideDown_67 [(2, .inl ((mI S2 c1 4) + (mI S2 c1 2))), (3, .inl (l3 + (mI S c1 2))), (4, .inr (.inr (some c1))), (0, .inr (.inr (some 80))), (1, .inl l1)] rfl rfl rfl ?_
                  refine zw_goto hm_263 dX1_slideDown_68 (t := 4) rfl ?_
                  exact zw_sub (ma_nd_of (ks := [0, 1, 2, 3]) rfl (by decide)) (ma_nd_of (ks := [2, 3, 4, 0, 1]) rfl (by decide)) (ma_le_cons rfl (ma_le_cons rfl (ma_le_cons rfl (ma_le_cons rfl (ma_le_nil _))))) h
                · intro x S9 hx
                  exact ⟨by decide, hx⟩
theorem lp_263_80_4 {X : Nat × (Nat → Int32)} {d w : Nat} {f : Nat → Nat → Int32} {r : Nat → Nat → Option Nat} {C Z N : Nat} {Q : Option ma_V ⊕ Nat → ma_S → Prop} (hd : 2 ≤ d) (hw : 114 ≤ w) (K : ∀ v S', zI f r C Z N S' → (0 ≤ v.toInt ∧ v.toInt ≤ 300000) → Q (.inl (some (.inl v))) S') : ∀ (n : Nat) (S : ma_S) (l1 : Int32) (l2 : Int32) (l3 : Int32), (l1.toInt - l3.toInt).toNat = n → zI f r C Z N S → (0 ≤ l2.toInt) → (l2.toInt ≤ 300000) → (l1.toInt ≤ 1500) → (0 ≤ l3.toInt) → ma_wp X d w 263 4 [(0, .inr (.inr (some 80))), (1, .inl l1), (2, .inl l2), (3, .inl l3)] [] S Q := by
  intro n
  induction n using Nat.strongRecOn with
  | _ n IH =>
    intro S l1 l2 l3 hmu hI  hi0 hi1 hi2 hi3
    refine g_263_80_4 l1 l2 l3 (by omega) (by omega) (zG_T hI) ?_
    have b1 := i_bd l1
    have b2 := i_bd l3
    refine zd (fun h3 => ?_) (fun h3 => ?_)
    · skip
      have g4 := i_le h3
      have b5 := i_bd l2
      exact K (l2) _ hI (by omega)
    · skip
      have g6 := i_nle h3
      have li7 : (0 : Int32).toInt = 0 := rfl
      refine zd (fun h8 => ?_) (fun h8 => ?_)
      · skip
        have g9 := i_lt h8
        have b10 := i_bd l2
        first | have e11 : (l3 + (1 : Int32)).toInt = l3.toInt + (1) := i_addk rfl (by omega) (by omega) | have b12 := i_bd (l3 + (1 : Int32))
        exact IH _ (by omega) _ (l1) (l2) ((l3 + (1 : Int32))) rfl hI (by omega) (by omega) (by omega) (by omega)
      · skip
        have g13 := i_nlt h8
        have li14 : (4500 : Int32).toInt = 4500 := rfl
        refine zd (fun h15 => ?_) (fun h15 => ?_)
        · skip
          have g16 := i_le h15
          have b17 := i_bd l2
          first | have e18 : (l3 + (1 : Int32)).toInt = l3.toInt + (1) := i_addk rfl (by omega) (by omega) | have b19 := i_bd (l3 + (1 : Int32))
          exact IH _ (by omega) _ (l1) (l2) ((l3 + (1 : Int32))) rfl hI (by omega) (by omega) (by omega) (by omega)
        · skip
          have g20 := i_nle h15
          refine ⟨i_ix (by omega) (by omega), ?_⟩
          have b21 := i_bd (mI S 71 l3.toNatClampNeg)
          refine zd (fun h22 => ?_) (fun h22 => ?_)
          · skip
            have g23 := i_lt h22
            have b24 := i_bd l2
            first | have e25 : (l3 + (1 : Int32)).toInt = l3.toInt + (1) := i_addk rfl (by omega) (by omega) | have b26 := i_bd (l3 + (1 : Int32))
            exact IH _ (by omega) _ (l1) (l2) ((l3 + (1 : Int32))) rfl hI (by omega) (by omega) (by omega) (by omega)
          · skip
            have g27 := i_nlt h22
            have li28 : (512 : Int32).toInt = 512 := rfl
            refine zd (fun h29 => ?_) (fun h29 => ?_)
            · skip
              have g30 := i_le h29
              have b31 := i_bd l2
              first | have e32 : (l3 + (1 : Int32)).toInt = l3.toInt + (1) := i_addk rfl (by omega) (by omega) | have b33 := i_bd (l3 + (1 : Int32))
              exact IH _ (by omega) _ (l1) (l2) ((l3 + (1 : Int32))) rfl hI (by omega) (by omega) (by omega) (by omega)
            · skip
              have g34 := i_nle h29
              refine ⟨i_ix (by omega) (by omega), ?_⟩
              refine ⟨fun _ => ?_, fun c1 hc => ?_⟩
              · skip
                have b35 := i_bd l2
                first | have e36 : (l3 + (1 : Int32)).toInt = l3.toInt + (1) := i_addk rfl (by omega) (by omega) | have b37 := i_bd (l3 + (1 : Int32))
                exact IH _ (by omega) _ (l1) (l2) ((l3 + (1 : Int32))) rfl hI (by omega) (by omega) (by omega) (by omega)
              · skip
                have th_c1 := (fun _ z => zG_70 hI (c := 70) (by decide) z) c1 hc
                refine ⟨zG_n hI th_c1, ?_⟩
                refine ⟨zG_n hI th_c1, ?_⟩
                have b38 := i_bd (mI S c1 7)
                refine zd (fun h39 => ?_) (fun h39 => ?_)
                · skip
                  have g40 := i_eq h39
                  have b41 := i_bd l2
                  refine sp_90_69 c1 (l2) (by omega) (by omega) hI th_c1 (by omega) (fun S2 hI_S2 => zv_n ⟨zG_T hI_S2, ?_⟩)
                  refine ⟨zG_n hI_S2 th_c1, ?_⟩
                  refine ⟨zG_n hI_S2 th_c1, ?_⟩
                  have f42 := zG_th hI_S2 th_c1
                  have f43 := zG_th hI_S2 th_c1
                  first | have e44 : ((mI S2 c1 4) + (mI S2 c1 2)).toInt = (mI S2 c1 4).toInt + (mI S2 c1 2).toInt := i_add (by omega) (by omega) | have b45 := i_bd ((mI S2 c1 4) + (mI S2 c1 2))
                  have f46 := zG_th hI th_c1
                  first | have e47 : (l3 + (mI S c1 2)).toInt = l3.toInt + (mI S c1 2).toInt := i_add (by omega) (by omega) | have b48 := i_bd (l3 + (mI S c1 2))
                  exact IH _ (by omega) _ (l1) (((mI S2 c1 4) + (mI S2 c1 2))) ((l3 + (mI S c1 2))) rfl hI_S2 (by omega) (by omega) (by omega) (by omega)
                · skip
                  have g49 := i_ne h39
                  refine ⟨zG_n hI th_c1, ?_⟩
                  refine ⟨zG_n hI th_c1, ?_⟩
                  have f50 := zG_th hI th_c1
                  have f51 := zG_th hI th_c1
                  first | have e52 : ((mI S c1 4) + (mI S c1 2)).toInt = (mI S c1 4).toInt + (mI S c1 2).toInt := i_add (by omega) (by omega) | have b53 := i_bd ((mI S c1 4) + (mI S c1 2))
                  first | have e54 : (l3 + (mI S c1 2)).toInt = l3.toInt + (mI S c1 2).toInt := i_add (by omega) (by omega) | have b55 := i_bd (l3 + (mI S c1 2))
                  exact IH _ (by omega) _ (l1) (((mI S c1 4) + (mI S c1 2))) ((l3 + (mI S c1 2))) rfl hI (by omega) (by omega) (by omega) (by omega)
theorem sp_263_80 {X : Nat × (Nat → Int32)} {d w : Nat} {f : Nat → Nat → Int32} {r : Nat → Nat → Option Nat} {C Z N : Nat} {Q : Option ma_V ⊕ Nat → ma_S → Prop} {S : ma_S} (n : Int32) (hd : 2 ≤ d) (hw : 114 ≤ w) (hI : zI f r C Z N S) (hpre0 : n.toInt ≤ 1500) (K : ∀ v S', zI f r C Z N S' → (0 ≤ v.toInt ∧ v.toInt ≤ 300000) → Q (.inl (some (.inl v))) S') : ma_wp X d w 263 0 [(0, .inr (.inr (some 80))), (1, .inl n)] [] S Q := by
  refine g_263_80_0 n (by omega) (by omega) (zG_T hI) ?_
  have b1 := i_bd n
  have li2 : (0 : Int32).toInt = 0 := rfl
  exact lp_263_80_4 (by omega) (by omega) K _ _ (n) ((0 : Int32)) ((0 : Int32)) rfl hI (by omega) (by omega) (by omega) (by omega)
theorem g_263_82_0 {X : Nat × (Nat → Int32)} {d w : Nat} {S : ma_S} {Q : Option ma_V ⊕ Nat → ma_S → Prop} (n : Int32) (hd : 2 ≤ d) (hw : 92 ≤ w) (hS : zT S) (h : ma_wp X d w 263 4 [(0, .inr (.inr (some 82))), (1, .inl n), (2, .inl (0 : Int32)), (3, .inl (0 : Int32))] [] S Q) : ma_wp X d w 263 0 [(0, .inr (.inr (some 82))), (1, .inl n)] [] S Q := by
  refine zw_push hm_263 dX1_slideDown_0 (v := .inl (0 : Int32)) rfl ?_
  refine zw_sto hm_263 dX1_slideDown_1 [(2, .inl (0 : Int32)), (0, .inr (.inr (some 82))), (1, .inl n)] rfl rfl rfl ?_
  refine zw_push hm_263 dX1_slideDown_2 (v := .inl (0 : Int32)) rfl ?_
  refine zw_sto hm_263 dX1_slideDown_3 [(3, .inl (0 : Int32)), (2, .inl (0 : Int32)), (0, .inr (.inr (some 82))), (1, .inl n)] rfl rfl rfl ?_
  exact zw_sub (ma_nd_of (ks := [0, 1, 2, 3]) rfl (by decide)) (ma_nd_of (ks := [3, 2, 0, 1]) rfl (by decide)) (ma_le_cons rfl (ma_le_cons rfl (ma_le_cons rfl (ma_le_cons rfl (ma_le_nil _))))) h
theorem g_263_82_4 {X : Nat × (Nat → Int32)} {d w : Nat} {S : ma_S} {Q : Option ma_V ⊕ Nat → ma_S → Prop} (l1 : Int32) (l2 : Int32) (l3 : Int32) (hd : 2 ≤ d) (hw : 114 ≤ w) (hS : zT S) (h : if l1 ≤ l3 then (Q (.inl (some (.inl l2))) S) else (if l3 < 0 then (ma_wp X d w 263 4 [(0, .inr (.inr (some 82))), (1, .inl l1), (2, .inl l2), (3, .inl (l3 + (1 : Int32)))] [] S Q) else (if (4500 : Int32) ≤ l3 then (ma_wp X d w 263 4 [(0, .inr (.inr (some 82))), (1, .inl l1), (2, .inl l2), (3, .inl (l3 + (1 : Int32)))] [] S Q) else ((0 ≤ l3 ∧ l3.toNatClampNeg < 4500) ∧ (if (mI S 71 l3.toNatClampNeg) < 0 then (ma_wp X d w 263 4 [(0, .inr (.inr (some 82))), (1, .inl l1), (2, .inl l2), (3, .inl (l3 + (1 : Int32)))] [] S Q) else (if (512 : Int32) ≤ (mI S 71 l3.toNatClampNeg) then (ma_wp X d w 263 4 [(0, .inr (.inr (some 82))), (1, .inl l1), (2, .inl l2), (3, .inl (l3 + (1 : Int32)))] [] S Q) else ((0 ≤ (mI S 71 l3.toNatClampNeg) ∧ (mI S 71 l3.toNatClampNeg).toNatClampNeg < 512) ∧ (((mR S 70 (mI S 71 l3.toNatClampNeg).toNatClampNeg) = none → ma_wp X d w 263 4 [(0, .inr (.inr (some 82))), (1, .inl l1), (2, .inl l2), (3, .inl (l3 + (1 : Int32)))] [] S Q) ∧ (∀ c1, (mR S 70 (mI S 71 l3.toNatClampNeg).toNatClampNeg) = some c1 → (126 ≤ c1 ∧ c1 < mN S) ∧ ((126 ≤ c1 ∧ c1 < mN S) ∧ (if (mI S c1 7) = 0 then (ma_wp X (d - 1) (w - 24) 90 0 [(0, .inr (.inr (some 69))), (1, .inr (.inr (some c1))), (2, .inl l2)] [] S (zv (fun S2 => zT S2 ∧ ((126 ≤ c1 ∧ c1 < mN S2) ∧ ((126 ≤ c1 ∧ c1 < mN S2) ∧ (ma_wp X d w 263 4 [(0, .inr (.inr (some 82))), (1, .inl l1), (2, .inl ((mI S2 c1 4) + (mI S2 c1 2))), (3, .inl (l3 + (mI S c1 2)))] [] S2 Q)))) (fun x S9 => Q (.inr x) S9))) else ((126 ≤ c1 ∧ c1 < mN S) ∧ ((126 ≤ c1 ∧ c1 < mN S) ∧ (ma_wp X d w 263 4 [(0, .inr (.inr (some 82))), (1, .inl l1), (2, .inl ((mI S c1 4) + (mI S c1 2))), (3, .inl (l3 + (mI S c1 2)))] [] S Q)))))))))))))) : ma_wp X d w 263 4 [(0, .inr (.inr (some 82))), (1, .inl l1), (2, .inl l2), (3, .inl l3)] [] S Q := by
  refine zw_push hm_263 dX1_slideDown_4 (v := .inl l3) rfl ?_
  refine zw_push hm_263 dX1_slideDown_5 (v := .inl l1) rfl ?_
  refine zw_if2 hm_263 dX1_slideDown_6 (t := 71) rfl zc2_ge ?_ ?_
  · intro hc
    rw [if_pos hc] at h
    refine zw_push hm_263 dX1_slideDown_71 (v := .inl l2) rfl ?_
    exact zw_iret hm_263 dX1_slideDown_72 h
  · intro hc
    rw [if_neg hc] at h
    refine zw_push hm_263 dX1_slideDown_9 (v := .inr (.inr (some 82))) rfl ?_
    refine zw_gf hm_263 dX1_slideDown_10 (v := .inr (.inr (some 69))) (zT_is hS s_82) (zT_t hS s_82) rfl f_13_9_1 (zT_f hS r_82_0) ?_
    refine zw_push hm_263 dX1_slideDown_13 (v := .inl l3) rfl ?_
    refine zw_cv hm_263 dX1_slideDown_14 v_13_34_7 hm_89 [.inl l3] [] rfl (zT_rt hS s_69 rfl) ⟨by omega, by omega⟩ rfl ?_
    show ma_wp X (d - 1) (w - 22) 89 0 [(0, .inr (.inr (some 69))), (1, .inl l3)] [] S _
    refine zw_push hm_89 dX7_thingFrom_0 (v := .inl l3) rfl ?_
    refine zw_if0 hm_89 dX7_thingFrom_1 (t := 20) rfl zc0_lt ?_ ?_
    · intro hc
      rw [if_pos hc] at h
      refine zw_push hm_89 dX7_thingFrom_20 (v := .inl (-1 : Int32)) rfl ?_
      refine zw_sto hm_89 dX7_thingFrom_21 [(2, .inl (-1 : Int32)), (0, .inr (.inr (some 69))), (1, .inl l3)] rfl rfl rfl ?_
      refine zw_push hm_89 dX7_thingFrom_22 (v := .inl (-1 : Int32)) rfl ?_
      refine zw_if0 hm_89 dX7_thingFrom_23 (t := 42) rfl zc0_lt (fun _ => ?_) (fun hc => absurd (by decide) hc)
      refine zw_push hm_89 dX7_thingFrom_42 (v := .inr (.inr none)) rfl ?_
      refine zw_aret hm_89 dX7_thingFrom_43 ?_
      show ma_wp X d w 263 17 [(0, .inr (.inr (some 82))), (1, .inl l1), (2, .inl l2), (3, .inl l3)] [.inr (.inr none)] S _
      refine zw_sto hm_263 dX1_slideDown_17 [(4, .inr (.inr none)), (0, .inr (.inr (some 82))), (1, .inl l1), (2, .inl l2), (3, .inl l3)] rfl rfl rfl ?_
      refine zw_push hm_263 dX1_slideDown_19 (v := .inr (.inr none)) rfl ?_
      refine zw_ifnonnull hm_263 dX1_slideDown_21 (t := 30) rfl (fun _ => ?_) (fun _ z => by cases z)
      refine zw_sto hm_263 dX1_slideDown_24 [(3, .inl (l3 + (1 : Int32))), (4, .inr (.inr none)), (0, .inr (.inr (some 82))), (1, .inl l1), (2, .inl l2)] rfl rfl rfl ?_
      refine zw_goto hm_263 dX1_slideDown_27 (t := 68) rfl ?_
      refine zw_goto hm_263 dX1_slideDown_68 (t := 4) rfl ?_
      exact zw_sub (ma_nd_of (ks := [0, 1, 2, 3]) rfl (by decide)) (ma_nd_of (ks := [3, 4, 0, 1, 2]) rfl (by decide)) (ma_le_cons rfl (ma_le_cons rfl (ma_le_cons rfl (ma_le_cons rfl (ma_le_nil _))))) h
    · intro hc
      rw [if_neg hc] at h
      refine zw_push hm_89 dX7_thingFrom_4 (v := .inl l3) rfl ?_
      refine zw_push hm_89 dX7_thingFrom_5 (v := .inl (4500 : Int32)) rfl ?_
      refine zw_if2 hm_89 dX7_thingFrom_8 (t := 20) rfl zc2_ge ?_ ?_
      · intro hc
        rw [if_pos hc] at h
        refine zw_push hm_89 dX7_thingFrom_20 (v := .inl (-1 : Int32)) rfl ?_
        refine zw_sto hm_89 dX7_thingFrom_21 [(2, .inl (-1 : Int32)), (0, .inr (.inr (some 69))), (1, .inl l3)] rfl rfl rfl ?_
        refine zw_push hm_89 dX7_thingFrom_22 (v := .inl (-1 : Int32)) rfl ?_
        refine zw_if0 hm_89 dX7_thingFrom_23 (t := 42) rfl zc0_lt (fun _ => ?_) (fun hc => absurd (by decide) hc)
        refine zw_push hm_89 dX7_thingFrom_42 (v := .inr (.inr none)) rfl ?_
        refine zw_aret hm_89 dX7_thingFrom_43 ?_
        show ma_wp X d w 263 17 [(0, .inr (.inr (some 82))), (1, .inl l1), (2, .inl l2), (3, .inl l3)] [.inr (.inr none)] S _
        refine zw_sto hm_263 dX1_slideDown_17 [(4, .inr (.inr none)), (0, .inr (.inr (some 82))), (1, .inl l1), (2, .inl l2), (3, .inl l3)] rfl rfl rfl ?_
        refine zw_push hm_263 dX1_slideDown_19 (v := .inr (.inr none)) rfl ?_
        refine zw_ifnonnull hm_263 dX1_slideDown_21 (t := 30) rfl (fun _ => ?_) (fun _ z => by cases z)
        refine zw_sto hm_263 dX1_slideDown_24 [(3, .inl (l3 + (1 : Int32))), (4, .inr (.inr none)), (0, .inr (.inr (some 82))), (1, .inl l1), (2, .inl l2)] rfl rfl rfl ?_
        refine zw_goto hm_263 dX1_slideDown_27 (t := 68) rfl ?_
        refine zw_goto hm_263 dX1_slideDown_68 (t := 4) rfl ?_
        exact zw_sub (ma_nd_of (ks := [0, 1, 2, 3]) rfl (by decide)) (ma_nd_of (ks := [3, 4, 0, 1, 2]) rfl (by decide)) (ma_le_cons rfl (ma_le_cons rfl (ma_le_cons rfl (ma_le_cons rfl (ma_le_nil _))))) h
      · intro hc
        rw [if_neg hc] at h
        refine zw_push hm_89 dX7_thingFrom_11 (v := .inr (.inr (some 69))) rfl ?_
        refine zw_gf hm_89 dX7_thingFrom_12 (v := .inr (.inr (some 71))) (zT_is hS s_69) (zT_t hS s_69) rfl f_7_17_7 (zT_f hS r_69_1) ?_
        refine zw_push hm_89 dX7_thingFrom_15 (v := .inl l3) rfl ?_
        obtain ⟨hg, h⟩ := h
        refine zw_ia hm_89 dX7_thingFrom_16 (zT_is hS s_71) (zT_h hS s_71) rfl hg ?_
        show ma_wp X (d - 1) (w - 22) 89 17 [(0, .inr (.inr (some 69))), (1, .inl l3)] [.inl (mI S 71 l3.toNatClampNeg)] S _
        refine zw_goto hm_89 dX7_thingFrom_17 (t := 21) rfl ?_
        refine zw_sto hm_89 dX7_thingFrom_21 [(2, .inl (mI S 71 l3.toNatClampNeg)), (0, .inr (.inr (some 69))), (1, .inl l3)] rfl rfl rfl ?_
        refine zw_push hm_89 dX7_thingFrom_22 (v := .inl (mI S 71 l3.toNatClampNeg)) rfl ?_
        refine zw_if0 hm_89 dX7_thingFrom_23 (t := 42) rfl zc0_lt ?_ ?_
        · intro hc
          rw [if_pos hc] at h
          refine zw_push hm_89 dX7_thingFrom_42 (v := .inr (.inr none)) rfl ?_
          refine zw_aret hm_89 dX7_thingFrom_43 ?_
          show ma_wp X d w 263 17 [(0, .inr (.inr (some 82))), (1, .inl l1), (2, .inl l2), (3, .inl l3)] [.inr (.inr none)] S _
          refine zw_sto hm_263 dX1_slideDown_17 [(4, .inr (.inr none)), (0, .inr (.inr (some 82))), (1, .inl l1), (2, .inl l2), (3, .inl l3)] rfl rfl rfl ?_
          refine zw_push hm_263 dX1_slideDown_19 (v := .inr (.inr none)) rfl ?_
          refine zw_ifnonnull hm_263 dX1_slideDown_21 (t := 30) rfl (fun _ => ?_) (fun _ z => by cases z)
          refine zw_sto hm_263 dX1_slideDown_24 [(3, .inl (l3 + (1 : Int32))), (4, .inr (.inr none)), (0, .inr (.inr (some 82))), (1, .inl l1), (2, .inl l2)] rfl rfl rfl ?_
          refine zw_goto hm_263 dX1_slideDown_27 (t := 68) rfl ?_
          refine zw_goto hm_263 dX1_slideDown_68 (t := 4) rfl ?_
          exact zw_sub (ma_nd_of (ks := [0, 1, 2, 3]) rfl (by decide)) (ma_nd_of (ks := [3, 4, 0, 1, 2]) rfl (by decide)) (ma_le_cons rfl (ma_le_cons rfl (ma_le_cons rfl (ma_le_cons rfl (ma_le_nil _))))) h
        · intro hc
          rw [if_neg hc] at h
          refine zw_push hm_89 dX7_thingFrom_26 (v := .inl (mI S 71 l3.toNatClampNeg)) rfl ?_
          refine zw_push hm_89 dX7_thingFrom_27 (v := .inl (512 : Int32)) rfl ?_
          refine zw_if2 hm_89 dX7_thingFrom_30 (t := 42) rfl zc2_ge ?_ ?_
          · intro hc
            rw [if_pos hc] at h
            refine zw_push hm_89 dX7_thingFrom_42 (v := .inr (.inr none)) rfl ?_
            refine zw_aret hm_89 dX7_thingFrom_43 ?_
            show ma_wp X d w 263 17 [(0, .inr (.inr (some 82))), (1, .inl l1), (2, .inl l2), (3, .inl l3)] [.inr (.inr none)] S _
            refine zw_sto hm_263 dX1_slideDown_17 [(4, .inr (.inr none)), (0, .inr (.inr (some 82))), (1, .inl l1), (2, .inl l2), (3, .inl l3)] rfl rfl rfl ?_
            refine zw_push hm_263 dX1_slideDown_19 (v := .inr (.inr none)) rfl ?_
            refine zw_ifnonnull hm_263 dX1_slideDown_21 (t := 30) rfl (fun _ => ?_) (fun _ z => by cases z)
            refine zw_sto hm_263 dX1_slideDown_24 [(3, .inl (l3 + (1 : Int32))), (4, .inr (.inr none)), (0, .inr (.inr (some 82))), (1, .inl l1), (2, .inl l2)] rfl rfl rfl ?_
            refine zw_goto hm_263 dX1_slideDown_27 (t := 68) rfl ?_
            refine zw_goto hm_263 dX1_slideDown_68 (t := 4) rfl ?_
            exact zw_sub (ma_nd_of (ks := [0, 1, 2, 3]) rfl (by decide)) (ma_nd_of (ks := [3, 4, 0, 1, 2]) rfl (by decide)) (ma_le_cons rfl (ma_le_cons rfl (ma_le_cons rfl (ma_le_cons rfl (ma_le_nil _))))) h
          · intro hc
            rw [if_neg hc] at h
            refine zw_push hm_89 dX7_thingFrom_33 (v := .inr (.inr (some 69))) rfl ?_
            refine zw_gf hm_89 dX7_thingFrom_34 (v := .inr (.inr (some 70))) (zT_is hS s_69) (zT_t hS s_69) rfl f_7_11_7 (zT_f hS r_69_0) ?_
            refine zw_push hm_89 dX7_thingFrom_37 (v := .inl (mI S 71 l3.toNatClampNeg)) rfl ?_
            obtain ⟨hg, h⟩ := h
            refine zw_aa hm_89 dX7_thingFrom_38 (zT_is hS s_70) (zT_h hS s_70) rfl rfl hg rfl ?_
            show ma_wp X (d - 1) (w - 22) 89 39 [(2, .inl (mI S 71 l3.toNatClampNeg)), (0, .inr (.inr (some 69))), (1, .inl l3)] [.inr (.inr (mR S 70 (mI S 71 l3.toNatClampNeg).toNatClampNeg))] S _
            refine zw_goto hm_89 dX7_thingFrom_39 (t := 43) rfl ?_
            refine zw_aret hm_89 dX7_thingFrom_43 ?_
            show ma_wp X d w 263 17 [(0, .inr (.inr (some 82))), (1, .inl l1), (2, .inl l2), (3, .inl l3)] [.inr (.inr (mR S 70 (mI S 71 l3.toNatClampNeg).toNatClampNeg))] S _
            refine zw_sto hm_263 dX1_slideDown_17 [(4, .inr (.inr (mR S 70 (mI S 71 l3.toNatClampNeg).toNatClampNeg))), (0, .inr (.inr (some 82))), (1, .inl l1), (2, .inl l2), (3, .inl l3)] rfl rfl rfl ?_
            refine zw_push hm_263 dX1_slideDown_19 (v := .inr (.inr (mR S 70 (mI S 71 l3.toNatClampNeg).toNatClampNeg))) rfl ?_
            refine zw_ifnonnull hm_263 dX1_slideDown_21 (t := 30) rfl ?_ ?_
            · intro hc
              have h := h.1 hc
              (try rw [hc])
              show ma_wp X d w 263 24 [(4, .inr (.inr none)), (0, .inr (.inr (some 82))), (1, .inl l1), (2, .inl l2), (3, .inl l3)] [] S _
              refine zw_sto hm_263 dX1_slideDown_24 [(3, .inl (l3 + (1 : Int32))), (4, .inr (.inr none)), (0, .inr (.inr (some 82))), (1, .inl l1), (2, .inl l2)] rfl rfl rfl ?_
              refine zw_goto hm_263 dX1_slideDown_27 (t := 68) rfl ?_
              refine zw_goto hm_263 dX1_slideDown_68 (t := 4) rfl ?_
              exact zw_sub (ma_nd_of (ks := [0, 1, 2, 3]) rfl (by decide)) (ma_nd_of (ks := [3, 4, 0, 1, 2]) rfl (by decide)) (ma_le_cons rfl (ma_le_cons rfl (ma_le_cons rfl (ma_le_cons rfl (ma_le_nil _))))) h
            · intro c1 hc
              have h := h.2 c1 hc
              (try rw [hc])
              show ma_wp X d w 263 30 [(4, .inr (.inr (some c1))), (0, .inr (.inr (some 82))), (1, .inl l1), (2, .inl l2), (3, .inl l3)] [] S _
              refine zw_push hm_263 dX1_slideDown_30 (v := .inl l3) rfl ?_
              refine zw_push hm_263 dX1_slideDown_31 (v := .inr (.inr (some c1))) rfl ?_
              obtain ⟨hg, h⟩ := h
              refine zw_gf hm_263 dX1_slideDown_33 (v := .inl (mI S c1 2)) (zT_tis hS hg) (zT_tt hS hg) rfl f_13_38_9 rfl ?_
              refine zw_stk hm_263 dX1_slideDown_36 (st' := [.inl (l3 + (mI S c1 2))]) rfl rfl ?_
              refine zw_sto hm_263 dX1_slideDown_37 [(3, .inl (l3 + (mI S c1 2))), (4, .inr (.inr (some c1))), (0, .inr (.inr (some 82))), (1, .inl l1), (2, .inl l2)] rfl rfl rfl ?_
              refine zw_push hm_263 dX1_slideDown_38 (v := .inr (.inr (some c1))) rfl ?_
              obtain ⟨hg, h⟩ := h
              refine zw_gf hm_263 dX1_slideDown_40 (v := .inl (mI S c1 7)) (zT_tis hS hg) (zT_tt hS hg) rfl f_13_44_9 rfl ?_
              refine zw_if0 hm_263 dX1_slideDown_43 (t := 56) rfl zc0_ne ?_ ?_
              · intro hc
                rw [if_neg hc] at h
                refine zw_push hm_263 dX1_slideDown_56 (v := .inr (.inr (some c1))) rfl ?_
                obtain ⟨hg, h⟩ := h
                refine zw_gf hm_263 dX1_slideDown_58 (v := .inl (mI S c1 4)) (zT_tis hS hg) (zT_tt hS hg) rfl f_13_51_9 rfl ?_
                refine zw_push hm_263 dX1_slideDown_61 (v := .inr (.inr (some c1))) rfl ?_
                obtain ⟨hg, h⟩ := h
                refine zw_gf hm_263 dX1_slideDown_63 (v := .inl (mI S c1 2)) (zT_tis hS hg) (zT_tt hS hg) rfl f_13_38_9 rfl ?_
                refine zw_stk hm_263 dX1_slideDown_66 (st' := [.inl ((mI S c1 4) + (mI S c1 2))]) rfl rfl ?_
                refine zw_sto hm_263 dX1_slideDown_67 [(2, .inl ((mI S c1 4) + (mI S c1 2))), (3, .inl (l3 + (mI S c1 2))), (4, .inr (.inr (some c1))), (0, .inr (.inr (some 82))), (1, .inl l1)] rfl rfl rfl ?_
                refine zw_goto hm_263 dX1_slideDown_68 (t := 4) rfl ?_
                exact zw_sub (ma_nd_of (ks := [0, 1, 2, 3]) rfl (by decide)) (ma_nd_of (ks := [2, 3, 4, 0, 1]) rfl (by decide)) (ma_le_cons rfl (ma_le_cons rfl (ma_le_cons rfl (ma_le_cons rfl (ma_le_nil _))))) h
              · intro hc
                rw [if_pos (Classical.not_not.mp hc)] at h
                refine zw_push hm_263 dX1_slideDown_46 (v := .inr (.inr (some 82))) rfl ?_
                refine zw_gf hm_263 dX1_slideDown_47 (v := .inr (.inr (some 69))) (zT_is hS s_82) (zT_t hS s_82) rfl f_13_9_1 (zT_f hS r_82_0) ?_
                refine zw_push hm_263 dX1_slideDown_50 (v := .inr (.inr (some c1))) rfl ?_
                refine zw_push hm_263 dX1_slideDown_52 (v := .inl l2) rfl ?_
                refine zw_cv hm_263 dX1_slideDown_53 v_13_47_7 hm_90 [.inl l2, .inr (.inr (some c1))] [] rfl (zT_rt hS s_69 rfl) ⟨by omega, by omega⟩ rfl (zw_mono h (zv_go ?_ ?_))
                · intro S2 hv
                  obtain ⟨hS2, h⟩ := hv
                  refine zw_push hm_263 dX1_slideDown_56 (v := .inr (.inr (some c1))) rfl ?_
                  obtain ⟨hg, h⟩ := h
                  refine zw_gf hm_263 dX1_slideDown_58 (v := .inl (mI S2 c1 4)) (zT_tis hS2 hg) (zT_tt hS2 hg) rfl f_13_51_9 rfl ?_
                  refine zw_push hm_263 dX1_slideDown_61 (v := .inr (.inr (some c1))) rfl ?_
                  obtain ⟨hg, h⟩ := h
                  refine zw_gf hm_263 dX1_slideDown_63 (v := .inl (mI S2 c1 2)) (zT_tis hS2 hg) (zT_tt hS2 hg) rfl f_13_38_9 rfl ?_
                  refine zw_stk hm_263 dX1_slideDown_66 (st' := [.inl ((mI S2 c1 4) + (mI S2 c1 2))]) rfl rfl ?_
                  refine zw_sto hm_263 dX1_slideDown_67 [(2, .inl ((mI S2 c1 4) + (mI S2 c1 2))), (3, .inl (l3 + (mI S c1 2))), (4, .inr (.inr (some c1))), (0, .inr (.inr (some 82))), (1, .inl l1)] rfl rfl rfl ?_
                  refine zw_goto hm_263 dX1_slideDown_68 (t := 4) rfl ?_
                  exact zw_sub (ma_nd_of (ks := [0, 1, 2, 3]) rfl (by decide)) (ma_nd_of (ks := [2, 3, 4, 0, 1]) rfl (by decide)) (ma_le_cons rfl (ma_le_cons rfl (ma_le_cons rfl (ma_le_cons rfl (ma_le_nil _))))) h
                · intro x S9 hx
                  exact ⟨by decide, hx⟩
theorem lp_263_82_4 {X : Nat × (Nat → Int32)} {d w : Nat} {f : Nat → Nat → Int32} {r : Nat → Nat → Option Nat} {C Z N : Nat} {Q : Option ma_V ⊕ Nat → ma_S → Prop} (hd : 2 ≤ d) (hw : 114 ≤ w) (K : ∀ v S', zI f r C Z N S' → (0 ≤ v.toInt ∧ v.toInt ≤ 300000) → Q (.inl (some (.inl v))) S') : ∀ (n : Nat) (S : ma_S) (l1 : Int32) (l2 : Int32) (l3 : Int32), (l1.toInt - l3.toInt).toNat = n → zI f r C Z N S → (0 ≤ l2.toInt) → (l2.toInt ≤ 300000) → (l1.toInt ≤ 1500) → (0 ≤ l3.toInt) → ma_wp X d w 263 4 [(0, .inr (.inr (some 82))), (1, .inl l1), (2, .inl l2), (3, .inl l3)] [] S Q := by
  intro n
  induction n using Nat.strongRecOn with
  | _ n IH =>
    intro S l1 l2 l3 hmu hI  hi0 hi1 hi2 hi3
    refine g_263_82_4 l1 l2 l3 (by omega) (by omega) (zG_T hI) ?_
    have b1 := i_bd l1
    have b2 := i_bd l3
    refine zd (fun h3 => ?_) (fun h3 => ?_)
    · skip
      have g4 := i_le h3
      have b5 := i_bd l2
      exact K (l2) _ hI (by omega)
    · skip
      have g6 := i_nle h3
      have li7 : (0 : Int32).toInt = 0 := rfl
      refine zd (fun h8 => ?_) (fun h8 => ?_)
      · skip
        have g9 := i_lt h8
        have b10 := i_bd l2
        first | have e11 : (l3 + (1 : Int32)).toInt = l3.toInt + (1) := i_addk rfl (by omega) (by omega) | have b12 := i_bd (l3 + (1 : Int32))
        exact IH _ (by omega) _ (l1) (l2) ((l3 + (1 : Int32))) rfl hI (by omega) (by omega) (by omega) (by omega)
      · skip
        have g13 := i_nlt h8
        have li14 : (4500 : Int32).toInt = 4500 := rfl
        refine zd (fun h15 => ?_) (fun h15 => ?_)
        · skip
          have g16 := i_le h15
          have b17 := i_bd l2
          first | have e18 : (l3 + (1 : Int32)).toInt = l3.toInt + (1) := i_addk rfl (by omega) (by omega) | have b19 := i_bd (l3 + (1 : Int32))
          exact IH _ (by omega) _ (l1) (l2) ((l3 + (1 : Int32))) rfl hI (by omega) (by omega) (by omega) (by omega)
        · skip
          have g20 := i_nle h15
          refine ⟨i_ix (by omega) (by omega), ?_⟩
          have b21 := i_bd (mI S 71 l3.toNatClampNeg)
          refine zd (fun h22 => ?_) (fun h22 => ?_)
          · skip
            have g23 := i_lt h22
            have b24 := i_bd l2
            first | have e25 : (l3 + (1 : Int32)).toInt = l3.toInt + (1) := i_addk rfl (by omega) (by omega) | have b26 := i_bd (l3 + (1 : Int32))
            exact IH _ (by omega) _ (l1) (l2) ((l3 + (1 : Int32))) rfl hI (by omega) (by omega) (by omega) (by omega)
          · skip
            have g27 := i_nlt h22
            have li28 : (512 : Int32).toInt = 512 := rfl
            refine zd (fun h29 => ?_) (fun h29 => ?_)
            · skip
              have g30 := i_le h29
              have b31 := i_bd l2
              first | have e32 : (l3 + (1 : Int32)).toInt = l3.toInt + (1) := i_addk rfl (by omega) (by omega) | have b33 := i_bd (l3 + (1 : Int32))
              exact IH _ (by omega) _ (l1) (l2) ((l3 + (1 : Int32))) rfl hI (by omega) (by omega) (by omega) (by omega)
            · skip
              have g34 := i_nle h29
              refine ⟨i_ix (by omega) (by omega), ?_⟩
              refine ⟨fun _ => ?_, fun c1 hc => ?_⟩
              · skip
                have b35 := i_bd l2
                first | have e36 : (l3 + (1 : Int32)).toInt = l3.toInt + (1) := i_addk rfl (by omega) (by omega) | have b37 := i_bd (l3 + (1 : Int32))
                exact IH _ (by omega) _ (l1) (l2) ((l3 + (1 : Int32))) rfl hI (by omega) (by omega) (by omega) (by omega)
              · skip
                have th_c1 := (fun _ z => zG_70 hI (c := 70) (by decide) z) c1 hc
                refine ⟨zG_n hI th_c1, ?_⟩
                refine ⟨zG_n hI th_c1, ?_⟩
                have b38 := i_bd (mI S c1 7)
                refine zd (fun h39 => ?_) (fun h39 => ?_)
                · skip
                  have g40 := i_eq h39
                  have b41 := i_bd l2
                  refine sp_90_69 c1 (l2) (by omega) (by omega) hI th_c1 (by omega) (fun S2 hI_S2 => zv_n ⟨zG_T hI_S2, ?_⟩)
                  refine ⟨zG_n hI_S2 th_c1, ?_⟩
                  refine ⟨zG_n hI_S2 th_c1, ?_⟩
                  have f42 := zG_th hI_S2 th_c1
                  have f43 := zG_th hI_S2 th_c1
                  first | have e44 : ((mI S2 c1 4) + (mI S2 c1 2)).toInt = (mI S2 c1 4).toInt + (mI S2 c1 2).toInt := i_add (by omega) (by omega) | have b45 := i_bd ((mI S2 c1 4) + (mI S2 c1 2))
                  have f46 := zG_th hI th_c1
                  first | have e47 : (l3 + (mI S c1 2)).toInt = l3.toInt + (mI S c1 2).toInt := i_add (by omega) (by omega) | have b48 := i_bd (l3 + (mI S c1 2))
                  exact IH _ (by omega) _ (l1) (((mI S2 c1 4) + (mI S2 c1 2))) ((l3 + (mI S c1 2))) rfl hI_S2 (by omega) (by omega) (by omega) (by omega)
                · skip
                  have g49 := i_ne h39
                  refine ⟨zG_n hI th_c1, ?_⟩
                  refine ⟨zG_n hI th_c1, ?_⟩
                  have f50 := zG_th hI th_c1
                  have f51 := zG_th hI th_c1
                  first | have e52 : ((mI S c1 4) + (mI S c1 2)).toInt = (mI S c1 4).toInt + (mI S c1 2).toInt := i_add (by omega) (by omega) | have b53 := i_bd ((mI S c1 4) + (mI S c1 2))
                  first | have e54 : (l3 + (mI S c1 2)).toInt = l3.toInt + (mI S c1 2).toInt := i_add (by omega) (by omega) | have b55 := i_bd (l3 + (mI S c1 2))
                  exact IH _ (by omega) _ (l1) (((mI S c1 4) + (mI S c1 2))) ((l3 + (mI S c1 2))) rfl hI (by omega) (by omega) (by omega) (by omega)
theorem sp_263_82 {X : Nat × (Nat → Int32)} {d w : Nat} {f : Nat → Nat → Int32} {r : Nat → Nat → Option Nat} {C Z N : Nat} {Q : Option ma_V ⊕ Nat → ma_S → Prop} {S : ma_S} (n : Int32) (hd : 2 ≤ d) (hw : 114 ≤ w) (hI : zI f r C Z N S) (hpre0 : n.toInt ≤ 1500) (K : ∀ v S', zI f r C Z N S' → (0 ≤ v.toInt ∧ v.toInt ≤ 300000) → Q (.inl (some (.inl v))) S') : ma_wp X d w 263 0 [(0, .inr (.inr (some 82))), (1, .inl n)] [] S Q := by
  refine g_263_82_0 n (by omega) (by omega) (zG_T hI) ?_
  have b1 := i_bd n
  have li2 : (0 : Int32).toInt = 0 := rfl
  exact lp_263_82_4 (by omega) (by omega) K _ _ (n) ((0 : Int32)) ((0 : Int32)) rfl hI (by omega) (by omega) (by omega) (by omega)
theorem g_105_79_0 {X : Nat × (Nat → Int32)} {d w : Nat} {S : ma_S} {Q : Option ma_V ⊕ Nat → ma_S → Prop} (p : Int32) (hd : 1 ≤ d) (hw : 22 ≤ w) (hS : zT S) (h : ma_wp X d w 105 2 [(0, .inr (.inr (some 79))), (2, .inl p)] [] S Q) : ma_wp X d w 105 0 [(0, .inr (.inr (some 79))), (1, .inl p)] [] S Q := by
  refine zw_push hm_105 dX8_freeFrom_0 (v := .inl p) rfl ?_
  refine zw_sto hm_105 dX8_freeFrom_1 [(2, .inl p), (0, .inr (.inr (some 79))), (1, .inl p)] rfl rfl rfl ?_
  exact zw_sub (ma_nd_of (ks := [0, 2]) rfl (by decide)) (ma_nd_of (ks := [2, 0, 1]) rfl (by decide)) (ma_le_cons rfl (ma_le_cons rfl (ma_le_nil _))) h
theorem g_105_79_2 {X : Nat × (Nat → Int32)} {d w : Nat} {S : ma_S} {Q : Option ma_V ⊕ Nat → ma_S → Prop} (l2 : Int32) (hd : 1 ≤ d) (hw : 22 ≤ w) (hS : zT S) (h : if (mI S 79 2) ≤ l2 then (Q (.inl (some (.inl (mI S 79 2)))) S) else (if l2 < 0 then (Q (.inl (some (.inl l2))) S) else (if (4500 : Int32) ≤ l2 then (Q (.inl (some (.inl l2))) S) else ((0 ≤ l2 ∧ l2.toNatClampNeg < 4500) ∧ (if (mI S 71 l2.toNatClampNeg) < 0 then (Q (.inl (some (.inl l2))) S) else (if (512 : Int32) ≤ (mI S 71 l2.toNatClampNeg) then (Q (.inl (some (.inl l2))) S) else ((0 ≤ (mI S 71 l2.toNatClampNeg) ∧ (mI S 71 l2.toNatClampNeg).toNatClampNeg < 512) ∧ (((mR S 70 (mI S 71 l2.toNatClampNeg).toNatClampNeg) = none → Q (.inl (some (.inl l2))) S) ∧ (∀ c1, (mR S 70 (mI S 71 l2.toNatClampNeg).toNatClampNeg) = some c1 → (126 ≤ c1 ∧ c1 < mN S) ∧ (ma_wp X d w 105 2 [(0, .inr (.inr (some 79))), (2, .inl (l2 + (mI S c1 2)))] [] S Q)))))))))) : ma_wp X d w 105 2 [(0, .inr (.inr (some 79))), (2, .inl l2)] [] S Q := by
  refine zw_push hm_105 dX8_freeFrom_2 (v := .inl l2) rfl ?_
  refine zw_push hm_105 dX8_freeFrom_3 (v := .inr (.inr (some 79))) rfl ?_
  refine zw_gf hm_105 dX8_freeFrom_4 (v := .inl (mI S 79 2)) (zT_is hS s_79) (zT_t hS s_79) rfl f_8_9_8 rfl ?_
  refine zw_if2 hm_105 dX8_freeFrom_7 (t := 35) rfl zc2_ge ?_ ?_
  · intro hc
    rw [if_pos hc] at h
    refine zw_push hm_105 dX8_freeFrom_35 (v := .inr (.inr (some 79))) rfl ?_
    refine zw_gf hm_105 dX8_freeFrom_36 (v := .inl (mI S 79 2)) (zT_is hS s_79) (zT_t hS s_79) rfl f_8_9_8 rfl ?_
    exact zw_iret hm_105 dX8_freeFrom_39 h
  · intro hc
    rw [if_neg hc] at h
    refine zw_push hm_105 dX8_freeFrom_10 (v := .inr (.inr (some 79))) rfl ?_
    refine zw_gf hm_105 dX8_freeFrom_11 (v := .inr (.inr (some 69))) (zT_is hS s_79) (zT_t hS s_79) rfl f_8_46_8 (zT_f hS r_79_0) ?_
    refine zw_push hm_105 dX8_freeFrom_14 (v := .inl l2) rfl ?_
    refine zw_cv hm_105 dX8_freeFrom_15 v_8_50_7 hm_89 [.inl l2] [] rfl (zT_rt hS s_69 rfl) ⟨by omega, by omega⟩ rfl ?_
    show ma_wp X (d - 1) (w - 22) 89 0 [(0, .inr (.inr (some 69))), (1, .inl l2)] [] S _
    refine zw_push hm_89 dX7_thingFrom_0 (v := .inl l2) rfl ?_
    refine zw_if0 hm_89 dX7_thingFrom_1 (t := 20) rfl zc0_lt ?_ ?_
    · intro hc
      rw [if_pos hc] at h
      refine zw_push hm_89 dX7_thingFrom_20 (v := .inl (-1 : Int32)) rfl ?_
      refine zw_sto hm_89 dX7_thingFrom_21 [(2, .inl (-1 : Int32)), (0, .inr (.inr (some 69))), (1, .inl l2)] rfl rfl rfl ?_
      refine zw_push hm_89 dX7_thingFrom_22 (v := .inl (-1 : Int32)) rfl ?_
      refine zw_if0 hm_89 dX7_thingFrom_23 (t := 42) rfl zc0_lt (fun _ => ?_) (fun hc => absurd (by decide) hc)
      refine zw_push hm_89 dX7_thingFrom_42 (v := .inr (.inr none)) rfl ?_
      refine zw_aret hm_89 dX7_thingFrom_43 ?_
      show ma_wp X d w 105 18 [(0, .inr (.inr (some 79))), (2, .inl l2)] [.inr (.inr none)] S _
      refine zw_sto hm_105 dX8_freeFrom_18 [(3, .inr (.inr none)), (0, .inr (.inr (some 79))), (2, .inl l2)] rfl rfl rfl ?_
      refine zw_push hm_105 dX8_freeFrom_19 (v := .inr (.inr none)) rfl ?_
      refine zw_ifnonnull hm_105 dX8_freeFrom_20 (t := 25) rfl (fun _ => ?_) (fun _ z => by cases z)
      refine zw_push hm_105 dX8_freeFrom_23 (v := .inl l2) rfl ?_
      exact zw_iret hm_105 dX8_freeFrom_24 h
    · intro hc
      rw [if_neg hc] at h
      refine zw_push hm_89 dX7_thingFrom_4 (v := .inl l2) rfl ?_
      refine zw_push hm_89 dX7_thingFrom_5 (v := .inl (4500 : Int32)) rfl ?_
      refine zw_if2 hm_89 dX7_thingFrom_8 (t := 20) rfl zc2_ge ?_ ?_
      · intro hc
        rw [if_pos hc] at h
        refine zw_push hm_89 dX7_thingFrom_20 (v := .inl (-1 : Int32)) rfl ?_
        refine zw_sto hm_89 dX7_thingFrom_21 [(2, .inl (-1 : Int32)), (0, .inr (.inr (some 69))), (1, .inl l2)] rfl rfl rfl ?_
        refine zw_push hm_89 dX7_thingFrom_22 (v := .inl (-1 : Int32)) rfl ?_
        refine zw_if0 hm_89 dX7_thingFrom_23 (t := 42) rfl zc0_lt (fun _ => ?_) (fun hc => absurd (by decide) hc)
        refine zw_push hm_89 dX7_thingFrom_42 (v := .inr (.inr none)) rfl ?_
        refine zw_aret hm_89 dX7_thingFrom_43 ?_
        show ma_wp X d w 105 18 [(0, .inr (.inr (some 79))), (2, .inl l2)] [.inr (.inr none)] S _
        refine zw_sto hm_105 dX8_freeFrom_18 [(3, .inr (.inr none)), (0, .inr (.inr (some 79))), (2, .inl l2)] rfl rfl rfl ?_
        refine zw_push hm_105 dX8_freeFrom_19 (v := .inr (.inr none)) rfl ?_
        refine zw_ifnonnull hm_105 dX8_freeFrom_20 (t := 25) rfl (fun _ => ?_) (fun _ z => by cases z)
        refine zw_push hm_105 dX8_freeFrom_23 (v := .inl l2) rfl ?_
        exact zw_iret hm_105 dX8_freeFrom_24 h
      · intro hc
        rw [if_neg hc] at h
        refine zw_push hm_89 dX7_thingFrom_11 (v := .inr (.inr (some 69))) rfl ?_
        refine zw_gf hm_89 dX7_thingFrom_12 (v := .inr (.inr (some 71))) (zT_is hS s_69) (zT_t hS s_69) rfl f_7_17_7 (zT_f hS r_69_1) ?_
        refine zw_push hm_89 dX7_thingFrom_15 (v := .inl l2) rfl ?_
        obtain ⟨hg, h⟩ := h
        refine zw_ia hm_89 dX7_thingFrom_16 (zT_is hS s_71) (zT_h hS s_71) rfl hg ?_
        show ma_wp X (d - 1) (w - 22) 89 17 [(0, .inr (.inr (some 69))), (1, .inl l2)] [.inl (mI S 71 l2.toNatClampNeg)] S _
        refine zw_goto hm_89 dX7_thingFrom_17 (t := 21) rfl ?_
        refine zw_sto hm_89 dX7_thingFrom_21 [(2, .inl (mI S 71 l2.toNatClampNeg)), (0, .inr (.inr (some 69))), (1, .inl l2)] rfl rfl rfl ?_
        refine zw_push hm_89 dX7_thingFrom_22 (v := .inl (mI S 71 l2.toNatClampNeg)) rfl ?_
        refine zw_if0 hm_89 dX7_thingFrom_23 (t := 42) rfl zc0_lt ?_ ?_
        · intro hc
          rw [if_pos hc] at h
          refine zw_push hm_89 dX7_thingFrom_42 (v := .inr (.inr none)) rfl ?_
          refine zw_aret hm_89 dX7_thingFrom_43 ?_
          show ma_wp X d w 105 18 [(0, .inr (.inr (some 79))), (2, .inl l2)] [.inr (.inr none)] S _
          refine zw_sto hm_105 dX8_freeFrom_18 [(3, .inr (.inr none)), (0, .inr (.inr (some 79))), (2, .inl l2)] rfl rfl rfl ?_
          refine zw_push hm_105 dX8_freeFrom_19 (v := .inr (.inr none)) rfl ?_
          refine zw_ifnonnull hm_105 dX8_freeFrom_20 (t := 25) rfl (fun _ => ?_) (fun _ z => by cases z)
          refine zw_push hm_105 dX8_freeFrom_23 (v := .inl l2) rfl ?_
          exact zw_iret hm_105 dX8_freeFrom_24 h
        · intro hc
          rw [if_neg hc] at h
          refine zw_push hm_89 dX7_thingFrom_26 (v := .inl (mI S 71 l2.toNatClampNeg)) rfl ?_
          refine zw_push hm_89 dX7_thingFrom_27 (v := .inl (512 : Int32)) rfl ?_
          refine zw_if2 hm_89 dX7_thingFrom_30 (t := 42) rfl zc2_ge ?_ ?_
          · intro hc
            rw [if_pos hc] at h
            refine zw_push hm_89 dX7_thingFrom_42 (v := .inr (.inr none)) rfl ?_
            refine zw_aret hm_89 dX7_thingFrom_43 ?_
            show ma_wp X d w 105 18 [(0, .inr (.inr (some 79))), (2, .inl l2)] [.inr (.inr none)] S _
            refine zw_sto hm_105 dX8_freeFrom_18 [(3, .inr (.inr none)), (0, .inr (.inr (some 79))), (2, .inl l2)] rfl rfl rfl ?_
            refine zw_push hm_105 dX8_freeFrom_19 (v := .inr (.inr none)) rfl ?_
            refine zw_ifnonnull hm_105 dX8_freeFrom_20 (t := 25) rfl (fun _ => ?_) (fun _ z => by cases z)
            refine zw_push hm_105 dX8_freeFrom_23 (v := .inl l2) rfl ?_
            exact zw_iret hm_105 dX8_freeFrom_24 h
          · intro hc
            rw [if_neg hc] at h
            refine zw_push hm_89 dX7_thingFrom_33 (v := .inr (.inr (some 69))) rfl ?_
            refine zw_gf hm_89 dX7_thingFrom_34 (v := .inr (.inr (some 70))) (zT_is hS s_69) (zT_t hS s_69) rfl f_7_11_7 (zT_f hS r_69_0) ?_
            refine zw_push hm_89 dX7_thingFrom_37 (v := .inl (mI S 71 l2.toNatClampNeg)) rfl ?_
            obtain ⟨hg, h⟩ := h
            refine zw_aa hm_89 dX7_thingFrom_38 (zT_is hS s_70) (zT_h hS s_70) rfl rfl hg rfl ?_
            show ma_wp X (d - 1) (w - 22) 89 39 [(2, .inl (mI S 71 l2.toNatClampNeg)), (0, .inr (.inr (some 69))), (1, .inl l2)] [.inr (.inr (mR S 70 (mI S 71 l2.toNatClampNeg).toNatClampNeg))] S _
            refine zw_goto hm_89 dX7_thingFrom_39 (t := 43) rfl ?_
            refine zw_aret hm_89 dX7_thingFrom_43 ?_
            show ma_wp X d w 105 18 [(0, .inr (.inr (some 79))), (2, .inl l2)] [.inr (.inr (mR S 70 (mI S 71 l2.toNatClampNeg).toNatClampNeg))] S _
            refine zw_sto hm_105 dX8_freeFrom_18 [(3, .inr (.inr (mR S 70 (mI S 71 l2.toNatClampNeg).toNatClampNeg))), (0, .inr (.inr (some 79))), (2, .inl l2)] rfl rfl rfl ?_
            refine zw_push hm_105 dX8_freeFrom_19 (v := .inr (.inr (mR S 70 (mI S 71 l2.toNatClampNeg).toNatClampNeg))) rfl ?_
            refine zw_ifnonnull hm_105 dX8_freeFrom_20 (t := 25) rfl ?_ ?_
            · intro hc
              have h := h.1 hc
              (try rw [hc])
              show ma_wp X d w 105 23 [(3, .inr (.inr none)), (0, .inr (.inr (some 79))), (2, .inl l2)] [] S _
              refine zw_push hm_105 dX8_freeFrom_23 (v := .inl l2) rfl ?_
              exact zw_iret hm_105 dX8_freeFrom_24 h
            · intro c1 hc
              have h := h.2 c1 hc
              (try rw [hc])
              show ma_wp X d w 105 25 [(3, .inr (.inr (some c1))), (0, .inr (.inr (some 79))), (2, .inl l2)] [] S _
              refine zw_push hm_105 dX8_freeFrom_25 (v := .inl l2) rfl ?_
              refine zw_push hm_105 dX8_freeFrom_26 (v := .inr (.inr (some c1))) rfl ?_
              obtain ⟨hg, h⟩ := h
              refine zw_gf hm_105 dX8_freeFrom_27 (v := .inl (mI S c1 2)) (zT_tis hS hg) (zT_tt hS hg) rfl f_8_34_9 rfl ?_
              refine zw_stk hm_105 dX8_freeFrom_30 (st' := [.inl (l2 + (mI S c1 2))]) rfl rfl ?_
              refine zw_sto hm_105 dX8_freeFrom_31 [(2, .inl (l2 + (mI S c1 2))), (3, .inr (.inr (some c1))), (0, .inr (.inr (some 79)))] rfl rfl rfl ?_
              refine zw_goto hm_105 dX8_freeFrom_32 (t := 2) rfl ?_
              exact zw_sub (ma_nd_of (ks := [0, 2]) rfl (by decide)) (ma_nd_of (ks := [2, 3, 0]) rfl (by decide)) (ma_le_cons rfl (ma_le_cons rfl (ma_le_nil _))) h
theorem lp_105_79_2 {X : Nat × (Nat → Int32)} {d w : Nat} {f : Nat → Nat → Int32} {r : Nat → Nat → Option Nat} {C Z N : Nat} {Q : Option ma_V ⊕ Nat → ma_S → Prop} (hd : 1 ≤ d) (hw : 22 ≤ w) (K : ∀ v S', zJ79 f r C Z N S' → (0 ≤ v.toInt ∧ v.toInt ≤ 1500) → Q (.inl (some (.inl v))) S') : ∀ (n : Nat) (S : ma_S) (l2 : Int32), (1500 - l2.toInt).toNat = n → zJ79 f r C Z N S → (0 ≤ l2.toInt) → ma_wp X d w 105 2 [(0, .inr (.inr (some 79))), (2, .inl l2)] [] S Q := by
  intro n
  induction n using Nat.strongRecOn with
  | _ n IH =>
    intro S l2 hmu hI  hi0
    refine g_105_79_2 l2 (by omega) (by omega) (zG_T hI) ?_
    have f1 := zG_s hI (0) (1500) (c := 79) (k := 2) (by decide)
    have b2 := i_bd l2
    refine zd (fun h3 => ?_) (fun h3 => ?_)
    · skip
      have g4 := i_le h3
      exact K ((mI S 79 2)) _ hI (by omega)
    · skip
      have g5 := i_nle h3
      have li6 : (0 : Int32).toInt = 0 := rfl
      refine zd (fun h7 => ?_) (fun h7 => ?_)
      · skip
        have g8 := i_lt h7
        exact K (l2) _ hI (by omega)
      · skip
        have g9 := i_nlt h7
        have li10 : (4500 : Int32).toInt = 4500 := rfl
        refine zd (fun h11 => ?_) (fun h11 => ?_)
        · skip
          have g12 := i_le h11
          exact K (l2) _ hI (by omega)
        · skip
          have g13 := i_nle h11
          refine ⟨i_ix (by omega) (by omega), ?_⟩
          have b14 := i_bd (mI S 71 l2.toNatClampNeg)
          refine zd (fun h15 => ?_) (fun h15 => ?_)
          · skip
            have g16 := i_lt h15
            exact K (l2) _ hI (by omega)
          · skip
            have g17 := i_nlt h15
            have li18 : (512 : Int32).toInt = 512 := rfl
            refine zd (fun h19 => ?_) (fun h19 => ?_)
            · skip
              have g20 := i_le h19
              exact K (l2) _ hI (by omega)
            · skip
              have g21 := i_nle h19
              refine ⟨i_ix (by omega) (by omega), ?_⟩
              refine ⟨fun _ => ?_, fun c1 hc => ?_⟩
              · skip
                exact K (l2) _ hI (by omega)
              · skip
                have th_c1 := (fun _ z => zG_70 hI (c := 70) (by decide) z) c1 hc
                refine ⟨zG_n hI th_c1, ?_⟩
                have f22 := zG_th hI th_c1
                first | have e23 : (l2 + (mI S c1 2)).toInt = l2.toInt + (mI S c1 2).toInt := i_add (by omega) (by omega) | have b24 := i_bd (l2 + (mI S c1 2))
                exact IH _ (by omega) _ ((l2 + (mI S c1 2))) rfl hI (by omega)
theorem sp_105_79 {X : Nat × (Nat → Int32)} {d w : Nat} {f : Nat → Nat → Int32} {r : Nat → Nat → Option Nat} {C Z N : Nat} {Q : Option ma_V ⊕ Nat → ma_S → Prop} {S : ma_S} (p : Int32) (hd : 1 ≤ d) (hw : 22 ≤ w) (hI : zJ79 f r C Z N S) (hpre0 : 0 ≤ p.toInt) (K : ∀ v S', zJ79 f r C Z N S' → (0 ≤ v.toInt ∧ v.toInt ≤ 1500) → Q (.inl (some (.inl v))) S') : ma_wp X d w 105 0 [(0, .inr (.inr (some 79))), (1, .inl p)] [] S Q := by
  refine g_105_79_0 p (by omega) (by omega) (zG_T hI) ?_
  have b1 := i_bd p
  exact lp_105_79_2 (by omega) (by omega) K _ _ (p) rfl hI (by omega)
