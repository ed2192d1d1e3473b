/-! collectors, by what they keep (written by wip/tools/gen93b.py) -/
theorem g_72_87_0 {X : Nat × (Nat → Int32)} {d w : Nat} {S : ma_S} {Q : Option ma_V ⊕ Nat → ma_S → Prop} (n : Int32) (hd : 4 ≤ d) (hw : 92 ≤ w) (hS : zT S) (h : if (mI S 87 8) = 0 then (Q (.inl (some (.inl (0 : Int32)))) S) else (ma_wp X (d - 1) (w - 24) 120 0 [(0, .inr (.inr (some 88))), (1, .inl n)] [] S (zi (fun v2 S1 => zT S1 ∧ (if (mI S1 88 3) < (mI S1 88 4) then (Q (.inl (some (.inl v2))) S1) else (ma_wp X (d - 1) (w - 20) 69 0 [(0, .inr (.inr (some 87)))] [] S1 (zi (fun v4 S3 => zT S3 ∧ (if v4 = 0 then (ma_wp X (d - 1) (w - 20) 70 0 [(0, .inr (.inr (some 87)))] [] S3 (zi (fun v6 S5 => zT S5 ∧ (Q (.inl (some (.inl v2))) S5)) (fun x S9 => Q (.inr x) S9))) else (Q (.inl (some (.inl v2))) S3))) (fun x S9 => Q (.inr x) S9))))) (fun x S9 => Q (.inr x) S9)))) : ma_wp X d w 72 0 [(0, .inr (.inr (some 87))), (1, .inl n)] [] S Q := by
  refine zw_push hm_72 dX6_goOn_0 (v := .inr (.inr (some 87))) rfl ?_
  refine zw_gf hm_72 dX6_goOn_1 (v := .inl (mI S 87 8)) (zT_is hS s_87) (zT_t hS s_87) rfl f_6_31_6 rfl ?_
  refine zw_if0 hm_72 dX6_goOn_4 (t := 9) rfl zc0_ne ?_ ?_
  · intro hc
    rw [if_neg hc] at h
    refine zw_push hm_72 dX6_goOn_9 (v := .inr (.inr (some 87))) rfl ?_
    refine zw_gf hm_72 dX6_goOn_10 (v := .inr (.inr (some 88))) (zT_is hS s_87) (zT_t hS s_87) rfl f_6_14_6 (zT_f hS r_87_5) ?_
    refine zw_push hm_72 dX6_goOn_13 (v := .inl n) rfl ?_
    refine zw_cv hm_72 dX6_goOn_14 v_6_69_10 hm_120 [.inl n] [] rfl (zT_rt hS s_88 rfl) ⟨by omega, by omega⟩ rfl (zw_mono h (zi_go ?_ ?_))
    · intro v2 S1 hv
      obtain ⟨hS1, h⟩ := hv
      refine zw_sto hm_72 dX6_goOn_17 [(2, .inl v2), (0, .inr (.inr (some 87))), (1, .inl n)] rfl rfl rfl ?_
      refine zw_push hm_72 dX6_goOn_18 (v := .inr (.inr (some 87))) rfl ?_
      refine zw_gf hm_72 dX6_goOn_19 (v := .inr (.inr (some 88))) (zT_is hS1 s_87) (zT_t hS1 s_87) rfl f_6_14_6 (zT_f hS1 r_87_5) ?_
      refine zw_cv hm_72 dX6_goOn_22 v_6_79_10 hm_125 [] [] rfl (zT_rt hS1 s_88 rfl) ⟨by omega, by omega⟩ rfl ?_
      show ma_wp X (d - 1) (w - 20) 125 0 [(0, .inr (.inr (some 88)))] [] S1 _
      refine zw_push hm_125 dX10_isEmpty_0 (v := .inr (.inr (some 88))) rfl ?_
      refine zw_gf hm_125 dX10_isEmpty_1 (v := .inl (mI S1 88 3)) (zT_is hS1 s_88) (zT_t hS1 s_88) rfl f_10_28_10 rfl ?_
      refine zw_push hm_125 dX10_isEmpty_4 (v := .inr (.inr (some 88))) rfl ?_
      refine zw_gf hm_125 dX10_isEmpty_5 (v := .inl (mI S1 88 4)) (zT_is hS1 s_88) (zT_t hS1 s_88) rfl f_10_32_10 rfl ?_
      refine zw_if2 hm_125 dX10_isEmpty_8 (t := 15) rfl zc2_lt ?_ ?_
      · intro hc
        rw [if_pos hc] at h
        refine zw_push hm_125 dX10_isEmpty_15 (v := .inl (0 : Int32)) rfl ?_
        refine zw_bret hm_125 dX10_isEmpty_16 (by decide) ?_
        show ma_wp X d w 72 25 [(2, .inl v2), (0, .inr (.inr (some 87))), (1, .inl n)] [.inl (0 : Int32)] S1 _
        refine zw_if0 hm_72 dX6_goOn_25 (t := 40) rfl zc0_eq (fun _ => ?_) (fun hc => absurd (by decide) hc)
        refine zw_push hm_72 dX6_goOn_40 (v := .inl v2) rfl ?_
        exact zw_iret hm_72 dX6_goOn_41 h
      · intro hc
        rw [if_neg hc] at h
        refine zw_push hm_125 dX10_isEmpty_11 (v := .inl (1 : Int32)) rfl ?_
        refine zw_goto hm_125 dX10_isEmpty_12 (t := 16) rfl ?_
        refine zw_bret hm_125 dX10_isEmpty_16 (by decide) ?_
        show ma_wp X d w 72 25 [(2, .inl v2), (0, .inr (.inr (some 87))), (1, .inl n)] [.inl (1 : Int32)] S1 _
        refine zw_if0 hm_72 dX6_goOn_25 (t := 40) rfl zc0_eq (fun hc => absurd hc (by decide)) (fun _ => ?_)
        refine zw_push hm_72 dX6_goOn_28 (v := .inr (.inr (some 87))) rfl ?_
        refine zw_cv hm_72 dX6_goOn_29 v_6_72_6 hm_69 [] [] rfl (zT_rt hS1 s_87 rfl) ⟨by omega, by omega⟩ rfl (zw_mono h (zi_go ?_ ?_))
        · intro v4 S3 hv
          obtain ⟨hS3, h⟩ := hv
          refine zw_if0 hm_72 dX6_goOn_32 (t := 40) rfl zc0_ne ?_ ?_
          · intro hc
            rw [if_neg hc] at h
            refine zw_push hm_72 dX6_goOn_40 (v := .inl v2) rfl ?_
            exact zw_iret hm_72 dX6_goOn_41 h
          · intro hc
            rw [if_pos (Classical.not_not.mp hc)] at h
            refine zw_push hm_72 dX6_goOn_35 (v := .inr (.inr (some 87))) rfl ?_
            refine zw_cv hm_72 dX6_goOn_36 v_6_76_6 hm_70 [] [] rfl (zT_rt hS3 s_87 rfl) ⟨by omega, by omega⟩ rfl (zw_mono h (zi_go ?_ ?_))
            · intro v6 S5 hv
              obtain ⟨hS5, h⟩ := hv
              refine zw_stk hm_72 dX6_goOn_39 (st' := []) rfl rfl ?_
              refine zw_push hm_72 dX6_goOn_40 (v := .inl v2) rfl ?_
              exact zw_iret hm_72 dX6_goOn_41 h
            · intro x S9 hx
              exact ⟨by decide, hx⟩
        · intro x S9 hx
          exact ⟨by decide, hx⟩
    · intro x S9 hx
      exact ⟨by decide, hx⟩
  · intro hc
    rw [if_pos (Classical.not_not.mp hc)] at h
    refine zw_push hm_72 dX6_goOn_7 (v := .inl (0 : Int32)) rfl ?_
    exact zw_iret hm_72 dX6_goOn_8 h
theorem sp_72_87 {X : Nat × (Nat → Int32)} {d w : Nat} {f : Nat → Nat → Int32} {r : Nat → Nat → Option Nat} {C Z N : Nat} {Q : Option ma_V ⊕ Nat → ma_S → Prop} {S : ma_S} (n : Int32) (hd : 4 ≤ d) (hw : 92 ≤ w) (hI : zJ87 f r C Z N S)  (K : ∀ v S', zJ87 f r C Z N S' → (True) → Q (.inl (some (.inl v))) S') : ma_wp X d w 72 0 [(0, .inr (.inr (some 87))), (1, .inl n)] [] S Q := by
  refine g_72_87_0 n (by omega) (by omega) (zG_T hI) ?_
  have f1 := zG_s hI (0) (1) (c := 87) (k := 8) (by decide)
  have li2 : (0 : Int32).toInt = 0 := rfl
  refine zd (fun h3 => ?_) (fun h3 => ?_)
  · skip
    have g4 := i_eq h3
    exact K ((0 : Int32)) _ hI trivial
  · skip
    have g5 := i_ne h3
    have b6 := i_bd n
    refine sp_120_88 (n) (by omega) (by omega) (zJ87_dn hI)  (fun v2 S1 hL_S1 hp_v2 => zi_n ⟨zG_T hL_S1, ?_⟩)
    have hI_S1 := zJ87_up hI hL_S1
    have f7 := zG_s hI_S1 (0) (512) (c := 88) (k := 3) (by decide)
    have f8 := zG_s hI_S1 (0) (512) (c := 88) (k := 4) (by decide)
    refine zd (fun h9 => ?_) (fun h9 => ?_)
    · skip
      have g10 := i_lt h9
      have b11 := i_bd v2
      exact K (v2) _ hI_S1 trivial
    · skip
      have g12 := i_nlt h9
      refine sp_69_87  (by omega) (by omega) hI_S1  (fun v4 S3 hI_S3 hp_v4 => zi_n ⟨zG_T hI_S3, ?_⟩)
      have b13 := i_bd v4
      refine zd (fun h14 => ?_) (fun h14 => ?_)
      · skip
        have g15 := i_eq h14
        refine sp_70_87  (by omega) (by omega) hI_S3  (fun v6 S5 hI_S5 hp_v6 => zi_n ⟨zG_T hI_S5, ?_⟩)
        have b16 := i_bd v2
        exact K (v2) _ hI_S5 trivial
      · skip
        have g17 := i_ne h14
        have b18 := i_bd v2
        exact K (v2) _ hI_S3 trivial
theorem g_67_87_0 {X : Nat × (Nat → Int32)} {d w : Nat} {S : ma_S} {Q : Option ma_V ⊕ Nat → ma_S → Prop}  (hd : 4 ≤ d) (hw : 92 ≤ w) (hS : zT S) (h : if (mI S 87 8) = 0 then (ma_wp X (d - 1) (w - 20) 68 0 [(0, .inr (.inr (some 87)))] [] S (zv (fun S3 => zT S3 ∧ (ma_wp X (d - 1) (w - 24) 120 0 [(0, .inr (.inr (some 88))), (1, .inl (512 : Int32))] [] S3 (zi (fun v6 S5 => zT S5 ∧ (ma_wp X d w 67 24 [(0, .inr (.inr (some 87))), (1, .inl (0 : Int32))] [] S5 Q)) (fun x S9 => Q (.inr x) S9)))) (fun x S9 => Q (.inr x) S9))) else (ma_wp X (d - 1) (w - 24) 120 0 [(0, .inr (.inr (some 88))), (1, .inl (512 : Int32))] [] S (zi (fun v2 S1 => zT S1 ∧ (ma_wp X d w 67 24 [(0, .inr (.inr (some 87))), (1, .inl (0 : Int32))] [] S1 Q)) (fun x S9 => Q (.inr x) S9)))) : ma_wp X d w 67 0 [(0, .inr (.inr (some 87)))] [] S Q := by
  refine zw_push hm_67 dX6_cleanAll_0 (v := .inr (.inr (some 87))) rfl ?_
  refine zw_gf hm_67 dX6_cleanAll_1 (v := .inl (mI S 87 8)) (zT_is hS s_87) (zT_t hS s_87) rfl f_6_31_6 rfl ?_
  refine zw_if0 hm_67 dX6_cleanAll_4 (t := 11) rfl zc0_ne ?_ ?_
  · intro hc
    rw [if_neg hc] at h
    refine zw_push hm_67 dX6_cleanAll_11 (v := .inr (.inr (some 87))) rfl ?_
    refine zw_gf hm_67 dX6_cleanAll_12 (v := .inr (.inr (some 88))) (zT_is hS s_87) (zT_t hS s_87) rfl f_6_14_6 (zT_f hS r_87_5) ?_
    refine zw_push hm_67 dX6_cleanAll_15 (v := .inl (512 : Int32)) rfl ?_
    refine zw_cv hm_67 dX6_cleanAll_18 v_6_69_10 hm_120 [.inl (512 : Int32)] [] rfl (zT_rt hS s_88 rfl) ⟨by omega, by omega⟩ rfl (zw_mono h (zi_go ?_ ?_))
    · intro v2 S1 hv
      obtain ⟨hS1, h⟩ := hv
      refine zw_stk hm_67 dX6_cleanAll_21 (st' := []) rfl rfl ?_
      refine zw_push hm_67 dX6_cleanAll_22 (v := .inl (0 : Int32)) rfl ?_
      refine zw_sto hm_67 dX6_cleanAll_23 [(1, .inl (0 : Int32)), (0, .inr (.inr (some 87)))] rfl rfl rfl ?_
      exact zw_sub (ma_nd_of (ks := [0, 1]) rfl (by decide)) (ma_nd_of (ks := [1, 0]) rfl (by decide)) (ma_le_cons rfl (ma_le_cons rfl (ma_le_nil _))) h
    · intro x S9 hx
      exact ⟨by decide, hx⟩
  · intro hc
    rw [if_pos (Classical.not_not.mp hc)] at h
    refine zw_push hm_67 dX6_cleanAll_7 (v := .inr (.inr (some 87))) rfl ?_
    refine zw_cv hm_67 dX6_cleanAll_8 v_6_47_6 hm_68 [] [] rfl (zT_rt hS s_87 rfl) ⟨by omega, by omega⟩ rfl (zw_mono h (zv_go ?_ ?_))
    · intro S3 hv
      obtain ⟨hS3, h⟩ := hv
      refine zw_push hm_67 dX6_cleanAll_11 (v := .inr (.inr (some 87))) rfl ?_
      refine zw_gf hm_67 dX6_cleanAll_12 (v := .inr (.inr (some 88))) (zT_is hS3 s_87) (zT_t hS3 s_87) rfl f_6_14_6 (zT_f hS3 r_87_5) ?_
      refine zw_push hm_67 dX6_cleanAll_15 (v := .inl (512 : Int32)) rfl ?_
      refine zw_cv hm_67 dX6_cleanAll_18 v_6_69_10 hm_120 [.inl (512 : Int32)] [] rfl (zT_rt hS3 s_88 rfl) ⟨by omega, by omega⟩ rfl (zw_mono h (zi_go ?_ ?_))
      · intro v6 S5 hv
        obtain ⟨hS5, h⟩ := hv
        refine zw_stk hm_67 dX6_cleanAll_21 (st' := []) rfl rfl ?_
        refine zw_push hm_67 dX6_cleanAll_22 (v := .inl (0 : Int32)) rfl ?_
        refine zw_sto hm_67 dX6_cleanAll_23 [(1, .inl (0 : Int32)), (0, .inr (.inr (some 87)))] rfl rfl rfl ?_
        exact zw_sub (ma_nd_of (ks := [0, 1]) rfl (by decide)) (ma_nd_of (ks := [1, 0]) rfl (by decide)) (ma_le_cons rfl (ma_le_cons rfl (ma_le_nil _))) h
      · intro x S9 hx
        exact ⟨by decide, hx⟩
    · intro x S9 hx
      exact ⟨by decide, hx⟩
theorem g_67_87_24 {X : Nat × (Nat → Int32)} {d w : Nat} {S : ma_S} {Q : Option ma_V ⊕ Nat → ma_S → Prop} (l1 : Int32) (hd : 4 ≤ d) (hw : 92 ≤ w) (hS : zT S) (h : if (512 : Int32) ≤ l1 then (ma_wp X (d - 1) (w - 20) 70 0 [(0, .inr (.inr (some 87)))] [] S (zi (fun v2 S1 => zT S1 ∧ (Q (.inl (some (.inl v2))) S1)) (fun x S9 => Q (.inr x) S9))) else (ma_wp X (d - 1) (w - 20) 69 0 [(0, .inr (.inr (some 87)))] [] S (zi (fun v4 S3 => zT S3 ∧ (if v4 = 0 then (ma_wp X (d - 1) (w - 20) 70 0 [(0, .inr (.inr (some 87)))] [] S3 (zi (fun v6 S5 => zT S5 ∧ (Q (.inl (some (.inl v6))) S5)) (fun x S9 => Q (.inr x) S9))) else (ma_wp X (d - 1) (w - 24) 120 0 [(0, .inr (.inr (some 88))), (1, .inl (512 : Int32))] [] S3 (zi (fun v8 S7 => zT S7 ∧ (ma_wp X d w 67 24 [(0, .inr (.inr (some 87))), (1, .inl (l1 + (1 : Int32)))] [] S7 Q)) (fun x S9 => Q (.inr x) S9))))) (fun x S9 => Q (.inr x) S9)))) : ma_wp X d w 67 24 [(0, .inr (.inr (some 87))), (1, .inl l1)] [] S Q := by
  refine zw_push hm_67 dX6_cleanAll_24 (v := .inl l1) rfl ?_
  refine zw_push hm_67 dX6_cleanAll_25 (v := .inl (512 : Int32)) rfl ?_
  refine zw_if2 hm_67 dX6_cleanAll_28 (t := 55) rfl zc2_ge ?_ ?_
  · intro hc
    rw [if_pos hc] at h
    refine zw_push hm_67 dX6_cleanAll_55 (v := .inr (.inr (some 87))) rfl ?_
    refine zw_cv hm_67 dX6_cleanAll_56 v_6_76_6 hm_70 [] [] rfl (zT_rt hS s_87 rfl) ⟨by omega, by omega⟩ rfl (zw_mono h (zi_go ?_ ?_))
    · intro v2 S1 hv
      obtain ⟨hS1, h⟩ := hv
      exact zw_iret hm_67 dX6_cleanAll_59 h
    · intro x S9 hx
      exact ⟨by decide, hx⟩
  · intro hc
    rw [if_neg hc] at h
    refine zw_push hm_67 dX6_cleanAll_31 (v := .inr (.inr (some 87))) rfl ?_
    refine zw_cv hm_67 dX6_cleanAll_32 v_6_72_6 hm_69 [] [] rfl (zT_rt hS s_87 rfl) ⟨by omega, by omega⟩ rfl (zw_mono h (zi_go ?_ ?_))
    · intro v4 S3 hv
      obtain ⟨hS3, h⟩ := hv
      refine zw_if0 hm_67 dX6_cleanAll_35 (t := 55) rfl zc0_eq ?_ ?_
      · intro hc
        rw [if_pos hc] at h
        refine zw_push hm_67 dX6_cleanAll_55 (v := .inr (.inr (some 87))) rfl ?_
        refine zw_cv hm_67 dX6_cleanAll_56 v_6_76_6 hm_70 [] [] rfl (zT_rt hS3 s_87 rfl) ⟨by omega, by omega⟩ rfl (zw_mono h (zi_go ?_ ?_))
        · intro v6 S5 hv
          obtain ⟨hS5, h⟩ := hv
          exact zw_iret hm_67 dX6_cleanAll_59 h
        · intro x S9 hx
          exact ⟨by decide, hx⟩
      · intro hc
        rw [if_neg hc] at h
        refine zw_push hm_67 dX6_cleanAll_38 (v := .inr (.inr (some 87))) rfl ?_
        refine zw_gf hm_67 dX6_cleanAll_39 (v := .inr (.inr (some 88))) (zT_is hS3 s_87) (zT_t hS3 s_87) rfl f_6_14_6 (zT_f hS3 r_87_5) ?_
        refine zw_push hm_67 dX6_cleanAll_42 (v := .inl (512 : Int32)) rfl ?_
        refine zw_cv hm_67 dX6_cleanAll_45 v_6_69_10 hm_120 [.inl (512 : Int32)] [] rfl (zT_rt hS3 s_88 rfl) ⟨by omega, by omega⟩ rfl (zw_mono h (zi_go ?_ ?_))
        · intro v8 S7 hv
          obtain ⟨hS7, h⟩ := hv
          refine zw_stk hm_67 dX6_cleanAll_48 (st' := []) rfl rfl ?_
          refine zw_sto hm_67 dX6_cleanAll_49 [(1, .inl (l1 + (1 : Int32))), (0, .inr (.inr (some 87)))] rfl rfl rfl ?_
          refine zw_goto hm_67 dX6_cleanAll_52 (t := 24) rfl ?_
          exact zw_sub (ma_nd_of (ks := [0, 1]) rfl (by decide)) (ma_nd_of (ks := [1, 0]) rfl (by decide)) (ma_le_cons rfl (ma_le_cons rfl (ma_le_nil _))) h
        · intro x S9 hx
          exact ⟨by decide, hx⟩
    · intro x S9 hx
      exact ⟨by decide, hx⟩
theorem lp_67_87_24 {X : Nat × (Nat → Int32)} {d w : Nat} {f : Nat → Nat → Int32} {r : Nat → Nat → Option Nat} {C Z N : Nat} {Q : Option ma_V ⊕ Nat → ma_S → Prop} (hd : 4 ≤ d) (hw : 92 ≤ w) (K : ∀ v S', zJ87 f r C Z N S' → (True) → Q (.inl (some (.inl v))) S') : ∀ (n : Nat) (S : ma_S) (l1 : Int32), (512 - l1.toInt).toNat = n → zJ87 f r C Z N S → ma_wp X d w 67 24 [(0, .inr (.inr (some 87))), (1, .inl l1)] [] S Q := by
  intro n
  induction n using Nat.strongRecOn with
  | _ n IH =>
    intro S l1 hmu hI  
    refine g_67_87_24 l1 (by omega) (by omega) (zG_T hI) ?_
    have li1 : (512 : Int32).toInt = 512 := rfl
    have b2 := i_bd l1
    refine zd (fun h3 => ?_) (fun h3 => ?_)
    · skip
      have g4 := i_le h3
      refine sp_70_87  (by omega) (by omega) hI  (fun v2 S1 hI_S1 hp_v2 => zi_n ⟨zG_T hI_S1, ?_⟩)
      have b5 := i_bd v2
      exact K (v2) _ hI_S1 trivial
    · skip
      have g6 := i_nle h3
      refine sp_69_87  (by omega) (by omega) hI  (fun v4 S3 hI_S3 hp_v4 => zi_n ⟨zG_T hI_S3, ?_⟩)
      have b7 := i_bd v4
      have li8 : (0 : Int32).toInt = 0 := rfl
      refine zd (fun h9 => ?_) (fun h9 => ?_)
      · skip
        have g10 := i_eq h9
        refine sp_70_87  (by omega) (by omega) hI_S3  (fun v6 S5 hI_S5 hp_v6 => zi_n ⟨zG_T hI_S5, ?_⟩)
        have b11 := i_bd v6
        exact K (v6) _ hI_S5 trivial
      · skip
        have g12 := i_ne h9
        refine sp_120_88 ((512 : Int32)) (by omega) (by omega) (zJ87_dn hI_S3)  (fun v8 S7 hL_S7 hp_v8 => zi_n ⟨zG_T hL_S7, ?_⟩)
        have hI_S7 := zJ87_up hI_S3 hL_S7
        first | have e13 : (l1 + (1 : Int32)).toInt = l1.toInt + (1) := i_addk rfl (by omega) (by omega) | have b14 := i_bd (l1 + (1 : Int32))
        exact IH _ (by omega) _ ((l1 + (1 : Int32))) rfl hI_S7 
theorem sp_67_87 {X : Nat × (Nat → Int32)} {d w : Nat} {f : Nat → Nat → Int32} {r : Nat → Nat → Option Nat} {C Z N : Nat} {Q : Option ma_V ⊕ Nat → ma_S → Prop} {S : ma_S}  (hd : 4 ≤ d) (hw : 92 ≤ w) (hI : zJ87 f r C Z N S)  (K : ∀ v S', zJ87 f r C Z N S' → (True) → Q (.inl (some (.inl v))) S') : ma_wp X d w 67 0 [(0, .inr (.inr (some 87)))] [] S Q := by
  refine g_67_87_0  (by omega) (by omega) (zG_T hI) ?_
  have f1 := zG_s hI (0) (1) (c := 87) (k := 8) (by decide)
  have li2 : (0 : Int32).toInt = 0 := rfl
  refine zd (fun h3 => ?_) (fun h3 => ?_)
  · skip
    have g4 := i_eq h3
    refine sp_68_87  (by omega) (by omega) hI  (fun S3 hI_S3 => zv_n ⟨zG_T hI_S3, ?_⟩)
    have li5 : (512 : Int32).toInt = 512 := rfl
    refine sp_120_88 ((512 : Int32)) (by omega) (by omega) (zJ87_dn hI_S3)  (fun v6 S5 hL_S5 hp_v6 => zi_n ⟨zG_T hL_S5, ?_⟩)
    have hI_S5 := zJ87_up hI_S3 hL_S5
    exact lp_67_87_24 (by omega) (by omega) K _ _ ((0 : Int32)) rfl hI_S5 
  · skip
    have g6 := i_ne h3
    have li7 : (512 : Int32).toInt = 512 := rfl
    refine sp_120_88 ((512 : Int32)) (by omega) (by omega) (zJ87_dn hI)  (fun v2 S1 hL_S1 hp_v2 => zi_n ⟨zG_T hL_S1, ?_⟩)
    have hI_S1 := zJ87_up hI hL_S1
    exact lp_67_87_24 (by omega) (by omega) K _ _ ((0 : Int32)) rfl hI_S1 
theorem g_71_87_0 {X : Nat × (Nat → Int32)} {d w : Nat} {S : ma_S} {Q : Option ma_V ⊕ Nat → ma_S → Prop} (n : Int32) (hd : 5 ≤ d) (hw : 114 ≤ w) (hS : zT S) (h : if (mI S 87 8) = 0 then (if (mI S 87 0) ≤ ((4 : Int32) * ((mI S 87 0) - (mI S 69 8))) then (ma_wp X (d - 1) (w - 22) 72 0 [(0, .inr (.inr (some 87))), (1, .inl (mI S 87 6))] [] S (zi (fun v18 S17 => zT S17 ∧ (ma_wp X (d - 1) (w - 21) 103 0 [(0, .inr (.inr (some 87))), (1, .inl n)] [] S17 (zi (fun v20 S19 => zT S19 ∧ (if v20 = (-1 : Int32) then (ma_wp X (d - 1) (w - 21) 67 0 [(0, .inr (.inr (some 87)))] [] S19 (zi (fun v26 S25 => zT S25 ∧ (ma_wp X (d - 1) (w - 21) 103 0 [(0, .inr (.inr (some 87))), (1, .inl n)] [] S25 (zi (fun v28 S27 => zT S27 ∧ (if v28 = (-1 : Int32) then (if (mI S19 87 8) = 0 then (Q (.inl (some (.inl v28))) S27) else (ma_wp X (d - 1) (w - 21) 67 0 [(0, .inr (.inr (some 87)))] [] S27 (zi (fun v30 S29 => zT S29 ∧ (ma_wp X (d - 1) (w - 21) 103 0 [(0, .inr (.inr (some 87))), (1, .inl n)] [] S29 (zi (fun v32 S31 => zT S31 ∧ (Q (.inl (some (.inl v32))) S31)) (fun _ _ => False)))) (fun x S9 => Q (.inr x) S9)))) else (Q (.inl (some (.inl v28))) S27))) (fun _ _ => False)))) (fun x S9 => Q (.inr x) S9))) else (if v20 = (-1 : Int32) then (if (mI S19 87 8) = 0 then (Q (.inl (some (.inl v20))) S19) else (ma_wp X (d - 1) (w - 21) 67 0 [(0, .inr (.inr (some 87)))] [] S19 (zi (fun v22 S21 => zT S21 ∧ (ma_wp X (d - 1) (w - 21) 103 0 [(0, .inr (.inr (some 87))), (1, .inl n)] [] S21 (zi (fun v24 S23 => zT S23 ∧ (Q (.inl (some (.inl v24))) S23)) (fun _ _ => False)))) (fun x S9 => Q (.inr x) S9)))) else (Q (.inl (some (.inl v20))) S19)))) (fun _ _ => False)))) (fun x S9 => Q (.inr x) S9))) else (ma_wp X (d - 1) (w - 20) 68 0 [(0, .inr (.inr (some 87)))] [] S (zv (fun S33 => zT S33 ∧ (ma_wp X (d - 1) (w - 22) 72 0 [(0, .inr (.inr (some 87))), (1, .inl (mI S33 87 6))] [] S33 (zi (fun v36 S35 => zT S35 ∧ (ma_wp X (d - 1) (w - 21) 103 0 [(0, .inr (.inr (some 87))), (1, .inl n)] [] S35 (zi (fun v38 S37 => zT S37 ∧ (if v38 = (-1 : Int32) then (ma_wp X (d - 1) (w - 21) 67 0 [(0, .inr (.inr (some 87)))] [] S37 (zi (fun v44 S43 => zT S43 ∧ (ma_wp X (d - 1) (w - 21) 103 0 [(0, .inr (.inr (some 87))), (1, .inl n)] [] S43 (zi (fun v46 S45 => zT S45 ∧ (if v46 = (-1 : Int32) then (if (mI S37 87 8) = 0 then (Q (.inl (some (.inl v46))) S45) else (ma_wp X (d - 1) (w - 21) 67 0 [(0, .inr (.inr (some 87)))] [] S45 (zi (fun v48 S47 => zT S47 ∧ (ma_wp X (d - 1) (w - 21) 103 0 [(0, .inr (.inr (some 87))), (1, .inl n)] [] S47 (zi (fun v50 S49 => zT S49 ∧ (Q (.inl (some (.inl v50))) S49)) (fun _ _ => False)))) (fun x S9 => Q (.inr x) S9)))) else (Q (.inl (some (.inl v46))) S45))) (fun _ _ => False)))) (fun x S9 => Q (.inr x) S9))) else (if v38 = (-1 : Int32) then (if (mI S37 87 8) = 0 then (Q (.inl (some (.inl v38))) S37) else (ma_wp X (d - 1) (w - 21) 67 0 [(0, .inr (.inr (some 87)))] [] S37 (zi (fun v40 S39 => zT S39 ∧ (ma_wp X (d - 1) (w - 21) 103 0 [(0, .inr (.inr (some 87))), (1, .inl n)] [] S39 (zi (fun v42 S41 => zT S41 ∧ (Q (.inl (some (.inl v42))) S41)) (fun _ _ => False)))) (fun x S9 => Q (.inr x) S9)))) else (Q (.inl (some (.inl v38))) S37)))) (fun _ _ => False)))) (fun x S9 => Q (.inr x) S9)))) (fun x S9 => Q (.inr x) S9)))) else (ma_wp X (d - 1) (w - 22) 72 0 [(0, .inr (.inr (some 87))), (1, .inl (mI S 87 6))] [] S (zi (fun v2 S1 => zT S1 ∧ (ma_wp X (d - 1) (w - 21) 103 0 [(0, .inr (.inr (some 87))), (1, .inl n)] [] S1 (zi (fun v4 S3 => zT S3 ∧ (if v4 = (-1 : Int32) then (ma_wp X (d - 1) (w - 21) 67 0 [(0, .inr (.inr (some 87)))] [] S3 (zi (fun v10 S9 => zT S9 ∧ (ma_wp X (d - 1) (w - 21) 103 0 [(0, .inr (.inr (some 87))), (1, .inl n)] [] S9 (zi (fun v12 S11 => zT S11 ∧ (if v12 = (-1 : Int32) then (if (mI S3 87 8) = 0 then (Q (.inl (some (.inl v12))) S11) else (ma_wp X (d - 1) (w - 21) 67 0 [(0, .inr (.inr (some 87)))] [] S11 (zi (fun v14 S13 => zT S13 ∧ (ma_wp X (d - 1) (w - 21) 103 0 [(0, .inr (.inr (some 87))), (1, .inl n)] [] S13 (zi (fun v16 S15 => zT S15 ∧ (Q (.inl (some (.inl v16))) S15)) (fun _ _ => False)))) (fun x S9 => Q (.inr x) S9)))) else (Q (.inl (some (.inl v12))) S11))) (fun _ _ => False)))) (fun x S9 => Q (.inr x) S9))) else (if v4 = (-1 : Int32) then (if (mI S3 87 8) = 0 then (Q (.inl (some (.inl v4))) S3) else (ma_wp X (d - 1) (w - 21) 67 0 [(0, .inr (.inr (some 87)))] [] S3 (zi (fun v6 S5 => zT S5 ∧ (ma_wp X (d - 1) (w - 21) 103 0 [(0, .inr (.inr (some 87))), (1, .inl n)] [] S5 (zi (fun v8 S7 => zT S7 ∧ (Q (.inl (some (.inl v8))) S7)) (fun _ _ => False)))) (fun x S9 => Q (.inr x) S9)))) else (Q (.inl (some (.inl v4))) S3)))) (fun _ _ => False)))) (fun x S9 => Q (.inr x) S9)))) : ma_wp X d w 71 0 [(0, .inr (.inr (some 87))), (1, .inl n)] [] S Q := by
  refine zw_push hm_71 dX6_findRoom_0 (v := .inr (.inr (some 87))) rfl ?_
  refine zw_gf hm_71 dX6_findRoom_1 (v := .inl (mI S 87 8)) (zT_is hS s_87) (zT_t hS s_87) rfl f_6_31_6 rfl ?_
  refine zw_if0 hm_71 dX6_findRoom_4 (t := 32) rfl zc0_ne ?_ ?_
  · intro hc
    rw [if_neg hc] at h
    refine zw_push hm_71 dX6_findRoom_32 (v := .inr (.inr (some 87))) rfl ?_
    refine zw_push hm_71 dX6_findRoom_33 (v := .inr (.inr (some 87))) rfl ?_
    refine zw_gf hm_71 dX6_findRoom_34 (v := .inl (mI S 87 6)) (zT_is hS s_87) (zT_t hS s_87) rfl f_6_24_6 rfl ?_
    refine zw_cv hm_71 dX6_findRoom_37 v_6_51_6 hm_72 [.inl (mI S 87 6)] [] rfl (zT_rt hS s_87 rfl) ⟨by omega, by omega⟩ rfl (zw_mono h (zi_go ?_ ?_))
    · intro v2 S1 hv
      obtain ⟨hS1, h⟩ := hv
      refine zw_stk hm_71 dX6_findRoom_40 (st' := []) rfl rfl ?_
      refine zw_push hm_71 dX6_findRoom_41 (v := .inr (.inr (some 87))) rfl ?_
      refine zw_push hm_71 dX6_findRoom_42 (v := .inl n) rfl ?_
      refine zw_cv hm_71 dX6_findRoom_43 v_6_55_6 hm_103 [.inl n] [] rfl (zT_rt hS1 s_87 rfl) ⟨by omega, by omega⟩ rfl (zw_mono h (zi_go ?_ ?_))
      · intro v4 S3 hv
        obtain ⟨hS3, h⟩ := hv
        refine zw_sto hm_71 dX6_findRoom_46 [(2, .inl v4), (0, .inr (.inr (some 87))), (1, .inl n)] rfl rfl rfl ?_
        refine zw_push hm_71 dX6_findRoom_47 (v := .inr (.inr (some 87))) rfl ?_
        refine zw_gf hm_71 dX6_findRoom_48 (v := .inl (mI S3 87 8)) (zT_is hS3 s_87) (zT_t hS3 s_87) rfl f_6_31_6 rfl ?_
        refine zw_sto hm_71 dX6_findRoom_51 [(3, .inl (mI S3 87 8)), (2, .inl v4), (0, .inr (.inr (some 87))), (1, .inl n)] rfl rfl rfl ?_
        refine zw_push hm_71 dX6_findRoom_52 (v := .inl v4) rfl ?_
        refine zw_push hm_71 dX6_findRoom_53 (v := .inl (-1 : Int32)) rfl ?_
        refine zw_if2 hm_71 dX6_findRoom_54 (t := 68) rfl zc2_ne ?_ ?_
        · intro hc
          rw [if_neg hc] at h
          refine zw_push hm_71 dX6_findRoom_68 (v := .inl v4) rfl ?_
          refine zw_push hm_71 dX6_findRoom_69 (v := .inl (-1 : Int32)) rfl ?_
          refine zw_if2 hm_71 dX6_findRoom_70 (t := 88) rfl zc2_ne ?_ ?_
          · intro hc
            rw [if_neg hc] at h
            refine zw_push hm_71 dX6_findRoom_88 (v := .inl v4) rfl ?_
            exact zw_iret hm_71 dX6_findRoom_89 h
          · intro hc
            rw [if_pos (Classical.not_not.mp hc)] at h
            refine zw_push hm_71 dX6_findRoom_73 (v := .inl (mI S3 87 8)) rfl ?_
            refine zw_if0 hm_71 dX6_findRoom_74 (t := 88) rfl zc0_eq ?_ ?_
            · intro hc
              rw [if_pos hc] at h
              refine zw_push hm_71 dX6_findRoom_88 (v := .inl v4) rfl ?_
              exact zw_iret hm_71 dX6_findRoom_89 h
            · intro hc
              rw [if_neg hc] at h
              refine zw_push hm_71 dX6_findRoom_77 (v := .inr (.inr (some 87))) rfl ?_
              refine zw_cv hm_71 dX6_findRoom_78 v_6_58_6 hm_67 [] [] rfl (zT_rt hS3 s_87 rfl) ⟨by omega, by omega⟩ rfl (zw_mono h (zi_go ?_ ?_))
              · intro v6 S5 hv
                obtain ⟨hS5, h⟩ := hv
                refine zw_stk hm_71 dX6_findRoom_81 (st' := []) rfl rfl ?_
                refine zw_push hm_71 dX6_findRoom_82 (v := .inr (.inr (some 87))) rfl ?_
                refine zw_push hm_71 dX6_findRoom_83 (v := .inl n) rfl ?_
                refine zw_cv hm_71 dX6_findRoom_84 v_6_55_6 hm_103 [.inl n] [] rfl (zT_rt hS5 s_87 rfl) ⟨by omega, by omega⟩ rfl (zw_mono h (zi_go ?_ ?_))
                · intro v8 S7 hv
                  obtain ⟨hS7, h⟩ := hv
                  refine zw_sto hm_71 dX6_findRoom_87 [(2, .inl v8), (3, .inl (mI S3 87 8)), (0, .inr (.inr (some 87))), (1, .inl n)] rfl rfl rfl ?_
                  refine zw_push hm_71 dX6_findRoom_88 (v := .inl v8) rfl ?_
                  exact zw_iret hm_71 dX6_findRoom_89 h
                · intro x S9 hx
                  exact hx.elim
              · intro x S9 hx
                exact ⟨by decide, hx⟩
        · intro hc
          rw [if_pos (Classical.not_not.mp hc)] at h
          refine zw_push hm_71 dX6_findRoom_57 (v := .inr (.inr (some 87))) rfl ?_
          refine zw_cv hm_71 dX6_findRoom_58 v_6_58_6 hm_67 [] [] rfl (zT_rt hS3 s_87 rfl) ⟨by omega, by omega⟩ rfl (zw_mono h (zi_go ?_ ?_))
          · intro v10 S9 hv
            obtain ⟨hS9, h⟩ := hv
            refine zw_stk hm_71 dX6_findRoom_61 (st' := []) rfl rfl ?_
            refine zw_push hm_71 dX6_findRoom_62 (v := .inr (.inr (some 87))) rfl ?_
            refine zw_push hm_71 dX6_findRoom_63 (v := .inl n) rfl ?_
            refine zw_cv hm_71 dX6_findRoom_64 v_6_55_6 hm_103 [.inl n] [] rfl (zT_rt hS9 s_87 rfl) ⟨by omega, by omega⟩ rfl (zw_mono h (zi_go ?_ ?_))
            · intro v12 S11 hv
              obtain ⟨hS11, h⟩ := hv
              refine zw_sto hm_71 dX6_findRoom_67 [(2, .inl v12), (3, .inl (mI S3 87 8)), (0, .inr (.inr (some 87))), (1, .inl n)] rfl rfl rfl ?_
              refine zw_push hm_71 dX6_findRoom_68 (v := .inl v12) rfl ?_
              refine zw_push hm_71 dX6_findRoom_69 (v := .inl (-1 : Int32)) rfl ?_
              refine zw_if2 hm_71 dX6_findRoom_70 (t := 88) rfl zc2_ne ?_ ?_
              · intro hc
                rw [if_neg hc] at h
                refine zw_push hm_71 dX6_findRoom_88 (v := .inl v12) rfl ?_
                exact zw_iret hm_71 dX6_findRoom_89 h
              · intro hc
                rw [if_pos (Classical.not_not.mp hc)] at h
                refine zw_push hm_71 dX6_findRoom_73 (v := .inl (mI S3 87 8)) rfl ?_
                refine zw_if0 hm_71 dX6_findRoom_74 (t := 88) rfl zc0_eq ?_ ?_
                · intro hc
                  rw [if_pos hc] at h
                  refine zw_push hm_71 dX6_findRoom_88 (v := .inl v12) rfl ?_
                  exact zw_iret hm_71 dX6_findRoom_89 h
                · intro hc
                  rw [if_neg hc] at h
                  refine zw_push hm_71 dX6_findRoom_77 (v := .inr (.inr (some 87))) rfl ?_
                  refine zw_cv hm_71 dX6_findRoom_78 v_6_58_6 hm_67 [] [] rfl (zT_rt hS11 s_87 rfl) ⟨by omega, by omega⟩ rfl (zw_mono h (zi_go ?_ ?_))
                  · intro v14 S13 hv
                    obtain ⟨hS13, h⟩ := hv
                    refine zw_stk hm_71 dX6_findRoom_81 (st' := []) rfl rfl ?_
                    refine zw_push hm_71 dX6_findRoom_82 (v := .inr (.inr (some 87))) rfl ?_
                    refine zw_push hm_71 dX6_findRoom_83 (v := .inl n) rfl ?_
                    refine zw_cv hm_71 dX6_findRoom_84 v_6_55_6 hm_103 [.inl n] [] rfl (zT_rt hS13 s_87 rfl) ⟨by omega, by omega⟩ rfl (zw_mono h (zi_go ?_ ?_))
                    · intro v16 S15 hv
                      obtain ⟨hS15, h⟩ := hv
                      refine zw_sto hm_71 dX6_findRoom_87 [(2, .inl v16), (3, .inl (mI S3 87 8)), (0, .inr (.inr (some 87))), (1, .inl n)] rfl rfl rfl ?_
                      refine zw_push hm_71 dX6_findRoom_88 (v := .inl v16) rfl ?_
                      exact zw_iret hm_71 dX6_findRoom_89 h
                    · intro x S9 hx
                      exact hx.elim
                  · intro x S9 hx
                    exact ⟨by decide, hx⟩
            · intro x S9 hx
              exact hx.elim
          · intro x S9 hx
            exact ⟨by decide, hx⟩
      · intro x S9 hx
        exact hx.elim
    · intro x S9 hx
      exact ⟨by decide, hx⟩
  · intro hc
    rw [if_pos (Classical.not_not.mp hc)] at h
    refine zw_push hm_71 dX6_findRoom_7 (v := .inl (4 : Int32)) rfl ?_
    refine zw_push hm_71 dX6_findRoom_8 (v := .inr (.inr (some 87))) rfl ?_
    refine zw_gf hm_71 dX6_findRoom_9 (v := .inl (mI S 87 0)) (zT_is hS s_87) (zT_t hS s_87) rfl f_6_35_6 rfl ?_
    refine zw_push hm_71 dX6_findRoom_12 (v := .inr (.inr (some 87))) rfl ?_
    refine zw_gf hm_71 dX6_findRoom_13 (v := .inr (.inr (some 69))) (zT_is hS s_87) (zT_t hS s_87) rfl f_6_38_6 (zT_f hS r_87_3) ?_
    refine zw_gf hm_71 dX6_findRoom_16 (v := .inl (mI S 69 8)) (zT_is hS s_69) (zT_t hS s_69) rfl f_6_42_7 rfl ?_
    refine zw_stk hm_71 dX6_findRoom_19 (st' := [.inl ((mI S 87 0) - (mI S 69 8)), .inl (4 : Int32)]) rfl rfl ?_
    refine zw_stk hm_71 dX6_findRoom_20 (st' := [.inl ((4 : Int32) * ((mI S 87 0) - (mI S 69 8)))]) rfl rfl ?_
    refine zw_push hm_71 dX6_findRoom_21 (v := .inr (.inr (some 87))) rfl ?_
    refine zw_gf hm_71 dX6_findRoom_22 (v := .inl (mI S 87 0)) (zT_is hS s_87) (zT_t hS s_87) rfl f_6_35_6 rfl ?_
    refine zw_if2 hm_71 dX6_findRoom_25 (t := 32) rfl zc2_ge ?_ ?_
    · intro hc
      rw [if_pos hc] at h
      refine zw_push hm_71 dX6_findRoom_32 (v := .inr (.inr (some 87))) rfl ?_
      refine zw_push hm_71 dX6_findRoom_33 (v := .inr (.inr (some 87))) rfl ?_
      refine zw_gf hm_71 dX6_findRoom_34 (v := .inl (mI S 87 6)) (zT_is hS s_87) (zT_t hS s_87) rfl f_6_24_6 rfl ?_
      refine zw_cv hm_71 dX6_findRoom_37 v_6_51_6 hm_72 [.inl (mI S 87 6)] [] rfl (zT_rt hS s_87 rfl) ⟨by omega, by omega⟩ rfl (zw_mono h (zi_go ?_ ?_))
      · intro v18 S17 hv
        obtain ⟨hS17, h⟩ := hv
        refine zw_stk hm_71 dX6_findRoom_40 (st' := []) rfl rfl ?_
        refine zw_push hm_71 dX6_findRoom_41 (v := .inr (.inr (some 87))) rfl ?_
        refine zw_push hm_71 dX6_findRoom_42 (v := .inl n) rfl ?_
        refine zw_cv hm_71 dX6_findRoom_43 v_6_55_6 hm_103 [.inl n] [] rfl (zT_rt hS17 s_87 rfl) ⟨by omega, by omega⟩ rfl (zw_mono h (zi_go ?_ ?_))
        · intro v20 S19 hv
          obtain ⟨hS19, h⟩ := hv
          refine zw_sto hm_71 dX6_findRoom_46 [(2, .inl v20), (0, .inr (.inr (some 87))), (1, .inl n)] rfl rfl rfl ?_
          refine zw_push hm_71 dX6_findRoom_47 (v := .inr (.inr (some 87))) rfl ?_
          refine zw_gf hm_71 dX6_findRoom_48 (v := .inl (mI S19 87 8)) (zT_is hS19 s_87) (zT_t hS19 s_87) rfl f_6_31_6 rfl ?_
          refine zw_sto hm_71 dX6_findRoom_51 [(3, .inl (mI S19 87 8)), (2, .inl v20), (0, .inr (.inr (some 87))), (1, .inl n)] rfl rfl rfl ?_
          refine zw_push hm_71 dX6_findRoom_52 (v := .inl v20) rfl ?_
          refine zw_push hm_71 dX6_findRoom_53 (v := .inl (-1 : Int32)) rfl ?_
          refine zw_if2 hm_71 dX6_findRoom_54 (t := 68) rfl zc2_ne ?_ ?_
          · intro hc
            rw [if_neg hc] at h
            refine zw_push hm_71 dX6_findRoom_68 (v := .inl v20) rfl ?_
            refine zw_push hm_71 dX6_findRoom_69 (v := .inl (-1 : Int32)) rfl ?_
            refine zw_if2 hm_71 dX6_findRoom_70 (t := 88) rfl zc2_ne ?_ ?_
            · intro hc
              rw [if_neg hc] at h
              refine zw_push hm_71 dX6_findRoom_88 (v := .inl v20) rfl ?_
              exact zw_iret hm_71 dX6_findRoom_89 h
            · intro hc
              rw [if_pos (Classical.not_not.mp hc)] at h
              refine zw_push hm_71 dX6_findRoom_73 (v := .inl (mI S19 87 8)) rfl ?_
              refine zw_if0 hm_71 dX6_findRoom_74 (t := 88) rfl zc0_eq ?_ ?_
              · intro hc
                rw [if_pos hc] at h
                refine zw_push hm_71 dX6_findRoom_88 (v := .inl v20) rfl ?_
                exact zw_iret hm_71 dX6_findRoom_89 h
              · intro hc
                rw [if_neg hc] at h
                refine zw_push hm_71 dX6_findRoom_77 (v := .inr (.inr (some 87))) rfl ?_
                refine zw_cv hm_71 dX6_findRoom_78 v_6_58_6 hm_67 [] [] rfl (zT_rt hS19 s_87 rfl) ⟨by omega, by omega⟩ rfl (zw_mono h (zi_go ?_ ?_))
                · intro v22 S21 hv
                  obtain ⟨hS21, h⟩ := hv
                  refine zw_stk hm_71 dX6_findRoom_81 (st' := []) rfl rfl ?_
                  refine zw_push hm_71 dX6_findRoom_82 (v := .inr (.inr (some 87))) rfl ?_
                  refine zw_push hm_71 dX6_findRoom_83 (v := .inl n) rfl ?_
                  refine zw_cv hm_71 dX6_findRoom_84 v_6_55_6 hm_103 [.inl n] [] rfl (zT_rt hS21 s_87 rfl) ⟨by omega, by omega⟩ rfl (zw_mono h (zi_go ?_ ?_))
                  · intro v24 S23 hv
                    obtain ⟨hS23, h⟩ := hv
                    refine zw_sto hm_71 dX6_findRoom_87 [(2, .inl v24), (3, .inl (mI S19 87 8)), (0, .inr (.inr (some 87))), (1, .inl n)] rfl rfl rfl ?_
                    refine zw_push hm_71 dX6_findRoom_88 (v := .inl v24) rfl ?_
                    exact zw_iret hm_71 dX6_findRoom_89 h
                  · intro x S9 hx
                    exact hx.elim
                · intro x S9 hx
                  exact ⟨by decide, hx⟩
          · intro hc
            rw [if_pos (Classical.not_not.mp hc)] at h
            refine zw_push hm_71 dX6_findRoom_57 (v := .inr (.inr (some 87))) rfl ?_
            refine zw_cv hm_71 dX6_findRoom_58 v_6_58_6 hm_67 [] [] rfl (zT_rt hS19 s_87 rfl) ⟨by omega, by omega⟩ rfl (zw_mono h (zi_go ?_ ?_))
            · intro v26 S25 hv
              obtain ⟨hS25, h⟩ := hv
              refine zw_stk hm_71 dX6_findRoom_61 (st' := []) rfl rfl ?_
              refine zw_push hm_71 dX6_findRoom_62 (v := .inr (.inr (some 87))) rfl ?_
              refine zw_push hm_71 dX6_findRoom_63 (v := .inl n) rfl ?_
              refine zw_cv hm_71 dX6_findRoom_64 v_6_55_6 hm_103 [.inl n] [] rfl (zT_rt hS25 s_87 rfl) ⟨by omega, by omega⟩ rfl (zw_mono h (zi_go ?_ ?_))
              · intro v28 S27 hv
                obtain ⟨hS27, h⟩ := hv
                refine zw_sto hm_71 dX6_findRoom_67 [(2, .inl v28), (3, .inl (mI S19 87 8)), (0, .inr (.inr (some 87))), (1, .inl n)] rfl rfl rfl ?_
                refine zw_push hm_71 dX6_findRoom_68 (v := .inl v28) rfl ?_
                refine zw_push hm_71 dX6_findRoom_69 (v := .inl (-1 : Int32)) rfl ?_
                refine zw_if2 hm_71 dX6_findRoom_70 (t := 88) rfl zc2_ne ?_ ?_
                · intro hc
                  rw [if_neg hc] at h
                  refine zw_push hm_71 dX6_findRoom_88 (v := .inl v28) rfl ?_
                  exact zw_iret hm_71 dX6_findRoom_89 h
                · intro hc
                  rw [if_pos (Classical.not_not.mp hc)] at h
                  refine zw_push hm_71 dX6_findRoom_73 (v := .inl (mI S19 87 8)) rfl ?_
                  refine zw_if0 hm_71 dX6_findRoom_74 (t := 88) rfl zc0_eq ?_ ?_
                  · intro hc
                    rw [if_pos hc] at h
                    refine zw_push hm_71 dX6_findRoom_88 (v := .inl v28) rfl ?_
                    exact zw_iret hm_71 dX6_findRoom_89 h
                  · intro hc
                    rw [if_neg hc] at h
                    refine zw_push hm_71 dX6_findRoom_77 (v := .inr (.inr (some 87))) rfl ?_
                    refine zw_cv hm_71 dX6_findRoom_78 v_6_58_6 hm_67 [] [] rfl (zT_rt hS27 s_87 rfl) ⟨by omega, by omega⟩ rfl (zw_mono h (zi_go ?_ ?_))
                    · intro v30 S29 hv
                      obtain ⟨hS29, h⟩ := hv
                      refine zw_stk hm_71 dX6_findRoom_81 (st' := []) rfl rfl ?_
                      refine zw_push hm_71 dX6_findRoom_82 (v := .inr (.inr (some 87))) rfl ?_
                      refine zw_push hm_71 dX6_findRoom_83 (v := .inl n) rfl ?_
                      refine zw_cv hm_71 dX6_findRoom_84 v_6_55_6 hm_103 [.inl n] [] rfl (zT_rt hS29 s_87 rfl) ⟨by omega, by omega⟩ rfl (zw_mono h (zi_go ?_ ?_))
                      · intro v32 S31 hv
                        obtain ⟨hS31, h⟩ := hv
                        refine zw_sto hm_71 dX6_findRoom_87 [(2, .inl v32), (3, .inl (mI S19 87 8)), (0, .inr (.inr (some 87))), (1, .inl n)] rfl rfl rfl ?_
                        refine zw_push hm_71 dX6_findRoom_88 (v := .inl v32) rfl ?_
                        exact zw_iret hm_71 dX6_findRoom_89 h
                      · intro x S9 hx
                        exact hx.elim
                    · intro x S9 hx
                      exact ⟨by decide, hx⟩
              · intro x S9 hx
                exact hx.elim
            · intro x S9 hx
              exact ⟨by decide, hx⟩
        · intro x S9 hx
          exact hx.elim
      · intro x S9 hx
        exact ⟨by decide, hx⟩
    · intro hc
      rw [if_neg hc] at h
      refine zw_push hm_71 dX6_findRoom_28 (v := .inr (.inr (some 87))) rfl ?_
      refine zw_cv hm_71 dX6_findRoom_29 v_6_47_6 hm_68 [] [] rfl (zT_rt hS s_87 rfl) ⟨by omega, by omega⟩ rfl (zw_mono h (zv_go ?_ ?_))
      · intro S33 hv
        obtain ⟨hS33, h⟩ := hv
        refine zw_push hm_71 dX6_findRoom_32 (v := .inr (.inr (some 87))) rfl ?_
        refine zw_push hm_71 dX6_findRoom_33 (v := .inr (.inr (some 87))) rfl ?_
        refine zw_gf hm_71 dX6_findRoom_34 (v := .inl (mI S33 87 6)) (zT_is hS33 s_87) (zT_t hS33 s_87) rfl f_6_24_6 rfl ?_
        refine zw_cv hm_71 dX6_findRoom_37 v_6_51_6 hm_72 [.inl (mI S33 87 6)] [] rfl (zT_rt hS33 s_87 rfl) ⟨by omega, by omega⟩ rfl (zw_mono h (zi_go ?_ ?_))
        · intro v36 S35 hv
          obtain ⟨hS35, h⟩ := hv
          refine zw_stk hm_71 dX6_findRoom_40 (st' := []) rfl rfl ?_
          refine zw_push hm_71 dX6_findRoom_41 (v := .inr (.inr (some 87))) rfl ?_
          refine zw_push hm_71 dX6_findRoom_42 (v := .inl n) rfl ?_
          refine zw_cv hm_71 dX6_findRoom_43 v_6_55_6 hm_103 [.inl n] [] rfl (zT_rt hS35 s_87 rfl) ⟨by omega, by omega⟩ rfl (zw_mono h (zi_go ?_ ?_))
          · intro v38 S37 hv
            obtain ⟨hS37, h⟩ := hv
            refine zw_sto hm_71 dX6_findRoom_46 [(2, .inl v38), (0, .inr (.inr (some 87))), (1, .inl n)] rfl rfl rfl ?_
            refine zw_push hm_71 dX6_findRoom_47 (v := .inr (.inr (some 87))) rfl ?_
            refine zw_gf hm_71 dX6_findRoom_48 (v := .inl (mI S37 87 8)) (zT_is hS37 s_87) (zT_t hS37 s_87) rfl f_6_31_6 rfl ?_
            refine zw_sto hm_71 dX6_findRoom_51 [(3, .inl (mI S37 87 8)), (2, .inl v38), (0, .inr (.inr (some 87))), (1, .inl n)] rfl rfl rfl ?_
            refine zw_push hm_71 dX6_findRoom_52 (v := .inl v38) rfl ?_
            refine zw_push hm_71 dX6_findRoom_53 (v := .inl (-1 : Int32)) rfl ?_
            refine zw_if2 hm_71 dX6_findRoom_54 (t := 68) rfl zc2_ne ?_ ?_
            · intro hc
              rw [if_neg hc] at h
              refine zw_push hm_71 dX6_findRoom_68 (v := .inl v38) rfl ?_
              refine zw_push hm_71 dX6_findRoom_69 (v := .inl (-1 : Int32)) rfl ?_
              refine zw_if2 hm_71 dX6_findRoom_70 (t := 88) rfl zc2_ne ?_ ?_
              · intro hc
                rw [if_neg hc] at h
                refine zw_push hm_71 dX6_findRoom_88 (v := .inl v38) rfl ?_
                exact zw_iret hm_71 dX6_findRoom_89 h
              · intro hc
                rw [if_pos (Classical.not_not.mp hc)] at h
                refine zw_push hm_71 dX6_findRoom_73 (v := .inl (mI S37 87 8)) rfl ?_
                refine zw_if0 hm_71 dX6_findRoom_74 (t := 88) rfl zc0_eq ?_ ?_
                · intro hc
                  rw [if_pos hc] at h
                  refine zw_push hm_71 dX6_findRoom_88 (v := .inl v38) rfl ?_
                  exact zw_iret hm_71 dX6_findRoom_89 h
                · intro hc
                  rw [if_neg hc] at h
                  refine zw_push hm_71 dX6_findRoom_77 (v := .inr (.inr (some 87))) rfl ?_
                  refine zw_cv hm_71 dX6_findRoom_78 v_6_58_6 hm_67 [] [] rfl (zT_rt hS37 s_87 rfl) ⟨by omega, by omega⟩ rfl (zw_mono h (zi_go ?_ ?_))
                  · intro v40 S39 hv
                    obtain ⟨hS39, h⟩ := hv
                    refine zw_stk hm_71 dX6_findRoom_81 (st' := []) rfl rfl ?_
                    refine zw_push hm_71 dX6_findRoom_82 (v := .inr (.inr (some 87))) rfl ?_
                    refine zw_push hm_71 dX6_findRoom_83 (v := .inl n) rfl ?_
                    refine zw_cv hm_71 dX6_findRoom_84 v_6_55_6 hm_103 [.inl n] [] rfl (zT_rt hS39 s_87 rfl) ⟨by omega, by omega⟩ rfl (zw_mono h (zi_go ?_ ?_))
                    · intro v42 S41 hv
                      obtain ⟨hS41, h⟩ := hv
                      refine zw_sto hm_71 dX6_findRoom_87 [(2, .inl v42), (3, .inl (mI S37 87 8)), (0, .inr (.inr (some 87))), (1, .inl n)] rfl rfl rfl ?_
                      refine zw_push hm_71 dX6_findRoom_88 (v := .inl v42) rfl ?_
                      exact zw_iret hm_71 dX6_findRoom_89 h
                    · intro x S9 hx
                      exact hx.elim
                  · intro x S9 hx
                    exact ⟨by decide, hx⟩
            · intro hc
              rw [if_pos (Classical.not_not.mp hc)] at h
              refine zw_push hm_71 dX6_findRoom_57 (v := .inr (.inr (some 87))) rfl ?_
              refine zw_cv hm_71 dX6_findRoom_58 v_6_58_6 hm_67 [] [] rfl (zT_rt hS37 s_87 rfl) ⟨by omega, by omega⟩ rfl (zw_mono h (zi_go ?_ ?_))
              · intro v44 S43 hv
                obtain ⟨hS43, h⟩ := hv
                refine zw_stk hm_71 dX6_findRoom_61 (st' := []) rfl rfl ?_
                refine zw_push hm_71 dX6_findRoom_62 (v := .inr (.inr (some 87))) rfl ?_
                refine zw_push hm_71 dX6_findRoom_63 (v := .inl n) rfl ?_
                refine zw_cv hm_71 dX6_findRoom_64 v_6_55_6 hm_103 [.inl n] [] rfl (zT_rt hS43 s_87 rfl) ⟨by omega, by omega⟩ rfl (zw_mono h (zi_go ?_ ?_))
                · intro v46 S45 hv
                  obtain ⟨hS45, h⟩ := hv
                  refine zw_sto hm_71 dX6_findRoom_67 [(2, .inl v46), (3, .inl (mI S37 87 8)), (0, .inr (.inr (some 87))), (1, .inl n)] rfl rfl rfl ?_
                  refine zw_push hm_71 dX6_findRoom_68 (v := .inl v46) rfl ?_
                  refine zw_push hm_71 dX6_findRoom_69 (v := .inl (-1 : Int32)) rfl ?_
                  refine zw_if2 hm_71 dX6_findRoom_70 (t := 88) rfl zc2_ne ?_ ?_
                  · intro hc
                    rw [if_neg hc] at h
                    refine zw_push hm_71 dX6_findRoom_88 (v := .inl v46) rfl ?_
                    exact zw_iret hm_71 dX6_findRoom_89 h
                  · intro hc
                    rw [if_pos (Classical.not_not.mp hc)] at h
                    refine zw_push hm_71 dX6_findRoom_73 (v := .inl (mI S37 87 8)) rfl ?_
                    refine zw_if0 hm_71 dX6_findRoom_74 (t := 88) rfl zc0_eq ?_ ?_
                    · intro hc
                      rw [if_pos hc] at h
                      refine zw_push hm_71 dX6_findRoom_88 (v := .inl v46) rfl ?_
                      exact zw_iret hm_71 dX6_findRoom_89 h
                    · intro hc
                      rw [if_neg hc] at h
                      refine zw_push hm_71 dX6_findRoom_77 (v := .inr (.inr (some 87))) rfl ?_
                      refine zw_cv hm_71 dX6_findRoom_78 v_6_58_6 hm_67 [] [] rfl (zT_rt hS45 s_87 rfl) ⟨by omega, by omega⟩ rfl (zw_mono h (zi_go ?_ ?_))
                      · intro v48 S47 hv
                        obtain ⟨hS47, h⟩ := hv
                        refine zw_stk hm_71 dX6_findRoom_81 (st' := []) rfl rfl ?_
                        refine zw_push hm_71 dX6_findRoom_82 (v := .inr (.inr (some 87))) rfl ?_
                        refine zw_push hm_71 dX6_findRoom_83 (v := .inl n) rfl ?_
                        refine zw_cv hm_71 dX6_findRoom_84 v_6_55_6 hm_103 [.inl n] [] rfl (zT_rt hS47 s_87 rfl) ⟨by omega, by omega⟩ rfl (zw_mono h (zi_go ?_ ?_))
                        · intro v50 S49 hv
                          obtain ⟨hS49, h⟩ := hv
                          refine zw_sto hm_71 dX6_findRoom_87 [(2, .inl v50), (3, .inl (mI S37 87 8)), (0, .inr (.inr (some 87))), (1, .inl n)] rfl rfl rfl ?_
                          refine zw_push hm_71 dX6_findRoom_88 (v := .inl v50) rfl ?_
                          exact zw_iret hm_71 dX6_findRoom_89 h
                        · intro x S9 hx
                          exact hx.elim
                      · intro x S9 hx
                        exact ⟨by decide, hx⟩
                · intro x S9 hx
                  exact hx.elim
              · intro x S9 hx
                exact ⟨by decide, hx⟩
          · intro x S9 hx
            exact hx.elim
        · intro x S9 hx
          exact ⟨by decide, hx⟩
      · intro x S9 hx
        exact ⟨by decide, hx⟩
theorem sp_71_87 {X : Nat × (Nat → Int32)} {d w : Nat} {f : Nat → Nat → Int32} {r : Nat → Nat → Option Nat} {C Z N : Nat} {Q : Option ma_V ⊕ Nat → ma_S → Prop} {S : ma_S} (n : Int32) (hd : 5 ≤ d) (hw : 114 ≤ w) (hI : zJ87 f r C Z N S)  (K : ∀ v S', zJ87 f r C Z N S' → (-1 ≤ v.toInt ∧ v.toInt ≤ 300000) → Q (.inl (some (.inl v))) S') : ma_wp X d w 71 0 [(0, .inr (.inr (some 87))), (1, .inl n)] [] S Q := by
  refine g_71_87_0 n (by omega) (by omega) (zG_T hI) ?_
  have f1 := zG_s hI (0) (1) (c := 87) (k := 8) (by decide)
  have li2 : (0 : Int32).toInt = 0 := rfl
  refine zd (fun h3 => ?_) (fun h3 => ?_)
  · skip
    have g4 := i_eq h3
    have f5 := zG_s hI (0) (1500) (c := 87) (k := 0) (by decide)
    have li6 : (4 : Int32).toInt = 4 := rfl
    have b7 := i_bd (mI S 69 8)
    first | have e8 : ((mI S 87 0) - (mI S 69 8)).toInt = (mI S 87 0).toInt - (mI S 69 8).toInt := i_sub (by omega) (by omega) | have b9 := i_bd ((mI S 87 0) - (mI S 69 8))
    first | have f10 := i_muln (x := (4 : Int32)) (y := ((mI S 87 0) - (mI S 69 8))) (by omega) (by omega) (by omega) (by omega) | have b11 := i_bd ((4 : Int32) * ((mI S 87 0) - (mI S 69 8)))
    refine zd (fun h12 => ?_) (fun h12 => ?_)
    · skip
      have g13 := i_le h12
      have f14 := zG_s hI (-1) (1500) (c := 87) (k := 6) (by decide)
      refine sp_72_87 ((mI S 87 6)) (by omega) (by omega) hI  (fun v18 S17 hI_S17 hp_v18 => zi_n ⟨zG_T hI_S17, ?_⟩)
      have b15 := i_bd n
      refine sp_103_87 (n) (by omega) (by omega) hI_S17  (fun v20 S19 hI_S19 hp_v20 => zi_n ⟨zG_T hI_S19, ?_⟩)
      have b16 := i_bd v20
      have li17 : (-1 : Int32).toInt = -1 := rfl
      refine zd (fun h18 => ?_) (fun h18 => ?_)
      · skip
        have g19 := i_eq h18
        refine sp_67_87  (by omega) (by omega) hI_S19  (fun v26 S25 hI_S25 hp_v26 => zi_n ⟨zG_T hI_S25, ?_⟩)
        refine sp_103_87 (n) (by omega) (by omega) hI_S25  (fun v28 S27 hI_S27 hp_v28 => zi_n ⟨zG_T hI_S27, ?_⟩)
        have b20 := i_bd v28
        refine zd (fun h21 => ?_) (fun h21 => ?_)
        · skip
          have g22 := i_eq h21
          have f23 := zG_s hI_S19 (0) (1) (c := 87) (k := 8) (by decide)
          refine zd (fun h24 => ?_) (fun h24 => ?_)
          · skip
            have g25 := i_eq h24
            exact K (v28) _ hI_S27 (by omega)
          · skip
            have g26 := i_ne h24
            refine sp_67_87  (by omega) (by omega) hI_S27  (fun v30 S29 hI_S29 hp_v30 => zi_n ⟨zG_T hI_S29, ?_⟩)
            refine sp_103_87 (n) (by omega) (by omega) hI_S29  (fun v32 S31 hI_S31 hp_v32 => zi_n ⟨zG_T hI_S31, ?_⟩)
            have b27 := i_bd v32
            exact K (v32) _ hI_S31 (by omega)
        · skip
          have g28 := i_ne h21
          exact K (v28) _ hI_S27 (by omega)
      · skip
        have g29 := i_ne h18
        refine zd (fun h30 => ?_) (fun h30 => ?_)
        · skip
          have g31 := i_eq h30
          have f32 := zG_s hI_S19 (0) (1) (c := 87) (k := 8) (by decide)
          refine zd (fun h33 => ?_) (fun h33 => ?_)
          · skip
            have g34 := i_eq h33
            exact K (v20) _ hI_S19 (by omega)
          · skip
            have g35 := i_ne h33
            refine sp_67_87  (by omega) (by omega) hI_S19  (fun v22 S21 hI_S21 hp_v22 => zi_n ⟨zG_T hI_S21, ?_⟩)
            refine sp_103_87 (n) (by omega) (by omega) hI_S21  (fun v24 S23 hI_S23 hp_v24 => zi_n ⟨zG_T hI_S23, ?_⟩)
            have b36 := i_bd v24
            exact K (v24) _ hI_S23 (by omega)
        · skip
          have g37 := i_ne h30
          exact K (v20) _ hI_S19 (by omega)
    · skip
      have g38 := i_nle h12
      refine sp_68_87  (by omega) (by omega) hI  (fun S33 hI_S33 => zv_n ⟨zG_T hI_S33, ?_⟩)
      have f39 := zG_s hI_S33 (-1) (1500) (c := 87) (k := 6) (by decide)
      refine sp_72_87 ((mI S33 87 6)) (by omega) (by omega) hI_S33  (fun v36 S35 hI_S35 hp_v36 => zi_n ⟨zG_T hI_S35, ?_⟩)
      have b40 := i_bd n
      refine sp_103_87 (n) (by omega) (by omega) hI_S35  (fun v38 S37 hI_S37 hp_v38 => zi_n ⟨zG_T hI_S37, ?_⟩)
      have b41 := i_bd v38
      have li42 : (-1 : Int32).toInt = -1 := rfl
      refine zd (fun h43 => ?_) (fun h43 => ?_)
      · skip
        have g44 := i_eq h43
        refine sp_67_87  (by omega) (by omega) hI_S37  (fun v44 S43 hI_S43 hp_v44 => zi_n ⟨zG_T hI_S43, ?_⟩)
        refine sp_103_87 (n) (by omega) (by omega) hI_S43  (fun v46 S45 hI_S45 hp_v46 => zi_n ⟨zG_T hI_S45, ?_⟩)
        have b45 := i_bd v46
        refine zd (fun h46 => ?_) (fun h46 => ?_)
        · skip
          have g47 := i_eq h46
          have f48 := zG_s hI_S37 (0) (1) (c := 87) (k := 8) (by decide)
          refine zd (fun h49 => ?_) (fun h49 => ?_)
          · skip
            have g50 := i_eq h49
            exact K (v46) _ hI_S45 (by omega)
          · skip
            have g51 := i_ne h49
            refine sp_67_87  (by omega) (by omega) hI_S45  (fun v48 S47 hI_S47 hp_v48 => zi_n ⟨zG_T hI_S47, ?_⟩)
            refine sp_103_87 (n) (by omega) (by omega) hI_S47  (fun v50 S49 hI_S49 hp_v50 => zi_n ⟨zG_T hI_S49, ?_⟩)
            have b52 := i_bd v50
            exact K (v50) _ hI_S49 (by omega)
        · skip
          have g53 := i_ne h46
          exact K (v46) _ hI_S45 (by omega)
      · skip
        have g54 := i_ne h43
        refine zd (fun h55 => ?_) (fun h55 => ?_)
        · skip
          have g56 := i_eq h55
          have f57 := zG_s hI_S37 (0) (1) (c := 87) (k := 8) (by decide)
          refine zd (fun h58 => ?_) (fun h58 => ?_)
          · skip
            have g59 := i_eq h58
            exact K (v38) _ hI_S37 (by omega)
          · skip
            have g60 := i_ne h58
            refine sp_67_87  (by omega) (by omega) hI_S37  (fun v40 S39 hI_S39 hp_v40 => zi_n ⟨zG_T hI_S39, ?_⟩)
            refine sp_103_87 (n) (by omega) (by omega) hI_S39  (fun v42 S41 hI_S41 hp_v42 => zi_n ⟨zG_T hI_S41, ?_⟩)
            have b61 := i_bd v42
            exact K (v42) _ hI_S41 (by omega)
        · skip
          have g62 := i_ne h55
          exact K (v38) _ hI_S37 (by omega)
  · skip
    have g63 := i_ne h3
    have f64 := zG_s hI (-1) (1500) (c := 87) (k := 6) (by decide)
    refine sp_72_87 ((mI S 87 6)) (by omega) (by omega) hI  (fun v2 S1 hI_S1 hp_v2 => zi_n ⟨zG_T hI_S1, ?_⟩)
    have b65 := i_bd n
    refine sp_103_87 (n) (by omega) (by omega) hI_S1  (fun v4 S3 hI_S3 hp_v4 => zi_n ⟨zG_T hI_S3, ?_⟩)
    have b66 := i_bd v4
    have li67 : (-1 : Int32).toInt = -1 := rfl
    refine zd (fun h68 => ?_) (fun h68 => ?_)
    · skip
      have g69 := i_eq h68
      refine sp_67_87  (by omega) (by omega) hI_S3  (fun v10 S9 hI_S9 hp_v10 => zi_n ⟨zG_T hI_S9, ?_⟩)
      refine sp_103_87 (n) (by omega) (by omega) hI_S9  (fun v12 S11 hI_S11 hp_v12 => zi_n ⟨zG_T hI_S11, ?_⟩)
      have b70 := i_bd v12
      refine zd (fun h71 => ?_) (fun h71 => ?_)
      · skip
        have g72 := i_eq h71
        have f73 := zG_s hI_S3 (0) (1) (c := 87) (k := 8) (by decide)
        refine zd (fun h74 => ?_) (fun h74 => ?_)
        · skip
          have g75 := i_eq h74
          exact K (v12) _ hI_S11 (by omega)
        · skip
          have g76 := i_ne h74
          refine sp_67_87  (by omega) (by omega) hI_S11  (fun v14 S13 hI_S13 hp_v14 => zi_n ⟨zG_T hI_S13, ?_⟩)
          refine sp_103_87 (n) (by omega) (by omega) hI_S13  (fun v16 S15 hI_S15 hp_v16 => zi_n ⟨zG_T hI_S15, ?_⟩)
          have b77 := i_bd v16
          exact K (v16) _ hI_S15 (by omega)
      · skip
        have g78 := i_ne h71
        exact K (v12) _ hI_S11 (by omega)
    · skip
      have g79 := i_ne h68
      refine zd (fun h80 => ?_) (fun h80 => ?_)
      · skip
        have g81 := i_eq h80
        have f82 := zG_s hI_S3 (0) (1) (c := 87) (k := 8) (by decide)
        refine zd (fun h83 => ?_) (fun h83 => ?_)
        · skip
          have g84 := i_eq h83
          exact K (v4) _ hI_S3 (by omega)
        · skip
          have g85 := i_ne h83
          refine sp_67_87  (by omega) (by omega) hI_S3  (fun v6 S5 hI_S5 hp_v6 => zi_n ⟨zG_T hI_S5, ?_⟩)
          refine sp_103_87 (n) (by omega) (by omega) hI_S5  (fun v8 S7 hI_S7 hp_v8 => zi_n ⟨zG_T hI_S7, ?_⟩)
          have b86 := i_bd v8
          exact K (v8) _ hI_S7 (by omega)
      · skip
        have g87 := i_ne h80
        exact K (v4) _ hI_S3 (by omega)
theorem g_73_87_0 {X : Nat × (Nat → Int32)} {d w : Nat} {S : ma_S} {Q : Option ma_V ⊕ Nat → ma_S → Prop} (t : Nat) (hd : 1 ≤ d) (hw : 21 ≤ w) (hS : zT S) (h : ma_wp X (d - 1) (w - 21) 110 0 [(0, .inr (.inr (some 87))), (1, .inr (.inr (some t)))] [] S (zv (fun S1 => zT S1 ∧ (if (mI S1 87 8) = 0 then (Q (.inl none) S1) else (ma_wp X (d - 1) (w - 21) 121 0 [(0, .inr (.inr (some 88))), (1, .inr (.inr (some t)))] [] S1 (zv (fun S3 => zT S3 ∧ (Q (.inl none) S3)) (fun x S9 => Q (.inr x) S9))))) (fun _ _ => False))) : ma_wp X d w 73 0 [(0, .inr (.inr (some 87))), (1, .inr (.inr (some t)))] [] S Q := by
  refine zw_push hm_73 dX6_noteMade_0 (v := .inr (.inr (some 87))) rfl ?_
  refine zw_push hm_73 dX6_noteMade_1 (v := .inr (.inr (some t))) rfl ?_
  refine zw_csp hm_73 dX6_noteMade_2 ip_6_62 il_6_62 hm_110 [.inr (.inr (some t))] [] rfl (zT_is hS s_87) (by rw [(zT_t hS s_87)]; decide) ⟨by omega, by omega⟩ rfl (zw_mono h (zv_go ?_ ?_))
  · intro S1 hv
    obtain ⟨hS1, h⟩ := hv
    refine zw_push hm_73 dX6_noteMade_5 (v := .inr (.inr (some 87))) rfl ?_
    refine zw_gf hm_73 dX6_noteMade_6 (v := .inl (mI S1 87 8)) (zT_is hS1 s_87) (zT_t hS1 s_87) rfl f_6_31_6 rfl ?_
    refine zw_if0 hm_73 dX6_noteMade_9 (t := 20) rfl zc0_eq ?_ ?_
    · intro hc
      rw [if_pos hc] at h
      exact zw_vret hm_73 dX6_noteMade_20 h
    · intro hc
      rw [if_neg hc] at h
      refine zw_push hm_73 dX6_noteMade_12 (v := .inr (.inr (some 87))) rfl ?_
      refine zw_gf hm_73 dX6_noteMade_13 (v := .inr (.inr (some 88))) (zT_is hS1 s_87) (zT_t hS1 s_87) rfl f_6_14_6 (zT_f hS1 r_87_5) ?_
      refine zw_push hm_73 dX6_noteMade_16 (v := .inr (.inr (some t))) rfl ?_
      refine zw_cv hm_73 dX6_noteMade_17 v_6_66_10 hm_121 [.inr (.inr (some t))] [] rfl (zT_rt hS1 s_88 rfl) ⟨by omega, by omega⟩ rfl (zw_mono h (zv_go ?_ ?_))
      · intro S3 hv
        obtain ⟨hS3, h⟩ := hv
        exact zw_vret hm_73 dX6_noteMade_20 h
      · intro x S9 hx
        exact ⟨by decide, hx⟩
  · intro x S9 hx
    exact hx.elim
theorem sp_73_87 {X : Nat × (Nat → Int32)} {d w : Nat} {f : Nat → Nat → Int32} {r : Nat → Nat → Option Nat} {C Z N : Nat} {Q : Option ma_V ⊕ Nat → ma_S → Prop} {S : ma_S} (t : Nat) (hd : 1 ≤ d) (hw : 21 ≤ w) (hI : zJ87 f r C Z N S) (th_t : 126 ≤ t ∧ t < N) (K : ∀ S', zJ87 f r C Z N S' → Q (.inl none) S') : ma_wp X d w 73 0 [(0, .inr (.inr (some 87))), (1, .inr (.inr (some t)))] [] S Q := by
  refine g_73_87_0 t (by omega) (by omega) (zG_T hI) ?_
  refine sp_110_87 t (by omega) (by omega) hI th_t (fun S1 hI_S1 => zv_n ⟨zG_T hI_S1, ?_⟩)
  have f1 := zG_s hI_S1 (0) (1) (c := 87) (k := 8) (by decide)
  have li2 : (0 : Int32).toInt = 0 := rfl
  refine zd (fun h3 => ?_) (fun h3 => ?_)
  · skip
    have g4 := i_eq h3
    exact K _ hI_S1
  · skip
    have g5 := i_ne h3
    refine sp_121_88 t (by omega) (by omega) (zJ87_dn hI_S1) th_t (fun S3 hL_S3 => zv_n ⟨zG_T hL_S3, ?_⟩)
    have hI_S3 := zJ87_up hI_S1 hL_S3
    exact K _ hI_S3
theorem g_74_87_0 {X : Nat × (Nat → Int32)} {d w : Nat} {S : ma_S} {Q : Option ma_V ⊕ Nat → ma_S → Prop} (x : Option Nat) (y : Option Nat) (hd : 1 ≤ d) (hw : 21 ≤ w) (hS : zT S) (h : if (mI S 87 8) = 0 then (Q (.inl none) S) else (((∀ b, x = some b → 64 ≤ b) ∧ ∀ b, y = some b → 64 ≤ b) ∧ (if x = y then (Q (.inl none) S) else (if (mI S 87 7) = 0 then (ma_wp X (d - 1) (w - 21) 119 0 [(0, .inr (.inr (some 88))), (1, .inr (.inr x))] [] S (zv (fun S3 => zT S3 ∧ (Q (.inl none) S3)) (fun x S9 => Q (.inr x) S9))) else (ma_wp X (d - 1) (w - 21) 119 0 [(0, .inr (.inr (some 88))), (1, .inr (.inr y))] [] S (zv (fun S1 => zT S1 ∧ (Q (.inl none) S1)) (fun x S9 => Q (.inr x) S9))))))) : ma_wp X d w 74 0 [(0, .inr (.inr (some 87))), (1, .inr (.inr x)), (2, .inr (.inr y))] [] S Q := by
  refine zw_push hm_74 dX6_noteChange_0 (v := .inr (.inr (some 87))) rfl ?_
  refine zw_gf hm_74 dX6_noteChange_1 (v := .inl (mI S 87 8)) (zT_is hS s_87) (zT_t hS s_87) rfl f_6_31_6 rfl ?_
  refine zw_if0 hm_74 dX6_noteChange_4 (t := 31) rfl zc0_eq ?_ ?_
  · intro hc
    rw [if_pos hc] at h
    exact zw_vret hm_74 dX6_noteChange_31 h
  · intro hc
    rw [if_neg hc] at h
    refine zw_push hm_74 dX6_noteChange_7 (v := .inr (.inr x)) rfl ?_
    refine zw_push hm_74 dX6_noteChange_8 (v := .inr (.inr y)) rfl ?_
    obtain ⟨hg, h⟩ := h
    refine zw_acmp hm_74 dX6_noteChange_9 (t := 31) rfl hg.1 hg.2 ?_ ?_
    · intro hc
      rw [if_pos hc] at h
      exact zw_vret hm_74 dX6_noteChange_31 h
    · intro hc
      rw [if_neg hc] at h
      refine zw_push hm_74 dX6_noteChange_12 (v := .inr (.inr (some 87))) rfl ?_
      refine zw_gf hm_74 dX6_noteChange_13 (v := .inr (.inr (some 88))) (zT_is hS s_87) (zT_t hS s_87) rfl f_6_14_6 (zT_f hS r_87_5) ?_
      refine zw_push hm_74 dX6_noteChange_16 (v := .inr (.inr (some 87))) rfl ?_
      refine zw_gf hm_74 dX6_noteChange_17 (v := .inl (mI S 87 7)) (zT_is hS s_87) (zT_t hS s_87) rfl f_6_28_6 rfl ?_
      refine zw_if0 hm_74 dX6_noteChange_20 (t := 27) rfl zc0_ne ?_ ?_
      · intro hc
        rw [if_neg hc] at h
        refine zw_push hm_74 dX6_noteChange_27 (v := .inr (.inr y)) rfl ?_
        refine zw_cv hm_74 dX6_noteChange_28 v_6_97_10 hm_119 [.inr (.inr y)] [] rfl (zT_rt hS s_88 rfl) ⟨by omega, by omega⟩ rfl (zw_mono h (zv_go ?_ ?_))
        · intro S1 hv
          obtain ⟨hS1, h⟩ := hv
          exact zw_vret hm_74 dX6_noteChange_31 h
        · intro x S9 hx
          exact ⟨by decide, hx⟩
      · intro hc
        rw [if_pos (Classical.not_not.mp hc)] at h
        refine zw_push hm_74 dX6_noteChange_23 (v := .inr (.inr x)) rfl ?_
        refine zw_goto hm_74 dX6_noteChange_24 (t := 28) rfl ?_
        refine zw_cv hm_74 dX6_noteChange_28 v_6_97_10 hm_119 [.inr (.inr x)] [] rfl (zT_rt hS s_88 rfl) ⟨by omega, by omega⟩ rfl (zw_mono h (zv_go ?_ ?_))
        · intro S3 hv
          obtain ⟨hS3, h⟩ := hv
          exact zw_vret hm_74 dX6_noteChange_31 h
        · intro x S9 hx
          exact ⟨by decide, hx⟩
theorem sp_74_87 {X : Nat × (Nat → Int32)} {d w : Nat} {f : Nat → Nat → Int32} {r : Nat → Nat → Option Nat} {C Z N : Nat} {Q : Option ma_V ⊕ Nat → ma_S → Prop} {S : ma_S} (x : Option Nat) (y : Option Nat) (hd : 1 ≤ d) (hw : 21 ≤ w) (hI : zJ87 f r C Z N S) (hq_x : ∀ c, x = some c → 126 ≤ c ∧ c < N) (hq_y : ∀ c, y = some c → 126 ≤ c ∧ c < N) (K : ∀ S', zJ87 f r C Z N S' → Q (.inl none) S') : ma_wp X d w 74 0 [(0, .inr (.inr (some 87))), (1, .inr (.inr x)), (2, .inr (.inr y))] [] S Q := by
  refine g_74_87_0 x y (by omega) (by omega) (zG_T hI) ?_
  have f1 := zG_s hI (0) (1) (c := 87) (k := 8) (by decide)
  have li2 : (0 : Int32).toInt = 0 := rfl
  refine zd (fun h3 => ?_) (fun h3 => ?_)
  · skip
    have g4 := i_eq h3
    exact K _ hI
  · skip
    have g5 := i_ne h3
    refine ⟨⟨fun b z => Nat.le_trans (by decide) (hq_x b z).1, fun b z => Nat.le_trans (by decide) (hq_y b z).1⟩, ?_⟩
    refine zd (fun h6 => ?_) (fun h6 => ?_)
    · skip
      exact K _ hI
    · skip
      have b7 := i_bd (mI S 87 7)
      refine zd (fun h8 => ?_) (fun h8 => ?_)
      · skip
        have g9 := i_eq h8
        refine sp_119_88 (x) (by omega) (by omega) (zJ87_dn hI) hq_x (fun S3 hL_S3 => zv_n ⟨zG_T hL_S3, ?_⟩)
        have hI_S3 := zJ87_up hI hL_S3
        exact K _ hI_S3
      · skip
        have g10 := i_ne h8
        refine sp_119_88 (y) (by omega) (by omega) (zJ87_dn hI) hq_y (fun S1 hL_S1 => zv_n ⟨zG_T hL_S1, ?_⟩)
        have hI_S1 := zJ87_up hI hL_S1
        exact K _ hI_S1
theorem g_75_87_0 {X : Nat × (Nat → Int32)} {d w : Nat} {S : ma_S} {Q : Option ma_V ⊕ Nat → ma_S → Prop} (a : Nat) (hd : 1 ≤ d) (hw : 21 ≤ w) (hS : zT S) (h : if (mI S 87 8) = 0 then (Q (.inl none) S) else (ma_wp X (d - 1) (w - 21) 119 0 [(0, .inr (.inr (some 88))), (1, .inr (.inr (some a)))] [] S (zv (fun S1 => zT S1 ∧ (Q (.inl none) S1)) (fun x S9 => Q (.inr x) S9)))) : ma_wp X d w 75 0 [(0, .inr (.inr (some 87))), (1, .inr (.inr (some a)))] [] S Q := by
  refine zw_push hm_75 dX6_noteStrong_0 (v := .inr (.inr (some 87))) rfl ?_
  refine zw_gf hm_75 dX6_noteStrong_1 (v := .inl (mI S 87 8)) (zT_is hS s_87) (zT_t hS s_87) rfl f_6_31_6 rfl ?_
  refine zw_if0 hm_75 dX6_noteStrong_4 (t := 15) rfl zc0_eq ?_ ?_
  · intro hc
    rw [if_pos hc] at h
    exact zw_vret hm_75 dX6_noteStrong_15 h
  · intro hc
    rw [if_neg hc] at h
    refine zw_push hm_75 dX6_noteStrong_7 (v := .inr (.inr (some 87))) rfl ?_
    refine zw_gf hm_75 dX6_noteStrong_8 (v := .inr (.inr (some 88))) (zT_is hS s_87) (zT_t hS s_87) rfl f_6_14_6 (zT_f hS r_87_5) ?_
    refine zw_push hm_75 dX6_noteStrong_11 (v := .inr (.inr (some a))) rfl ?_
    refine zw_cv hm_75 dX6_noteStrong_12 v_6_97_10 hm_119 [.inr (.inr (some a))] [] rfl (zT_rt hS s_88 rfl) ⟨by omega, by omega⟩ rfl (zw_mono h (zv_go ?_ ?_))
    · intro S1 hv
      obtain ⟨hS1, h⟩ := hv
      exact zw_vret hm_75 dX6_noteStrong_15 h
    · intro x S9 hx
      exact ⟨by decide, hx⟩
theorem sp_75_87 {X : Nat × (Nat → Int32)} {d w : Nat} {f : Nat → Nat → Int32} {r : Nat → Nat → Option Nat} {C Z N : Nat} {Q : Option ma_V ⊕ Nat → ma_S → Prop} {S : ma_S} (a : Nat) (hd : 1 ≤ d) (hw : 21 ≤ w) (hI : zJ87 f r C Z N S) (th_a : 126 ≤ a ∧ a < N) (K : ∀ S', zJ87 f r C Z N S' → Q (.inl none) S') : ma_wp X d w 75 0 [(0, .inr (.inr (some 87))), (1, .inr (.inr (some a)))] [] S Q := by
  refine g_75_87_0 a (by omega) (by omega) (zG_T hI) ?_
  have f1 := zG_s hI (0) (1) (c := 87) (k := 8) (by decide)
  have li2 : (0 : Int32).toInt = 0 := rfl
  refine zd (fun h3 => ?_) (fun h3 => ?_)
  · skip
    have g4 := i_eq h3
    exact K _ hI
  · skip
    have g5 := i_ne h3
    refine sp_119_88 ((some a)) (by omega) (by omega) (zJ87_dn hI) (fun _ z => by cases z; exact th_a) (fun S1 hL_S1 => zv_n ⟨zG_T hL_S1, ?_⟩)
    have hI_S1 := zJ87_up hI hL_S1
    exact K _ hI_S1
theorem g_76_87_0 {X : Nat × (Nat → Int32)} {d w : Nat} {S : ma_S} {Q : Option ma_V ⊕ Nat → ma_S → Prop} (a : Nat) (hd : 1 ≤ d) (hw : 21 ≤ w) (hS : zT S) (h : if (mI S 87 8) = 0 then (Q (.inl (some (.inl (0 : Int32)))) S) else ((126 ≤ a ∧ a < mN S) ∧ (if (512 : Int32) ≤ (mI S a 0) then (Q (.inl (some (.inl (0 : Int32)))) S) else ((126 ≤ a ∧ a < mN S) ∧ ((0 ≤ (mI S a 0) ∧ (mI S a 0).toNatClampNeg < 512) ∧ (Q (.inl (some (.inl (mI S 90 (mI S a 0).toNatClampNeg)))) S)))))) : ma_wp X d w 76 0 [(0, .inr (.inr (some 87))), (1, .inr (.inr (some a)))] [] S Q := by
  refine zw_push hm_76 dX6_colourOf_0 (v := .inr (.inr (some 87))) rfl ?_
  refine zw_gf hm_76 dX6_colourOf_1 (v := .inl (mI S 87 8)) (zT_is hS s_87) (zT_t hS s_87) rfl f_6_31_6 rfl ?_
  refine zw_if0 hm_76 dX6_colourOf_4 (t := 18) rfl zc0_eq ?_ ?_
  · intro hc
    rw [if_pos hc] at h
    refine zw_push hm_76 dX6_colourOf_18 (v := .inl (0 : Int32)) rfl ?_
    exact zw_iret hm_76 dX6_colourOf_19 h
  · intro hc
    rw [if_neg hc] at h
    refine zw_push hm_76 dX6_colourOf_7 (v := .inr (.inr (some 87))) rfl ?_
    refine zw_gf hm_76 dX6_colourOf_8 (v := .inr (.inr (some 88))) (zT_is hS s_87) (zT_t hS s_87) rfl f_6_14_6 (zT_f hS r_87_5) ?_
    refine zw_push hm_76 dX6_colourOf_11 (v := .inr (.inr (some a))) rfl ?_
    refine zw_cv hm_76 dX6_colourOf_12 v_6_100_10 hm_123 [.inr (.inr (some a))] [] rfl (zT_rt hS s_88 rfl) ⟨by omega, by omega⟩ rfl ?_
    show ma_wp X (d - 1) (w - 21) 123 0 [(0, .inr (.inr (some 88))), (1, .inr (.inr (some a)))] [] S _
    refine zw_push hm_123 dX10_colourOf_0 (v := .inr (.inr (some a))) rfl ?_
    obtain ⟨hg, h⟩ := h
    refine zw_gf hm_123 dX10_colourOf_1 (v := .inl (mI S a 0)) (zT_tis hS hg) (zT_tt hS hg) rfl f_10_58_9 rfl ?_
    refine zw_push hm_123 dX10_colourOf_4 (v := .inl (512 : Int32)) rfl ?_
    refine zw_if2 hm_123 dX10_colourOf_7 (t := 22) rfl zc2_ge ?_ ?_
    · intro hc
      rw [if_pos hc] at h
      refine zw_push hm_123 dX10_colourOf_22 (v := .inl (0 : Int32)) rfl ?_
      refine zw_iret hm_123 dX10_colourOf_23 ?_
      show ma_wp X d w 76 15 [(0, .inr (.inr (some 87))), (1, .inr (.inr (some a)))] [.inl (0 : Int32)] S _
      refine zw_goto hm_76 dX6_colourOf_15 (t := 19) rfl ?_
      exact zw_iret hm_76 dX6_colourOf_19 h
    · intro hc
      rw [if_neg hc] at h
      refine zw_push hm_123 dX10_colourOf_10 (v := .inr (.inr (some 88))) rfl ?_
      refine zw_gf hm_123 dX10_colourOf_11 (v := .inr (.inr (some 90))) (zT_is hS s_88) (zT_t hS s_88) rfl f_10_15_10 (zT_f hS r_88_2) ?_
      refine zw_push hm_123 dX10_colourOf_14 (v := .inr (.inr (some a))) rfl ?_
      obtain ⟨hg, h⟩ := h
      refine zw_gf hm_123 dX10_colourOf_15 (v := .inl (mI S a 0)) (zT_tis hS hg) (zT_tt hS hg) rfl f_10_58_9 rfl ?_
      obtain ⟨hg, h⟩ := h
      refine zw_ia hm_123 dX10_colourOf_18 (zT_is hS s_90) (zT_h hS s_90) rfl hg ?_
      show ma_wp X (d - 1) (w - 21) 123 19 [(0, .inr (.inr (some 88))), (1, .inr (.inr (some a)))] [.inl (mI S 90 (mI S a 0).toNatClampNeg)] S _
      refine zw_goto hm_123 dX10_colourOf_19 (t := 23) rfl ?_
      refine zw_iret hm_123 dX10_colourOf_23 ?_
      show ma_wp X d w 76 15 [(0, .inr (.inr (some 87))), (1, .inr (.inr (some a)))] [.inl (mI S 90 (mI S a 0).toNatClampNeg)] S _
      refine zw_goto hm_76 dX6_colourOf_15 (t := 19) rfl ?_
      exact zw_iret hm_76 dX6_colourOf_19 h
theorem sp_76_87 {X : Nat × (Nat → Int32)} {d w : Nat} {f : Nat → Nat → Int32} {r : Nat → Nat → Option Nat} {C Z N : Nat} {Q : Option ma_V ⊕ Nat → ma_S → Prop} {S : ma_S} (a : Nat) (hd : 1 ≤ d) (hw : 21 ≤ w) (hI : zJ87 f r C Z N S) (th_a : 126 ≤ a ∧ a < N) (K : ∀ v S', zJ87 f r C Z N S' → (True) → Q (.inl (some (.inl v))) S') : ma_wp X d w 76 0 [(0, .inr (.inr (some 87))), (1, .inr (.inr (some a)))] [] S Q := by
  refine g_76_87_0 a (by omega) (by omega) (zG_T hI) ?_
  have f1 := zG_s hI (0) (1) (c := 87) (k := 8) (by decide)
  have li2 : (0 : Int32).toInt = 0 := rfl
  refine zd (fun h3 => ?_) (fun h3 => ?_)
  · skip
    have g4 := i_eq h3
    exact K ((0 : Int32)) _ hI trivial
  · skip
    have g5 := i_ne h3
    refine ⟨zG_n hI th_a, ?_⟩
    have li6 : (512 : Int32).toInt = 512 := rfl
    have f7 := zG_th hI th_a
    refine zd (fun h8 => ?_) (fun h8 => ?_)
    · skip
      have g9 := i_le h8
      exact K ((0 : Int32)) _ hI trivial
    · skip
      have g10 := i_nle h8
      refine ⟨zG_n hI th_a, ?_⟩
      refine ⟨i_ix (by omega) (by omega), ?_⟩
      have b11 := i_bd (mI S 90 (mI S a 0).toNatClampNeg)
      exact K ((mI S 90 (mI S a 0).toNatClampNeg)) _ hI trivial
theorem g_77_87_0 {X : Nat × (Nat → Int32)} {d w : Nat} {S : ma_S} {Q : Option ma_V ⊕ Nat → ma_S → Prop}  (hd : 0 ≤ d) (hw : 0 ≤ w) (hS : zT S) (h : if (mI S 87 8) = 0 then (Q (.inl (some (.inl (0 : Int32)))) S) else (Q (.inl (some (.inl ((mI S 88 4) - (mI S 88 3))))) S)) : ma_wp X d w 77 0 [(0, .inr (.inr (some 87)))] [] S Q := by
  refine zw_push hm_77 dX6_specials_0 (v := .inr (.inr (some 87))) rfl ?_
  refine zw_gf hm_77 dX6_specials_1 (v := .inl (mI S 87 8)) (zT_is hS s_87) (zT_t hS s_87) rfl f_6_31_6 rfl ?_
  refine zw_if0 hm_77 dX6_specials_4 (t := 25) rfl zc0_eq ?_ ?_
  · intro hc
    rw [if_pos hc] at h
    refine zw_push hm_77 dX6_specials_25 (v := .inl (0 : Int32)) rfl ?_
    exact zw_iret hm_77 dX6_specials_26 h
  · intro hc
    rw [if_neg hc] at h
    refine zw_push hm_77 dX6_specials_7 (v := .inr (.inr (some 87))) rfl ?_
    refine zw_gf hm_77 dX6_specials_8 (v := .inr (.inr (some 88))) (zT_is hS s_87) (zT_t hS s_87) rfl f_6_14_6 (zT_f hS r_87_5) ?_
    refine zw_gf hm_77 dX6_specials_11 (v := .inl (mI S 88 4)) (zT_is hS s_88) (zT_t hS s_88) rfl f_6_104_10 rfl ?_
    refine zw_push hm_77 dX6_specials_14 (v := .inr (.inr (some 87))) rfl ?_
    refine zw_gf hm_77 dX6_specials_15 (v := .inr (.inr (some 88))) (zT_is hS s_87) (zT_t hS s_87) rfl f_6_14_6 (zT_f hS r_87_5) ?_
    refine zw_gf hm_77 dX6_specials_18 (v := .inl (mI S 88 3)) (zT_is hS s_88) (zT_t hS s_88) rfl f_6_107_10 rfl ?_
    refine zw_stk hm_77 dX6_specials_21 (st' := [.inl ((mI S 88 4) - (mI S 88 3))]) rfl rfl ?_
    refine zw_goto hm_77 dX6_specials_22 (t := 26) rfl ?_
    exact zw_iret hm_77 dX6_specials_26 h
theorem sp_77_87 {X : Nat × (Nat → Int32)} {d w : Nat} {f : Nat → Nat → Int32} {r : Nat → Nat → Option Nat} {C Z N : Nat} {Q : Option ma_V ⊕ Nat → ma_S → Prop} {S : ma_S}  (hd : 0 ≤ d) (hw : 0 ≤ w) (hI : zJ87 f r C Z N S)  (K : ∀ v S', zJ87 f r C Z N S' → (True) → Q (.inl (some (.inl v))) S') : ma_wp X d w 77 0 [(0, .inr (.inr (some 87)))] [] S Q := by
  refine g_77_87_0  (by omega) (by omega) (zG_T hI) ?_
  have f1 := zG_s hI (0) (1) (c := 87) (k := 8) (by decide)
  have li2 : (0 : Int32).toInt = 0 := rfl
  refine zd (fun h3 => ?_) (fun h3 => ?_)
  · skip
    have g4 := i_eq h3
    exact K ((0 : Int32)) _ hI trivial
  · skip
    have g5 := i_ne h3
    have f6 := zG_s hI (0) (512) (c := 88) (k := 4) (by decide)
    have f7 := zG_s hI (0) (512) (c := 88) (k := 3) (by decide)
    first | have e8 : ((mI S 88 4) - (mI S 88 3)).toInt = (mI S 88 4).toInt - (mI S 88 3).toInt := i_sub (by omega) (by omega) | have b9 := i_bd ((mI S 88 4) - (mI S 88 3))
    exact K (((mI S 88 4) - (mI S 88 3))) _ hI trivial
