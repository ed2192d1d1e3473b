/-! the class behind (written by wip/tools/gen95c.py) -/
theorem g_31_81_t_0 {X : Nat × (Nat → Int32)} {d w : Nat} {S : ma_S} {Q : Option ma_V ⊕ Nat → ma_S → Prop} (n : Int32) (hd : 5 ≤ d) (hw : 137 ≤ w) (hS : zT S) (h : if ((mI S 81 3) + (mI S 81 2)) < ((mI S 81 4) + n) then (ma_wp X (d - 1) (w - 23) 33 0 [(0, .inr (.inr (some 81)))] [] S (zi (fun v2 S1 => zT S1 ∧ (if ((mI S1 81 3) + (mI S1 81 2)) < ((mI S1 81 4) + n) then (Q (.inl (some (.inl (-1 : Int32)))) S1) else (Q (.inl (some (.inl (mI S1 81 4)))) S1))) (fun x S9 => Q (.inr x) S9))) else (if ((mI S 81 3) + (mI S 81 2)) < ((mI S 81 4) + n) then (Q (.inl (some (.inl (-1 : Int32)))) S) else (Q (.inl (some (.inl (mI S 81 4)))) S))) : ma_wp X d w 31 0 [(0, .inr (.inr (some 81))), (1, .inl n)] [] S Q := by
  refine zw_push hm_31 dX3_findRoom_0 (v := .inr (.inr (some 81))) rfl ?_
  refine zw_push hm_31 dX3_findRoom_1 (v := .inl n) rfl ?_
  refine zw_cv hm_31 dX3_findRoom_2 v_3_21_3 hm_32 [.inl n] [] rfl (zT_rt hS s_81 rfl) ⟨by omega, by omega⟩ rfl ?_
  show ma_wp X (d - 1) (w - 21) 32 0 [(0, .inr (.inr (some 81))), (1, .inl n)] [] S _
  refine zw_push hm_32 dX3_hasRoom_0 (v := .inr (.inr (some 81))) rfl ?_
  refine zw_gf hm_32 dX3_hasRoom_1 (v := .inl (mI S 81 4)) (zT_is hS s_81) (zT_t hS s_81) rfl f_3_18_3 rfl ?_
  refine zw_push hm_32 dX3_hasRoom_4 (v := .inl n) rfl ?_
  refine zw_stk hm_32 dX3_hasRoom_5 (st' := [.inl ((mI S 81 4) + n)]) rfl rfl ?_
  refine zw_push hm_32 dX3_hasRoom_6 (v := .inr (.inr (some 81))) rfl ?_
  refine zw_gf hm_32 dX3_hasRoom_7 (v := .inl (mI S 81 3)) (zT_is hS s_81) (zT_t hS s_81) rfl f_3_15_3 rfl ?_
  refine zw_push hm_32 dX3_hasRoom_10 (v := .inr (.inr (some 81))) rfl ?_
  refine zw_gf hm_32 dX3_hasRoom_11 (v := .inl (mI S 81 2)) (zT_is hS s_81) (zT_t hS s_81) rfl f_3_9_3 rfl ?_
  refine zw_stk hm_32 dX3_hasRoom_14 (st' := [.inl ((mI S 81 3) + (mI S 81 2)), .inl ((mI S 81 4) + n)]) rfl rfl ?_
  refine zw_if2 hm_32 dX3_hasRoom_15 (t := 22) rfl zc2_gt ?_ ?_
  · intro hc
    rw [if_pos hc] at h
    refine zw_push hm_32 dX3_hasRoom_22 (v := .inl (0 : Int32)) rfl ?_
    refine zw_bret hm_32 dX3_hasRoom_23 (by decide) ?_
    show ma_wp X d w 31 5 [(0, .inr (.inr (some 81))), (1, .inl n)] [.inl (0 : Int32)] S _
    refine zw_if0 hm_31 dX3_findRoom_5 (t := 13) rfl zc0_ne (fun hc => absurd hc (by decide)) (fun _ => ?_)
    refine zw_push hm_31 dX3_findRoom_8 (v := .inr (.inr (some 81))) rfl ?_
    refine zw_cv hm_31 dX3_findRoom_9 v_3_25_3 hm_33 [] [] rfl (zT_rt hS s_81 rfl) ⟨by omega, by omega⟩ rfl (zw_mono h (zi_go ?_ ?_))
    · intro v2 S1 hv
      obtain ⟨hS1, h⟩ := hv
      refine zw_stk hm_31 dX3_findRoom_12 (st' := []) rfl rfl ?_
      refine zw_push hm_31 dX3_findRoom_13 (v := .inr (.inr (some 81))) rfl ?_
      refine zw_push hm_31 dX3_findRoom_14 (v := .inl n) rfl ?_
      refine zw_cv hm_31 dX3_findRoom_15 v_3_21_3 hm_32 [.inl n] [] rfl (zT_rt hS1 s_81 rfl) ⟨by omega, by omega⟩ rfl ?_
      show ma_wp X (d - 1) (w - 21) 32 0 [(0, .inr (.inr (some 81))), (1, .inl n)] [] S1 _
      refine zw_push hm_32 dX3_hasRoom_0 (v := .inr (.inr (some 81))) rfl ?_
      refine zw_gf hm_32 dX3_hasRoom_1 (v := .inl (mI S1 81 4)) (zT_is hS1 s_81) (zT_t hS1 s_81) rfl f_3_18_3 rfl ?_
      refine zw_push hm_32 dX3_hasRoom_4 (v := .inl n) rfl ?_
      refine zw_stk hm_32 dX3_hasRoom_5 (st' := [.inl ((mI S1 81 4) + n)]) rfl rfl ?_
      refine zw_push hm_32 dX3_hasRoom_6 (v := .inr (.inr (some 81))) rfl ?_
      refine zw_gf hm_32 dX3_hasRoom_7 (v := .inl (mI S1 81 3)) (zT_is hS1 s_81) (zT_t hS1 s_81) rfl f_3_15_3 rfl ?_
      refine zw_push hm_32 dX3_hasRoom_10 (v := .inr (.inr (some 81))) rfl ?_
      refine zw_gf hm_32 dX3_hasRoom_11 (v := .inl (mI S1 81 2)) (zT_is hS1 s_81) (zT_t hS1 s_81) rfl f_3_9_3 rfl ?_
      refine zw_stk hm_32 dX3_hasRoom_14 (st' := [.inl ((mI S1 81 3) + (mI S1 81 2)), .inl ((mI S1 81 4) + n)]) rfl rfl ?_
      refine zw_if2 hm_32 dX3_hasRoom_15 (t := 22) rfl zc2_gt ?_ ?_
      · intro hc
        rw [if_pos hc] at h
        refine zw_push hm_32 dX3_hasRoom_22 (v := .inl (0 : Int32)) rfl ?_
        refine zw_bret hm_32 dX3_hasRoom_23 (by decide) ?_
        show ma_wp X d w 31 18 [(0, .inr (.inr (some 81))), (1, .inl n)] [.inl (0 : Int32)] S1 _
        refine zw_if0 hm_31 dX3_findRoom_18 (t := 28) rfl zc0_eq (fun _ => ?_) (fun hc => absurd (by decide) hc)
        refine zw_push hm_31 dX3_findRoom_28 (v := .inl (-1 : Int32)) rfl ?_
        exact zw_iret hm_31 dX3_findRoom_29 h
      · intro hc
        rw [if_neg hc] at h
        refine zw_push hm_32 dX3_hasRoom_18 (v := .inl (1 : Int32)) rfl ?_
        refine zw_goto hm_32 dX3_hasRoom_19 (t := 23) rfl ?_
        refine zw_bret hm_32 dX3_hasRoom_23 (by decide) ?_
        show ma_wp X d w 31 18 [(0, .inr (.inr (some 81))), (1, .inl n)] [.inl (1 : Int32)] S1 _
        refine zw_if0 hm_31 dX3_findRoom_18 (t := 28) rfl zc0_eq (fun hc => absurd hc (by decide)) (fun _ => ?_)
        refine zw_push hm_31 dX3_findRoom_21 (v := .inr (.inr (some 81))) rfl ?_
        refine zw_gf hm_31 dX3_findRoom_22 (v := .inl (mI S1 81 4)) (zT_is hS1 s_81) (zT_t hS1 s_81) rfl f_3_18_3 rfl ?_
        refine zw_goto hm_31 dX3_findRoom_25 (t := 29) rfl ?_
        exact zw_iret hm_31 dX3_findRoom_29 h
    · intro x S9 hx
      exact ⟨by decide, hx⟩
  · intro hc
    rw [if_neg hc] at h
    refine zw_push hm_32 dX3_hasRoom_18 (v := .inl (1 : Int32)) rfl ?_
    refine zw_goto hm_32 dX3_hasRoom_19 (t := 23) rfl ?_
    refine zw_bret hm_32 dX3_hasRoom_23 (by decide) ?_
    show ma_wp X d w 31 5 [(0, .inr (.inr (some 81))), (1, .inl n)] [.inl (1 : Int32)] S _
    refine zw_if0 hm_31 dX3_findRoom_5 (t := 13) rfl zc0_ne (fun _ => ?_) (fun hc => absurd (by decide) hc)
    refine zw_push hm_31 dX3_findRoom_13 (v := .inr (.inr (some 81))) rfl ?_
    refine zw_push hm_31 dX3_findRoom_14 (v := .inl n) rfl ?_
    refine zw_cv hm_31 dX3_findRoom_15 v_3_21_3 hm_32 [.inl n] [] rfl (zT_rt hS s_81 rfl) ⟨by omega, by omega⟩ rfl ?_
    show ma_wp X (d - 1) (w - 21) 32 0 [(0, .inr (.inr (some 81))), (1, .inl n)] [] S _
    refine zw_push hm_32 dX3_hasRoom_0 (v := .inr (.inr (some 81))) rfl ?_
    refine zw_gf hm_32 dX3_hasRoom_1 (v := .inl (mI S 81 4)) (zT_is hS s_81) (zT_t hS s_81) rfl f_3_18_3 rfl ?_
    refine zw_push hm_32 dX3_hasRoom_4 (v := .inl n) rfl ?_
    refine zw_stk hm_32 dX3_hasRoom_5 (st' := [.inl ((mI S 81 4) + n)]) rfl rfl ?_
    refine zw_push hm_32 dX3_hasRoom_6 (v := .inr (.inr (some 81))) rfl ?_
    refine zw_gf hm_32 dX3_hasRoom_7 (v := .inl (mI S 81 3)) (zT_is hS s_81) (zT_t hS s_81) rfl f_3_15_3 rfl ?_
    refine zw_push hm_32 dX3_hasRoom_10 (v := .inr (.inr (some 81))) rfl ?_
    refine zw_gf hm_32 dX3_hasRoom_11 (v := .inl (mI S 81 2)) (zT_is hS s_81) (zT_t hS s_81) rfl f_3_9_3 rfl ?_
    refine zw_stk hm_32 dX3_hasRoom_14 (st' := [.inl ((mI S 81 3) + (mI S 81 2)), .inl ((mI S 81 4) + n)]) rfl rfl ?_
    refine zw_if2 hm_32 dX3_hasRoom_15 (t := 22) rfl zc2_gt ?_ ?_
    · intro hc
      rw [if_pos hc] at h
      refine zw_push hm_32 dX3_hasRoom_22 (v := .inl (0 : Int32)) rfl ?_
      refine zw_bret hm_32 dX3_hasRoom_23 (by decide) ?_
      show ma_wp X d w 31 18 [(0, .inr (.inr (some 81))), (1, .inl n)] [.inl (0 : Int32)] S _
      refine zw_if0 hm_31 dX3_findRoom_18 (t := 28) rfl zc0_eq (fun _ => ?_) (fun hc => absurd (by decide) hc)
      refine zw_push hm_31 dX3_findRoom_28 (v := .inl (-1 : Int32)) rfl ?_
      exact zw_iret hm_31 dX3_findRoom_29 h
    · intro hc
      rw [if_neg hc] at h
      refine zw_push hm_32 dX3_hasRoom_18 (v := .inl (1 : Int32)) rfl ?_
      refine zw_goto hm_32 dX3_hasRoom_19 (t := 23) rfl ?_
      refine zw_bret hm_32 dX3_hasRoom_23 (by decide) ?_
      show ma_wp X d w 31 18 [(0, .inr (.inr (some 81))), (1, .inl n)] [.inl (1 : Int32)] S _
      refine zw_if0 hm_31 dX3_findRoom_18 (t := 28) rfl zc0_eq (fun hc => absurd hc (by decide)) (fun _ => ?_)
      refine zw_push hm_31 dX3_findRoom_21 (v := .inr (.inr (some 81))) rfl ?_
      refine zw_gf hm_31 dX3_findRoom_22 (v := .inl (mI S 81 4)) (zT_is hS s_81) (zT_t hS s_81) rfl f_3_18_3 rfl ?_
      refine zw_goto hm_31 dX3_findRoom_25 (t := 29) rfl ?_
      exact zw_iret hm_31 dX3_findRoom_29 h
theorem sp_31_81_t {X : Nat × (Nat → Int32)} {d w : Nat} {f : Nat → Nat → Int32} {r : Nat → Nat → Option Nat} {C Z N : Nat} {Q : Option ma_V ⊕ Nat → ma_S → Prop} {S : ma_S} (n : Int32) (hd : 5 ≤ d) (hw : 137 ≤ w) (hI : zJ81 f r C Z N S) (hpre0 : 1 ≤ n.toInt) (hpre1 : n.toInt ≤ 61) (K : ∀ v S', zJ81 f r C Z N S' → (-1 ≤ v.toInt ∧ v.toInt ≤ 3000) → Q (.inl (some (.inl v))) S') : ma_wp X d w 31 0 [(0, .inr (.inr (some 81))), (1, .inl n)] [] S Q := by
  refine g_31_81_t_0 n (by omega) (by omega) (zG_T hI) ?_
  have x1 : 0 ≤ (mI S 81 3).toInt ∧ (mI S 81 3).toInt ≤ (mI S 81 2).toInt := zG_x hI
  have f2 := zG_s hI (0) (1500) (c := 81) (k := 3) (by decide)
  have f3 := zG_s hI (0) (1500) (c := 81) (k := 2) (by decide)
  first | have e4 : ((mI S 81 3) + (mI S 81 2)).toInt = (mI S 81 3).toInt + (mI S 81 2).toInt := i_add (by omega) (by omega) | have b5 := i_bd ((mI S 81 3) + (mI S 81 2))
  have f6 := zG_s hI (0) (400000) (c := 81) (k := 4) (by decide)
  have b7 := i_bd n
  first | have e8 : ((mI S 81 4) + n).toInt = (mI S 81 4).toInt + n.toInt := i_add (by omega) (by omega) | have b9 := i_bd ((mI S 81 4) + n)
  refine zd (fun h10 => ?_) (fun h10 => ?_)
  · skip
    have g11 := i_lt h10
    refine sp_33_81  (by omega) (by omega) hI  (fun v2 S1 hI_S1 hp_v2 => zi_n ⟨zG_T hI_S1, ?_⟩)
    have x12 : 0 ≤ (mI S1 81 3).toInt ∧ (mI S1 81 3).toInt ≤ (mI S1 81 2).toInt := zG_x hI_S1
    have f13 := zG_s hI_S1 (0) (1500) (c := 81) (k := 3) (by decide)
    have f14 := zG_s hI_S1 (0) (1500) (c := 81) (k := 2) (by decide)
    first | have e15 : ((mI S1 81 3) + (mI S1 81 2)).toInt = (mI S1 81 3).toInt + (mI S1 81 2).toInt := i_add (by omega) (by omega) | have b16 := i_bd ((mI S1 81 3) + (mI S1 81 2))
    have f17 := zG_s hI_S1 (0) (400000) (c := 81) (k := 4) (by decide)
    first | have e18 : ((mI S1 81 4) + n).toInt = (mI S1 81 4).toInt + n.toInt := i_add (by omega) (by omega) | have b19 := i_bd ((mI S1 81 4) + n)
    refine zd (fun h20 => ?_) (fun h20 => ?_)
    · skip
      have g21 := i_lt h20
      have li22 : (-1 : Int32).toInt = -1 := rfl
      exact K ((-1 : Int32)) _ hI_S1 (by omega)
    · skip
      have g23 := i_nlt h20
      exact K ((mI S1 81 4)) _ hI_S1 (by omega)
  · skip
    have g24 := i_nlt h10
    refine zd (fun h25 => ?_) (fun h25 => ?_)
    · skip
      have g26 := i_lt h25
      have li27 : (-1 : Int32).toInt = -1 := rfl
      exact K ((-1 : Int32)) _ hI (by omega)
    · skip
      have g28 := i_nlt h25
      exact K ((mI S 81 4)) _ hI (by omega)
theorem g_4_82_t_0 {X : Nat × (Nat → Int32)} {d w : Nat} {S : ma_S} {Q : Option ma_V ⊕ Nat → ma_S → Prop} (n : Int32) (hd : 4 ≤ d) (hw : 159 ≤ w) (hS : zT S) (h : if ((mI S 82 6) + n) ≤ (mI S 82 3) then (if ((mI S 82 6) + n) ≤ (mI S 82 3) then (Q (.inl (some (.inl (mI S 82 6)))) S) else (Q (.inl (some (.inl (-1 : Int32)))) S)) else (ma_wp X (d - 1) (w - 21) 5 0 [(0, .inr (.inr (some 82)))] [] S (zi (fun v2 S1 => zT S1 ∧ (if ((mI S1 82 6) + n) ≤ (mI S1 82 3) then (Q (.inl (some (.inl (mI S1 82 6)))) S1) else (Q (.inl (some (.inl (-1 : Int32)))) S1))) (fun x S9 => Q (.inr x) S9)))) : ma_wp X d w 4 0 [(0, .inr (.inr (some 82))), (1, .inl n)] [] S Q := by
  refine zw_push hm_4 dX0_findOldRoom_0 (v := .inr (.inr (some 82))) rfl ?_
  refine zw_gf hm_4 dX0_findOldRoom_1 (v := .inl (mI S 82 6)) (zT_is hS s_82) (zT_t hS s_82) rfl f_1_28_1 rfl ?_
  refine zw_push hm_4 dX0_findOldRoom_4 (v := .inl n) rfl ?_
  refine zw_stk hm_4 dX0_findOldRoom_5 (st' := [.inl ((mI S 82 6) + n)]) rfl rfl ?_
  refine zw_push hm_4 dX0_findOldRoom_6 (v := .inr (.inr (some 82))) rfl ?_
  refine zw_gf hm_4 dX0_findOldRoom_7 (v := .inl (mI S 82 3)) (zT_is hS s_82) (zT_t hS s_82) rfl f_1_19_1 rfl ?_
  refine zw_if2 hm_4 dX0_findOldRoom_10 (t := 18) rfl zc2_le ?_ ?_
  · intro hc
    rw [if_pos hc] at h
    refine zw_push hm_4 dX0_findOldRoom_18 (v := .inr (.inr (some 82))) rfl ?_
    refine zw_gf hm_4 dX0_findOldRoom_19 (v := .inl (mI S 82 6)) (zT_is hS s_82) (zT_t hS s_82) rfl f_1_28_1 rfl ?_
    refine zw_push hm_4 dX0_findOldRoom_22 (v := .inl n) rfl ?_
    refine zw_stk hm_4 dX0_findOldRoom_23 (st' := [.inl ((mI S 82 6) + n)]) rfl rfl ?_
    refine zw_push hm_4 dX0_findOldRoom_24 (v := .inr (.inr (some 82))) rfl ?_
    refine zw_gf hm_4 dX0_findOldRoom_25 (v := .inl (mI S 82 3)) (zT_is hS s_82) (zT_t hS s_82) rfl f_1_19_1 rfl ?_
    refine zw_if2 hm_4 dX0_findOldRoom_28 (t := 35) rfl zc2_le ?_ ?_
    · intro hc
      rw [if_pos hc] at h
      refine zw_push hm_4 dX0_findOldRoom_35 (v := .inr (.inr (some 82))) rfl ?_
      refine zw_gf hm_4 dX0_findOldRoom_36 (v := .inl (mI S 82 6)) (zT_is hS s_82) (zT_t hS s_82) rfl f_1_28_1 rfl ?_
      exact zw_iret hm_4 dX0_findOldRoom_39 h
    · intro hc
      rw [if_neg hc] at h
      refine zw_push hm_4 dX0_findOldRoom_31 (v := .inl (-1 : Int32)) rfl ?_
      refine zw_goto hm_4 dX0_findOldRoom_32 (t := 39) rfl ?_
      exact zw_iret hm_4 dX0_findOldRoom_39 h
  · intro hc
    rw [if_neg hc] at h
    refine zw_push hm_4 dX0_findOldRoom_13 (v := .inr (.inr (some 82))) rfl ?_
    refine zw_cv hm_4 dX0_findOldRoom_14 v_1_55_1 hm_5 [] [] rfl (zT_rt hS s_82 rfl) ⟨by omega, by omega⟩ rfl (zw_mono h (zi_go ?_ ?_))
    · intro v2 S1 hv
      obtain ⟨hS1, h⟩ := hv
      refine zw_stk hm_4 dX0_findOldRoom_17 (st' := []) rfl rfl ?_
      refine zw_push hm_4 dX0_findOldRoom_18 (v := .inr (.inr (some 82))) rfl ?_
      refine zw_gf hm_4 dX0_findOldRoom_19 (v := .inl (mI S1 82 6)) (zT_is hS1 s_82) (zT_t hS1 s_82) rfl f_1_28_1 rfl ?_
      refine zw_push hm_4 dX0_findOldRoom_22 (v := .inl n) rfl ?_
      refine zw_stk hm_4 dX0_findOldRoom_23 (st' := [.inl ((mI S1 82 6) + n)]) rfl rfl ?_
      refine zw_push hm_4 dX0_findOldRoom_24 (v := .inr (.inr (some 82))) rfl ?_
      refine zw_gf hm_4 dX0_findOldRoom_25 (v := .inl (mI S1 82 3)) (zT_is hS1 s_82) (zT_t hS1 s_82) rfl f_1_19_1 rfl ?_
      refine zw_if2 hm_4 dX0_findOldRoom_28 (t := 35) rfl zc2_le ?_ ?_
      · intro hc
        rw [if_pos hc] at h
        refine zw_push hm_4 dX0_findOldRoom_35 (v := .inr (.inr (some 82))) rfl ?_
        refine zw_gf hm_4 dX0_findOldRoom_36 (v := .inl (mI S1 82 6)) (zT_is hS1 s_82) (zT_t hS1 s_82) rfl f_1_28_1 rfl ?_
        exact zw_iret hm_4 dX0_findOldRoom_39 h
      · intro hc
        rw [if_neg hc] at h
        refine zw_push hm_4 dX0_findOldRoom_31 (v := .inl (-1 : Int32)) rfl ?_
        refine zw_goto hm_4 dX0_findOldRoom_32 (t := 39) rfl ?_
        exact zw_iret hm_4 dX0_findOldRoom_39 h
    · intro x S9 hx
      exact ⟨by decide, hx⟩
theorem sp_4_82_t {X : Nat × (Nat → Int32)} {d w : Nat} {f : Nat → Nat → Int32} {r : Nat → Nat → Option Nat} {C Z N : Nat} {Q : Option ma_V ⊕ Nat → ma_S → Prop} {S : ma_S} (n : Int32) (hd : 4 ≤ d) (hw : 159 ≤ w) (hI : zJ82 f r C Z N S) (hpre0 : 1 ≤ n.toInt) (hpre1 : n.toInt ≤ 61) (K : ∀ v S', zJ82 f r C Z N S' → (-1 ≤ v.toInt ∧ v.toInt ≤ 1500) → Q (.inl (some (.inl v))) S') : ma_wp X d w 4 0 [(0, .inr (.inr (some 82))), (1, .inl n)] [] S Q := by
  refine g_4_82_t_0 n (by omega) (by omega) (zG_T hI) ?_
  have f1 := zG_s hI (0) (400000) (c := 82) (k := 6) (by decide)
  have b2 := i_bd n
  first | have e3 : ((mI S 82 6) + n).toInt = (mI S 82 6).toInt + n.toInt := i_add (by omega) (by omega) | have b4 := i_bd ((mI S 82 6) + n)
  have x5 : (mI S 82 3).toInt ≤ (mI S 82 7).toInt ∧ (mI S 82 7).toInt ≤ (mI S 82 3).toInt + (mI S 82 2).toInt := zG_x hI
  have f6 := zG_s hI (0) (1500) (c := 82) (k := 3) (by decide)
  refine zd (fun h7 => ?_) (fun h7 => ?_)
  · skip
    have g8 := i_le h7
    refine zd (fun h9 => ?_) (fun h9 => ?_)
    · skip
      have g10 := i_le h9
      exact K ((mI S 82 6)) _ hI (by omega)
    · skip
      have g11 := i_nle h9
      have li12 : (-1 : Int32).toInt = -1 := rfl
      exact K ((-1 : Int32)) _ hI (by omega)
  · skip
    have g13 := i_nle h7
    refine sp_5_82  (by omega) (by omega) hI  (fun v2 S1 hI_S1 hp_v2 => zi_n ⟨zG_T hI_S1, ?_⟩)
    have f14 := zG_s hI_S1 (0) (400000) (c := 82) (k := 6) (by decide)
    first | have e15 : ((mI S1 82 6) + n).toInt = (mI S1 82 6).toInt + n.toInt := i_add (by omega) (by omega) | have b16 := i_bd ((mI S1 82 6) + n)
    have x17 : (mI S1 82 3).toInt ≤ (mI S1 82 7).toInt ∧ (mI S1 82 7).toInt ≤ (mI S1 82 3).toInt + (mI S1 82 2).toInt := zG_x hI_S1
    have f18 := zG_s hI_S1 (0) (1500) (c := 82) (k := 3) (by decide)
    refine zd (fun h19 => ?_) (fun h19 => ?_)
    · skip
      have g20 := i_le h19
      exact K ((mI S1 82 6)) _ hI_S1 (by omega)
    · skip
      have g21 := i_nle h19
      have li22 : (-1 : Int32).toInt = -1 := rfl
      exact K ((-1 : Int32)) _ hI_S1 (by omega)
theorem g_3_82_t_0 {X : Nat × (Nat → Int32)} {d w : Nat} {S : ma_S} {Q : Option ma_V ⊕ Nat → ma_S → Prop} (n : Int32) (hd : 5 ≤ d) (hw : 180 ≤ w) (hS : zT S) (h : if n ≤ ((mI S 82 2) / (2 : Int32)) then (if ((mI S 82 7) + (mI S 82 2)) < ((mI S 82 8) + n) then (ma_wp X (d - 1) (w - 21) 11 0 [(0, .inr (.inr (some 82)))] [] S (zi (fun v2 S1 => zT S1 ∧ (if ((mI S1 82 7) + (mI S1 82 2)) < ((mI S1 82 8) + n) then (ma_wp X (d - 1) (w - 21) 5 0 [(0, .inr (.inr (some 82)))] [] S1 (zi (fun v4 S3 => zT S3 ∧ (ma_wp X (d - 1) (w - 21) 11 0 [(0, .inr (.inr (some 82)))] [] S3 (zi (fun v6 S5 => zT S5 ∧ (if ((mI S5 82 7) + (mI S5 82 2)) < ((mI S5 82 8) + n) then (Q (.inl (some (.inl (-1 : Int32)))) S5) else (Q (.inl (some (.inl (mI S5 82 8)))) S5))) (fun x S9 => Q (.inr x) S9)))) (fun x S9 => Q (.inr x) S9))) else (if ((mI S1 82 7) + (mI S1 82 2)) < ((mI S1 82 8) + n) then (Q (.inl (some (.inl (-1 : Int32)))) S1) else (Q (.inl (some (.inl (mI S1 82 8)))) S1)))) (fun x S9 => Q (.inr x) S9))) else (if ((mI S 82 7) + (mI S 82 2)) < ((mI S 82 8) + n) then (ma_wp X (d - 1) (w - 21) 5 0 [(0, .inr (.inr (some 82)))] [] S (zi (fun v8 S7 => zT S7 ∧ (ma_wp X (d - 1) (w - 21) 11 0 [(0, .inr (.inr (some 82)))] [] S7 (zi (fun v10 S9 => zT S9 ∧ (if ((mI S9 82 7) + (mI S9 82 2)) < ((mI S9 82 8) + n) then (Q (.inl (some (.inl (-1 : Int32)))) S9) else (Q (.inl (some (.inl (mI S9 82 8)))) S9))) (fun x S9 => Q (.inr x) S9)))) (fun x S9 => Q (.inr x) S9))) else (if ((mI S 82 7) + (mI S 82 2)) < ((mI S 82 8) + n) then (Q (.inl (some (.inl (-1 : Int32)))) S) else (Q (.inl (some (.inl (mI S 82 8)))) S)))) else (ma_wp X (d - 1) (w - 21) 4 0 [(0, .inr (.inr (some 82))), (1, .inl n)] [] S (zi (fun v12 S11 => zT S11 ∧ (Q (.inl (some (.inl v12))) S11)) (fun x S9 => Q (.inr x) S9)))) : ma_wp X d w 3 0 [(0, .inr (.inr (some 82))), (1, .inl n)] [] S Q := by
  refine zw_push hm_3 dX0_findRoom_0 (v := .inl n) rfl ?_
  refine zw_push hm_3 dX0_findRoom_1 (v := .inr (.inr (some 82))) rfl ?_
  refine zw_gf hm_3 dX0_findRoom_2 (v := .inl (mI S 82 2)) (zT_is hS s_82) (zT_t hS s_82) rfl f_1_15_1 rfl ?_
  refine zw_push hm_3 dX0_findRoom_5 (v := .inl (2 : Int32)) rfl ?_
  refine zw_stk hm_3 dX0_findRoom_6 (st' := [.inl ((mI S 82 2) / (2 : Int32)), .inl n]) rfl rfl ?_
  refine zw_if2 hm_3 dX0_findRoom_7 (t := 16) rfl zc2_le ?_ ?_
  · intro hc
    rw [if_pos hc] at h
    refine zw_push hm_3 dX0_findRoom_16 (v := .inr (.inr (some 82))) rfl ?_
    refine zw_push hm_3 dX0_findRoom_17 (v := .inl n) rfl ?_
    refine zw_cv hm_3 dX0_findRoom_18 v_1_47_1 hm_10 [.inl n] [] rfl (zT_rt hS s_82 rfl) ⟨by omega, by omega⟩ rfl ?_
    show ma_wp X (d - 1) (w - 21) 10 0 [(0, .inr (.inr (some 82))), (1, .inl n)] [] S _
    refine zw_push hm_10 dX0_hasYoungRoom_0 (v := .inr (.inr (some 82))) rfl ?_
    refine zw_gf hm_10 dX0_hasYoungRoom_1 (v := .inl (mI S 82 8)) (zT_is hS s_82) (zT_t hS s_82) rfl f_1_34_1 rfl ?_
    refine zw_push hm_10 dX0_hasYoungRoom_4 (v := .inl n) rfl ?_
    refine zw_stk hm_10 dX0_hasYoungRoom_5 (st' := [.inl ((mI S 82 8) + n)]) rfl rfl ?_
    refine zw_push hm_10 dX0_hasYoungRoom_6 (v := .inr (.inr (some 82))) rfl ?_
    refine zw_gf hm_10 dX0_hasYoungRoom_7 (v := .inl (mI S 82 7)) (zT_is hS s_82) (zT_t hS s_82) rfl f_1_31_1 rfl ?_
    refine zw_push hm_10 dX0_hasYoungRoom_10 (v := .inr (.inr (some 82))) rfl ?_
    refine zw_gf hm_10 dX0_hasYoungRoom_11 (v := .inl (mI S 82 2)) (zT_is hS s_82) (zT_t hS s_82) rfl f_1_15_1 rfl ?_
    refine zw_stk hm_10 dX0_hasYoungRoom_14 (st' := [.inl ((mI S 82 7) + (mI S 82 2)), .inl ((mI S 82 8) + n)]) rfl rfl ?_
    refine zw_if2 hm_10 dX0_hasYoungRoom_15 (t := 22) rfl zc2_gt ?_ ?_
    · intro hc
      rw [if_pos hc] at h
      refine zw_push hm_10 dX0_hasYoungRoom_22 (v := .inl (0 : Int32)) rfl ?_
      refine zw_bret hm_10 dX0_hasYoungRoom_23 (by decide) ?_
      show ma_wp X d w 3 21 [(0, .inr (.inr (some 82))), (1, .inl n)] [.inl (0 : Int32)] S _
      refine zw_if0 hm_3 dX0_findRoom_21 (t := 29) rfl zc0_ne (fun hc => absurd hc (by decide)) (fun _ => ?_)
      refine zw_push hm_3 dX0_findRoom_24 (v := .inr (.inr (some 82))) rfl ?_
      refine zw_cv hm_3 dX0_findRoom_25 v_1_51_1 hm_11 [] [] rfl (zT_rt hS s_82 rfl) ⟨by omega, by omega⟩ rfl (zw_mono h (zi_go ?_ ?_))
      · intro v2 S1 hv
        obtain ⟨hS1, h⟩ := hv
        refine zw_stk hm_3 dX0_findRoom_28 (st' := []) rfl rfl ?_
        refine zw_push hm_3 dX0_findRoom_29 (v := .inr (.inr (some 82))) rfl ?_
        refine zw_push hm_3 dX0_findRoom_30 (v := .inl n) rfl ?_
        refine zw_cv hm_3 dX0_findRoom_31 v_1_47_1 hm_10 [.inl n] [] rfl (zT_rt hS1 s_82 rfl) ⟨by omega, by omega⟩ rfl ?_
        show ma_wp X (d - 1) (w - 21) 10 0 [(0, .inr (.inr (some 82))), (1, .inl n)] [] S1 _
        refine zw_push hm_10 dX0_hasYoungRoom_0 (v := .inr (.inr (some 82))) rfl ?_
        refine zw_gf hm_10 dX0_hasYoungRoom_1 (v := .inl (mI S1 82 8)) (zT_is hS1 s_82) (zT_t hS1 s_82) rfl f_1_34_1 rfl ?_
        refine zw_push hm_10 dX0_hasYoungRoom_4 (v := .inl n) rfl ?_
        refine zw_stk hm_10 dX0_hasYoungRoom_5 (st' := [.inl ((mI S1 82 8) + n)]) rfl rfl ?_
        refine zw_push hm_10 dX0_hasYoungRoom_6 (v := .inr (.inr (some 82))) rfl ?_
        refine zw_gf hm_10 dX0_hasYoungRoom_7 (v := .inl (mI S1 82 7)) (zT_is hS1 s_82) (zT_t hS1 s_82) rfl f_1_31_1 rfl ?_
        refine zw_push hm_10 dX0_hasYoungRoom_10 (v := .inr (.inr (some 82))) rfl ?_
        refine zw_gf hm_10 dX0_hasYoungRoom_11 (v := .inl (mI S1 82 2)) (zT_is hS1 s_82) (zT_t hS1 s_82) rfl f_1_15_1 rfl ?_
        refine zw_stk hm_10 dX0_hasYoungRoom_14 (st' := [.inl ((mI S1 82 7) + (mI S1 82 2)), .inl ((mI S1 82 8) + n)]) rfl rfl ?_
        refine zw_if2 hm_10 dX0_hasYoungRoom_15 (t := 22) rfl zc2_gt ?_ ?_
        · intro hc
          rw [if_pos hc] at h
          refine zw_push hm_10 dX0_hasYoungRoom_22 (v := .inl (0 : Int32)) rfl ?_
          refine zw_bret hm_10 dX0_hasYoungRoom_23 (by decide) ?_
          show ma_wp X d w 3 34 [(0, .inr (.inr (some 82))), (1, .inl n)] [.inl (0 : Int32)] S1 _
          refine zw_if0 hm_3 dX0_findRoom_34 (t := 47) rfl zc0_ne (fun hc => absurd hc (by decide)) (fun _ => ?_)
          refine zw_push hm_3 dX0_findRoom_37 (v := .inr (.inr (some 82))) rfl ?_
          refine zw_cv hm_3 dX0_findRoom_38 v_1_55_1 hm_5 [] [] rfl (zT_rt hS1 s_82 rfl) ⟨by omega, by omega⟩ rfl (zw_mono h (zi_go ?_ ?_))
          · intro v4 S3 hv
            obtain ⟨hS3, h⟩ := hv
            refine zw_stk hm_3 dX0_findRoom_41 (st' := []) rfl rfl ?_
            refine zw_push hm_3 dX0_findRoom_42 (v := .inr (.inr (some 82))) rfl ?_
            refine zw_cv hm_3 dX0_findRoom_43 v_1_51_1 hm_11 [] [] rfl (zT_rt hS3 s_82 rfl) ⟨by omega, by omega⟩ rfl (zw_mono h (zi_go ?_ ?_))
            · intro v6 S5 hv
              obtain ⟨hS5, h⟩ := hv
              refine zw_stk hm_3 dX0_findRoom_46 (st' := []) rfl rfl ?_
              refine zw_push hm_3 dX0_findRoom_47 (v := .inr (.inr (some 82))) rfl ?_
              refine zw_push hm_3 dX0_findRoom_48 (v := .inl n) rfl ?_
              refine zw_cv hm_3 dX0_findRoom_49 v_1_47_1 hm_10 [.inl n] [] rfl (zT_rt hS5 s_82 rfl) ⟨by omega, by omega⟩ rfl ?_
              show ma_wp X (d - 1) (w - 21) 10 0 [(0, .inr (.inr (some 82))), (1, .inl n)] [] S5 _
              refine zw_push hm_10 dX0_hasYoungRoom_0 (v := .inr (.inr (some 82))) rfl ?_
              refine zw_gf hm_10 dX0_hasYoungRoom_1 (v := .inl (mI S5 82 8)) (zT_is hS5 s_82) (zT_t hS5 s_82) rfl f_1_34_1 rfl ?_
              refine zw_push hm_10 dX0_hasYoungRoom_4 (v := .inl n) rfl ?_
              refine zw_stk hm_10 dX0_hasYoungRoom_5 (st' := [.inl ((mI S5 82 8) + n)]) rfl rfl ?_
              refine zw_push hm_10 dX0_hasYoungRoom_6 (v := .inr (.inr (some 82))) rfl ?_
              refine zw_gf hm_10 dX0_hasYoungRoom_7 (v := .inl (mI S5 82 7)) (zT_is hS5 s_82) (zT_t hS5 s_82) rfl f_1_31_1 rfl ?_
              refine zw_push hm_10 dX0_hasYoungRoom_10 (v := .inr (.inr (some 82))) rfl ?_
              refine zw_gf hm_10 dX0_hasYoungRoom_11 (v := .inl (mI S5 82 2)) (zT_is hS5 s_82) (zT_t hS5 s_82) rfl f_1_15_1 rfl ?_
              refine zw_stk hm_10 dX0_hasYoungRoom_14 (st' := [.inl ((mI S5 82 7) + (mI S5 82 2)), .inl ((mI S5 82 8) + n)]) rfl rfl ?_
              refine zw_if2 hm_10 dX0_hasYoungRoom_15 (t := 22) rfl zc2_gt ?_ ?_
              · intro hc
                rw [if_pos hc] at h
                refine zw_push hm_10 dX0_hasYoungRoom_22 (v := .inl (0 : Int32)) rfl ?_
                refine zw_bret hm_10 dX0_hasYoungRoom_23 (by decide) ?_
                show ma_wp X d w 3 52 [(0, .inr (.inr (some 82))), (1, .inl n)] [.inl (0 : Int32)] S5 _
                refine zw_if0 hm_3 dX0_findRoom_52 (t := 62) rfl zc0_eq (fun _ => ?_) (fun hc => absurd (by decide) hc)
                refine zw_push hm_3 dX0_findRoom_62 (v := .inl (-1 : Int32)) rfl ?_
                exact zw_iret hm_3 dX0_findRoom_63 h
              · intro hc
                rw [if_neg hc] at h
                refine zw_push hm_10 dX0_hasYoungRoom_18 (v := .inl (1 : Int32)) rfl ?_
                refine zw_goto hm_10 dX0_hasYoungRoom_19 (t := 23) rfl ?_
                refine zw_bret hm_10 dX0_hasYoungRoom_23 (by decide) ?_
                show ma_wp X d w 3 52 [(0, .inr (.inr (some 82))), (1, .inl n)] [.inl (1 : Int32)] S5 _
                refine zw_if0 hm_3 dX0_findRoom_52 (t := 62) rfl zc0_eq (fun hc => absurd hc (by decide)) (fun _ => ?_)
                refine zw_push hm_3 dX0_findRoom_55 (v := .inr (.inr (some 82))) rfl ?_
                refine zw_gf hm_3 dX0_findRoom_56 (v := .inl (mI S5 82 8)) (zT_is hS5 s_82) (zT_t hS5 s_82) rfl f_1_34_1 rfl ?_
                refine zw_goto hm_3 dX0_findRoom_59 (t := 63) rfl ?_
                exact zw_iret hm_3 dX0_findRoom_63 h
            · intro x S9 hx
              exact ⟨by decide, hx⟩
          · intro x S9 hx
            exact ⟨by decide, hx⟩
        · intro hc
          rw [if_neg hc] at h
          refine zw_push hm_10 dX0_hasYoungRoom_18 (v := .inl (1 : Int32)) rfl ?_
          refine zw_goto hm_10 dX0_hasYoungRoom_19 (t := 23) rfl ?_
          refine zw_bret hm_10 dX0_hasYoungRoom_23 (by decide) ?_
          show ma_wp X d w 3 34 [(0, .inr (.inr (some 82))), (1, .inl n)] [.inl (1 : Int32)] S1 _
          refine zw_if0 hm_3 dX0_findRoom_34 (t := 47) rfl zc0_ne (fun _ => ?_) (fun hc => absurd (by decide) hc)
          refine zw_push hm_3 dX0_findRoom_47 (v := .inr (.inr (some 82))) rfl ?_
          refine zw_push hm_3 dX0_findRoom_48 (v := .inl n) rfl ?_
          refine zw_cv hm_3 dX0_findRoom_49 v_1_47_1 hm_10 [.inl n] [] rfl (zT_rt hS1 s_82 rfl) ⟨by omega, by omega⟩ rfl ?_
          show ma_wp X (d - 1) (w - 21) 10 0 [(0, .inr (.inr (some 82))), (1, .inl n)] [] S1 _
          refine zw_push hm_10 dX0_hasYoungRoom_0 (v := .inr (.inr (some 82))) rfl ?_
          refine zw_gf hm_10 dX0_hasYoungRoom_1 (v := .inl (mI S1 82 8)) (zT_is hS1 s_82) (zT_t hS1 s_82) rfl f_1_34_1 rfl ?_
          refine zw_push hm_10 dX0_hasYoungRoom_4 (v := .inl n) rfl ?_
          refine zw_stk hm_10 dX0_hasYoungRoom_5 (st' := [.inl ((mI S1 82 8) + n)]) rfl rfl ?_
          refine zw_push hm_10 dX0_hasYoungRoom_6 (v := .inr (.inr (some 82))) rfl ?_
          refine zw_gf hm_10 dX0_hasYoungRoom_7 (v := .inl (mI S1 82 7)) (zT_is hS1 s_82) (zT_t hS1 s_82) rfl f_1_31_1 rfl ?_
          refine zw_push hm_10 dX0_hasYoungRoom_10 (v := .inr (.inr (some 82))) rfl ?_
          refine zw_gf hm_10 dX0_hasYoungRoom_11 (v := .inl (mI S1 82 2)) (zT_is hS1 s_82) (zT_t hS1 s_82) rfl f_1_15_1 rfl ?_
          refine zw_stk hm_10 dX0_hasYoungRoom_14 (st' := [.inl ((mI S1 82 7) + (mI S1 82 2)), .inl ((mI S1 82 8) + n)]) rfl rfl ?_
          refine zw_if2 hm_10 dX0_hasYoungRoom_15 (t := 22) rfl zc2_gt ?_ ?_
          · intro hc
            rw [if_pos hc] at h
            refine zw_push hm_10 dX0_hasYoungRoom_22 (v := .inl (0 : Int32)) rfl ?_
            refine zw_bret hm_10 dX0_hasYoungRoom_23 (by decide) ?_
            show ma_wp X d w 3 52 [(0, .inr (.inr (some 82))), (1, .inl n)] [.inl (0 : Int32)] S1 _
            refine zw_if0 hm_3 dX0_findRoom_52 (t := 62) rfl zc0_eq (fun _ => ?_) (fun hc => absurd (by decide) hc)
            refine zw_push hm_3 dX0_findRoom_62 (v := .inl (-1 : Int32)) rfl ?_
            exact zw_iret hm_3 dX0_findRoom_63 h
          · intro hc
            rw [if_neg hc] at h
            refine zw_push hm_10 dX0_hasYoungRoom_18 (v := .inl (1 : Int32)) rfl ?_
            refine zw_goto hm_10 dX0_hasYoungRoom_19 (t := 23) rfl ?_
            refine zw_bret hm_10 dX0_hasYoungRoom_23 (by decide) ?_
            show ma_wp X d w 3 52 [(0, .inr (.inr (some 82))), (1, .inl n)] [.inl (1 : Int32)] S1 _
            refine zw_if0 hm_3 dX0_findRoom_52 (t := 62) rfl zc0_eq (fun hc => absurd hc (by decide)) (fun _ => ?_)
            refine zw_push hm_3 dX0_findRoom_55 (v := .inr (.inr (some 82))) rfl ?_
            refine zw_gf hm_3 dX0_findRoom_56 (v := .inl (mI S1 82 8)) (zT_is hS1 s_82) (zT_t hS1 s_82) rfl f_1_34_1 rfl ?_
            refine zw_goto hm_3 dX0_findRoom_59 (t := 63) rfl ?_
            exact zw_iret hm_3 dX0_findRoom_63 h
      · intro x S9 hx
        exact ⟨by decide, hx⟩
    · intro hc
      rw [if_neg hc] at h
      refine zw_push hm_10 dX0_hasYoungRoom_18 (v := .inl (1 : Int32)) rfl ?_
      refine zw_goto hm_10 dX0_hasYoungRoom_19 (t := 23) rfl ?_
      refine zw_bret hm_10 dX0_hasYoungRoom_23 (by decide) ?_
      show ma_wp X d w 3 21 [(0, .inr (.inr (some 82))), (1, .inl n)] [.inl (1 : Int32)] S _
      refine zw_if0 hm_3 dX0_findRoom_21 (t := 29) rfl zc0_ne (fun _ => ?_) (fun hc => absurd (by decide) hc)
      refine zw_push hm_3 dX0_findRoom_29 (v := .inr (.inr (some 82))) rfl ?_
      refine zw_push hm_3 dX0_findRoom_30 (v := .inl n) rfl ?_
      refine zw_cv hm_3 dX0_findRoom_31 v_1_47_1 hm_10 [.inl n] [] rfl (zT_rt hS s_82 rfl) ⟨by omega, by omega⟩ rfl ?_
      show ma_wp X (d - 1) (w - 21) 10 0 [(0, .inr (.inr (some 82))), (1, .inl n)] [] S _
      refine zw_push hm_10 dX0_hasYoungRoom_0 (v := .inr (.inr (some 82))) rfl ?_
      refine zw_gf hm_10 dX0_hasYoungRoom_1 (v := .inl (mI S 82 8)) (zT_is hS s_82) (zT_t hS s_82) rfl f_1_34_1 rfl ?_
      refine zw_push hm_10 dX0_hasYoungRoom_4 (v := .inl n) rfl ?_
      refine zw_stk hm_10 dX0_hasYoungRoom_5 (st' := [.inl ((mI S 82 8) + n)]) rfl rfl ?_
      refine zw_push hm_10 dX0_hasYoungRoom_6 (v := .inr (.inr (some 82))) rfl ?_
      refine zw_gf hm_10 dX0_hasYoungRoom_7 (v := .inl (mI S 82 7)) (zT_is hS s_82) (zT_t hS s_82) rfl f_1_31_1 rfl ?_
      refine zw_push hm_10 dX0_hasYoungRoom_10 (v := .inr (.inr (some 82))) rfl ?_
      refine zw_gf hm_10 dX0_hasYoungRoom_11 (v := .inl (mI S 82 2)) (zT_is hS s_82) (zT_t hS s_82) rfl f_1_15_1 rfl ?_
      refine zw_stk hm_10 dX0_hasYoungRoom_14 (st' := [.inl ((mI S 82 7) + (mI S 82 2)), .inl ((mI S 82 8) + n)]) rfl rfl ?_
      refine zw_if2 hm_10 dX0_hasYoungRoom_15 (t := 22) rfl zc2_gt ?_ ?_
      · intro hc
        rw [if_pos hc] at h
        refine zw_push hm_10 dX0_hasYoungRoom_22 (v := .inl (0 : Int32)) rfl ?_
        refine zw_bret hm_10 dX0_hasYoungRoom_23 (by decide) ?_
        show ma_wp X d w 3 34 [(0, .inr (.inr (some 82))), (1, .inl n)] [.inl (0 : Int32)] S _
        refine zw_if0 hm_3 dX0_findRoom_34 (t := 47) rfl zc0_ne (fun hc => absurd hc (by decide)) (fun _ => ?_)
        refine zw_push hm_3 dX0_findRoom_37 (v := .inr (.inr (some 82))) rfl ?_
        refine zw_cv hm_3 dX0_findRoom_38 v_1_55_1 hm_5 [] [] rfl (zT_rt hS s_82 rfl) ⟨by omega, by omega⟩ rfl (zw_mono h (zi_go ?_ ?_))
        · intro v8 S7 hv
          obtain ⟨hS7, h⟩ := hv
          refine zw_stk hm_3 dX0_findRoom_41 (st' := []) rfl rfl ?_
          refine zw_push hm_3 dX0_findRoom_42 (v := .inr (.inr (some 82))) rfl ?_
          refine zw_cv hm_3 dX0_findRoom_43 v_1_51_1 hm_11 [] [] rfl (zT_rt hS7 s_82 rfl) ⟨by omega, by omega⟩ rfl (zw_mono h (zi_go ?_ ?_))
          · intro v10 S9 hv
            obtain ⟨hS9, h⟩ := hv
            refine zw_stk hm_3 dX0_findRoom_46 (st' := []) rfl rfl ?_
            refine zw_push hm_3 dX0_findRoom_47 (v := .inr (.inr (some 82))) rfl ?_
            refine zw_push hm_3 dX0_findRoom_48 (v := .inl n) rfl ?_
            refine zw_cv hm_3 dX0_findRoom_49 v_1_47_1 hm_10 [.inl n] [] rfl (zT_rt hS9 s_82 rfl) ⟨by omega, by omega⟩ rfl ?_
            show ma_wp X (d - 1) (w - 21) 10 0 [(0, .inr (.inr (some 82))), (1, .inl n)] [] S9 _
            refine zw_push hm_10 dX0_hasYoungRoom_0 (v := .inr (.inr (some 82))) rfl ?_
            refine zw_gf hm_10 dX0_hasYoungRoom_1 (v := .inl (mI S9 82 8)) (zT_is hS9 s_82) (zT_t hS9 s_82) rfl f_1_34_1 rfl ?_
            refine zw_push hm_10 dX0_hasYoungRoom_4 (v := .inl n) rfl ?_
            refine zw_stk hm_10 dX0_hasYoungRoom_5 (st' := [.inl ((mI S9 82 8) + n)]) rfl rfl ?_
            refine zw_push hm_10 dX0_hasYoungRoom_6 (v := .inr (.inr (some 82))) rfl ?_
            refine zw_gf hm_10 dX0_hasYoungRoom_7 (v := .inl (mI S9 82 7)) (zT_is hS9 s_82) (zT_t hS9 s_82) rfl f_1_31_1 rfl ?_
            refine zw_push hm_10 dX0_hasYoungRoom_10 (v := .inr (.inr (some 82))) rfl ?_
            refine zw_gf hm_10 dX0_hasYoungRoom_11 (v := .inl (mI S9 82 2)) (zT_is hS9 s_82) (zT_t hS9 s_82) rfl f_1_15_1 rfl ?_
            refine zw_stk hm_10 dX0_hasYoungRoom_14 (st' := [.inl ((mI S9 82 7) + (mI S9 82 2)), .inl ((mI S9 82 8) + n)]) rfl rfl ?_
            refine zw_if2 hm_10 dX0_hasYoungRoom_15 (t := 22) rfl zc2_gt ?_ ?_
            · intro hc
              rw [if_pos hc] at h
              refine zw_push hm_10 dX0_hasYoungRoom_22 (v := .inl (0 : Int32)) rfl ?_
              refine zw_bret hm_10 dX0_hasYoungRoom_23 (by decide) ?_
              show ma_wp X d w 3 52 [(0, .inr (.inr (some 82))), (1, .inl n)] [.inl (0 : Int32)] S9 _
              refine zw_if0 hm_3 dX0_findRoom_52 (t := 62) rfl zc0_eq (fun _ => ?_) (fun hc => absurd (by decide) hc)
              refine zw_push hm_3 dX0_findRoom_62 (v := .inl (-1 : Int32)) rfl ?_
              exact zw_iret hm_3 dX0_findRoom_63 h
            · intro hc
              rw [if_neg hc] at h
              refine zw_push hm_10 dX0_hasYoungRoom_18 (v := .inl (1 : Int32)) rfl ?_
              refine zw_goto hm_10 dX0_hasYoungRoom_19 (t := 23) rfl ?_
              refine zw_bret hm_10 dX0_hasYoungRoom_23 (by decide) ?_
              show ma_wp X d w 3 52 [(0, .inr (.inr (some 82))), (1, .inl n)] [.inl (1 : Int32)] S9 _
              refine zw_if0 hm_3 dX0_findRoom_52 (t := 62) rfl zc0_eq (fun hc => absurd hc (by decide)) (fun _ => ?_)
              refine zw_push hm_3 dX0_findRoom_55 (v := .inr (.inr (some 82))) rfl ?_
              refine zw_gf hm_3 dX0_findRoom_56 (v := .inl (mI S9 82 8)) (zT_is hS9 s_82) (zT_t hS9 s_82) rfl f_1_34_1 rfl ?_
              refine zw_goto hm_3 dX0_findRoom_59 (t := 63) rfl ?_
              exact zw_iret hm_3 dX0_findRoom_63 h
          · intro x S9 hx
            exact ⟨by decide, hx⟩
        · intro x S9 hx
          exact ⟨by decide, hx⟩
      · intro hc
        rw [if_neg hc] at h
        refine zw_push hm_10 dX0_hasYoungRoom_18 (v := .inl (1 : Int32)) rfl ?_
        refine zw_goto hm_10 dX0_hasYoungRoom_19 (t := 23) rfl ?_
        refine zw_bret hm_10 dX0_hasYoungRoom_23 (by decide) ?_
        show ma_wp X d w 3 34 [(0, .inr (.inr (some 82))), (1, .inl n)] [.inl (1 : Int32)] S _
        refine zw_if0 hm_3 dX0_findRoom_34 (t := 47) rfl zc0_ne (fun _ => ?_) (fun hc => absurd (by decide) hc)
        refine zw_push hm_3 dX0_findRoom_47 (v := .inr (.inr (some 82))) rfl ?_
        refine zw_push hm_3 dX0_findRoom_48 (v := .inl n) rfl ?_
        refine zw_cv hm_3 dX0_findRoom_49 v_1_47_1 hm_10 [.inl n] [] rfl (zT_rt hS s_82 rfl) ⟨by omega, by omega⟩ rfl ?_
        show ma_wp X (d - 1) (w - 21) 10 0 [(0, .inr (.inr (some 82))), (1, .inl n)] [] S _
        refine zw_push hm_10 dX0_hasYoungRoom_0 (v := .inr (.inr (some 82))) rfl ?_
        refine zw_gf hm_10 dX0_hasYoungRoom_1 (v := .inl (mI S 82 8)) (zT_is hS s_82) (zT_t hS s_82) rfl f_1_34_1 rfl ?_
        refine zw_push hm_10 dX0_hasYoungRoom_4 (v := .inl n) rfl ?_
        refine zw_stk hm_10 dX0_hasYoungRoom_5 (st' := [.inl ((mI S 82 8) + n)]) rfl rfl ?_
        refine zw_push hm_10 dX0_hasYoungRoom_6 (v := .inr (.inr (some 82))) rfl ?_
        refine zw_gf hm_10 dX0_hasYoungRoom_7 (v := .inl (mI S 82 7)) (zT_is hS s_82) (zT_t hS s_82) rfl f_1_31_1 rfl ?_
        refine zw_push hm_10 dX0_hasYoungRoom_10 (v := .inr (.inr (some 82))) rfl ?_
        refine zw_gf hm_10 dX0_hasYoungRoom_11 (v := .inl (mI S 82 2)) (zT_is hS s_82) (zT_t hS s_82) rfl f_1_15_1 rfl ?_
        refine zw_stk hm_10 dX0_hasYoungRoom_14 (st' := [.inl ((mI S 82 7) + (mI S 82 2)), .inl ((mI S 82 8) + n)]) rfl rfl ?_
        refine zw_if2 hm_10 dX0_hasYoungRoom_15 (t := 22) rfl zc2_gt ?_ ?_
        · intro hc
          rw [if_pos hc] at h
          refine zw_push hm_10 dX0_hasYoungRoom_22 (v := .inl (0 : Int32)) rfl ?_
          refine zw_bret hm_10 dX0_hasYoungRoom_23 (by decide) ?_
          show ma_wp X d w 3 52 [(0, .inr (.inr (some 82))), (1, .inl n)] [.inl (0 : Int32)] S _
          refine zw_if0 hm_3 dX0_findRoom_52 (t := 62) rfl zc0_eq (fun _ => ?_) (fun hc => absurd (by decide) hc)
          refine zw_push hm_3 dX0_findRoom_62 (v := .inl (-1 : Int32)) rfl ?_
          exact zw_iret hm_3 dX0_findRoom_63 h
        · intro hc
          rw [if_neg hc] at h
          refine zw_push hm_10 dX0_hasYoungRoom_18 (v := .inl (1 : Int32)) rfl ?_
          refine zw_goto hm_10 dX0_hasYoungRoom_19 (t := 23) rfl ?_
          refine zw_bret hm_10 dX0_hasYoungRoom_23 (by decide) ?_
          show ma_wp X d w 3 52 [(0, .inr (.inr (some 82))), (1, .inl n)] [.inl (1 : Int32)] S _
          refine zw_if0 hm_3 dX0_findRoom_52 (t := 62) rfl zc0_eq (fun hc => absurd hc (by decide)) (fun _ => ?_)
          refine zw_push hm_3 dX0_findRoom_55 (v := .inr (.inr (some 82))) rfl ?_
          refine zw_gf hm_3 dX0_findRoom_56 (v := .inl (mI S 82 8)) (zT_is hS s_82) (zT_t hS s_82) rfl f_1_34_1 rfl ?_
          refine zw_goto hm_3 dX0_findRoom_59 (t := 63) rfl ?_
          exact zw_iret hm_3 dX0_findRoom_63 h
  · intro hc
    rw [if_neg hc] at h
    refine zw_push hm_3 dX0_findRoom_10 (v := .inr (.inr (some 82))) rfl ?_
    refine zw_push hm_3 dX0_findRoom_11 (v := .inl n) rfl ?_
    refine zw_cv hm_3 dX0_findRoom_12 v_1_43_1 hm_4 [.inl n] [] rfl (zT_rt hS s_82 rfl) ⟨by omega, by omega⟩ rfl (zw_mono h (zi_go ?_ ?_))
    · intro v12 S11 hv
      obtain ⟨hS11, h⟩ := hv
      exact zw_iret hm_3 dX0_findRoom_15 h
    · intro x S9 hx
      exact ⟨by decide, hx⟩
theorem sp_3_82_t {X : Nat × (Nat → Int32)} {d w : Nat} {f : Nat → Nat → Int32} {r : Nat → Nat → Option Nat} {C Z N : Nat} {Q : Option ma_V ⊕ Nat → ma_S → Prop} {S : ma_S} (n : Int32) (hd : 5 ≤ d) (hw : 180 ≤ w) (hI : zJ82 f r C Z N S) (hpre0 : 1 ≤ n.toInt) (hpre1 : n.toInt ≤ 61) (K : ∀ v S', zJ82 f r C Z N S' → (-1 ≤ v.toInt ∧ v.toInt ≤ 4500) → Q (.inl (some (.inl v))) S') : ma_wp X d w 3 0 [(0, .inr (.inr (some 82))), (1, .inl n)] [] S Q := by
  refine g_3_82_t_0 n (by omega) (by omega) (zG_T hI) ?_
  have b1 := i_bd n
  have x2 : (mI S 82 3).toInt ≤ (mI S 82 7).toInt ∧ (mI S 82 7).toInt ≤ (mI S 82 3).toInt + (mI S 82 2).toInt := zG_x hI
  have f3 := zG_s hI (0) (1500) (c := 82) (k := 2) (by decide)
  have li4 : (2 : Int32).toInt = 2 := rfl
  first | have f5 := i_div (x := (mI S 82 2)) (y := (2 : Int32)) (by omega) (by omega) | have b6 := i_bd ((mI S 82 2) / (2 : Int32))
  refine zd (fun h7 => ?_) (fun h7 => ?_)
  · skip
    have g8 := i_le h7
    have f9 := zG_s hI (0) (3000) (c := 82) (k := 7) (by decide)
    first | have e10 : ((mI S 82 7) + (mI S 82 2)).toInt = (mI S 82 7).toInt + (mI S 82 2).toInt := i_add (by omega) (by omega) | have b11 := i_bd ((mI S 82 7) + (mI S 82 2))
    have f12 := zG_s hI (0) (400000) (c := 82) (k := 8) (by decide)
    first | have e13 : ((mI S 82 8) + n).toInt = (mI S 82 8).toInt + n.toInt := i_add (by omega) (by omega) | have b14 := i_bd ((mI S 82 8) + n)
    refine zd (fun h15 => ?_) (fun h15 => ?_)
    · skip
      have g16 := i_lt h15
      refine sp_11_82  (by omega) (by omega) hI  (fun v2 S1 hI_S1 hp_v2 => zi_n ⟨zG_T hI_S1, ?_⟩)
      have x17 : (mI S1 82 3).toInt ≤ (mI S1 82 7).toInt ∧ (mI S1 82 7).toInt ≤ (mI S1 82 3).toInt + (mI S1 82 2).toInt := zG_x hI_S1
      have f18 := zG_s hI_S1 (0) (3000) (c := 82) (k := 7) (by decide)
      have f19 := zG_s hI_S1 (0) (1500) (c := 82) (k := 2) (by decide)
      first | have e20 : ((mI S1 82 7) + (mI S1 82 2)).toInt = (mI S1 82 7).toInt + (mI S1 82 2).toInt := i_add (by omega) (by omega) | have b21 := i_bd ((mI S1 82 7) + (mI S1 82 2))
      have f22 := zG_s hI_S1 (0) (400000) (c := 82) (k := 8) (by decide)
      first | have e23 : ((mI S1 82 8) + n).toInt = (mI S1 82 8).toInt + n.toInt := i_add (by omega) (by omega) | have b24 := i_bd ((mI S1 82 8) + n)
      refine zd (fun h25 => ?_) (fun h25 => ?_)
      · skip
        have g26 := i_lt h25
        refine sp_5_82  (by omega) (by omega) hI_S1  (fun v4 S3 hI_S3 hp_v4 => zi_n ⟨zG_T hI_S3, ?_⟩)
        refine sp_11_82  (by omega) (by omega) hI_S3  (fun v6 S5 hI_S5 hp_v6 => zi_n ⟨zG_T hI_S5, ?_⟩)
        have x27 : (mI S5 82 3).toInt ≤ (mI S5 82 7).toInt ∧ (mI S5 82 7).toInt ≤ (mI S5 82 3).toInt + (mI S5 82 2).toInt := zG_x hI_S5
        have f28 := zG_s hI_S5 (0) (3000) (c := 82) (k := 7) (by decide)
        have f29 := zG_s hI_S5 (0) (1500) (c := 82) (k := 2) (by decide)
        first | have e30 : ((mI S5 82 7) + (mI S5 82 2)).toInt = (mI S5 82 7).toInt + (mI S5 82 2).toInt := i_add (by omega) (by omega) | have b31 := i_bd ((mI S5 82 7) + (mI S5 82 2))
        have f32 := zG_s hI_S5 (0) (400000) (c := 82) (k := 8) (by decide)
        first | have e33 : ((mI S5 82 8) + n).toInt = (mI S5 82 8).toInt + n.toInt := i_add (by omega) (by omega) | have b34 := i_bd ((mI S5 82 8) + n)
        refine zd (fun h35 => ?_) (fun h35 => ?_)
        · skip
          have g36 := i_lt h35
          have li37 : (-1 : Int32).toInt = -1 := rfl
          exact K ((-1 : Int32)) _ hI_S5 (by omega)
        · skip
          have g38 := i_nlt h35
          exact K ((mI S5 82 8)) _ hI_S5 (by omega)
      · skip
        have g39 := i_nlt h25
        refine zd (fun h40 => ?_) (fun h40 => ?_)
        · skip
          have g41 := i_lt h40
          have li42 : (-1 : Int32).toInt = -1 := rfl
          exact K ((-1 : Int32)) _ hI_S1 (by omega)
        · skip
          have g43 := i_nlt h40
          exact K ((mI S1 82 8)) _ hI_S1 (by omega)
    · skip
      have g44 := i_nlt h15
      refine zd (fun h45 => ?_) (fun h45 => ?_)
      · skip
        have g46 := i_lt h45
        refine sp_5_82  (by omega) (by omega) hI  (fun v8 S7 hI_S7 hp_v8 => zi_n ⟨zG_T hI_S7, ?_⟩)
        refine sp_11_82  (by omega) (by omega) hI_S7  (fun v10 S9 hI_S9 hp_v10 => zi_n ⟨zG_T hI_S9, ?_⟩)
        have x47 : (mI S9 82 3).toInt ≤ (mI S9 82 7).toInt ∧ (mI S9 82 7).toInt ≤ (mI S9 82 3).toInt + (mI S9 82 2).toInt := zG_x hI_S9
        have f48 := zG_s hI_S9 (0) (3000) (c := 82) (k := 7) (by decide)
        have f49 := zG_s hI_S9 (0) (1500) (c := 82) (k := 2) (by decide)
        first | have e50 : ((mI S9 82 7) + (mI S9 82 2)).toInt = (mI S9 82 7).toInt + (mI S9 82 2).toInt := i_add (by omega) (by omega) | have b51 := i_bd ((mI S9 82 7) + (mI S9 82 2))
        have f52 := zG_s hI_S9 (0) (400000) (c := 82) (k := 8) (by decide)
        first | have e53 : ((mI S9 82 8) + n).toInt = (mI S9 82 8).toInt + n.toInt := i_add (by omega) (by omega) | have b54 := i_bd ((mI S9 82 8) + n)
        refine zd (fun h55 => ?_) (fun h55 => ?_)
        · skip
          have g56 := i_lt h55
          have li57 : (-1 : Int32).toInt = -1 := rfl
          exact K ((-1 : Int32)) _ hI_S9 (by omega)
        · skip
          have g58 := i_nlt h55
          exact K ((mI S9 82 8)) _ hI_S9 (by omega)
      · skip
        have g59 := i_nlt h45
        refine zd (fun h60 => ?_) (fun h60 => ?_)
        · skip
          have g61 := i_lt h60
          have li62 : (-1 : Int32).toInt = -1 := rfl
          exact K ((-1 : Int32)) _ hI (by omega)
        · skip
          have g63 := i_nlt h60
          exact K ((mI S 82 8)) _ hI (by omega)
  · skip
    have g64 := i_nle h7
    refine sp_4_82_t (n) (by omega) (by omega) hI (by omega) (by omega) (fun v12 S11 hI_S11 hp_v12 => zi_n ⟨zG_T hI_S11, ?_⟩)
    have b65 := i_bd v12
    exact K (v12) _ hI_S11 (by omega)
