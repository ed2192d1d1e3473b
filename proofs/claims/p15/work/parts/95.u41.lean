/-! AGES, the class (written by wip/tools/gen15y.py) -/
theorem g_18_82_sm_0 {X : Nat × (Nat → Int32)} {d w : Nat} {S : ma_S} {Q : Option ma_V ⊕ Nat → ma_S → Prop} (t : Nat) (hd : 1 ≤ d) (hw : 21 ≤ w) (hS : zT S) (h : (126 ≤ t ∧ t < mN S) ∧ (if (mI S t 4) < (mI S 82 3) then (Q (.inl (some (.inl (1 : Int32)))) S) else (Q (.inl (some (.inl (0 : Int32)))) S))) : ma_wp X d w 18 0 [(0, .inr (.inr (some 82))), (1, .inr (.inr (some t)))] [] S Q := by
  refine zw_push hm_18 dX0_canHold_0 (v := .inr (.inr (some 82))) rfl ?_
  refine zw_push hm_18 dX0_canHold_1 (v := .inr (.inr (some t))) rfl ?_
  refine zw_cv hm_18 dX0_canHold_2 v_1_58_1 hm_7 [.inr (.inr (some t))] [] rfl (zT_rt hS s_82 rfl) ⟨by omega, by omega⟩ rfl ?_
  show ma_wp X (d - 1) (w - 21) 7 0 [(0, .inr (.inr (some 82))), (1, .inr (.inr (some t)))] [] S _
  refine zw_push hm_7 dX0_isYoung_0 (v := .inr (.inr (some t))) rfl ?_
  obtain ⟨hg, h⟩ := h
  refine zw_gf hm_7 dX0_isYoung_1 (v := .inl (mI S t 4)) (zT_tis hS hg) (zT_tt hS hg) rfl f_1_62_9 rfl ?_
  refine zw_push hm_7 dX0_isYoung_4 (v := .inr (.inr (some 82))) rfl ?_
  refine zw_gf hm_7 dX0_isYoung_5 (v := .inl (mI S 82 3)) (zT_is hS s_82) (zT_t hS s_82) rfl f_1_19_1 rfl ?_
  refine zw_if2 hm_7 dX0_isYoung_8 (t := 15) rfl zc2_lt ?_ ?_
  · intro hc
    rw [if_pos hc] at h
    refine zw_push hm_7 dX0_isYoung_15 (v := .inl (0 : Int32)) rfl ?_
    refine zw_bret hm_7 dX0_isYoung_16 (by decide) ?_
    show ma_wp X d w 18 5 [(0, .inr (.inr (some 82))), (1, .inr (.inr (some t)))] [.inl (0 : Int32)] S _
    refine zw_if0 hm_18 dX0_canHold_5 (t := 12) rfl zc0_ne (fun hc => absurd hc (by decide)) (fun _ => ?_)
    refine zw_push hm_18 dX0_canHold_8 (v := .inl (1 : Int32)) rfl ?_
    refine zw_goto hm_18 dX0_canHold_9 (t := 13) rfl ?_
    exact zw_bret hm_18 dX0_canHold_13 (by decide) h
  · intro hc
    rw [if_neg hc] at h
    refine zw_push hm_7 dX0_isYoung_11 (v := .inl (1 : Int32)) rfl ?_
    refine zw_goto hm_7 dX0_isYoung_12 (t := 16) rfl ?_
    refine zw_bret hm_7 dX0_isYoung_16 (by decide) ?_
    show ma_wp X d w 18 5 [(0, .inr (.inr (some 82))), (1, .inr (.inr (some t)))] [.inl (1 : Int32)] S _
    refine zw_if0 hm_18 dX0_canHold_5 (t := 12) rfl zc0_ne (fun _ => ?_) (fun hc => absurd (by decide) hc)
    refine zw_push hm_18 dX0_canHold_12 (v := .inl (0 : Int32)) rfl ?_
    exact zw_bret hm_18 dX0_canHold_13 (by decide) h
theorem sp_18_82_sm {X : Nat × (Nat → Int32)} {d w : Nat} {f : Nat → Nat → Int32} {r : Nat → Nat → Option Nat} {C Z N : Nat} {Q : Option ma_V ⊕ Nat → ma_S → Prop} {S : ma_S} (t : Nat) (hd : 1 ≤ d) (hw : 21 ≤ w) (hI : zJ82 f r C Z N S) (th_t : 126 ≤ t ∧ t < N) (K : ∀ v S', S' = S → (v = 0 ∨ v = 1) → ((v.toInt = 1 ∧ (mI S t 4).toInt < (mI S 82 3).toInt) ∨ (v.toInt = 0 ∧ (mI S 82 3).toInt ≤ (mI S t 4).toInt)) → Q (.inl (some (.inl v))) S') : ma_wp X d w 18 0 [(0, .inr (.inr (some 82))), (1, .inr (.inr (some t)))] [] S Q := by
  refine g_18_82_sm_0 t (by omega) (by omega) (zG_T hI) ?_
  refine ⟨zG_n hI th_t, ?_⟩
  have f1 := zG_th hI th_t
  have x2 : (mI S 82 3).toInt ≤ (mI S 82 7).toInt ∧ (mI S 82 7).toInt ≤ (mI S 82 3).toInt + (mI S 82 2).toInt := zG_x hI
  have f3 := zG_s hI (0) (1500) (c := 82) (k := 3) (by decide)
  refine zd (fun h4 => ?_) (fun h4 => ?_)
  · skip
    have g5 := i_lt h4
    have li6 : (1 : Int32).toInt = 1 := rfl
    exact K ((1 : Int32)) _ rfl (by decide) (show ((1 : Int32).toInt = 1 ∧ (mI S t 4).toInt < (mI S 82 3).toInt) ∨ ((1 : Int32).toInt = 0 ∧ (mI S 82 3).toInt ≤ (mI S t 4).toInt) from by first | (exact Or.inl ⟨rfl, by omega⟩) | (exact Or.inr ⟨rfl, by omega⟩))
  · skip
    have g7 := i_nlt h4
    have li8 : (0 : Int32).toInt = 0 := rfl
    exact K ((0 : Int32)) _ rfl (by decide) (show ((0 : Int32).toInt = 1 ∧ (mI S t 4).toInt < (mI S 82 3).toInt) ∨ ((0 : Int32).toInt = 0 ∧ (mI S 82 3).toInt ≤ (mI S t 4).toInt) from by first | (exact Or.inl ⟨rfl, by omega⟩) | (exact Or.inr ⟨rfl, by omega⟩))
