/-! collectors, by what they keep (written by wip/tools/gen93b.py) -/
theorem g_22_82_0 {X : Nat × (Nat → Int32)} {d w : Nat} {S : ma_S} {Q : Option ma_V ⊕ Nat → ma_S → Prop}  (hd : 0 ≤ d) (hw : 0 ≤ w) (hS : zT S) (h : Q (.inl (some (.inl (mI S 82 6)))) S) : ma_wp X d w 22 0 [(0, .inr (.inr (some 82)))] [] S Q := by
  refine zw_push hm_22 dX0_oldTopOrRegion_0 (v := .inr (.inr (some 82))) rfl ?_
  refine zw_gf hm_22 dX0_oldTopOrRegion_1 (v := .inl (mI S 82 6)) (zT_is hS s_82) (zT_t hS s_82) rfl f_1_28_1 rfl ?_
  exact zw_iret hm_22 dX0_oldTopOrRegion_4 h
theorem sp_22_82 {X : Nat × (Nat → Int32)} {d w : Nat} {f : Nat → Nat → Int32} {r : Nat → Nat → Option Nat} {C Z N : Nat} {Q : Option ma_V ⊕ Nat → ma_S → Prop} {S : ma_S}  (hd : 0 ≤ d) (hw : 0 ≤ w) (hI : zJ82 f r C Z N S)  (K : ∀ v S', zJ82 f r C Z N S' → (True) → Q (.inl (some (.inl v))) S') : ma_wp X d w 22 0 [(0, .inr (.inr (some 82)))] [] S Q := by
  refine g_22_82_0  (by omega) (by omega) (zG_T hI) ?_
  have f1 := zG_s hI (0) (400000) (c := 82) (k := 6) (by decide)
  exact K ((mI S 82 6)) _ hI trivial
theorem g_18_82_0 {X : Nat × (Nat → Int32)} {d w : Nat} {S : ma_S} {Q : Option ma_V ⊕ Nat → ma_S → Prop} (t : Nat) (hd : 1 ≤ d) (hw : 21 ≤ w) (hS : zT S) (h : (126 ≤ t ∧ t < mN S) ∧ (if (mI S t 4) < (mI S 82 3) then (Q (.inl (some (.inl (1 : Int32)))) S) else (Q (.inl (some (.inl (0 : Int32)))) S))) : ma_wp X d w 18 0 [(0, .inr (.inr (some 82))), (1, .inr (.inr (some t)))] [] S Q := by
  refine zw_push hm_18 dX0_canHold_0 (v := .inr (.inr (some 82))) rfl ?_
  refine zw_push hm_18 dX0_canHold_1 (v := .inr (.inr (some t))) rfl ?_
  refine zw_cv hm_18 dX0_canHold_2 v_1_58_1 hm_7 [.inr (.inr (some t))] [] rfl (zT_rt hS s_82 rfl) ⟨by omega, by omega⟩ rfl ?_
  show ma_wp X (d - 1) (w - 21) 7 0 [(0, .inr (.inr (some 82))), (1, .inr (.inr (some t)))] [] S _
  refine zw_push hm_7 dX0_isYoung_0 (v := .inr (.inr (some t))) rfl ?_
  obtain ⟨hg, h⟩ := h
  refine zw_gf hm_7 dX0_isYoung_1 (v := .inl (mI S t 4)) (zT_tis hS hg) (zT_tt hS hg) rfl f_1_62_9 rfl ?_
  refine zw_push hm_7 dX0_isYoung_4 (v := .inr (.inr (some 82))) rfl ?_
  refine zw_gf hm_7 dX0_isYoung_5 (v := .inl (mI S 82 3)) (zT_is hS s_82) (zT_t hS s_82) rfl f_1_19_1 rfl ?_
  refine zw_if2 hm_7 dX0_isYoung_8 (t := 15) rfl zc2_lt ?_ ?_
  · intro hc
    rw [if_pos hc] at h
    refine zw_push hm_7 dX0_isYoung_15 (v := .inl (0 : Int32)) rfl ?_
    refine zw_bret hm_7 dX0_isYoung_16 (by decide) ?_
    show ma_wp X d w 18 5 [(0, .inr (.inr (some 82))), (1, .inr (.inr (some t)))] [.inl (0 : Int32)] S _
    refine zw_if0 hm_18 dX0_canHold_5 (t := 12) rfl zc0_ne (fun hc => absurd hc (by decide)) (fun _ => ?_)
    refine zw_push hm_18 dX0_canHold_8 (v := .inl (1 : Int32)) rfl ?_
    refine zw_goto hm_18 dX0_canHold_9 (t := 13) rfl ?_
    exact zw_bret hm_18 dX0_canHold_13 (by decide) h
  · intro hc
    rw [if_neg hc] at h
    refine zw_push hm_7 dX0_isYoung_11 (v := .inl (1 : Int32)) rfl ?_
    refine zw_goto hm_7 dX0_isYoung_12 (t := 16) rfl ?_
    refine zw_bret hm_7 dX0_isYoung_16 (by decide) ?_
    show ma_wp X d w 18 5 [(0, .inr (.inr (some 82))), (1, .inr (.inr (some t)))] [.inl (1 : Int32)] S _
    refine zw_if0 hm_18 dX0_canHold_5 (t := 12) rfl zc0_ne (fun _ => ?_) (fun hc => absurd (by decide) hc)
    refine zw_push hm_18 dX0_canHold_12 (v := .inl (0 : Int32)) rfl ?_
    exact zw_bret hm_18 dX0_canHold_13 (by decide) h
theorem sp_18_82 {X : Nat × (Nat → Int32)} {d w : Nat} {f : Nat → Nat → Int32} {r : Nat → Nat → Option Nat} {C Z N : Nat} {Q : Option ma_V ⊕ Nat → ma_S → Prop} {S : ma_S} (t : Nat) (hd : 1 ≤ d) (hw : 21 ≤ w) (hI : zJ82 f r C Z N S) (th_t : 126 ≤ t ∧ t < N) (K : ∀ v S', zJ82 f r C Z N S' → (v = 0 ∨ v = 1) → Q (.inl (some (.inl v))) S') : ma_wp X d w 18 0 [(0, .inr (.inr (some 82))), (1, .inr (.inr (some t)))] [] S Q := by
  refine g_18_82_0 t (by omega) (by omega) (zG_T hI) ?_
  refine ⟨zG_n hI th_t, ?_⟩
  have f1 := zG_th hI th_t
  have x2 : (mI S 82 3).toInt ≤ (mI S 82 7).toInt ∧ (mI S 82 7).toInt ≤ (mI S 82 3).toInt + (mI S 82 2).toInt := zG_x hI
  have f3 := zG_s hI (0) (1500) (c := 82) (k := 3) (by decide)
  refine zd (fun h4 => ?_) (fun h4 => ?_)
  · skip
    have g5 := i_lt h4
    have li6 : (1 : Int32).toInt = 1 := rfl
    exact K ((1 : Int32)) _ hI (by decide)
  · skip
    have g7 := i_nlt h4
    have li8 : (0 : Int32).toInt = 0 := rfl
    exact K ((0 : Int32)) _ hI (by decide)
theorem g_17_82_0 {X : Nat × (Nat → Int32)} {d w : Nat} {S : ma_S} {Q : Option ma_V ⊕ Nat → ma_S → Prop} (t : Nat) (hd : 1 ≤ d) (hw : 21 ≤ w) (hS : zT S) (h : (126 ≤ t ∧ t < mN S) ∧ (if (mI S t 4) < (mI S 82 3) then ((126 ≤ t ∧ t < mN S) ∧ ((126 ≤ t ∧ t < mN S) ∧ (Q (.inl none) (ma_put S 82 6 (.inl ((mI S t 4) + (mI S t 2))))))) else ((126 ≤ t ∧ t < mN S) ∧ ((126 ≤ t ∧ t < mN S) ∧ (Q (.inl none) (ma_put S 82 8 (.inl ((mI S t 4) + (mI S t 2))))))))) : ma_wp X d w 17 0 [(0, .inr (.inr (some 82))), (1, .inr (.inr (some t)))] [] S Q := by
  refine zw_push hm_17 dX0_noteMade_0 (v := .inr (.inr (some 82))) rfl ?_
  refine zw_push hm_17 dX0_noteMade_1 (v := .inr (.inr (some t))) rfl ?_
  refine zw_cv hm_17 dX0_noteMade_2 v_1_58_1 hm_7 [.inr (.inr (some t))] [] rfl (zT_rt hS s_82 rfl) ⟨by omega, by omega⟩ rfl ?_
  show ma_wp X (d - 1) (w - 21) 7 0 [(0, .inr (.inr (some 82))), (1, .inr (.inr (some t)))] [] S _
  refine zw_push hm_7 dX0_isYoung_0 (v := .inr (.inr (some t))) rfl ?_
  obtain ⟨hg, h⟩ := h
  refine zw_gf hm_7 dX0_isYoung_1 (v := .inl (mI S t 4)) (zT_tis hS hg) (zT_tt hS hg) rfl f_1_62_9 rfl ?_
  refine zw_push hm_7 dX0_isYoung_4 (v := .inr (.inr (some 82))) rfl ?_
  refine zw_gf hm_7 dX0_isYoung_5 (v := .inl (mI S 82 3)) (zT_is hS s_82) (zT_t hS s_82) rfl f_1_19_1 rfl ?_
  refine zw_if2 hm_7 dX0_isYoung_8 (t := 15) rfl zc2_lt ?_ ?_
  · intro hc
    rw [if_pos hc] at h
    refine zw_push hm_7 dX0_isYoung_15 (v := .inl (0 : Int32)) rfl ?_
    refine zw_bret hm_7 dX0_isYoung_16 (by decide) ?_
    show ma_wp X d w 17 5 [(0, .inr (.inr (some 82))), (1, .inr (.inr (some t)))] [.inl (0 : Int32)] S _
    refine zw_if0 hm_17 dX0_noteMade_5 (t := 24) rfl zc0_eq (fun _ => ?_) (fun hc => absurd (by decide) hc)
    refine zw_push hm_17 dX0_noteMade_24 (v := .inr (.inr (some 82))) rfl ?_
    refine zw_push hm_17 dX0_noteMade_25 (v := .inr (.inr (some t))) rfl ?_
    obtain ⟨hg, h⟩ := h
    refine zw_gf hm_17 dX0_noteMade_26 (v := .inl (mI S t 4)) (zT_tis hS hg) (zT_tt hS hg) rfl f_1_62_9 rfl ?_
    refine zw_push hm_17 dX0_noteMade_29 (v := .inr (.inr (some t))) rfl ?_
    obtain ⟨hg, h⟩ := h
    refine zw_gf hm_17 dX0_noteMade_30 (v := .inl (mI S t 2)) (zT_tis hS hg) (zT_tt hS hg) rfl f_1_67_9 rfl ?_
    refine zw_stk hm_17 dX0_noteMade_33 (st' := [.inl ((mI S t 4) + (mI S t 2)), .inr (.inr (some 82))]) rfl rfl ?_
    refine zw_pf hm_17 dX0_noteMade_34 (zT_is hS s_82) (zT_t hS s_82) p_1_28_1 zk_int ?_
    exact zw_vret hm_17 dX0_noteMade_37 h
  · intro hc
    rw [if_neg hc] at h
    refine zw_push hm_7 dX0_isYoung_11 (v := .inl (1 : Int32)) rfl ?_
    refine zw_goto hm_7 dX0_isYoung_12 (t := 16) rfl ?_
    refine zw_bret hm_7 dX0_isYoung_16 (by decide) ?_
    show ma_wp X d w 17 5 [(0, .inr (.inr (some 82))), (1, .inr (.inr (some t)))] [.inl (1 : Int32)] S _
    refine zw_if0 hm_17 dX0_noteMade_5 (t := 24) rfl zc0_eq (fun hc => absurd hc (by decide)) (fun _ => ?_)
    refine zw_push hm_17 dX0_noteMade_8 (v := .inr (.inr (some 82))) rfl ?_
    refine zw_push hm_17 dX0_noteMade_9 (v := .inr (.inr (some t))) rfl ?_
    obtain ⟨hg, h⟩ := h
    refine zw_gf hm_17 dX0_noteMade_10 (v := .inl (mI S t 4)) (zT_tis hS hg) (zT_tt hS hg) rfl f_1_62_9 rfl ?_
    refine zw_push hm_17 dX0_noteMade_13 (v := .inr (.inr (some t))) rfl ?_
    obtain ⟨hg, h⟩ := h
    refine zw_gf hm_17 dX0_noteMade_14 (v := .inl (mI S t 2)) (zT_tis hS hg) (zT_tt hS hg) rfl f_1_67_9 rfl ?_
    refine zw_stk hm_17 dX0_noteMade_17 (st' := [.inl ((mI S t 4) + (mI S t 2)), .inr (.inr (some 82))]) rfl rfl ?_
    refine zw_pf hm_17 dX0_noteMade_18 (zT_is hS s_82) (zT_t hS s_82) p_1_34_1 zk_int ?_
    refine zw_goto hm_17 dX0_noteMade_21 (t := 37) rfl ?_
    exact zw_vret hm_17 dX0_noteMade_37 h
theorem sp_17_82 {X : Nat × (Nat → Int32)} {d w : Nat} {f : Nat → Nat → Int32} {r : Nat → Nat → Option Nat} {C Z N : Nat} {Q : Option ma_V ⊕ Nat → ma_S → Prop} {S : ma_S} (t : Nat) (hd : 1 ≤ d) (hw : 21 ≤ w) (hI : zJ82 f r C Z N S) (th_t : 126 ≤ t ∧ t < N) (K : ∀ S', zJ82 f r C Z N S' → Q (.inl none) S') : ma_wp X d w 17 0 [(0, .inr (.inr (some 82))), (1, .inr (.inr (some t)))] [] S Q := by
  refine g_17_82_0 t (by omega) (by omega) (zG_T hI) ?_
  refine ⟨zG_n hI th_t, ?_⟩
  have f1 := zG_th hI th_t
  have x2 : (mI S 82 3).toInt ≤ (mI S 82 7).toInt ∧ (mI S 82 7).toInt ≤ (mI S 82 3).toInt + (mI S 82 2).toInt := zG_x hI
  have f3 := zG_s hI (0) (1500) (c := 82) (k := 3) (by decide)
  refine zd (fun h4 => ?_) (fun h4 => ?_)
  · skip
    have g5 := i_lt h4
    refine ⟨zG_n hI th_t, ?_⟩
    refine ⟨zG_n hI th_t, ?_⟩
    have f7 := zG_th hI th_t
    first | have e8 : ((mI S t 4) + (mI S t 2)).toInt = (mI S t 4).toInt + (mI S t 2).toInt := i_add (by omega) (by omega) | have b9 := i_bd ((mI S t 4) + (mI S t 2))
    have hI6 : zJ82 f r C Z N (ma_put S 82 6 (.inl ((mI S t 4) + (mI S t 2)))) := zG_sp hI (0) (400000) rfl (by decide) (by decide) (by decide) (show zJ82_x (mI S) from zG_x hI) (by omega) (by omega)
    exact K _ hI6
  · skip
    have g10 := i_nlt h4
    refine ⟨zG_n hI th_t, ?_⟩
    refine ⟨zG_n hI th_t, ?_⟩
    have f12 := zG_th hI th_t
    first | have e13 : ((mI S t 4) + (mI S t 2)).toInt = (mI S t 4).toInt + (mI S t 2).toInt := i_add (by omega) (by omega) | have b14 := i_bd ((mI S t 4) + (mI S t 2))
    have hI11 : zJ82 f r C Z N (ma_put S 82 8 (.inl ((mI S t 4) + (mI S t 2)))) := zG_sp hI (0) (400000) rfl (by decide) (by decide) (by decide) (show zJ82_x (mI S) from zG_x hI) (by omega) (by omega)
    exact K _ hI11
theorem g_20_82_0 {X : Nat × (Nat → Int32)} {d w : Nat} {S : ma_S} {Q : Option ma_V ⊕ Nat → ma_S → Prop}  (hd : 0 ≤ d) (hw : 0 ≤ w) (hS : zT S) (h : ma_wp X d w 20 4 [(0, .inr (.inr (some 82))), (1, .inl (0 : Int32)), (2, .inl (0 : Int32))] [] S Q) : ma_wp X d w 20 0 [(0, .inr (.inr (some 82)))] [] S Q := by
  refine zw_push hm_20 dX0_specials_0 (v := .inl (0 : Int32)) rfl ?_
  refine zw_sto hm_20 dX0_specials_1 [(1, .inl (0 : Int32)), (0, .inr (.inr (some 82)))] rfl rfl rfl ?_
  refine zw_push hm_20 dX0_specials_2 (v := .inl (0 : Int32)) rfl ?_
  refine zw_sto hm_20 dX0_specials_3 [(2, .inl (0 : Int32)), (1, .inl (0 : Int32)), (0, .inr (.inr (some 82)))] rfl rfl rfl ?_
  exact zw_sub (ma_nd_of (ks := [0, 1, 2]) rfl (by decide)) (ma_nd_of (ks := [2, 1, 0]) rfl (by decide)) (ma_le_cons rfl (ma_le_cons rfl (ma_le_cons rfl (ma_le_nil _)))) h
theorem g_20_82_4 {X : Nat × (Nat → Int32)} {d w : Nat} {S : ma_S} {Q : Option ma_V ⊕ Nat → ma_S → Prop} (l1 : Int32) (l2 : Int32) (hd : 0 ≤ d) (hw : 0 ≤ w) (hS : zT S) (h : if (375 : Int32) ≤ l2 then (Q (.inl (some (.inl l1))) S) else ((0 ≤ l2 ∧ l2.toNatClampNeg < 375) ∧ (ma_wp X d w 20 4 [(0, .inr (.inr (some 82))), (1, .inl (l1 + (mI S 83 l2.toNatClampNeg))), (2, .inl (l2 + (1 : Int32)))] [] S Q))) : ma_wp X d w 20 4 [(0, .inr (.inr (some 82))), (1, .inl l1), (2, .inl l2)] [] S Q := by
  refine zw_push hm_20 dX0_specials_4 (v := .inl l2) rfl ?_
  refine zw_push hm_20 dX0_specials_5 (v := .inl (375 : Int32)) rfl ?_
  refine zw_if2 hm_20 dX0_specials_8 (t := 26) rfl zc2_ge ?_ ?_
  · intro hc
    rw [if_pos hc] at h
    refine zw_push hm_20 dX0_specials_26 (v := .inl l1) rfl ?_
    exact zw_iret hm_20 dX0_specials_27 h
  · intro hc
    rw [if_neg hc] at h
    refine zw_push hm_20 dX0_specials_11 (v := .inl l1) rfl ?_
    refine zw_push hm_20 dX0_specials_12 (v := .inr (.inr (some 82))) rfl ?_
    refine zw_gf hm_20 dX0_specials_13 (v := .inr (.inr (some 83))) (zT_is hS s_82) (zT_t hS s_82) rfl f_1_9_1 (zT_f hS r_82_9) ?_
    refine zw_push hm_20 dX0_specials_16 (v := .inl l2) rfl ?_
    obtain ⟨hg, h⟩ := h
    refine zw_ia hm_20 dX0_specials_17 (zT_is hS s_83) (zT_h hS s_83) rfl hg ?_
    show ma_wp X d w 20 18 [(0, .inr (.inr (some 82))), (1, .inl l1), (2, .inl l2)] [.inl (mI S 83 l2.toNatClampNeg), .inl l1] S _
    refine zw_stk hm_20 dX0_specials_18 (st' := [.inl (l1 + (mI S 83 l2.toNatClampNeg))]) rfl rfl ?_
    refine zw_sto hm_20 dX0_specials_19 [(1, .inl (l1 + (mI S 83 l2.toNatClampNeg))), (0, .inr (.inr (some 82))), (2, .inl l2)] rfl rfl rfl ?_
    refine zw_sto hm_20 dX0_specials_20 [(2, .inl (l2 + (1 : Int32))), (1, .inl (l1 + (mI S 83 l2.toNatClampNeg))), (0, .inr (.inr (some 82)))] rfl rfl rfl ?_
    refine zw_goto hm_20 dX0_specials_23 (t := 4) rfl ?_
    exact zw_sub (ma_nd_of (ks := [0, 1, 2]) rfl (by decide)) (ma_nd_of (ks := [2, 1, 0]) rfl (by decide)) (ma_le_cons rfl (ma_le_cons rfl (ma_le_cons rfl (ma_le_nil _)))) h
theorem lp_20_82_4 {X : Nat × (Nat → Int32)} {d w : Nat} {f : Nat → Nat → Int32} {r : Nat → Nat → Option Nat} {C Z N : Nat} {Q : Option ma_V ⊕ Nat → ma_S → Prop} (hd : 0 ≤ d) (hw : 0 ≤ w) (K : ∀ v S', zJ82 f r C Z N S' → (True) → Q (.inl (some (.inl v))) S') : ∀ (n : Nat) (S : ma_S) (l1 : Int32) (l2 : Int32), (375 - l2.toInt).toNat = n → zJ82 f r C Z N S → (0 ≤ l2.toInt) → ma_wp X d w 20 4 [(0, .inr (.inr (some 82))), (1, .inl l1), (2, .inl l2)] [] S Q := by
  intro n
  induction n using Nat.strongRecOn with
  | _ n IH =>
    intro S l1 l2 hmu hI  hi0
    refine g_20_82_4 l1 l2 (by omega) (by omega) (zG_T hI) ?_
    have li1 : (375 : Int32).toInt = 375 := rfl
    have b2 := i_bd l2
    refine zd (fun h3 => ?_) (fun h3 => ?_)
    · skip
      have g4 := i_le h3
      have b5 := i_bd l1
      exact K (l1) _ hI trivial
    · skip
      have g6 := i_nle h3
      refine ⟨i_ix (by omega) (by omega), ?_⟩
      have b7 := i_bd l1
      have b8 := i_bd (mI S 83 l2.toNatClampNeg)
      first | have e9 : (l1 + (mI S 83 l2.toNatClampNeg)).toInt = l1.toInt + (mI S 83 l2.toNatClampNeg).toInt := i_add (by omega) (by omega) | have b10 := i_bd (l1 + (mI S 83 l2.toNatClampNeg))
      first | have e11 : (l2 + (1 : Int32)).toInt = l2.toInt + (1) := i_addk rfl (by omega) (by omega) | have b12 := i_bd (l2 + (1 : Int32))
      exact IH _ (by omega) _ ((l1 + (mI S 83 l2.toNatClampNeg))) ((l2 + (1 : Int32))) rfl hI (by omega)
theorem sp_20_82 {X : Nat × (Nat → Int32)} {d w : Nat} {f : Nat → Nat → Int32} {r : Nat → Nat → Option Nat} {C Z N : Nat} {Q : Option ma_V ⊕ Nat → ma_S → Prop} {S : ma_S}  (hd : 0 ≤ d) (hw : 0 ≤ w) (hI : zJ82 f r C Z N S)  (K : ∀ v S', zJ82 f r C Z N S' → (True) → Q (.inl (some (.inl v))) S') : ma_wp X d w 20 0 [(0, .inr (.inr (some 82)))] [] S Q := by
  refine g_20_82_0  (by omega) (by omega) (zG_T hI) ?_
  have li1 : (0 : Int32).toInt = 0 := rfl
  exact lp_20_82_4 (by omega) (by omega) K _ _ ((0 : Int32)) ((0 : Int32)) rfl hI (by omega)
theorem g_8_82_0 {X : Nat × (Nat → Int32)} {d w : Nat} {S : ma_S} {Q : Option ma_V ⊕ Nat → ma_S → Prop} (t : Nat) (i : Int32) (x : Option Nat) (hd : 1 ≤ d) (hw : 22 ≤ w) (hS : zT S) (h : if (mI S 82 5) ≤ 0 then ((x = none → Q (.inl none) S) ∧ (∀ c1, x = some c1 → (126 ≤ t ∧ t < mN S) ∧ (if (mI S t 4) < (mI S 82 3) then ((126 ≤ c1 ∧ c1 < mN S) ∧ (if (mI S c1 4) < (mI S 82 3) then (Q (.inl none) S) else (Q (.inl none) S))) else (Q (.inl none) S)))) else ((126 ≤ t ∧ t < mN S) ∧ ((mI S 82 5) ≠ 0 ∧ ((x = none → Q (.inl none) S) ∧ (∀ c2, x = some c2 → (126 ≤ t ∧ t < mN S) ∧ (if (mI S t 4) < (mI S 82 3) then ((126 ≤ c2 ∧ c2 < mN S) ∧ (if (mI S c2 4) < (mI S 82 3) then (Q (.inl none) S) else (if ((((mI S t 4) + (1 : Int32)) + i) / (mI S 82 5)) < 0 then (Q (.inl none) S) else (if (375 : Int32) ≤ ((((mI S t 4) + (1 : Int32)) + i) / (mI S 82 5)) then (Q (.inl none) S) else ((0 ≤ ((((mI S t 4) + (1 : Int32)) + i) / (mI S 82 5)) ∧ ((((mI S t 4) + (1 : Int32)) + i) / (mI S 82 5)).toNatClampNeg < 375) ∧ (Q (.inl none) (ma_put S 83 ((((mI S t 4) + (1 : Int32)) + i) / (mI S 82 5)).toNatClampNeg (.inl (1 : Int32))))))))) else (Q (.inl none) S))))))) : ma_wp X d w 8 0 [(0, .inr (.inr (some 82))), (1, .inr (.inr (some t))), (2, .inl i), (3, .inr (.inr x))] [] S Q := by
  refine zw_push hm_8 dX0_noteReference_0 (v := .inr (.inr (some 82))) rfl ?_
  refine zw_push hm_8 dX0_noteReference_1 (v := .inr (.inr (some t))) rfl ?_
  refine zw_push hm_8 dX0_noteReference_2 (v := .inl i) rfl ?_
  refine zw_cv hm_8 dX0_noteReference_3 v_1_136_1 hm_9 [.inl i, .inr (.inr (some t))] [] rfl (zT_rt hS s_82 rfl) ⟨by omega, by omega⟩ rfl ?_
  show ma_wp X (d - 1) (w - 22) 9 0 [(0, .inr (.inr (some 82))), (1, .inr (.inr (some t))), (2, .inl i)] [] S _
  refine zw_push hm_9 dX0_cardOf_0 (v := .inr (.inr (some 82))) rfl ?_
  refine zw_gf hm_9 dX0_cardOf_1 (v := .inl (mI S 82 5)) (zT_is hS s_82) (zT_t hS s_82) rfl f_1_25_1 rfl ?_
  refine zw_if0 hm_9 dX0_cardOf_4 (t := 23) rfl zc0_le ?_ ?_
  · intro hc
    rw [if_pos hc] at h
    refine zw_push hm_9 dX0_cardOf_23 (v := .inl (-1 : Int32)) rfl ?_
    refine zw_iret hm_9 dX0_cardOf_24 ?_
    show ma_wp X d w 8 6 [(0, .inr (.inr (some 82))), (1, .inr (.inr (some t))), (2, .inl i), (3, .inr (.inr x))] [.inl (-1 : Int32)] S _
    refine zw_sto hm_8 dX0_noteReference_6 [(4, .inl (-1 : Int32)), (0, .inr (.inr (some 82))), (1, .inr (.inr (some t))), (2, .inl i), (3, .inr (.inr x))] rfl rfl rfl ?_
    refine zw_push hm_8 dX0_noteReference_8 (v := .inr (.inr x)) rfl ?_
    refine zw_ifnull hm_8 dX0_noteReference_9 (t := 49) rfl ?_ ?_
    · intro hc
      have h := h.1 hc
      (try rw [hc])
      show ma_wp X d w 8 49 [(4, .inl (-1 : Int32)), (0, .inr (.inr (some 82))), (1, .inr (.inr (some t))), (2, .inl i), (3, .inr (.inr none))] [] S _
      exact zw_vret hm_8 dX0_noteReference_49 h
    · intro c1 hc
      have h := h.2 c1 hc
      (try rw [hc])
      show ma_wp X d w 8 12 [(4, .inl (-1 : Int32)), (0, .inr (.inr (some 82))), (1, .inr (.inr (some t))), (2, .inl i), (3, .inr (.inr (some c1)))] [] S _
      refine zw_push hm_8 dX0_noteReference_12 (v := .inr (.inr (some 82))) rfl ?_
      refine zw_push hm_8 dX0_noteReference_13 (v := .inr (.inr (some t))) rfl ?_
      refine zw_cv hm_8 dX0_noteReference_14 v_1_58_1 hm_7 [.inr (.inr (some t))] [] rfl (zT_rt hS s_82 rfl) ⟨by omega, by omega⟩ rfl ?_
      show ma_wp X (d - 1) (w - 21) 7 0 [(0, .inr (.inr (some 82))), (1, .inr (.inr (some t)))] [] S _
      refine zw_push hm_7 dX0_isYoung_0 (v := .inr (.inr (some t))) rfl ?_
      obtain ⟨hg, h⟩ := h
      refine zw_gf hm_7 dX0_isYoung_1 (v := .inl (mI S t 4)) (zT_tis hS hg) (zT_tt hS hg) rfl f_1_62_9 rfl ?_
      refine zw_push hm_7 dX0_isYoung_4 (v := .inr (.inr (some 82))) rfl ?_
      refine zw_gf hm_7 dX0_isYoung_5 (v := .inl (mI S 82 3)) (zT_is hS s_82) (zT_t hS s_82) rfl f_1_19_1 rfl ?_
      refine zw_if2 hm_7 dX0_isYoung_8 (t := 15) rfl zc2_lt ?_ ?_
      · intro hc
        rw [if_pos hc] at h
        refine zw_push hm_7 dX0_isYoung_15 (v := .inl (0 : Int32)) rfl ?_
        refine zw_bret hm_7 dX0_isYoung_16 (by decide) ?_
        show ma_wp X d w 8 17 [(4, .inl (-1 : Int32)), (0, .inr (.inr (some 82))), (1, .inr (.inr (some t))), (2, .inl i), (3, .inr (.inr (some c1)))] [.inl (0 : Int32)] S _
        refine zw_if0 hm_8 dX0_noteReference_17 (t := 49) rfl zc0_ne (fun hc => absurd hc (by decide)) (fun _ => ?_)
        refine zw_push hm_8 dX0_noteReference_20 (v := .inr (.inr (some 82))) rfl ?_
        refine zw_push hm_8 dX0_noteReference_21 (v := .inr (.inr (some c1))) rfl ?_
        refine zw_cv hm_8 dX0_noteReference_22 v_1_58_1 hm_7 [.inr (.inr (some c1))] [] rfl (zT_rt hS s_82 rfl) ⟨by omega, by omega⟩ rfl ?_
        show ma_wp X (d - 1) (w - 21) 7 0 [(0, .inr (.inr (some 82))), (1, .inr (.inr (some c1)))] [] S _
        refine zw_push hm_7 dX0_isYoung_0 (v := .inr (.inr (some c1))) rfl ?_
        obtain ⟨hg, h⟩ := h
        refine zw_gf hm_7 dX0_isYoung_1 (v := .inl (mI S c1 4)) (zT_tis hS hg) (zT_tt hS hg) rfl f_1_62_9 rfl ?_
        refine zw_push hm_7 dX0_isYoung_4 (v := .inr (.inr (some 82))) rfl ?_
        refine zw_gf hm_7 dX0_isYoung_5 (v := .inl (mI S 82 3)) (zT_is hS s_82) (zT_t hS s_82) rfl f_1_19_1 rfl ?_
        refine zw_if2 hm_7 dX0_isYoung_8 (t := 15) rfl zc2_lt ?_ ?_
        · intro hc
          rw [if_pos hc] at h
          refine zw_push hm_7 dX0_isYoung_15 (v := .inl (0 : Int32)) rfl ?_
          refine zw_bret hm_7 dX0_isYoung_16 (by decide) ?_
          show ma_wp X d w 8 25 [(4, .inl (-1 : Int32)), (0, .inr (.inr (some 82))), (1, .inr (.inr (some t))), (2, .inl i), (3, .inr (.inr (some c1)))] [.inl (0 : Int32)] S _
          refine zw_if0 hm_8 dX0_noteReference_25 (t := 49) rfl zc0_eq (fun _ => ?_) (fun hc => absurd (by decide) hc)
          exact zw_vret hm_8 dX0_noteReference_49 h
        · intro hc
          rw [if_neg hc] at h
          refine zw_push hm_7 dX0_isYoung_11 (v := .inl (1 : Int32)) rfl ?_
          refine zw_goto hm_7 dX0_isYoung_12 (t := 16) rfl ?_
          refine zw_bret hm_7 dX0_isYoung_16 (by decide) ?_
          show ma_wp X d w 8 25 [(4, .inl (-1 : Int32)), (0, .inr (.inr (some 82))), (1, .inr (.inr (some t))), (2, .inl i), (3, .inr (.inr (some c1)))] [.inl (1 : Int32)] S _
          refine zw_if0 hm_8 dX0_noteReference_25 (t := 49) rfl zc0_eq (fun hc => absurd hc (by decide)) (fun _ => ?_)
          refine zw_push hm_8 dX0_noteReference_28 (v := .inl (-1 : Int32)) rfl ?_
          refine zw_if0 hm_8 dX0_noteReference_30 (t := 49) rfl zc0_lt (fun _ => ?_) (fun hc => absurd (by decide) hc)
          exact zw_vret hm_8 dX0_noteReference_49 h
      · intro hc
        rw [if_neg hc] at h
        refine zw_push hm_7 dX0_isYoung_11 (v := .inl (1 : Int32)) rfl ?_
        refine zw_goto hm_7 dX0_isYoung_12 (t := 16) rfl ?_
        refine zw_bret hm_7 dX0_isYoung_16 (by decide) ?_
        show ma_wp X d w 8 17 [(4, .inl (-1 : Int32)), (0, .inr (.inr (some 82))), (1, .inr (.inr (some t))), (2, .inl i), (3, .inr (.inr (some c1)))] [.inl (1 : Int32)] S _
        refine zw_if0 hm_8 dX0_noteReference_17 (t := 49) rfl zc0_ne (fun _ => ?_) (fun hc => absurd (by decide) hc)
        exact zw_vret hm_8 dX0_noteReference_49 h
  · intro hc
    rw [if_neg hc] at h
    refine zw_push hm_9 dX0_cardOf_7 (v := .inr (.inr (some t))) rfl ?_
    obtain ⟨hg, h⟩ := h
    refine zw_gf hm_9 dX0_cardOf_8 (v := .inl (mI S t 4)) (zT_tis hS hg) (zT_tt hS hg) rfl f_1_62_9 rfl ?_
    refine zw_push hm_9 dX0_cardOf_11 (v := .inl (1 : Int32)) rfl ?_
    refine zw_stk hm_9 dX0_cardOf_12 (st' := [.inl ((mI S t 4) + (1 : Int32))]) rfl rfl ?_
    refine zw_push hm_9 dX0_cardOf_13 (v := .inl i) rfl ?_
    refine zw_stk hm_9 dX0_cardOf_14 (st' := [.inl (((mI S t 4) + (1 : Int32)) + i)]) rfl rfl ?_
    refine zw_push hm_9 dX0_cardOf_15 (v := .inr (.inr (some 82))) rfl ?_
    refine zw_gf hm_9 dX0_cardOf_16 (v := .inl (mI S 82 5)) (zT_is hS s_82) (zT_t hS s_82) rfl f_1_25_1 rfl ?_
    obtain ⟨hg, h⟩ := h
    refine zw_stk hm_9 dX0_cardOf_19 (st' := [.inl ((((mI S t 4) + (1 : Int32)) + i) / (mI S 82 5))]) rfl (if_neg hg) ?_
    refine zw_goto hm_9 dX0_cardOf_20 (t := 24) rfl ?_
    refine zw_iret hm_9 dX0_cardOf_24 ?_
    show ma_wp X d w 8 6 [(0, .inr (.inr (some 82))), (1, .inr (.inr (some t))), (2, .inl i), (3, .inr (.inr x))] [.inl ((((mI S t 4) + (1 : Int32)) + i) / (mI S 82 5))] S _
    refine zw_sto hm_8 dX0_noteReference_6 [(4, .inl ((((mI S t 4) + (1 : Int32)) + i) / (mI S 82 5))), (0, .inr (.inr (some 82))), (1, .inr (.inr (some t))), (2, .inl i), (3, .inr (.inr x))] rfl rfl rfl ?_
    refine zw_push hm_8 dX0_noteReference_8 (v := .inr (.inr x)) rfl ?_
    refine zw_ifnull hm_8 dX0_noteReference_9 (t := 49) rfl ?_ ?_
    · intro hc
      have h := h.1 hc
      (try rw [hc])
      show ma_wp X d w 8 49 [(4, .inl ((((mI S t 4) + (1 : Int32)) + i) / (mI S 82 5))), (0, .inr (.inr (some 82))), (1, .inr (.inr (some t))), (2, .inl i), (3, .inr (.inr none))] [] S _
      exact zw_vret hm_8 dX0_noteReference_49 h
    · intro c2 hc
      have h := h.2 c2 hc
      (try rw [hc])
      show ma_wp X d w 8 12 [(4, .inl ((((mI S t 4) + (1 : Int32)) + i) / (mI S 82 5))), (0, .inr (.inr (some 82))), (1, .inr (.inr (some t))), (2, .inl i), (3, .inr (.inr (some c2)))] [] S _
      refine zw_push hm_8 dX0_noteReference_12 (v := .inr (.inr (some 82))) rfl ?_
      refine zw_push hm_8 dX0_noteReference_13 (v := .inr (.inr (some t))) rfl ?_
      refine zw_cv hm_8 dX0_noteReference_14 v_1_58_1 hm_7 [.inr (.inr (some t))] [] rfl (zT_rt hS s_82 rfl) ⟨by omega, by omega⟩ rfl ?_
      show ma_wp X (d - 1) (w - 21) 7 0 [(0, .inr (.inr (some 82))), (1, .inr (.inr (some t)))] [] S _
      refine zw_push hm_7 dX0_isYoung_0 (v := .inr (.inr (some t))) rfl ?_
      obtain ⟨hg, h⟩ := h
      refine zw_gf hm_7 dX0_isYoung_1 (v := .inl (mI S t 4)) (zT_tis hS hg) (zT_tt hS hg) rfl f_1_62_9 rfl ?_
      refine zw_push hm_7 dX0_isYoung_4 (v := .inr (.inr (some 82))) rfl ?_
      refine zw_gf hm_7 dX0_isYoung_5 (v := .inl (mI S 82 3)) (zT_is hS s_82) (zT_t hS s_82) rfl f_1_19_1 rfl ?_
      refine zw_if2 hm_7 dX0_isYoung_8 (t := 15) rfl zc2_lt ?_ ?_
      · intro hc
        rw [if_pos hc] at h
        refine zw_push hm_7 dX0_isYoung_15 (v := .inl (0 : Int32)) rfl ?_
        refine zw_bret hm_7 dX0_isYoung_16 (by decide) ?_
        show ma_wp X d w 8 17 [(4, .inl ((((mI S t 4) + (1 : Int32)) + i) / (mI S 82 5))), (0, .inr (.inr (some 82))), (1, .inr (.inr (some t))), (2, .inl i), (3, .inr (.inr (some c2)))] [.inl (0 : Int32)] S _
        refine zw_if0 hm_8 dX0_noteReference_17 (t := 49) rfl zc0_ne (fun hc => absurd hc (by decide)) (fun _ => ?_)
        refine zw_push hm_8 dX0_noteReference_20 (v := .inr (.inr (some 82))) rfl ?_
        refine zw_push hm_8 dX0_noteReference_21 (v := .inr (.inr (some c2))) rfl ?_
        refine zw_cv hm_8 dX0_noteReference_22 v_1_58_1 hm_7 [.inr (.inr (some c2))] [] rfl (zT_rt hS s_82 rfl) ⟨by omega, by omega⟩ rfl ?_
        show ma_wp X (d - 1) (w - 21) 7 0 [(0, .inr (.inr (some 82))), (1, .inr (.inr (some c2)))] [] S _
        refine zw_push hm_7 dX0_isYoung_0 (v := .inr (.inr (some c2))) rfl ?_
        obtain ⟨hg, h⟩ := h
        refine zw_gf hm_7 dX0_isYoung_1 (v := .inl (mI S c2 4)) (zT_tis hS hg) (zT_tt hS hg) rfl f_1_62_9 rfl ?_
        refine zw_push hm_7 dX0_isYoung_4 (v := .inr (.inr (some 82))) rfl ?_
        refine zw_gf hm_7 dX0_isYoung_5 (v := .inl (mI S 82 3)) (zT_is hS s_82) (zT_t hS s_82) rfl f_1_19_1 rfl ?_
        refine zw_if2 hm_7 dX0_isYoung_8 (t := 15) rfl zc2_lt ?_ ?_
        · intro hc
          rw [if_pos hc] at h
          refine zw_push hm_7 dX0_isYoung_15 (v := .inl (0 : Int32)) rfl ?_
          refine zw_bret hm_7 dX0_isYoung_16 (by decide) ?_
          show ma_wp X d w 8 25 [(4, .inl ((((mI S t 4) + (1 : Int32)) + i) / (mI S 82 5))), (0, .inr (.inr (some 82))), (1, .inr (.inr (some t))), (2, .inl i), (3, .inr (.inr (some c2)))] [.inl (0 : Int32)] S _
          refine zw_if0 hm_8 dX0_noteReference_25 (t := 49) rfl zc0_eq (fun _ => ?_) (fun hc => absurd (by decide) hc)
          exact zw_vret hm_8 dX0_noteReference_49 h
        · intro hc
          rw [if_neg hc] at h
          refine zw_push hm_7 dX0_isYoung_11 (v := .inl (1 : Int32)) rfl ?_
          refine zw_goto hm_7 dX0_isYoung_12 (t := 16) rfl ?_
          refine zw_bret hm_7 dX0_isYoung_16 (by decide) ?_
          show ma_wp X d w 8 25 [(4, .inl ((((mI S t 4) + (1 : Int32)) + i) / (mI S 82 5))), (0, .inr (.inr (some 82))), (1, .inr (.inr (some t))), (2, .inl i), (3, .inr (.inr (some c2)))] [.inl (1 : Int32)] S _
          refine zw_if0 hm_8 dX0_noteReference_25 (t := 49) rfl zc0_eq (fun hc => absurd hc (by decide)) (fun _ => ?_)
          refine zw_push hm_8 dX0_noteReference_28 (v := .inl ((((mI S t 4) + (1 : Int32)) + i) / (mI S 82 5))) rfl ?_
          refine zw_if0 hm_8 dX0_noteReference_30 (t := 49) rfl zc0_lt ?_ ?_
          · intro hc
            rw [if_pos hc] at h
            exact zw_vret hm_8 dX0_noteReference_49 h
          · intro hc
            rw [if_neg hc] at h
            refine zw_push hm_8 dX0_noteReference_33 (v := .inl ((((mI S t 4) + (1 : Int32)) + i) / (mI S 82 5))) rfl ?_
            refine zw_push hm_8 dX0_noteReference_35 (v := .inl (375 : Int32)) rfl ?_
            refine zw_if2 hm_8 dX0_noteReference_38 (t := 49) rfl zc2_ge ?_ ?_
            · intro hc
              rw [if_pos hc] at h
              exact zw_vret hm_8 dX0_noteReference_49 h
            · intro hc
              rw [if_neg hc] at h
              refine zw_push hm_8 dX0_noteReference_41 (v := .inr (.inr (some 82))) rfl ?_
              refine zw_gf hm_8 dX0_noteReference_42 (v := .inr (.inr (some 83))) (zT_is hS s_82) (zT_t hS s_82) rfl f_1_9_1 (zT_f hS r_82_9) ?_
              refine zw_push hm_8 dX0_noteReference_45 (v := .inl ((((mI S t 4) + (1 : Int32)) + i) / (mI S 82 5))) rfl ?_
              refine zw_push hm_8 dX0_noteReference_47 (v := .inl (1 : Int32)) rfl ?_
              obtain ⟨hg, h⟩ := h
              refine zw_ias hm_8 dX0_noteReference_48 (zT_is hS s_83) (zT_h hS s_83) rfl hg ?_
              exact zw_vret hm_8 dX0_noteReference_49 h
      · intro hc
        rw [if_neg hc] at h
        refine zw_push hm_7 dX0_isYoung_11 (v := .inl (1 : Int32)) rfl ?_
        refine zw_goto hm_7 dX0_isYoung_12 (t := 16) rfl ?_
        refine zw_bret hm_7 dX0_isYoung_16 (by decide) ?_
        show ma_wp X d w 8 17 [(4, .inl ((((mI S t 4) + (1 : Int32)) + i) / (mI S 82 5))), (0, .inr (.inr (some 82))), (1, .inr (.inr (some t))), (2, .inl i), (3, .inr (.inr (some c2)))] [.inl (1 : Int32)] S _
        refine zw_if0 hm_8 dX0_noteReference_17 (t := 49) rfl zc0_ne (fun _ => ?_) (fun hc => absurd (by decide) hc)
        exact zw_vret hm_8 dX0_noteReference_49 h
theorem sp_8_82 {X : Nat × (Nat → Int32)} {d w : Nat} {f : Nat → Nat → Int32} {r : Nat → Nat → Option Nat} {C Z N : Nat} {Q : Option ma_V ⊕ Nat → ma_S → Prop} {S : ma_S} (t : Nat) (i : Int32) (x : Option Nat) (hd : 1 ≤ d) (hw : 22 ≤ w) (hI : zJ82 f r C Z N S) (th_t : 126 ≤ t ∧ t < N) (hq_x : ∀ c, x = some c → 126 ≤ c ∧ c < N) (K : ∀ S', zJ82 f r C Z N S' → Q (.inl none) S') : ma_wp X d w 8 0 [(0, .inr (.inr (some 82))), (1, .inr (.inr (some t))), (2, .inl i), (3, .inr (.inr x))] [] S Q := by
  refine g_8_82_0 t i x (by omega) (by omega) (zG_T hI) ?_
  have b1 := i_bd (mI S 82 5)
  have li2 : (0 : Int32).toInt = 0 := rfl
  refine zd (fun h3 => ?_) (fun h3 => ?_)
  · skip
    have g4 := i_le h3
    refine ⟨fun _ => ?_, fun c1 hc => ?_⟩
    · skip
      exact K _ hI
    · skip
      have th_c1 := hq_x c1 hc
      subst hc
      refine ⟨zG_n hI th_t, ?_⟩
      have f5 := zG_th hI th_t
      have x6 : (mI S 82 3).toInt ≤ (mI S 82 7).toInt ∧ (mI S 82 7).toInt ≤ (mI S 82 3).toInt + (mI S 82 2).toInt := zG_x hI
      have f7 := zG_s hI (0) (1500) (c := 82) (k := 3) (by decide)
      refine zd (fun h8 => ?_) (fun h8 => ?_)
      · skip
        have g9 := i_lt h8
        refine ⟨zG_n hI th_c1, ?_⟩
        have f10 := zG_th hI th_c1
        refine zd (fun h11 => ?_) (fun h11 => ?_)
        · skip
          have g12 := i_lt h11
          exact K _ hI
        · skip
          have g13 := i_nlt h11
          exact K _ hI
      · skip
        have g14 := i_nlt h8
        exact K _ hI
  · skip
    have g15 := i_nle h3
    refine ⟨zG_n hI th_t, ?_⟩
    refine ⟨i_nz (by omega), ?_⟩
    refine ⟨fun _ => ?_, fun c2 hc => ?_⟩
    · skip
      exact K _ hI
    · skip
      have th_c2 := hq_x c2 hc
      subst hc
      refine ⟨zG_n hI th_t, ?_⟩
      have f16 := zG_th hI th_t
      have x17 : (mI S 82 3).toInt ≤ (mI S 82 7).toInt ∧ (mI S 82 7).toInt ≤ (mI S 82 3).toInt + (mI S 82 2).toInt := zG_x hI
      have f18 := zG_s hI (0) (1500) (c := 82) (k := 3) (by decide)
      refine zd (fun h19 => ?_) (fun h19 => ?_)
      · skip
        have g20 := i_lt h19
        refine ⟨zG_n hI th_c2, ?_⟩
        have f21 := zG_th hI th_c2
        refine zd (fun h22 => ?_) (fun h22 => ?_)
        · skip
          have g23 := i_lt h22
          exact K _ hI
        · skip
          have g24 := i_nlt h22
          first | have e25 : ((mI S t 4) + (1 : Int32)).toInt = (mI S t 4).toInt + (1) := i_addk rfl (by omega) (by omega) | have b26 := i_bd ((mI S t 4) + (1 : Int32))
          have b27 := i_bd i
          first | have e28 : (((mI S t 4) + (1 : Int32)) + i).toInt = ((mI S t 4) + (1 : Int32)).toInt + i.toInt := i_add (by omega) (by omega) | have b29 := i_bd (((mI S t 4) + (1 : Int32)) + i)
          first | have f30 := i_div (x := (((mI S t 4) + (1 : Int32)) + i)) (y := (mI S 82 5)) (by omega) (by omega) | have b31 := i_bd ((((mI S t 4) + (1 : Int32)) + i) / (mI S 82 5))
          refine zd (fun h32 => ?_) (fun h32 => ?_)
          · skip
            have g33 := i_lt h32
            exact K _ hI
          · skip
            have g34 := i_nlt h32
            have li35 : (375 : Int32).toInt = 375 := rfl
            refine zd (fun h36 => ?_) (fun h36 => ?_)
            · skip
              have g37 := i_le h36
              exact K _ hI
            · skip
              have g38 := i_nle h36
              refine ⟨i_ix (by omega) (by omega), ?_⟩
              have hI39 : zJ82 f r C Z N (ma_put S 83 ((((mI S t 4) + (1 : Int32)) + i) / (mI S 82 5)).toNatClampNeg (.inl (1 : Int32))) := zG_fa hI rfl (by decide) (by decide) (by decide) (show zJ82_x (mI S) from zG_x hI)
              exact K _ hI39
      · skip
        have g40 := i_nlt h19
        exact K _ hI
theorem g_6_82_0 {X : Nat × (Nat → Int32)} {d w : Nat} {S : ma_S} {Q : Option ma_V ⊕ Nat → ma_S → Prop}  (hd : 2 ≤ d) (hw : 46 ≤ w) (hS : zT S) (h : ma_wp X (d - 1) (w - 23) 276 0 [(0, .inr (.inr (some 83))), (1, .inl (0 : Int32))] [] S (zv (fun S1 => zT S1 ∧ (ma_wp X d w 6 10 [(0, .inr (.inr (some 82))), (1, .inl (0 : Int32))] [] S1 Q)) (fun _ _ => False))) : ma_wp X d w 6 0 [(0, .inr (.inr (some 82)))] [] S Q := by
  refine zw_push hm_6 dX0_findDirty_0 (v := .inr (.inr (some 82))) rfl ?_
  refine zw_gf hm_6 dX0_findDirty_1 (v := .inr (.inr (some 83))) (zT_is hS s_82) (zT_t hS s_82) rfl f_1_9_1 (zT_f hS r_82_9) ?_
  refine zw_push hm_6 dX0_findDirty_4 (v := .inl (0 : Int32)) rfl ?_
  refine zw_cs hm_6 dX0_findDirty_5 pn_1_37 sl_1_37 hm_276 [.inl (0 : Int32), .inr (.inr (some 83))] [] rfl ⟨by omega, by omega⟩ rfl (zw_mono h (zv_go ?_ ?_))
  · intro S1 hv
    obtain ⟨hS1, h⟩ := hv
    refine zw_push hm_6 dX0_findDirty_8 (v := .inl (0 : Int32)) rfl ?_
    refine zw_sto hm_6 dX0_findDirty_9 [(1, .inl (0 : Int32)), (0, .inr (.inr (some 82)))] rfl rfl rfl ?_
    exact zw_sub (ma_nd_of (ks := [0, 1]) rfl (by decide)) (ma_nd_of (ks := [1, 0]) rfl (by decide)) (ma_le_cons rfl (ma_le_cons rfl (ma_le_nil _))) h
  · intro x S9 hx
    exact hx.elim
theorem g_6_82_10 {X : Nat × (Nat → Int32)} {d w : Nat} {S : ma_S} {Q : Option ma_V ⊕ Nat → ma_S → Prop} (l1 : Int32) (hd : 2 ≤ d) (hw : 46 ≤ w) (hS : zT S) (h : if (mI S 69 6) ≤ l1 then (Q (.inl none) S) else (if l1 < 0 then (ma_wp X d w 6 10 [(0, .inr (.inr (some 82))), (1, .inl (l1 + (1 : Int32)))] [] S Q) else (if (512 : Int32) ≤ l1 then (ma_wp X d w 6 10 [(0, .inr (.inr (some 82))), (1, .inl (l1 + (1 : Int32)))] [] S Q) else ((0 ≤ l1 ∧ l1.toNatClampNeg < 512) ∧ (((mR S 70 l1.toNatClampNeg) = none → ma_wp X d w 6 10 [(0, .inr (.inr (some 82))), (1, .inl (l1 + (1 : Int32)))] [] S Q) ∧ (∀ c1, (mR S 70 l1.toNatClampNeg) = some c1 → (126 ≤ c1 ∧ c1 < mN S) ∧ (if (mI S c1 4) < (mI S 82 3) then (ma_wp X d w 6 44 [(0, .inr (.inr (some 82))), (1, .inl l1), (2, .inr (.inr (some c1))), (3, .inl (0 : Int32))] [] S Q) else (ma_wp X d w 6 10 [(0, .inr (.inr (some 82))), (1, .inl (l1 + (1 : Int32)))] [] S Q)))))))) : ma_wp X d w 6 10 [(0, .inr (.inr (some 82))), (1, .inl l1)] [] S Q := by
  refine zw_push hm_6 dX0_findDirty_10 (v := .inl l1) rfl ?_
  refine zw_push hm_6 dX0_findDirty_11 (v := .inr (.inr (some 82))) rfl ?_
  refine zw_gf hm_6 dX0_findDirty_12 (v := .inr (.inr (some 69))) (zT_is hS s_82) (zT_t hS s_82) rfl f_1_80_1 (zT_f hS r_82_0) ?_
  refine zw_gf hm_6 dX0_findDirty_15 (v := .inl (mI S 69 6)) (zT_is hS s_69) (zT_t hS s_69) rfl f_1_119_7 rfl ?_
  refine zw_if2 hm_6 dX0_findDirty_18 (t := 81) rfl zc2_ge ?_ ?_
  · intro hc
    rw [if_pos hc] at h
    exact zw_vret hm_6 dX0_findDirty_81 h
  · intro hc
    rw [if_neg hc] at h
    refine zw_push hm_6 dX0_findDirty_21 (v := .inr (.inr (some 82))) rfl ?_
    refine zw_gf hm_6 dX0_findDirty_22 (v := .inr (.inr (some 69))) (zT_is hS s_82) (zT_t hS s_82) rfl f_1_80_1 (zT_f hS r_82_0) ?_
    refine zw_push hm_6 dX0_findDirty_25 (v := .inl l1) rfl ?_
    refine zw_cv hm_6 dX0_findDirty_26 v_1_122_7 hm_81 [.inl l1] [] rfl (zT_rt hS s_69 rfl) ⟨by omega, by omega⟩ rfl ?_
    show ma_wp X (d - 1) (w - 21) 81 0 [(0, .inr (.inr (some 69))), (1, .inl l1)] [] S _
    refine zw_push hm_81 dX7_thingAt_0 (v := .inl l1) rfl ?_
    refine zw_if0 hm_81 dX7_thingAt_1 (t := 20) rfl zc0_lt ?_ ?_
    · intro hc
      rw [if_pos hc] at h
      refine zw_push hm_81 dX7_thingAt_20 (v := .inr (.inr none)) rfl ?_
      refine zw_aret hm_81 dX7_thingAt_21 ?_
      show ma_wp X d w 6 29 [(0, .inr (.inr (some 82))), (1, .inl l1)] [.inr (.inr none)] S _
      refine zw_sto hm_6 dX0_findDirty_29 [(2, .inr (.inr none)), (0, .inr (.inr (some 82))), (1, .inl l1)] rfl rfl rfl ?_
      refine zw_push hm_6 dX0_findDirty_30 (v := .inr (.inr none)) rfl ?_
      refine zw_ifnull hm_6 dX0_findDirty_31 (t := 75) rfl (fun _ => ?_) (fun _ z => by cases z)
      refine zw_sto hm_6 dX0_findDirty_75 [(1, .inl (l1 + (1 : Int32))), (2, .inr (.inr none)), (0, .inr (.inr (some 82)))] rfl rfl rfl ?_
      refine zw_goto hm_6 dX0_findDirty_78 (t := 10) rfl ?_
      exact zw_sub (ma_nd_of (ks := [0, 1]) rfl (by decide)) (ma_nd_of (ks := [1, 2, 0]) rfl (by decide)) (ma_le_cons rfl (ma_le_cons rfl (ma_le_nil _))) h
    · intro hc
      rw [if_neg hc] at h
      refine zw_push hm_81 dX7_thingAt_4 (v := .inl l1) rfl ?_
      refine zw_push hm_81 dX7_thingAt_5 (v := .inl (512 : Int32)) rfl ?_
      refine zw_if2 hm_81 dX7_thingAt_8 (t := 20) rfl zc2_ge ?_ ?_
      · intro hc
        rw [if_pos hc] at h
        refine zw_push hm_81 dX7_thingAt_20 (v := .inr (.inr none)) rfl ?_
        refine zw_aret hm_81 dX7_thingAt_21 ?_
        show ma_wp X d w 6 29 [(0, .inr (.inr (some 82))), (1, .inl l1)] [.inr (.inr none)] S _
        refine zw_sto hm_6 dX0_findDirty_29 [(2, .inr (.inr none)), (0, .inr (.inr (some 82))), (1, .inl l1)] rfl rfl rfl ?_
        refine zw_push hm_6 dX0_findDirty_30 (v := .inr (.inr none)) rfl ?_
        refine zw_ifnull hm_6 dX0_findDirty_31 (t := 75) rfl (fun _ => ?_) (fun _ z => by cases z)
        refine zw_sto hm_6 dX0_findDirty_75 [(1, .inl (l1 + (1 : Int32))), (2, .inr (.inr none)), (0, .inr (.inr (some 82)))] rfl rfl rfl ?_
        refine zw_goto hm_6 dX0_findDirty_78 (t := 10) rfl ?_
        exact zw_sub (ma_nd_of (ks := [0, 1]) rfl (by decide)) (ma_nd_of (ks := [1, 2, 0]) rfl (by decide)) (ma_le_cons rfl (ma_le_cons rfl (ma_le_nil _))) h
      · intro hc
        rw [if_neg hc] at h
        refine zw_push hm_81 dX7_thingAt_11 (v := .inr (.inr (some 69))) rfl ?_
        refine zw_gf hm_81 dX7_thingAt_12 (v := .inr (.inr (some 70))) (zT_is hS s_69) (zT_t hS s_69) rfl f_7_11_7 (zT_f hS r_69_0) ?_
        refine zw_push hm_81 dX7_thingAt_15 (v := .inl l1) rfl ?_
        obtain ⟨hg, h⟩ := h
        refine zw_aa hm_81 dX7_thingAt_16 (zT_is hS s_70) (zT_h hS s_70) rfl rfl hg rfl ?_
        show ma_wp X (d - 1) (w - 21) 81 17 [(0, .inr (.inr (some 69))), (1, .inl l1)] [.inr (.inr (mR S 70 l1.toNatClampNeg))] S _
        refine zw_goto hm_81 dX7_thingAt_17 (t := 21) rfl ?_
        refine zw_aret hm_81 dX7_thingAt_21 ?_
        show ma_wp X d w 6 29 [(0, .inr (.inr (some 82))), (1, .inl l1)] [.inr (.inr (mR S 70 l1.toNatClampNeg))] S _
        refine zw_sto hm_6 dX0_findDirty_29 [(2, .inr (.inr (mR S 70 l1.toNatClampNeg))), (0, .inr (.inr (some 82))), (1, .inl l1)] rfl rfl rfl ?_
        refine zw_push hm_6 dX0_findDirty_30 (v := .inr (.inr (mR S 70 l1.toNatClampNeg))) rfl ?_
        refine zw_ifnull hm_6 dX0_findDirty_31 (t := 75) rfl ?_ ?_
        · intro hc
          have h := h.1 hc
          (try rw [hc])
          show ma_wp X d w 6 75 [(2, .inr (.inr none)), (0, .inr (.inr (some 82))), (1, .inl l1)] [] S _
          refine zw_sto hm_6 dX0_findDirty_75 [(1, .inl (l1 + (1 : Int32))), (2, .inr (.inr none)), (0, .inr (.inr (some 82)))] rfl rfl rfl ?_
          refine zw_goto hm_6 dX0_findDirty_78 (t := 10) rfl ?_
          exact zw_sub (ma_nd_of (ks := [0, 1]) rfl (by decide)) (ma_nd_of (ks := [1, 2, 0]) rfl (by decide)) (ma_le_cons rfl (ma_le_cons rfl (ma_le_nil _))) h
        · intro c1 hc
          have h := h.2 c1 hc
          (try rw [hc])
          show ma_wp X d w 6 34 [(2, .inr (.inr (some c1))), (0, .inr (.inr (some 82))), (1, .inl l1)] [] S _
          refine zw_push hm_6 dX0_findDirty_34 (v := .inr (.inr (some 82))) rfl ?_
          refine zw_push hm_6 dX0_findDirty_35 (v := .inr (.inr (some c1))) rfl ?_
          refine zw_cv hm_6 dX0_findDirty_36 v_1_58_1 hm_7 [.inr (.inr (some c1))] [] rfl (zT_rt hS s_82 rfl) ⟨by omega, by omega⟩ rfl ?_
          show ma_wp X (d - 1) (w - 21) 7 0 [(0, .inr (.inr (some 82))), (1, .inr (.inr (some c1)))] [] S _
          refine zw_push hm_7 dX0_isYoung_0 (v := .inr (.inr (some c1))) rfl ?_
          obtain ⟨hg, h⟩ := h
          refine zw_gf hm_7 dX0_isYoung_1 (v := .inl (mI S c1 4)) (zT_tis hS hg) (zT_tt hS hg) rfl f_1_62_9 rfl ?_
          refine zw_push hm_7 dX0_isYoung_4 (v := .inr (.inr (some 82))) rfl ?_
          refine zw_gf hm_7 dX0_isYoung_5 (v := .inl (mI S 82 3)) (zT_is hS s_82) (zT_t hS s_82) rfl f_1_19_1 rfl ?_
          refine zw_if2 hm_7 dX0_isYoung_8 (t := 15) rfl zc2_lt ?_ ?_
          · intro hc
            rw [if_pos hc] at h
            refine zw_push hm_7 dX0_isYoung_15 (v := .inl (0 : Int32)) rfl ?_
            refine zw_bret hm_7 dX0_isYoung_16 (by decide) ?_
            show ma_wp X d w 6 39 [(2, .inr (.inr (some c1))), (0, .inr (.inr (some 82))), (1, .inl l1)] [.inl (0 : Int32)] S _
            refine zw_if0 hm_6 dX0_findDirty_39 (t := 75) rfl zc0_ne (fun hc => absurd hc (by decide)) (fun _ => ?_)
            refine zw_push hm_6 dX0_findDirty_42 (v := .inl (0 : Int32)) rfl ?_
            refine zw_sto hm_6 dX0_findDirty_43 [(3, .inl (0 : Int32)), (2, .inr (.inr (some c1))), (0, .inr (.inr (some 82))), (1, .inl l1)] rfl rfl rfl ?_
            exact zw_sub (ma_nd_of (ks := [0, 1, 2, 3]) rfl (by decide)) (ma_nd_of (ks := [3, 2, 0, 1]) rfl (by decide)) (ma_le_cons rfl (ma_le_cons rfl (ma_le_cons rfl (ma_le_cons rfl (ma_le_nil _))))) h
          · intro hc
            rw [if_neg hc] at h
            refine zw_push hm_7 dX0_isYoung_11 (v := .inl (1 : Int32)) rfl ?_
            refine zw_goto hm_7 dX0_isYoung_12 (t := 16) rfl ?_
            refine zw_bret hm_7 dX0_isYoung_16 (by decide) ?_
            show ma_wp X d w 6 39 [(2, .inr (.inr (some c1))), (0, .inr (.inr (some 82))), (1, .inl l1)] [.inl (1 : Int32)] S _
            refine zw_if0 hm_6 dX0_findDirty_39 (t := 75) rfl zc0_ne (fun _ => ?_) (fun hc => absurd (by decide) hc)
            refine zw_sto hm_6 dX0_findDirty_75 [(1, .inl (l1 + (1 : Int32))), (2, .inr (.inr (some c1))), (0, .inr (.inr (some 82)))] rfl rfl rfl ?_
            refine zw_goto hm_6 dX0_findDirty_78 (t := 10) rfl ?_
            exact zw_sub (ma_nd_of (ks := [0, 1]) rfl (by decide)) (ma_nd_of (ks := [1, 2, 0]) rfl (by decide)) (ma_le_cons rfl (ma_le_cons rfl (ma_le_nil _))) h
theorem g_6_82_44 {X : Nat × (Nat → Int32)} {d w : Nat} {S : ma_S} {Q : Option ma_V ⊕ Nat → ma_S → Prop} (l1 : Int32) (l2 : Nat) (l3 : Int32) (hd : 2 ≤ d) (hw : 46 ≤ w) (hS : zT S) (h : (126 ≤ l2 ∧ l2 < mN S) ∧ (if ((mI S l2 2) - (1 : Int32)) ≤ l3 then (ma_wp X d w 6 10 [(0, .inr (.inr (some 82))), (1, .inl (l1 + (1 : Int32)))] [] S Q) else (ma_wp X (d - 1) (w - 25) 82 0 [(0, .inr (.inr (some 69))), (1, .inr (.inr (some l2))), (2, .inl l3)] [] S (zo (fun v2 S1 => zT S1 ∧ (ma_wp X (d - 1) (w - 24) 8 0 [(0, .inr (.inr (some 82))), (1, .inr (.inr (some l2))), (2, .inl l3), (3, .inr (.inr v2))] [] S1 (zv (fun S3 => zT S3 ∧ (ma_wp X d w 6 44 [(0, .inr (.inr (some 82))), (1, .inl l1), (2, .inr (.inr (some l2))), (3, .inl (l3 + (1 : Int32)))] [] S3 Q)) (fun x S9 => Q (.inr x) S9)))) (fun x S9 => Q (.inr x) S9))))) : ma_wp X d w 6 44 [(0, .inr (.inr (some 82))), (1, .inl l1), (2, .inr (.inr (some l2))), (3, .inl l3)] [] S Q := by
  refine zw_push hm_6 dX0_findDirty_44 (v := .inl l3) rfl ?_
  refine zw_push hm_6 dX0_findDirty_45 (v := .inr (.inr (some l2))) rfl ?_
  obtain ⟨hg, h⟩ := h
  refine zw_gf hm_6 dX0_findDirty_46 (v := .inl (mI S l2 2)) (zT_tis hS hg) (zT_tt hS hg) rfl f_1_67_9 rfl ?_
  refine zw_push hm_6 dX0_findDirty_49 (v := .inl (1 : Int32)) rfl ?_
  refine zw_stk hm_6 dX0_findDirty_50 (st' := [.inl ((mI S l2 2) - (1 : Int32)), .inl l3]) rfl rfl ?_
  refine zw_if2 hm_6 dX0_findDirty_51 (t := 75) rfl zc2_ge ?_ ?_
  · intro hc
    rw [if_pos hc] at h
    refine zw_sto hm_6 dX0_findDirty_75 [(1, .inl (l1 + (1 : Int32))), (0, .inr (.inr (some 82))), (2, .inr (.inr (some l2))), (3, .inl l3)] rfl rfl rfl ?_
    refine zw_goto hm_6 dX0_findDirty_78 (t := 10) rfl ?_
    exact zw_sub (ma_nd_of (ks := [0, 1]) rfl (by decide)) (ma_nd_of (ks := [1, 0, 2, 3]) rfl (by decide)) (ma_le_cons rfl (ma_le_cons rfl (ma_le_nil _))) h
  · intro hc
    rw [if_neg hc] at h
    refine zw_push hm_6 dX0_findDirty_54 (v := .inr (.inr (some 82))) rfl ?_
    refine zw_push hm_6 dX0_findDirty_55 (v := .inr (.inr (some l2))) rfl ?_
    refine zw_push hm_6 dX0_findDirty_56 (v := .inl l3) rfl ?_
    refine zw_push hm_6 dX0_findDirty_57 (v := .inr (.inr (some 82))) rfl ?_
    refine zw_gf hm_6 dX0_findDirty_58 (v := .inr (.inr (some 69))) (zT_is hS s_82) (zT_t hS s_82) rfl f_1_80_1 (zT_f hS r_82_0) ?_
    refine zw_push hm_6 dX0_findDirty_61 (v := .inr (.inr (some l2))) rfl ?_
    refine zw_push hm_6 dX0_findDirty_62 (v := .inl l3) rfl ?_
    refine zw_cv hm_6 dX0_findDirty_63 v_1_140_7 hm_82 [.inl l3, .inr (.inr (some l2))] [.inl l3, .inr (.inr (some l2)), .inr (.inr (some 82))] rfl (zT_rt hS s_69 rfl) ⟨by omega, by omega⟩ rfl (zw_mono h (zo_go ?_ ?_))
    · intro v2 S1 hv
      obtain ⟨hS1, h⟩ := hv
      refine zw_cv hm_6 dX0_findDirty_66 v_1_160_1 hm_8 [.inr (.inr v2), .inl l3, .inr (.inr (some l2))] [] rfl (zT_rt hS1 s_82 rfl) ⟨by omega, by omega⟩ rfl (zw_mono h (zv_go ?_ ?_))
      · intro S3 hv
        obtain ⟨hS3, h⟩ := hv
        refine zw_sto hm_6 dX0_findDirty_69 [(3, .inl (l3 + (1 : Int32))), (0, .inr (.inr (some 82))), (1, .inl l1), (2, .inr (.inr (some l2)))] rfl rfl rfl ?_
        refine zw_goto hm_6 dX0_findDirty_72 (t := 44) rfl ?_
        exact zw_sub (ma_nd_of (ks := [0, 1, 2, 3]) rfl (by decide)) (ma_nd_of (ks := [3, 0, 1, 2]) rfl (by decide)) (ma_le_cons rfl (ma_le_cons rfl (ma_le_cons rfl (ma_le_cons rfl (ma_le_nil _))))) h
      · intro x S9 hx
        exact ⟨by decide, hx⟩
    · intro x S9 hx
      exact ⟨by decide, hx⟩
theorem lp_6_82_44 {X : Nat × (Nat → Int32)} {d w : Nat} {f : Nat → Nat → Int32} {r : Nat → Nat → Option Nat} {C Z N : Nat} {Q : Option ma_V ⊕ Nat → ma_S → Prop} (hd : 2 ≤ d) (hw : 46 ≤ w) (K : ∀ S', zJ82 f r C Z N S' → Q (.inl none) S') {nB : Nat} (OUT : ∀ (S' : ma_S) (l1 : Int32), (512 - l1.toInt).toNat < nB → zJ82 f r C Z N S' → (0 ≤ l1.toInt) → ma_wp X d w 6 10 [(0, .inr (.inr (some 82))), (1, .inl l1)] [] S' Q) : ∀ (n : Nat) (S : ma_S) (l1 : Int32) (l2 : Nat) (l3 : Int32), (61 - l3.toInt).toNat = n → zJ82 f r C Z N S → (126 ≤ l2 ∧ l2 < N) → (0 ≤ l1.toInt) → (l1.toInt < 512) → ((512 - l1.toInt).toNat = nB) → ma_wp X d w 6 44 [(0, .inr (.inr (some 82))), (1, .inl l1), (2, .inr (.inr (some l2))), (3, .inl l3)] [] S Q := by
  intro n
  induction n using Nat.strongRecOn with
  | _ n IH =>
    intro S l1 l2 l3 hmu hI th_l2 hi0 hi1 hi2
    refine g_6_82_44 l1 l2 l3 (by omega) (by omega) (zG_T hI) ?_
    refine ⟨zG_n hI th_l2, ?_⟩
    have f1 := zG_th hI th_l2
    first | have e2 : ((mI S l2 2) - (1 : Int32)).toInt = (mI S l2 2).toInt - (1) := i_subk rfl (by omega) (by omega) | have b3 := i_bd ((mI S l2 2) - (1 : Int32))
    have b4 := i_bd l3
    refine zd (fun h5 => ?_) (fun h5 => ?_)
    · skip
      have g6 := i_le h5
      have b7 := i_bd l1
      first | have e8 : (l1 + (1 : Int32)).toInt = l1.toInt + (1) := i_addk rfl (by omega) (by omega) | have b9 := i_bd (l1 + (1 : Int32))
      exact OUT _ ((l1 + (1 : Int32))) (by omega) hI (by omega)
    · skip
      have g10 := i_nle h5
      refine sp_82_69 l2 (l3) (by omega) (by omega) (zJ82_dn hI) th_l2 (fun v2 S1 hL_S1 hq_v2 => zo_n ⟨zG_T hL_S1, ?_⟩)
      have hI_S1 := zJ82_up hI hL_S1
      refine sp_8_82 l2 (l3) (v2) (by omega) (by omega) hI_S1 th_l2 hq_v2 (fun S3 hI_S3 => zv_n ⟨zG_T hI_S3, ?_⟩)
      have b11 := i_bd l1
      first | have e12 : (l3 + (1 : Int32)).toInt = l3.toInt + (1) := i_addk rfl (by omega) (by omega) | have b13 := i_bd (l3 + (1 : Int32))
      exact IH _ (by omega) _ (l1) l2 ((l3 + (1 : Int32))) rfl hI_S3 th_l2 (by omega) (by omega) (by omega)
theorem lp_6_82_10 {X : Nat × (Nat → Int32)} {d w : Nat} {f : Nat → Nat → Int32} {r : Nat → Nat → Option Nat} {C Z N : Nat} {Q : Option ma_V ⊕ Nat → ma_S → Prop} (hd : 2 ≤ d) (hw : 46 ≤ w) (K : ∀ S', zJ82 f r C Z N S' → Q (.inl none) S') : ∀ (n : Nat) (S : ma_S) (l1 : Int32), (512 - l1.toInt).toNat = n → zJ82 f r C Z N S → (0 ≤ l1.toInt) → ma_wp X d w 6 10 [(0, .inr (.inr (some 82))), (1, .inl l1)] [] S Q := by
  intro n
  induction n using Nat.strongRecOn with
  | _ n IH =>
    intro S l1 hmu hI  hi0
    refine g_6_82_10 l1 (by omega) (by omega) (zG_T hI) ?_
    have f1 := zG_s hI (0) (512) (c := 69) (k := 6) (by decide)
    have b2 := i_bd l1
    refine zd (fun h3 => ?_) (fun h3 => ?_)
    · skip
      have g4 := i_le h3
      exact K _ hI
    · skip
      have g5 := i_nle h3
      have li6 : (0 : Int32).toInt = 0 := rfl
      refine zd (fun h7 => ?_) (fun h7 => ?_)
      · skip
        have g8 := i_lt h7
        first | have e9 : (l1 + (1 : Int32)).toInt = l1.toInt + (1) := i_addk rfl (by omega) (by omega) | have b10 := i_bd (l1 + (1 : Int32))
        exact IH _ (by omega) _ ((l1 + (1 : Int32))) rfl hI (by omega)
      · skip
        have g11 := i_nlt h7
        have li12 : (512 : Int32).toInt = 512 := rfl
        refine zd (fun h13 => ?_) (fun h13 => ?_)
        · skip
          have g14 := i_le h13
          first | have e15 : (l1 + (1 : Int32)).toInt = l1.toInt + (1) := i_addk rfl (by omega) (by omega) | have b16 := i_bd (l1 + (1 : Int32))
          exact IH _ (by omega) _ ((l1 + (1 : Int32))) rfl hI (by omega)
        · skip
          have g17 := i_nle h13
          refine ⟨i_ix (by omega) (by omega), ?_⟩
          refine ⟨fun _ => ?_, fun c1 hc => ?_⟩
          · skip
            first | have e18 : (l1 + (1 : Int32)).toInt = l1.toInt + (1) := i_addk rfl (by omega) (by omega) | have b19 := i_bd (l1 + (1 : Int32))
            exact IH _ (by omega) _ ((l1 + (1 : Int32))) rfl hI (by omega)
          · skip
            have th_c1 := (fun _ z => zG_70 hI (c := 70) (by decide) z) c1 hc
            refine ⟨zG_n hI th_c1, ?_⟩
            have f20 := zG_th hI th_c1
            have x21 : (mI S 82 3).toInt ≤ (mI S 82 7).toInt ∧ (mI S 82 7).toInt ≤ (mI S 82 3).toInt + (mI S 82 2).toInt := zG_x hI
            have f22 := zG_s hI (0) (1500) (c := 82) (k := 3) (by decide)
            refine zd (fun h23 => ?_) (fun h23 => ?_)
            · skip
              have g24 := i_lt h23
              exact lp_6_82_44 (by omega) (by omega) K (fun _ _ z1 z2 z3 => IH _ z1 _ _ rfl z2 z3) _ _ (l1) c1 ((0 : Int32)) rfl hI th_c1 (by omega) (by omega) (by omega)
            · skip
              have g25 := i_nlt h23
              first | have e26 : (l1 + (1 : Int32)).toInt = l1.toInt + (1) := i_addk rfl (by omega) (by omega) | have b27 := i_bd (l1 + (1 : Int32))
              exact IH _ (by omega) _ ((l1 + (1 : Int32))) rfl hI (by omega)
theorem sp_6_82 {X : Nat × (Nat → Int32)} {d w : Nat} {f : Nat → Nat → Int32} {r : Nat → Nat → Option Nat} {C Z N : Nat} {Q : Option ma_V ⊕ Nat → ma_S → Prop} {S : ma_S}  (hd : 2 ≤ d) (hw : 46 ≤ w) (hI : zJ82 f r C Z N S)  (K : ∀ S', zJ82 f r C Z N S' → Q (.inl none) S') : ma_wp X d w 6 0 [(0, .inr (.inr (some 82)))] [] S Q := by
  refine g_6_82_0  (by omega) (by omega) (zG_T hI) ?_
  have li1 : (0 : Int32).toInt = 0 := rfl
  refine sp_276_83 ((0 : Int32)) (by omega) (by omega) hI  (fun S1 hI_S1 => zv_n ⟨zG_T hI_S1, ?_⟩)
  exact lp_6_82_10 (by omega) (by omega) K _ _ ((0 : Int32)) rfl hI_S1 (by omega)
theorem g_5_82_0 {X : Nat × (Nat → Int32)} {d w : Nat} {S : ma_S} {Q : Option ma_V ⊕ Nat → ma_S → Prop}  (hd : 3 ≤ d) (hw : 138 ≤ w) (hS : zT S) (h : ma_wp X (d - 1) (w - 20) 116 0 [(0, .inr (.inr (some 75)))] [] S (zv (fun S1 => zT S1 ∧ (ma_wp X (d - 1) (w - 23) 83 0 [(0, .inr (.inr (some 69))), (1, .inr (.inr (some 75)))] [] S1 (zv (fun S3 => zT S3 ∧ (ma_wp X (d - 1) (w - 24) 86 0 [(0, .inr (.inr (some 69))), (1, .inr (.inr (some 75)))] [] S3 (zi (fun v6 S5 => zT S5 ∧ (ma_wp X (d - 1) (w - 24) 263 0 [(0, .inr (.inr (some 82))), (1, .inl (mI S5 82 3))] [] S5 (zi (fun v8 S7 => zT S7 ∧ (ma_wp X (d - 1) (w - 23) 6 0 [(0, .inr (.inr (some 82)))] [] (ma_put S7 82 6 (.inl v8)) (zv (fun S9 => zT S9 ∧ (Q (.inl (some (.inl v6))) S9)) (fun x S9 => Q (.inr x) S9)))) (fun _ _ => False)))) (fun x S9 => Q (.inr x) S9)))) (fun x S9 => Q (.inr x) S9)))) (fun x S9 => Q (.inr x) S9))) : ma_wp X d w 5 0 [(0, .inr (.inr (some 82)))] [] S Q := by
  refine zw_push hm_5 dX0_cleanOld_0 (v := .inr (.inr (some 82))) rfl ?_
  refine zw_gf hm_5 dX0_cleanOld_1 (v := .inr (.inr (some 75))) (zT_is hS s_82) (zT_t hS s_82) rfl f_1_70_1 (zT_f hS r_82_1) ?_
  refine zw_cv hm_5 dX0_cleanOld_4 v_1_74_10 hm_116 [] [] rfl (zT_rt hS s_75 rfl) ⟨by omega, by omega⟩ rfl (zw_mono h (zv_go ?_ ?_))
  · intro S1 hv
    obtain ⟨hS1, h⟩ := hv
    refine zw_push hm_5 dX0_cleanOld_7 (v := .inr (.inr (some 82))) rfl ?_
    refine zw_gf hm_5 dX0_cleanOld_8 (v := .inr (.inr (some 69))) (zT_is hS1 s_82) (zT_t hS1 s_82) rfl f_1_80_1 (zT_f hS1 r_82_0) ?_
    refine zw_push hm_5 dX0_cleanOld_11 (v := .inr (.inr (some 82))) rfl ?_
    refine zw_gf hm_5 dX0_cleanOld_12 (v := .inr (.inr (some 75))) (zT_is hS1 s_82) (zT_t hS1 s_82) rfl f_1_70_1 (zT_f hS1 r_82_1) ?_
    refine zw_cv hm_5 dX0_cleanOld_15 v_1_84_7 hm_83 [.inr (.inr (some 75))] [] rfl (zT_rt hS1 s_69 rfl) ⟨by omega, by omega⟩ rfl (zw_mono h (zv_go ?_ ?_))
    · intro S3 hv
      obtain ⟨hS3, h⟩ := hv
      refine zw_push hm_5 dX0_cleanOld_18 (v := .inr (.inr (some 82))) rfl ?_
      refine zw_gf hm_5 dX0_cleanOld_19 (v := .inr (.inr (some 69))) (zT_is hS3 s_82) (zT_t hS3 s_82) rfl f_1_80_1 (zT_f hS3 r_82_0) ?_
      refine zw_push hm_5 dX0_cleanOld_22 (v := .inr (.inr (some 82))) rfl ?_
      refine zw_gf hm_5 dX0_cleanOld_23 (v := .inr (.inr (some 75))) (zT_is hS3 s_82) (zT_t hS3 s_82) rfl f_1_70_1 (zT_f hS3 r_82_1) ?_
      refine zw_cv hm_5 dX0_cleanOld_26 v_1_90_7 hm_86 [.inr (.inr (some 75))] [] rfl (zT_rt hS3 s_69 rfl) ⟨by omega, by omega⟩ rfl (zw_mono h (zi_go ?_ ?_))
      · intro v6 S5 hv
        obtain ⟨hS5, h⟩ := hv
        refine zw_sto hm_5 dX0_cleanOld_29 [(1, .inl v6), (0, .inr (.inr (some 82)))] rfl rfl rfl ?_
        refine zw_push hm_5 dX0_cleanOld_30 (v := .inr (.inr (some 82))) rfl ?_
        refine zw_push hm_5 dX0_cleanOld_31 (v := .inr (.inr (some 82))) rfl ?_
        refine zw_push hm_5 dX0_cleanOld_32 (v := .inr (.inr (some 82))) rfl ?_
        refine zw_gf hm_5 dX0_cleanOld_33 (v := .inl (mI S5 82 3)) (zT_is hS5 s_82) (zT_t hS5 s_82) rfl f_1_19_1 rfl ?_
        refine zw_cv hm_5 dX0_cleanOld_36 v_1_94_1 hm_263 [.inl (mI S5 82 3)] [.inr (.inr (some 82))] rfl (zT_rt hS5 s_82 rfl) ⟨by omega, by omega⟩ rfl (zw_mono h (zi_go ?_ ?_))
        · intro v8 S7 hv
          obtain ⟨hS7, h⟩ := hv
          refine zw_pf hm_5 dX0_cleanOld_39 (zT_is hS7 s_82) (zT_t hS7 s_82) p_1_28_1 zk_int ?_
          refine zw_push hm_5 dX0_cleanOld_42 (v := .inr (.inr (some 82))) rfl ?_
          refine zw_cv hm_5 dX0_cleanOld_43 v_1_97_1 hm_6 [] [] rfl (zT_rt (zT_pi hS7) s_82 rfl) ⟨by omega, by omega⟩ rfl (zw_mono h (zv_go ?_ ?_))
          · intro S9 hv
            obtain ⟨hS9, h⟩ := hv
            refine zw_push hm_5 dX0_cleanOld_46 (v := .inl v6) rfl ?_
            exact zw_iret hm_5 dX0_cleanOld_47 h
          · intro x S9 hx
            exact ⟨by decide, hx⟩
        · intro x S9 hx
          exact hx.elim
      · intro x S9 hx
        exact ⟨by decide, hx⟩
    · intro x S9 hx
      exact ⟨by decide, hx⟩
  · intro x S9 hx
    exact ⟨by decide, hx⟩
theorem sp_5_82 {X : Nat × (Nat → Int32)} {d w : Nat} {f : Nat → Nat → Int32} {r : Nat → Nat → Option Nat} {C Z N : Nat} {Q : Option ma_V ⊕ Nat → ma_S → Prop} {S : ma_S}  (hd : 3 ≤ d) (hw : 138 ≤ w) (hI : zJ82 f r C Z N S)  (K : ∀ v S', zJ82 f r C Z N S' → (True) → Q (.inl (some (.inl v))) S') : ma_wp X d w 5 0 [(0, .inr (.inr (some 82)))] [] S Q := by
  refine g_5_82_0  (by omega) (by omega) (zG_T hI) ?_
  refine sp_116_75  (by omega) (by omega) (zJ82_dn hI)  (fun S1 hL_S1 => zv_n ⟨zG_T hL_S1, ?_⟩)
  have hI_S1 := zJ82_up hI hL_S1
  refine sp_83_69_75  (by omega) (by omega) (zJ82_dn hI_S1)  (fun S3 hL_S3 => zv_n ⟨zG_T hL_S3, ?_⟩)
  have hI_S3 := zJ82_up hI_S1 hL_S3
  refine sp_86_69_75  (by omega) (by omega) (zJ82_dn hI_S3)  (fun v6 S5 hL_S5 hp_v6 => zi_n ⟨zG_T hL_S5, ?_⟩)
  have hI_S5 := zJ82_up hI_S3 hL_S5
  have x1 : (mI S 82 3).toInt ≤ (mI S 82 7).toInt ∧ (mI S 82 7).toInt ≤ (mI S 82 3).toInt + (mI S 82 2).toInt := zG_x hI
  have f2 := zG_s hI (0) (1500) (c := 82) (k := 3) (by decide)
  have q3 : (mI S1 82 3).toInt = (mI S 82 3).toInt := zG_zi hL_S1 rfl
  have x4 : (mI S1 82 3).toInt ≤ (mI S1 82 7).toInt ∧ (mI S1 82 7).toInt ≤ (mI S1 82 3).toInt + (mI S1 82 2).toInt := zG_x hI_S1
  have f5 := zG_s hI_S1 (0) (1500) (c := 82) (k := 3) (by decide)
  have q6 : (mI S3 82 3).toInt = (mI S1 82 3).toInt := zG_zi hL_S3 rfl
  have x7 : (mI S3 82 3).toInt ≤ (mI S3 82 7).toInt ∧ (mI S3 82 7).toInt ≤ (mI S3 82 3).toInt + (mI S3 82 2).toInt := zG_x hI_S3
  have f8 := zG_s hI_S3 (0) (1500) (c := 82) (k := 3) (by decide)
  have q9 : (mI S5 82 3).toInt = (mI S3 82 3).toInt := zG_zi hL_S5 rfl
  have x10 : (mI S5 82 3).toInt ≤ (mI S5 82 7).toInt ∧ (mI S5 82 7).toInt ≤ (mI S5 82 3).toInt + (mI S5 82 2).toInt := zG_x hI_S5
  have f11 := zG_s hI_S5 (0) (1500) (c := 82) (k := 3) (by decide)
  refine sp_263_82 ((mI S5 82 3)) (by omega) (by omega) (zJ82_dn hI_S5) (by omega) (fun v8 S7 hL_S7 hp_v8 => zi_n ⟨zG_T hL_S7, ?_⟩)
  have hI_S7 := zJ82_up hI_S5 hL_S7
  have b13 := i_bd v8
  have hI12 : zJ82 f r C Z N (ma_put S7 82 6 (.inl v8)) := zG_sp hI_S7 (0) (400000) rfl (by decide) (by decide) (by decide) (show zJ82_x (mI S7) from zG_x hI_S7) (by omega) (by omega)
  refine sp_6_82  (by omega) (by omega) hI12  (fun S9 hI_S9 => zv_n ⟨zG_T hI_S9, ?_⟩)
  have b14 := i_bd v6
  exact K (v6) _ hI_S9 trivial
theorem g_4_82_0 {X : Nat × (Nat → Int32)} {d w : Nat} {S : ma_S} {Q : Option ma_V ⊕ Nat → ma_S → Prop} (n : Int32) (hd : 4 ≤ d) (hw : 159 ≤ w) (hS : zT S) (h : if ((mI S 82 6) + n) ≤ (mI S 82 3) then (if ((mI S 82 6) + n) ≤ (mI S 82 3) then (Q (.inl (some (.inl (mI S 82 6)))) S) else (Q (.inl (some (.inl (-1 : Int32)))) S)) else (ma_wp X (d - 1) (w - 21) 5 0 [(0, .inr (.inr (some 82)))] [] S (zi (fun v2 S1 => zT S1 ∧ (if ((mI S1 82 6) + n) ≤ (mI S1 82 3) then (Q (.inl (some (.inl (mI S1 82 6)))) S1) else (Q (.inl (some (.inl (-1 : Int32)))) S1))) (fun x S9 => Q (.inr x) S9)))) : ma_wp X d w 4 0 [(0, .inr (.inr (some 82))), (1, .inl n)] [] S Q := by
  refine zw_push hm_4 dX0_findOldRoom_0 (v := .inr (.inr (some 82))) rfl ?_
  refine zw_gf hm_4 dX0_findOldRoom_1 (v := .inl (mI S 82 6)) (zT_is hS s_82) (zT_t hS s_82) rfl f_1_28_1 rfl ?_
  refine zw_push hm_4 dX0_findOldRoom_4 (v := .inl n) rfl ?_
  refine zw_stk hm_4 dX0_findOldRoom_5 (st' := [.inl ((mI S 82 6) + n)]) rfl rfl ?_
  refine zw_push hm_4 dX0_findOldRoom_6 (v := .inr (.inr (some 82))) rfl ?_
  refine zw_gf hm_4 dX0_findOldRoom_7 (v := .inl (mI S 82 3)) (zT_is hS s_82) (zT_t hS s_82) rfl f_1_19_1 rfl ?_
  refine zw_if2 hm_4 dX0_findOldRoom_10 (t := 18) rfl zc2_le ?_ ?_
  · intro hc
    rw [if_pos hc] at h
    refine zw_push hm_4 dX0_findOldRoom_18 (v := .inr (.inr (some 82))) rfl ?_
    refine zw_gf hm_4 dX0_findOldRoom_19 (v := .inl (mI S 82 6)) (zT_is hS s_82) (zT_t hS s_82) rfl f_1_28_1 rfl ?_
    refine zw_push hm_4 dX0_findOldRoom_22 (v := .inl n) rfl ?_
    refine zw_stk hm_4 dX0_findOldRoom_23 (st' := [.inl ((mI S 82 6) + n)]) rfl rfl ?_
    refine zw_push hm_4 dX0_findOldRoom_24 (v := .inr (.inr (some 82))) rfl ?_
    refine zw_gf hm_4 dX0_findOldRoom_25 (v := .inl (mI S 82 3)) (zT_is hS s_82) (zT_t hS s_82) rfl f_1_19_1 rfl ?_
    refine zw_if2 hm_4 dX0_findOldRoom_28 (t := 35) rfl zc2_le ?_ ?_
    · intro hc
      rw [if_pos hc] at h
      refine zw_push hm_4 dX0_findOldRoom_35 (v := .inr (.inr (some 82))) rfl ?_
      refine zw_gf hm_4 dX0_findOldRoom_36 (v := .inl (mI S 82 6)) (zT_is hS s_82) (zT_t hS s_82) rfl f_1_28_1 rfl ?_
      exact zw_iret hm_4 dX0_findOldRoom_39 h
    · intro hc
      rw [if_neg hc] at h
      refine zw_push hm_4 dX0_findOldRoom_31 (v := .inl (-1 : Int32)) rfl ?_
      refine zw_goto hm_4 dX0_findOldRoom_32 (t := 39) rfl ?_
      exact zw_iret hm_4 dX0_findOldRoom_39 h
  · intro hc
    rw [if_neg hc] at h
    refine zw_push hm_4 dX0_findOldRoom_13 (v := .inr (.inr (some 82))) rfl ?_
    refine zw_cv hm_4 dX0_findOldRoom_14 v_1_55_1 hm_5 [] [] rfl (zT_rt hS s_82 rfl) ⟨by omega, by omega⟩ rfl (zw_mono h (zi_go ?_ ?_))
    · intro v2 S1 hv
      obtain ⟨hS1, h⟩ := hv
      refine zw_stk hm_4 dX0_findOldRoom_17 (st' := []) rfl rfl ?_
      refine zw_push hm_4 dX0_findOldRoom_18 (v := .inr (.inr (some 82))) rfl ?_
      refine zw_gf hm_4 dX0_findOldRoom_19 (v := .inl (mI S1 82 6)) (zT_is hS1 s_82) (zT_t hS1 s_82) rfl f_1_28_1 rfl ?_
      refine zw_push hm_4 dX0_findOldRoom_22 (v := .inl n) rfl ?_
      refine zw_stk hm_4 dX0_findOldRoom_23 (st' := [.inl ((mI S1 82 6) + n)]) rfl rfl ?_
      refine zw_push hm_4 dX0_findOldRoom_24 (v := .inr (.inr (some 82))) rfl ?_
      refine zw_gf hm_4 dX0_findOldRoom_25 (v := .inl (mI S1 82 3)) (zT_is hS1 s_82) (zT_t hS1 s_82) rfl f_1_19_1 rfl ?_
      refine zw_if2 hm_4 dX0_findOldRoom_28 (t := 35) rfl zc2_le ?_ ?_
      · intro hc
        rw [if_pos hc] at h
        refine zw_push hm_4 dX0_findOldRoom_35 (v := .inr (.inr (some 82))) rfl ?_
        refine zw_gf hm_4 dX0_findOldRoom_36 (v := .inl (mI S1 82 6)) (zT_is hS1 s_82) (zT_t hS1 s_82) rfl f_1_28_1 rfl ?_
        exact zw_iret hm_4 dX0_findOldRoom_39 h
      · intro hc
        rw [if_neg hc] at h
        refine zw_push hm_4 dX0_findOldRoom_31 (v := .inl (-1 : Int32)) rfl ?_
        refine zw_goto hm_4 dX0_findOldRoom_32 (t := 39) rfl ?_
        exact zw_iret hm_4 dX0_findOldRoom_39 h
    · intro x S9 hx
      exact ⟨by decide, hx⟩
theorem sp_4_82 {X : Nat × (Nat → Int32)} {d w : Nat} {f : Nat → Nat → Int32} {r : Nat → Nat → Option Nat} {C Z N : Nat} {Q : Option ma_V ⊕ Nat → ma_S → Prop} {S : ma_S} (n : Int32) (hd : 4 ≤ d) (hw : 159 ≤ w) (hI : zJ82 f r C Z N S) (hpre0 : 1 ≤ n.toInt) (hpre1 : n.toInt ≤ 61) (K : ∀ v S', zJ82 f r C Z N S' → (-1 ≤ v.toInt ∧ v.toInt ≤ 300000) → Q (.inl (some (.inl v))) S') : ma_wp X d w 4 0 [(0, .inr (.inr (some 82))), (1, .inl n)] [] S Q := by
  refine g_4_82_0 n (by omega) (by omega) (zG_T hI) ?_
  have f1 := zG_s hI (0) (400000) (c := 82) (k := 6) (by decide)
  have b2 := i_bd n
  first | have e3 : ((mI S 82 6) + n).toInt = (mI S 82 6).toInt + n.toInt := i_add (by omega) (by omega) | have b4 := i_bd ((mI S 82 6) + n)
  have x5 : (mI S 82 3).toInt ≤ (mI S 82 7).toInt ∧ (mI S 82 7).toInt ≤ (mI S 82 3).toInt + (mI S 82 2).toInt := zG_x hI
  have f6 := zG_s hI (0) (1500) (c := 82) (k := 3) (by decide)
  refine zd (fun h7 => ?_) (fun h7 => ?_)
  · skip
    have g8 := i_le h7
    refine zd (fun h9 => ?_) (fun h9 => ?_)
    · skip
      have g10 := i_le h9
      exact K ((mI S 82 6)) _ hI (by omega)
    · skip
      have g11 := i_nle h9
      have li12 : (-1 : Int32).toInt = -1 := rfl
      exact K ((-1 : Int32)) _ hI (by omega)
  · skip
    have g13 := i_nle h7
    refine sp_5_82  (by omega) (by omega) hI  (fun v2 S1 hI_S1 hp_v2 => zi_n ⟨zG_T hI_S1, ?_⟩)
    have f14 := zG_s hI_S1 (0) (400000) (c := 82) (k := 6) (by decide)
    first | have e15 : ((mI S1 82 6) + n).toInt = (mI S1 82 6).toInt + n.toInt := i_add (by omega) (by omega) | have b16 := i_bd ((mI S1 82 6) + n)
    have x17 : (mI S1 82 3).toInt ≤ (mI S1 82 7).toInt ∧ (mI S1 82 7).toInt ≤ (mI S1 82 3).toInt + (mI S1 82 2).toInt := zG_x hI_S1
    have f18 := zG_s hI_S1 (0) (1500) (c := 82) (k := 3) (by decide)
    refine zd (fun h19 => ?_) (fun h19 => ?_)
    · skip
      have g20 := i_le h19
      exact K ((mI S1 82 6)) _ hI_S1 (by omega)
    · skip
      have g21 := i_nle h19
      have li22 : (-1 : Int32).toInt = -1 := rfl
      exact K ((-1 : Int32)) _ hI_S1 (by omega)
