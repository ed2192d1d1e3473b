/-! regions (written by wip/tools/gen95a.py) -/
theorem g_39_91_0 {X : Nat × (Nat → Int32)} {d w : Nat} {S : ma_S} {Q : Option ma_V ⊕ Nat → ma_S → Prop}  (hd : 0 ≤ d) (hw : 0 ≤ w) (hS : zT S) (h : Q (.inl (some (.inl ((mI S 91 3) * (mI S 91 2))))) S) : ma_wp X d w 39 0 [(0, .inr (.inr (some 91)))] [] S Q := by
  refine zw_push hm_39 dX4_total_0 (v := .inr (.inr (some 91))) rfl ?_
  refine zw_gf hm_39 dX4_total_1 (v := .inl (mI S 91 3)) (zT_is hS s_91) (zT_t hS s_91) rfl f_4_28_4 rfl ?_
  refine zw_push hm_39 dX4_total_4 (v := .inr (.inr (some 91))) rfl ?_
  refine zw_gf hm_39 dX4_total_5 (v := .inl (mI S 91 2)) (zT_is hS s_91) (zT_t hS s_91) rfl f_4_18_4 rfl ?_
  refine zw_stk hm_39 dX4_total_8 (st' := [.inl ((mI S 91 3) * (mI S 91 2))]) rfl rfl ?_
  exact zw_iret hm_39 dX4_total_9 h
theorem sp_39_91 {X : Nat × (Nat → Int32)} {d w : Nat} {f : Nat → Nat → Int32} {r : Nat → Nat → Option Nat} {C Z N : Nat} {Q : Option ma_V ⊕ Nat → ma_S → Prop} {S : ma_S}  (hd : 0 ≤ d) (hw : 0 ≤ w) (hI : zL91 f r C Z N S)  (K : ∀ v S', zL91 f r C Z N S' → (True) → Q (.inl (some (.inl v))) S') : ma_wp X d w 39 0 [(0, .inr (.inr (some 91)))] [] S Q := by
  refine g_39_91_0  (by omega) (by omega) (zG_T hI) ?_
  have f1 := zG_s hI (0) (93) (c := 91) (k := 3) (by decide)
  have f2 := zG_s hI (0) (1500) (c := 91) (k := 2) (by decide)
  first | have f3 := i_muln (x := (mI S 91 3)) (y := (mI S 91 2)) (by omega) (by omega) (by omega) (by omega) | have b4 := i_bd ((mI S 91 3) * (mI S 91 2))
  exact K (((mI S 91 3) * (mI S 91 2))) _ hI trivial
theorem g_57_91_0 {X : Nat × (Nat → Int32)} {d w : Nat} {S : ma_S} {Q : Option ma_V ⊕ Nat → ma_S → Prop}  (hd : 0 ≤ d) (hw : 0 ≤ w) (hS : zT S) (h : Q (.inl (some (.inl (mI S 91 5)))) S) : ma_wp X d w 57 0 [(0, .inr (.inr (some 91)))] [] S Q := by
  refine zw_push hm_57 dX4_oldTopOrRegion_0 (v := .inr (.inr (some 91))) rfl ?_
  refine zw_gf hm_57 dX4_oldTopOrRegion_1 (v := .inl (mI S 91 5)) (zT_is hS s_91) (zT_t hS s_91) rfl f_4_34_4 rfl ?_
  exact zw_iret hm_57 dX4_oldTopOrRegion_4 h
theorem sp_57_91 {X : Nat × (Nat → Int32)} {d w : Nat} {f : Nat → Nat → Int32} {r : Nat → Nat → Option Nat} {C Z N : Nat} {Q : Option ma_V ⊕ Nat → ma_S → Prop} {S : ma_S}  (hd : 0 ≤ d) (hw : 0 ≤ w) (hI : zL91 f r C Z N S)  (K : ∀ v S', zL91 f r C Z N S' → (True) → Q (.inl (some (.inl v))) S') : ma_wp X d w 57 0 [(0, .inr (.inr (some 91)))] [] S Q := by
  refine g_57_91_0  (by omega) (by omega) (zG_T hI) ?_
  have f1 := zG_s hI (0) (92) (c := 91) (k := 5) (by decide)
  exact K ((mI S 91 5)) _ hI trivial
theorem g_55_91_0 {X : Nat × (Nat → Int32)} {d w : Nat} {S : ma_S} {Q : Option ma_V ⊕ Nat → ma_S → Prop}  (hd : 1 ≤ d) (hw : 21 ≤ w) (hS : zT S) (h : if (mI S 91 5) < 0 then (Q (.inl (some (.inl (((mI S 91 5) * (mI S 91 2)) + (0 : Int32))))) S) else (if (93 : Int32) ≤ (mI S 91 5) then (Q (.inl (some (.inl (((mI S 91 5) * (mI S 91 2)) + (0 : Int32))))) S) else ((0 ≤ (mI S 91 5) ∧ (mI S 91 5).toNatClampNeg < 93) ∧ (Q (.inl (some (.inl (((mI S 91 5) * (mI S 91 2)) + (mI S 92 (mI S 91 5).toNatClampNeg))))) S)))) : ma_wp X d w 55 0 [(0, .inr (.inr (some 91)))] [] S Q := by
  refine zw_push hm_55 dX4_topPlace_0 (v := .inr (.inr (some 91))) rfl ?_
  refine zw_gf hm_55 dX4_topPlace_1 (v := .inl (mI S 91 5)) (zT_is hS s_91) (zT_t hS s_91) rfl f_4_34_4 rfl ?_
  refine zw_push hm_55 dX4_topPlace_4 (v := .inr (.inr (some 91))) rfl ?_
  refine zw_gf hm_55 dX4_topPlace_5 (v := .inl (mI S 91 2)) (zT_is hS s_91) (zT_t hS s_91) rfl f_4_18_4 rfl ?_
  refine zw_stk hm_55 dX4_topPlace_8 (st' := [.inl ((mI S 91 5) * (mI S 91 2))]) rfl rfl ?_
  refine zw_push hm_55 dX4_topPlace_9 (v := .inr (.inr (some 91))) rfl ?_
  refine zw_push hm_55 dX4_topPlace_10 (v := .inr (.inr (some 91))) rfl ?_
  refine zw_gf hm_55 dX4_topPlace_11 (v := .inl (mI S 91 5)) (zT_is hS s_91) (zT_t hS s_91) rfl f_4_34_4 rfl ?_
  refine zw_cv hm_55 dX4_topPlace_14 v_4_93_4 hm_50 [.inl (mI S 91 5)] [.inl ((mI S 91 5) * (mI S 91 2))] rfl (zT_rt hS s_91 rfl) ⟨by omega, by omega⟩ rfl ?_
  show ma_wp X (d - 1) (w - 21) 50 0 [(0, .inr (.inr (some 91))), (1, .inl (mI S 91 5))] [] S _
  refine zw_push hm_50 dX4_topOf_0 (v := .inl (mI S 91 5)) rfl ?_
  refine zw_if0 hm_50 dX4_topOf_1 (t := 19) rfl zc0_lt ?_ ?_
  · intro hc
    rw [if_pos hc] at h
    refine zw_push hm_50 dX4_topOf_19 (v := .inl (0 : Int32)) rfl ?_
    refine zw_iret hm_50 dX4_topOf_20 ?_
    show ma_wp X d w 55 17 [(0, .inr (.inr (some 91)))] [.inl (0 : Int32), .inl ((mI S 91 5) * (mI S 91 2))] S _
    refine zw_stk hm_55 dX4_topPlace_17 (st' := [.inl (((mI S 91 5) * (mI S 91 2)) + (0 : Int32))]) rfl rfl ?_
    exact zw_iret hm_55 dX4_topPlace_18 h
  · intro hc
    rw [if_neg hc] at h
    refine zw_push hm_50 dX4_topOf_4 (v := .inl (mI S 91 5)) rfl ?_
    refine zw_push hm_50 dX4_topOf_5 (v := .inl (93 : Int32)) rfl ?_
    refine zw_if2 hm_50 dX4_topOf_7 (t := 19) rfl zc2_ge ?_ ?_
    · intro hc
      rw [if_pos hc] at h
      refine zw_push hm_50 dX4_topOf_19 (v := .inl (0 : Int32)) rfl ?_
      refine zw_iret hm_50 dX4_topOf_20 ?_
      show ma_wp X d w 55 17 [(0, .inr (.inr (some 91)))] [.inl (0 : Int32), .inl ((mI S 91 5) * (mI S 91 2))] S _
      refine zw_stk hm_55 dX4_topPlace_17 (st' := [.inl (((mI S 91 5) * (mI S 91 2)) + (0 : Int32))]) rfl rfl ?_
      exact zw_iret hm_55 dX4_topPlace_18 h
    · intro hc
      rw [if_neg hc] at h
      refine zw_push hm_50 dX4_topOf_10 (v := .inr (.inr (some 91))) rfl ?_
      refine zw_gf hm_50 dX4_topOf_11 (v := .inr (.inr (some 92))) (zT_is hS s_91) (zT_t hS s_91) rfl f_4_9_4 (zT_f hS r_91_7) ?_
      refine zw_push hm_50 dX4_topOf_14 (v := .inl (mI S 91 5)) rfl ?_
      obtain ⟨hg, h⟩ := h
      refine zw_ia hm_50 dX4_topOf_15 (zT_is hS s_92) (zT_h hS s_92) rfl hg ?_
      show ma_wp X (d - 1) (w - 21) 50 16 [(0, .inr (.inr (some 91))), (1, .inl (mI S 91 5))] [.inl (mI S 92 (mI S 91 5).toNatClampNeg)] S _
      refine zw_goto hm_50 dX4_topOf_16 (t := 20) rfl ?_
      refine zw_iret hm_50 dX4_topOf_20 ?_
      show ma_wp X d w 55 17 [(0, .inr (.inr (some 91)))] [.inl (mI S 92 (mI S 91 5).toNatClampNeg), .inl ((mI S 91 5) * (mI S 91 2))] S _
      refine zw_stk hm_55 dX4_topPlace_17 (st' := [.inl (((mI S 91 5) * (mI S 91 2)) + (mI S 92 (mI S 91 5).toNatClampNeg))]) rfl rfl ?_
      exact zw_iret hm_55 dX4_topPlace_18 h
theorem sp_55_91 {X : Nat × (Nat → Int32)} {d w : Nat} {f : Nat → Nat → Int32} {r : Nat → Nat → Option Nat} {C Z N : Nat} {Q : Option ma_V ⊕ Nat → ma_S → Prop} {S : ma_S}  (hd : 1 ≤ d) (hw : 21 ≤ w) (hI : zL91 f r C Z N S)  (K : ∀ v S', zL91 f r C Z N S' → (0 ≤ v.toInt ∧ v.toInt ≤ 300000) → Q (.inl (some (.inl v))) S') : ma_wp X d w 55 0 [(0, .inr (.inr (some 91)))] [] S Q := by
  refine g_55_91_0  (by omega) (by omega) (zG_T hI) ?_
  have f1 := zG_s hI (0) (92) (c := 91) (k := 5) (by decide)
  have li2 : (0 : Int32).toInt = 0 := rfl
  refine zd (fun h3 => ?_) (fun h3 => ?_)
  · skip
    have g4 := i_lt h3
    have f5 := zG_s hI (0) (1500) (c := 91) (k := 2) (by decide)
    first | have f6 := i_muln (x := (mI S 91 5)) (y := (mI S 91 2)) (by omega) (by omega) (by omega) (by omega) | have b7 := i_bd ((mI S 91 5) * (mI S 91 2))
    first | have e8 : (((mI S 91 5) * (mI S 91 2)) + (0 : Int32)).toInt = ((mI S 91 5) * (mI S 91 2)).toInt + (0) := i_addk rfl (by omega) (by omega) | have b9 := i_bd (((mI S 91 5) * (mI S 91 2)) + (0 : Int32))
    exact K ((((mI S 91 5) * (mI S 91 2)) + (0 : Int32))) _ hI (by omega)
  · skip
    have g10 := i_nlt h3
    have li11 : (93 : Int32).toInt = 93 := rfl
    refine zd (fun h12 => ?_) (fun h12 => ?_)
    · skip
      have g13 := i_le h12
      have f14 := zG_s hI (0) (1500) (c := 91) (k := 2) (by decide)
      first | have f15 := i_muln (x := (mI S 91 5)) (y := (mI S 91 2)) (by omega) (by omega) (by omega) (by omega) | have b16 := i_bd ((mI S 91 5) * (mI S 91 2))
      first | have e17 : (((mI S 91 5) * (mI S 91 2)) + (0 : Int32)).toInt = ((mI S 91 5) * (mI S 91 2)).toInt + (0) := i_addk rfl (by omega) (by omega) | have b18 := i_bd (((mI S 91 5) * (mI S 91 2)) + (0 : Int32))
      exact K ((((mI S 91 5) * (mI S 91 2)) + (0 : Int32))) _ hI (by omega)
    · skip
      have g19 := i_nle h12
      refine ⟨i_ix (by omega) (by omega), ?_⟩
      have f20 := zG_s hI (0) (1500) (c := 91) (k := 2) (by decide)
      first | have f21 := i_muln (x := (mI S 91 5)) (y := (mI S 91 2)) (by omega) (by omega) (by omega) (by omega) | have b22 := i_bd ((mI S 91 5) * (mI S 91 2))
      first | have f23 := zG_a hI 93 (0) (3000) (c := 92) (k := (mI S 91 5).toNatClampNeg) (by decide) (i_ix (n := 93) (by omega) (by omega)).2 | have b24 := i_bd (mI S 92 (mI S 91 5).toNatClampNeg)
      first | have e25 : (((mI S 91 5) * (mI S 91 2)) + (mI S 92 (mI S 91 5).toNatClampNeg)).toInt = ((mI S 91 5) * (mI S 91 2)).toInt + (mI S 92 (mI S 91 5).toNatClampNeg).toInt := i_add (by omega) (by omega) | have b26 := i_bd (((mI S 91 5) * (mI S 91 2)) + (mI S 92 (mI S 91 5).toNatClampNeg))
      exact K ((((mI S 91 5) * (mI S 91 2)) + (mI S 92 (mI S 91 5).toNatClampNeg))) _ hI (by omega)
theorem g_52_91_0 {X : Nat × (Nat → Int32)} {d w : Nat} {S : ma_S} {Q : Option ma_V ⊕ Nat → ma_S → Prop}  (hd : 0 ≤ d) (hw : 0 ≤ w) (hS : zT S) (h : ma_wp X d w 52 2 [(0, .inr (.inr (some 91))), (1, .inl (0 : Int32))] [] S Q) : ma_wp X d w 52 0 [(0, .inr (.inr (some 91)))] [] S Q := by
  refine zw_push hm_52 dX4_leastEmpty_0 (v := .inl (0 : Int32)) rfl ?_
  refine zw_sto hm_52 dX4_leastEmpty_1 [(1, .inl (0 : Int32)), (0, .inr (.inr (some 91)))] rfl rfl rfl ?_
  exact zw_sub (ma_nd_of (ks := [0, 1]) rfl (by decide)) (ma_nd_of (ks := [1, 0]) rfl (by decide)) (ma_le_cons rfl (ma_le_cons rfl (ma_le_nil _))) h
theorem g_52_91_2 {X : Nat × (Nat → Int32)} {d w : Nat} {S : ma_S} {Q : Option ma_V ⊕ Nat → ma_S → Prop} (l1 : Int32) (hd : 0 ≤ d) (hw : 0 ≤ w) (hS : zT S) (h : if (mI S 91 3) ≤ l1 then (Q (.inl (some (.inl (-1 : Int32)))) S) else (if (93 : Int32) ≤ l1 then (Q (.inl (some (.inl (-1 : Int32)))) S) else ((0 ≤ l1 ∧ l1.toNatClampNeg < 93) ∧ (if (mI S 92 l1.toNatClampNeg) = 0 then (Q (.inl (some (.inl l1))) S) else (ma_wp X d w 52 2 [(0, .inr (.inr (some 91))), (1, .inl (l1 + (1 : Int32)))] [] S Q))))) : ma_wp X d w 52 2 [(0, .inr (.inr (some 91))), (1, .inl l1)] [] S Q := by
  refine zw_push hm_52 dX4_leastEmpty_2 (v := .inl l1) rfl ?_
  refine zw_push hm_52 dX4_leastEmpty_3 (v := .inr (.inr (some 91))) rfl ?_
  refine zw_gf hm_52 dX4_leastEmpty_4 (v := .inl (mI S 91 3)) (zT_is hS s_91) (zT_t hS s_91) rfl f_4_28_4 rfl ?_
  refine zw_if2 hm_52 dX4_leastEmpty_7 (t := 33) rfl zc2_ge ?_ ?_
  · intro hc
    rw [if_pos hc] at h
    refine zw_push hm_52 dX4_leastEmpty_33 (v := .inl (-1 : Int32)) rfl ?_
    exact zw_iret hm_52 dX4_leastEmpty_34 h
  · intro hc
    rw [if_neg hc] at h
    refine zw_push hm_52 dX4_leastEmpty_10 (v := .inl l1) rfl ?_
    refine zw_push hm_52 dX4_leastEmpty_11 (v := .inl (93 : Int32)) rfl ?_
    refine zw_if2 hm_52 dX4_leastEmpty_13 (t := 33) rfl zc2_ge ?_ ?_
    · intro hc
      rw [if_pos hc] at h
      refine zw_push hm_52 dX4_leastEmpty_33 (v := .inl (-1 : Int32)) rfl ?_
      exact zw_iret hm_52 dX4_leastEmpty_34 h
    · intro hc
      rw [if_neg hc] at h
      refine zw_push hm_52 dX4_leastEmpty_16 (v := .inr (.inr (some 91))) rfl ?_
      refine zw_gf hm_52 dX4_leastEmpty_17 (v := .inr (.inr (some 92))) (zT_is hS s_91) (zT_t hS s_91) rfl f_4_9_4 (zT_f hS r_91_7) ?_
      refine zw_push hm_52 dX4_leastEmpty_20 (v := .inl l1) rfl ?_
      obtain ⟨hg, h⟩ := h
      refine zw_ia hm_52 dX4_leastEmpty_21 (zT_is hS s_92) (zT_h hS s_92) rfl hg ?_
      show ma_wp X d w 52 22 [(0, .inr (.inr (some 91))), (1, .inl l1)] [.inl (mI S 92 l1.toNatClampNeg)] S _
      refine zw_if0 hm_52 dX4_leastEmpty_22 (t := 27) rfl zc0_ne ?_ ?_
      · intro hc
        rw [if_neg hc] at h
        refine zw_sto hm_52 dX4_leastEmpty_27 [(1, .inl (l1 + (1 : Int32))), (0, .inr (.inr (some 91)))] rfl rfl rfl ?_
        refine zw_goto hm_52 dX4_leastEmpty_30 (t := 2) rfl ?_
        exact zw_sub (ma_nd_of (ks := [0, 1]) rfl (by decide)) (ma_nd_of (ks := [1, 0]) rfl (by decide)) (ma_le_cons rfl (ma_le_cons rfl (ma_le_nil _))) h
      · intro hc
        rw [if_pos (Classical.not_not.mp hc)] at h
        refine zw_push hm_52 dX4_leastEmpty_25 (v := .inl l1) rfl ?_
        exact zw_iret hm_52 dX4_leastEmpty_26 h
theorem lp_52_91_2 {X : Nat × (Nat → Int32)} {d w : Nat} {f : Nat → Nat → Int32} {r : Nat → Nat → Option Nat} {C Z N : Nat} {Q : Option ma_V ⊕ Nat → ma_S → Prop} (hd : 0 ≤ d) (hw : 0 ≤ w) (K : ∀ v S', zL91 f r C Z N S' → (-1 ≤ v.toInt ∧ v.toInt ≤ 92 ∧ (v.toInt < 0 ∨ (mI S' 92 v.toNatClampNeg).toInt = 0)) → Q (.inl (some (.inl v))) S') : ∀ (n : Nat) (S : ma_S) (l1 : Int32), (93 - l1.toInt).toNat = n → zL91 f r C Z N S → (0 ≤ l1.toInt) → ma_wp X d w 52 2 [(0, .inr (.inr (some 91))), (1, .inl l1)] [] S Q := by
  intro n
  induction n using Nat.strongRecOn with
  | _ n IH =>
    intro S l1 hmu hI  hi0
    refine g_52_91_2 l1 (by omega) (by omega) (zG_T hI) ?_
    have f1 := zG_s hI (0) (93) (c := 91) (k := 3) (by decide)
    have b2 := i_bd l1
    refine zd (fun h3 => ?_) (fun h3 => ?_)
    · skip
      have g4 := i_le h3
      have li5 : (-1 : Int32).toInt = -1 := rfl
      first | have f6 := zG_a hI 93 (0) (3000) (c := 92) (k := (-1 : Int32).toNatClampNeg) (by decide) (i_ix (n := 93) (by omega) (by omega)).2 | have b7 := i_bd (mI S 92 (-1 : Int32).toNatClampNeg)
      exact K ((-1 : Int32)) _ hI (show -1 ≤ (-1 : Int32).toInt ∧ (-1 : Int32).toInt ≤ 92 ∧ ((-1 : Int32).toInt < 0 ∨ (mI S 92 (-1 : Int32).toNatClampNeg).toInt = 0) from by omega)
    · skip
      have g8 := i_nle h3
      have li9 : (93 : Int32).toInt = 93 := rfl
      refine zd (fun h10 => ?_) (fun h10 => ?_)
      · skip
        have g11 := i_le h10
        have li12 : (-1 : Int32).toInt = -1 := rfl
        first | have f13 := zG_a hI 93 (0) (3000) (c := 92) (k := (-1 : Int32).toNatClampNeg) (by decide) (i_ix (n := 93) (by omega) (by omega)).2 | have b14 := i_bd (mI S 92 (-1 : Int32).toNatClampNeg)
        exact K ((-1 : Int32)) _ hI (show -1 ≤ (-1 : Int32).toInt ∧ (-1 : Int32).toInt ≤ 92 ∧ ((-1 : Int32).toInt < 0 ∨ (mI S 92 (-1 : Int32).toNatClampNeg).toInt = 0) from by omega)
      · skip
        have g15 := i_nle h10
        refine ⟨i_ix (by omega) (by omega), ?_⟩
        first | have f16 := zG_a hI 93 (0) (3000) (c := 92) (k := l1.toNatClampNeg) (by decide) (i_ix (n := 93) (by omega) (by omega)).2 | have b17 := i_bd (mI S 92 l1.toNatClampNeg)
        have li18 : (0 : Int32).toInt = 0 := rfl
        refine zd (fun h19 => ?_) (fun h19 => ?_)
        · skip
          have g20 := i_eq h19
          exact K (l1) _ hI (show -1 ≤ l1.toInt ∧ l1.toInt ≤ 92 ∧ (l1.toInt < 0 ∨ (mI S 92 l1.toNatClampNeg).toInt = 0) from by omega)
        · skip
          have g21 := i_ne h19
          first | have e22 : (l1 + (1 : Int32)).toInt = l1.toInt + (1) := i_addk rfl (by omega) (by omega) | have b23 := i_bd (l1 + (1 : Int32))
          exact IH _ (by omega) _ ((l1 + (1 : Int32))) rfl hI (by omega)
theorem sp_52_91 {X : Nat × (Nat → Int32)} {d w : Nat} {f : Nat → Nat → Int32} {r : Nat → Nat → Option Nat} {C Z N : Nat} {Q : Option ma_V ⊕ Nat → ma_S → Prop} {S : ma_S}  (hd : 0 ≤ d) (hw : 0 ≤ w) (hI : zL91 f r C Z N S)  (K : ∀ v S', zL91 f r C Z N S' → (-1 ≤ v.toInt ∧ v.toInt ≤ 92 ∧ (v.toInt < 0 ∨ (mI S' 92 v.toNatClampNeg).toInt = 0)) → Q (.inl (some (.inl v))) S') : ma_wp X d w 52 0 [(0, .inr (.inr (some 91)))] [] S Q := by
  refine g_52_91_0  (by omega) (by omega) (zG_T hI) ?_
  have li1 : (0 : Int32).toInt = 0 := rfl
  exact lp_52_91_2 (by omega) (by omega) K _ _ ((0 : Int32)) rfl hI (by omega)
theorem g_42_91_0 {X : Nat × (Nat → Int32)} {d w : Nat} {S : ma_S} {Q : Option ma_V ⊕ Nat → ma_S → Prop}  (hd : 0 ≤ d) (hw : 0 ≤ w) (hS : zT S) (h : ma_wp X d w 42 4 [(0, .inr (.inr (some 91))), (1, .inl (0 : Int32)), (2, .inl (0 : Int32))] [] S Q) : ma_wp X d w 42 0 [(0, .inr (.inr (some 91)))] [] S Q := by
  refine zw_push hm_42 dX4_specials_0 (v := .inl (0 : Int32)) rfl ?_
  refine zw_sto hm_42 dX4_specials_1 [(1, .inl (0 : Int32)), (0, .inr (.inr (some 91)))] rfl rfl rfl ?_
  refine zw_push hm_42 dX4_specials_2 (v := .inl (0 : Int32)) rfl ?_
  refine zw_sto hm_42 dX4_specials_3 [(2, .inl (0 : Int32)), (1, .inl (0 : Int32)), (0, .inr (.inr (some 91)))] rfl rfl rfl ?_
  exact zw_sub (ma_nd_of (ks := [0, 1, 2]) rfl (by decide)) (ma_nd_of (ks := [2, 1, 0]) rfl (by decide)) (ma_le_cons rfl (ma_le_cons rfl (ma_le_cons rfl (ma_le_nil _)))) h
theorem g_42_91_4 {X : Nat × (Nat → Int32)} {d w : Nat} {S : ma_S} {Q : Option ma_V ⊕ Nat → ma_S → Prop} (l1 : Int32) (l2 : Int32) (hd : 0 ≤ d) (hw : 0 ≤ w) (hS : zT S) (h : if (mI S 91 3) ≤ l2 then (Q (.inl (some (.inl l1))) S) else (if (93 : Int32) ≤ l2 then (Q (.inl (some (.inl l1))) S) else ((0 ≤ l2 ∧ l2.toNatClampNeg < 93) ∧ (if (mI S 92 l2.toNatClampNeg) = 0 then (ma_wp X d w 42 4 [(0, .inr (.inr (some 91))), (1, .inl (l1 + (1 : Int32))), (2, .inl (l2 + (1 : Int32)))] [] S Q) else (ma_wp X d w 42 4 [(0, .inr (.inr (some 91))), (1, .inl l1), (2, .inl (l2 + (1 : Int32)))] [] S Q))))) : ma_wp X d w 42 4 [(0, .inr (.inr (some 91))), (1, .inl l1), (2, .inl l2)] [] S Q := by
  refine zw_push hm_42 dX4_specials_4 (v := .inl l2) rfl ?_
  refine zw_push hm_42 dX4_specials_5 (v := .inr (.inr (some 91))) rfl ?_
  refine zw_gf hm_42 dX4_specials_6 (v := .inl (mI S 91 3)) (zT_is hS s_91) (zT_t hS s_91) rfl f_4_28_4 rfl ?_
  refine zw_if2 hm_42 dX4_specials_9 (t := 36) rfl zc2_ge ?_ ?_
  · intro hc
    rw [if_pos hc] at h
    refine zw_push hm_42 dX4_specials_36 (v := .inl l1) rfl ?_
    exact zw_iret hm_42 dX4_specials_37 h
  · intro hc
    rw [if_neg hc] at h
    refine zw_push hm_42 dX4_specials_12 (v := .inl l2) rfl ?_
    refine zw_push hm_42 dX4_specials_13 (v := .inl (93 : Int32)) rfl ?_
    refine zw_if2 hm_42 dX4_specials_15 (t := 36) rfl zc2_ge ?_ ?_
    · intro hc
      rw [if_pos hc] at h
      refine zw_push hm_42 dX4_specials_36 (v := .inl l1) rfl ?_
      exact zw_iret hm_42 dX4_specials_37 h
    · intro hc
      rw [if_neg hc] at h
      refine zw_push hm_42 dX4_specials_18 (v := .inr (.inr (some 91))) rfl ?_
      refine zw_gf hm_42 dX4_specials_19 (v := .inr (.inr (some 92))) (zT_is hS s_91) (zT_t hS s_91) rfl f_4_9_4 (zT_f hS r_91_7) ?_
      refine zw_push hm_42 dX4_specials_22 (v := .inl l2) rfl ?_
      obtain ⟨hg, h⟩ := h
      refine zw_ia hm_42 dX4_specials_23 (zT_is hS s_92) (zT_h hS s_92) rfl hg ?_
      show ma_wp X d w 42 24 [(0, .inr (.inr (some 91))), (1, .inl l1), (2, .inl l2)] [.inl (mI S 92 l2.toNatClampNeg)] S _
      refine zw_if0 hm_42 dX4_specials_24 (t := 30) rfl zc0_ne ?_ ?_
      · intro hc
        rw [if_neg hc] at h
        refine zw_sto hm_42 dX4_specials_30 [(2, .inl (l2 + (1 : Int32))), (0, .inr (.inr (some 91))), (1, .inl l1)] rfl rfl rfl ?_
        refine zw_goto hm_42 dX4_specials_33 (t := 4) rfl ?_
        exact zw_sub (ma_nd_of (ks := [0, 1, 2]) rfl (by decide)) (ma_nd_of (ks := [2, 0, 1]) rfl (by decide)) (ma_le_cons rfl (ma_le_cons rfl (ma_le_cons rfl (ma_le_nil _)))) h
      · intro hc
        rw [if_pos (Classical.not_not.mp hc)] at h
        refine zw_sto hm_42 dX4_specials_27 [(1, .inl (l1 + (1 : Int32))), (0, .inr (.inr (some 91))), (2, .inl l2)] rfl rfl rfl ?_
        refine zw_sto hm_42 dX4_specials_30 [(2, .inl (l2 + (1 : Int32))), (1, .inl (l1 + (1 : Int32))), (0, .inr (.inr (some 91)))] rfl rfl rfl ?_
        refine zw_goto hm_42 dX4_specials_33 (t := 4) rfl ?_
        exact zw_sub (ma_nd_of (ks := [0, 1, 2]) rfl (by decide)) (ma_nd_of (ks := [2, 1, 0]) rfl (by decide)) (ma_le_cons rfl (ma_le_cons rfl (ma_le_cons rfl (ma_le_nil _)))) h
theorem lp_42_91_4 {X : Nat × (Nat → Int32)} {d w : Nat} {f : Nat → Nat → Int32} {r : Nat → Nat → Option Nat} {C Z N : Nat} {Q : Option ma_V ⊕ Nat → ma_S → Prop} (hd : 0 ≤ d) (hw : 0 ≤ w) (K : ∀ v S', zL91 f r C Z N S' → (True) → Q (.inl (some (.inl v))) S') : ∀ (n : Nat) (S : ma_S) (l1 : Int32) (l2 : Int32), (93 - l2.toInt).toNat = n → zL91 f r C Z N S → (0 ≤ l2.toInt) → ma_wp X d w 42 4 [(0, .inr (.inr (some 91))), (1, .inl l1), (2, .inl l2)] [] S Q := by
  intro n
  induction n using Nat.strongRecOn with
  | _ n IH =>
    intro S l1 l2 hmu hI  hi0
    refine g_42_91_4 l1 l2 (by omega) (by omega) (zG_T hI) ?_
    have f1 := zG_s hI (0) (93) (c := 91) (k := 3) (by decide)
    have b2 := i_bd l2
    refine zd (fun h3 => ?_) (fun h3 => ?_)
    · skip
      have g4 := i_le h3
      have b5 := i_bd l1
      exact K (l1) _ hI trivial
    · skip
      have g6 := i_nle h3
      have li7 : (93 : Int32).toInt = 93 := rfl
      refine zd (fun h8 => ?_) (fun h8 => ?_)
      · skip
        have g9 := i_le h8
        have b10 := i_bd l1
        exact K (l1) _ hI trivial
      · skip
        have g11 := i_nle h8
        refine ⟨i_ix (by omega) (by omega), ?_⟩
        first | have f12 := zG_a hI 93 (0) (3000) (c := 92) (k := l2.toNatClampNeg) (by decide) (i_ix (n := 93) (by omega) (by omega)).2 | have b13 := i_bd (mI S 92 l2.toNatClampNeg)
        have li14 : (0 : Int32).toInt = 0 := rfl
        refine zd (fun h15 => ?_) (fun h15 => ?_)
        · skip
          have g16 := i_eq h15
          have b17 := i_bd l1
          first | have e18 : (l1 + (1 : Int32)).toInt = l1.toInt + (1) := i_addk rfl (by omega) (by omega) | have b19 := i_bd (l1 + (1 : Int32))
          first | have e20 : (l2 + (1 : Int32)).toInt = l2.toInt + (1) := i_addk rfl (by omega) (by omega) | have b21 := i_bd (l2 + (1 : Int32))
          exact IH _ (by omega) _ ((l1 + (1 : Int32))) ((l2 + (1 : Int32))) rfl hI (by omega)
        · skip
          have g22 := i_ne h15
          have b23 := i_bd l1
          first | have e24 : (l2 + (1 : Int32)).toInt = l2.toInt + (1) := i_addk rfl (by omega) (by omega) | have b25 := i_bd (l2 + (1 : Int32))
          exact IH _ (by omega) _ (l1) ((l2 + (1 : Int32))) rfl hI (by omega)
theorem sp_42_91 {X : Nat × (Nat → Int32)} {d w : Nat} {f : Nat → Nat → Int32} {r : Nat → Nat → Option Nat} {C Z N : Nat} {Q : Option ma_V ⊕ Nat → ma_S → Prop} {S : ma_S}  (hd : 0 ≤ d) (hw : 0 ≤ w) (hI : zL91 f r C Z N S)  (K : ∀ v S', zL91 f r C Z N S' → (True) → Q (.inl (some (.inl v))) S') : ma_wp X d w 42 0 [(0, .inr (.inr (some 91)))] [] S Q := by
  refine g_42_91_0  (by omega) (by omega) (zG_T hI) ?_
  have li1 : (0 : Int32).toInt = 0 := rfl
  exact lp_42_91_4 (by omega) (by omega) K _ _ ((0 : Int32)) ((0 : Int32)) rfl hI (by omega)
theorem g_276_93_0 {X : Nat × (Nat → Int32)} {d w : Nat} {S : ma_S} {Q : Option ma_V ⊕ Nat → ma_S → Prop} (x : Int32) (hd : 0 ≤ d) (hw : 0 ≤ w) (hS : zT S) (h : ma_wp X d w 276 5 [(0, .inr (.inr (some 93))), (1, .inl x), (2, .inl (0 : Int32)), (3, .inl (93 : Int32))] [] S Q) : ma_wp X d w 276 0 [(0, .inr (.inr (some 93))), (1, .inl x)] [] S Q := by
  refine zw_push hm_276 dJ7_fill_53178_0 (v := .inl (0 : Int32)) rfl ?_
  refine zw_sto hm_276 dJ7_fill_53178_1 [(2, .inl (0 : Int32)), (0, .inr (.inr (some 93))), (1, .inl x)] rfl rfl rfl ?_
  refine zw_push hm_276 dJ7_fill_53178_2 (v := .inr (.inr (some 93))) rfl ?_
  refine zw_len hm_276 dJ7_fill_53178_3 (zT_is hS s_93) (zT_h hS s_93) rfl rfl ?_
  refine zw_sto hm_276 dJ7_fill_53178_4 [(3, .inl (93 : Int32)), (2, .inl (0 : Int32)), (0, .inr (.inr (some 93))), (1, .inl x)] rfl rfl rfl ?_
  exact zw_sub (ma_nd_of (ks := [0, 1, 2, 3]) rfl (by decide)) (ma_nd_of (ks := [3, 2, 0, 1]) rfl (by decide)) (ma_le_cons rfl (ma_le_cons rfl (ma_le_cons rfl (ma_le_cons rfl (ma_le_nil _))))) h
theorem g_276_93_5 {X : Nat × (Nat → Int32)} {d w : Nat} {S : ma_S} {Q : Option ma_V ⊕ Nat → ma_S → Prop} (l1 : Int32) (l2 : Int32) (l3 : Int32) (hd : 0 ≤ d) (hw : 0 ≤ w) (hS : zT S) (h : if l3 ≤ l2 then (Q (.inl none) S) else ((0 ≤ l2 ∧ l2.toNatClampNeg < 93) ∧ (ma_wp X d w 276 5 [(0, .inr (.inr (some 93))), (1, .inl l1), (2, .inl (l2 + (1 : Int32))), (3, .inl l3)] [] (ma_put S 93 l2.toNatClampNeg (.inl l1)) Q))) : ma_wp X d w 276 5 [(0, .inr (.inr (some 93))), (1, .inl l1), (2, .inl l2), (3, .inl l3)] [] S Q := by
  refine zw_push hm_276 dJ7_fill_53178_5 (v := .inl l2) rfl ?_
  refine zw_push hm_276 dJ7_fill_53178_6 (v := .inl l3) rfl ?_
  refine zw_if2 hm_276 dJ7_fill_53178_7 (t := 20) rfl zc2_ge ?_ ?_
  · intro hc
    rw [if_pos hc] at h
    exact zw_vret hm_276 dJ7_fill_53178_20 h
  · intro hc
    rw [if_neg hc] at h
    refine zw_push hm_276 dJ7_fill_53178_10 (v := .inr (.inr (some 93))) rfl ?_
    refine zw_push hm_276 dJ7_fill_53178_11 (v := .inl l2) rfl ?_
    refine zw_push hm_276 dJ7_fill_53178_12 (v := .inl l1) rfl ?_
    obtain ⟨hg, h⟩ := h
    refine zw_ias hm_276 dJ7_fill_53178_13 (zT_is hS s_93) (zT_h hS s_93) rfl hg ?_
    refine zw_sto hm_276 dJ7_fill_53178_14 [(2, .inl (l2 + (1 : Int32))), (0, .inr (.inr (some 93))), (1, .inl l1), (3, .inl l3)] rfl rfl rfl ?_
    refine zw_goto hm_276 dJ7_fill_53178_17 (t := 5) rfl ?_
    exact zw_sub (ma_nd_of (ks := [0, 1, 2, 3]) rfl (by decide)) (ma_nd_of (ks := [2, 0, 1, 3]) rfl (by decide)) (ma_le_cons rfl (ma_le_cons rfl (ma_le_cons rfl (ma_le_cons rfl (ma_le_nil _))))) h
theorem lp_276_93_5 {X : Nat × (Nat → Int32)} {d w : Nat} {f : Nat → Nat → Int32} {r : Nat → Nat → Option Nat} {C Z N : Nat} {Q : Option ma_V ⊕ Nat → ma_S → Prop} (hd : 0 ≤ d) (hw : 0 ≤ w) (K : ∀ S', zL91 f r C Z N S' → Q (.inl none) S') : ∀ (n : Nat) (S : ma_S) (l1 : Int32) (l2 : Int32) (l3 : Int32), (l3.toInt - l2.toInt).toNat = n → zL91 f r C Z N S → (0 ≤ l2.toInt) → (l3.toInt = 93) → ma_wp X d w 276 5 [(0, .inr (.inr (some 93))), (1, .inl l1), (2, .inl l2), (3, .inl l3)] [] S Q := by
  intro n
  induction n using Nat.strongRecOn with
  | _ n IH =>
    intro S l1 l2 l3 hmu hI  hi0 hi1
    refine g_276_93_5 l1 l2 l3 (by omega) (by omega) (zG_T hI) ?_
    have b1 := i_bd l3
    have b2 := i_bd l2
    refine zd (fun h3 => ?_) (fun h3 => ?_)
    · skip
      have g4 := i_le h3
      exact K _ hI
    · skip
      have g5 := i_nle h3
      refine ⟨i_ix (by omega) (by omega), ?_⟩
      have hI6 : zL91 f r C Z N (ma_put S 93 l2.toNatClampNeg (.inl l1)) := zG_fa hI rfl (by decide) (by decide) (by decide) trivial
      have b7 := i_bd l1
      first | have e8 : (l2 + (1 : Int32)).toInt = l2.toInt + (1) := i_addk rfl (by omega) (by omega) | have b9 := i_bd (l2 + (1 : Int32))
      exact IH _ (by omega) _ (l1) ((l2 + (1 : Int32))) (l3) rfl hI6 (by omega) (by omega)
theorem sp_276_93 {X : Nat × (Nat → Int32)} {d w : Nat} {f : Nat → Nat → Int32} {r : Nat → Nat → Option Nat} {C Z N : Nat} {Q : Option ma_V ⊕ Nat → ma_S → Prop} {S : ma_S} (x : Int32) (hd : 0 ≤ d) (hw : 0 ≤ w) (hI : zL91 f r C Z N S)  (K : ∀ S', zL91 f r C Z N S' → Q (.inl none) S') : ma_wp X d w 276 0 [(0, .inr (.inr (some 93))), (1, .inl x)] [] S Q := by
  refine g_276_93_0 x (by omega) (by omega) (zG_T hI) ?_
  have b1 := i_bd x
  have li2 : (0 : Int32).toInt = 0 := rfl
  have li3 : (93 : Int32).toInt = 93 := rfl
  exact lp_276_93_5 (by omega) (by omega) K _ _ (x) ((0 : Int32)) ((93 : Int32)) rfl hI (by omega) (by omega)
theorem g_44_91_0 {X : Nat × (Nat → Int32)} {d w : Nat} {S : ma_S} {Q : Option ma_V ⊕ Nat → ma_S → Prop}  (hd : 2 ≤ d) (hw : 89 ≤ w) (hS : zT S) (h : ma_wp X (d - 1) (w - 23) 276 0 [(0, .inr (.inr (some 93))), (1, .inl (0 : Int32))] [] S (zv (fun S1 => zT S1 ∧ (ma_wp X d w 44 10 [(0, .inr (.inr (some 91))), (1, .inl (0 : Int32))] [] S1 Q)) (fun _ _ => False))) : ma_wp X d w 44 0 [(0, .inr (.inr (some 91)))] [] S Q := by
  refine zw_push hm_44 dX4_sumKept_0 (v := .inr (.inr (some 91))) rfl ?_
  refine zw_gf hm_44 dX4_sumKept_1 (v := .inr (.inr (some 93))) (zT_is hS s_91) (zT_t hS s_91) rfl f_4_15_4 (zT_f hS r_91_8) ?_
  refine zw_push hm_44 dX4_sumKept_4 (v := .inl (0 : Int32)) rfl ?_
  refine zw_cs hm_44 dX4_sumKept_5 pn_4_37 sl_4_37 hm_276 [.inl (0 : Int32), .inr (.inr (some 93))] [] rfl ⟨by omega, by omega⟩ rfl (zw_mono h (zv_go ?_ ?_))
  · intro S1 hv
    obtain ⟨hS1, h⟩ := hv
    refine zw_push hm_44 dX4_sumKept_8 (v := .inl (0 : Int32)) rfl ?_
    refine zw_sto hm_44 dX4_sumKept_9 [(1, .inl (0 : Int32)), (0, .inr (.inr (some 91)))] rfl rfl rfl ?_
    exact zw_sub (ma_nd_of (ks := [0, 1]) rfl (by decide)) (ma_nd_of (ks := [1, 0]) rfl (by decide)) (ma_le_cons rfl (ma_le_cons rfl (ma_le_nil _))) h
  · intro x S9 hx
    exact hx.elim
theorem g_44_91_10 {X : Nat × (Nat → Int32)} {d w : Nat} {S : ma_S} {Q : Option ma_V ⊕ Nat → ma_S → Prop} (l1 : Int32) (hd : 2 ≤ d) (hw : 89 ≤ w) (hS : zT S) (h : if (mI S 69 6) ≤ l1 then (Q (.inl none) S) else (if l1 < 0 then (ma_wp X d w 44 10 [(0, .inr (.inr (some 91))), (1, .inl (l1 + (1 : Int32)))] [] S Q) else (if (512 : Int32) ≤ l1 then (ma_wp X d w 44 10 [(0, .inr (.inr (some 91))), (1, .inl (l1 + (1 : Int32)))] [] S Q) else ((0 ≤ l1 ∧ l1.toNatClampNeg < 512) ∧ (((mR S 70 l1.toNatClampNeg) = none → ma_wp X d w 44 10 [(0, .inr (.inr (some 91))), (1, .inl (l1 + (1 : Int32)))] [] S Q) ∧ (∀ c1, (mR S 70 l1.toNatClampNeg) = some c1 → if (mI S 91 2) ≤ 0 then ((126 ≤ c1 ∧ c1 < mN S) ∧ (ma_wp X d w 44 10 [(0, .inr (.inr (some 91))), (1, .inl (l1 + (1 : Int32)))] [] (ma_put S 93 0 (.inl ((mI S 93 0) + (mI S c1 2)))) Q)) else ((126 ≤ c1 ∧ c1 < mN S) ∧ ((mI S 91 2) ≠ 0 ∧ ((0 ≤ (if (92 : Int32) < ((mI S c1 4) / (mI S 91 2)) then (92 : Int32) else ((mI S c1 4) / (mI S 91 2))) ∧ (if (92 : Int32) < ((mI S c1 4) / (mI S 91 2)) then (92 : Int32) else ((mI S c1 4) / (mI S 91 2))).toNatClampNeg < 93) ∧ ((126 ≤ c1 ∧ c1 < mN S) ∧ ((0 ≤ (if (92 : Int32) < ((mI S c1 4) / (mI S 91 2)) then (92 : Int32) else ((mI S c1 4) / (mI S 91 2))) ∧ (if (92 : Int32) < ((mI S c1 4) / (mI S 91 2)) then (92 : Int32) else ((mI S c1 4) / (mI S 91 2))).toNatClampNeg < 93) ∧ (ma_wp X d w 44 10 [(0, .inr (.inr (some 91))), (1, .inl (l1 + (1 : Int32)))] [] (ma_put S 93 (if (92 : Int32) < ((mI S c1 4) / (mI S 91 2)) then (92 : Int32) else ((mI S c1 4) / (mI S 91 2))).toNatClampNeg (.inl ((mI S 93 (if (92 : Int32) < ((mI S c1 4) / (mI S 91 2)) then (92 : Int32) else ((mI S c1 4) / (mI S 91 2))).toNatClampNeg) + (mI S c1 2)))) Q)))))))))))) : ma_wp X d w 44 10 [(0, .inr (.inr (some 91))), (1, .inl l1)] [] S Q := by
  refine zw_push hm_44 dX4_sumKept_10 (v := .inl l1) rfl ?_
  refine zw_push hm_44 dX4_sumKept_11 (v := .inr (.inr (some 91))) rfl ?_
  refine zw_gf hm_44 dX4_sumKept_12 (v := .inr (.inr (some 69))) (zT_is hS s_91) (zT_t hS s_91) rfl f_4_100_4 (zT_f hS r_91_0) ?_
  refine zw_gf hm_44 dX4_sumKept_15 (v := .inl (mI S 69 6)) (zT_is hS s_69) (zT_t hS s_69) rfl f_4_104_7 rfl ?_
  refine zw_if2 hm_44 dX4_sumKept_18 (t := 57) rfl zc2_ge ?_ ?_
  · intro hc
    rw [if_pos hc] at h
    exact zw_vret hm_44 dX4_sumKept_57 h
  · intro hc
    rw [if_neg hc] at h
    refine zw_push hm_44 dX4_sumKept_21 (v := .inr (.inr (some 91))) rfl ?_
    refine zw_gf hm_44 dX4_sumKept_22 (v := .inr (.inr (some 69))) (zT_is hS s_91) (zT_t hS s_91) rfl f_4_100_4 (zT_f hS r_91_0) ?_
    refine zw_push hm_44 dX4_sumKept_25 (v := .inl l1) rfl ?_
    refine zw_cv hm_44 dX4_sumKept_26 v_4_109_7 hm_81 [.inl l1] [] rfl (zT_rt hS s_69 rfl) ⟨by omega, by omega⟩ rfl ?_
    show ma_wp X (d - 1) (w - 21) 81 0 [(0, .inr (.inr (some 69))), (1, .inl l1)] [] S _
    refine zw_push hm_81 dX7_thingAt_0 (v := .inl l1) rfl ?_
    refine zw_if0 hm_81 dX7_thingAt_1 (t := 20) rfl zc0_lt ?_ ?_
    · intro hc
      rw [if_pos hc] at h
      refine zw_push hm_81 dX7_thingAt_20 (v := .inr (.inr none)) rfl ?_
      refine zw_aret hm_81 dX7_thingAt_21 ?_
      show ma_wp X d w 44 29 [(0, .inr (.inr (some 91))), (1, .inl l1)] [.inr (.inr none)] S _
      refine zw_sto hm_44 dX4_sumKept_29 [(2, .inr (.inr none)), (0, .inr (.inr (some 91))), (1, .inl l1)] rfl rfl rfl ?_
      refine zw_push hm_44 dX4_sumKept_30 (v := .inr (.inr none)) rfl ?_
      refine zw_ifnull hm_44 dX4_sumKept_31 (t := 51) rfl (fun _ => ?_) (fun _ z => by cases z)
      refine zw_sto hm_44 dX4_sumKept_51 [(1, .inl (l1 + (1 : Int32))), (2, .inr (.inr none)), (0, .inr (.inr (some 91)))] rfl rfl rfl ?_
      refine zw_goto hm_44 dX4_sumKept_54 (t := 10) rfl ?_
      exact zw_sub (ma_nd_of (ks := [0, 1]) rfl (by decide)) (ma_nd_of (ks := [1, 2, 0]) rfl (by decide)) (ma_le_cons rfl (ma_le_cons rfl (ma_le_nil _))) h
    · intro hc
      rw [if_neg hc] at h
      refine zw_push hm_81 dX7_thingAt_4 (v := .inl l1) rfl ?_
      refine zw_push hm_81 dX7_thingAt_5 (v := .inl (512 : Int32)) rfl ?_
      refine zw_if2 hm_81 dX7_thingAt_8 (t := 20) rfl zc2_ge ?_ ?_
      · intro hc
        rw [if_pos hc] at h
        refine zw_push hm_81 dX7_thingAt_20 (v := .inr (.inr none)) rfl ?_
        refine zw_aret hm_81 dX7_thingAt_21 ?_
        show ma_wp X d w 44 29 [(0, .inr (.inr (some 91))), (1, .inl l1)] [.inr (.inr none)] S _
        refine zw_sto hm_44 dX4_sumKept_29 [(2, .inr (.inr none)), (0, .inr (.inr (some 91))), (1, .inl l1)] rfl rfl rfl ?_
        refine zw_push hm_44 dX4_sumKept_30 (v := .inr (.inr none)) rfl ?_
        refine zw_ifnull hm_44 dX4_sumKept_31 (t := 51) rfl (fun _ => ?_) (fun _ z => by cases z)
        refine zw_sto hm_44 dX4_sumKept_51 [(1, .inl (l1 + (1 : Int32))), (2, .inr (.inr none)), (0, .inr (.inr (some 91)))] rfl rfl rfl ?_
        refine zw_goto hm_44 dX4_sumKept_54 (t := 10) rfl ?_
        exact zw_sub (ma_nd_of (ks := [0, 1]) rfl (by decide)) (ma_nd_of (ks := [1, 2, 0]) rfl (by decide)) (ma_le_cons rfl (ma_le_cons rfl (ma_le_nil _))) h
      · intro hc
        rw [if_neg hc] at h
        refine zw_push hm_81 dX7_thingAt_11 (v := .inr (.inr (some 69))) rfl ?_
        refine zw_gf hm_81 dX7_thingAt_12 (v := .inr (.inr (some 70))) (zT_is hS s_69) (zT_t hS s_69) rfl f_7_11_7 (zT_f hS r_69_0) ?_
        refine zw_push hm_81 dX7_thingAt_15 (v := .inl l1) rfl ?_
        obtain ⟨hg, h⟩ := h
        refine zw_aa hm_81 dX7_thingAt_16 (zT_is hS s_70) (zT_h hS s_70) rfl rfl hg rfl ?_
        show ma_wp X (d - 1) (w - 21) 81 17 [(0, .inr (.inr (some 69))), (1, .inl l1)] [.inr (.inr (mR S 70 l1.toNatClampNeg))] S _
        refine zw_goto hm_81 dX7_thingAt_17 (t := 21) rfl ?_
        refine zw_aret hm_81 dX7_thingAt_21 ?_
        show ma_wp X d w 44 29 [(0, .inr (.inr (some 91))), (1, .inl l1)] [.inr (.inr (mR S 70 l1.toNatClampNeg))] S _
        refine zw_sto hm_44 dX4_sumKept_29 [(2, .inr (.inr (mR S 70 l1.toNatClampNeg))), (0, .inr (.inr (some 91))), (1, .inl l1)] rfl rfl rfl ?_
        refine zw_push hm_44 dX4_sumKept_30 (v := .inr (.inr (mR S 70 l1.toNatClampNeg))) rfl ?_
        refine zw_ifnull hm_44 dX4_sumKept_31 (t := 51) rfl ?_ ?_
        · intro hc
          have h := h.1 hc
          (try rw [hc])
          show ma_wp X d w 44 51 [(2, .inr (.inr none)), (0, .inr (.inr (some 91))), (1, .inl l1)] [] S _
          refine zw_sto hm_44 dX4_sumKept_51 [(1, .inl (l1 + (1 : Int32))), (2, .inr (.inr none)), (0, .inr (.inr (some 91)))] rfl rfl rfl ?_
          refine zw_goto hm_44 dX4_sumKept_54 (t := 10) rfl ?_
          exact zw_sub (ma_nd_of (ks := [0, 1]) rfl (by decide)) (ma_nd_of (ks := [1, 2, 0]) rfl (by decide)) (ma_le_cons rfl (ma_le_cons rfl (ma_le_nil _))) h
        · intro c1 hc
          have h := h.2 c1 hc
          (try rw [hc])
          show ma_wp X d w 44 34 [(2, .inr (.inr (some c1))), (0, .inr (.inr (some 91))), (1, .inl l1)] [] S _
          refine zw_push hm_44 dX4_sumKept_34 (v := .inr (.inr (some 91))) rfl ?_
          refine zw_gf hm_44 dX4_sumKept_35 (v := .inr (.inr (some 93))) (zT_is hS s_91) (zT_t hS s_91) rfl f_4_15_4 (zT_f hS r_91_8) ?_
          refine zw_push hm_44 dX4_sumKept_38 (v := .inr (.inr (some 91))) rfl ?_
          refine zw_push hm_44 dX4_sumKept_39 (v := .inr (.inr (some c1))) rfl ?_
          refine zw_cv hm_44 dX4_sumKept_40 v_4_113_4 hm_45 [.inr (.inr (some c1))] [.inr (.inr (some 93))] rfl (zT_rt hS s_91 rfl) ⟨by omega, by omega⟩ rfl ?_
          show ma_wp X (d - 1) (w - 21) 45 0 [(0, .inr (.inr (some 91))), (1, .inr (.inr (some c1)))] [] S _
          refine zw_push hm_45 dX4_regionOf_0 (v := .inr (.inr (some 91))) rfl ?_
          refine zw_gf hm_45 dX4_regionOf_1 (v := .inl (mI S 91 2)) (zT_is hS s_91) (zT_t hS s_91) rfl f_4_18_4 rfl ?_
          refine zw_if0 hm_45 dX4_regionOf_4 (t := 24) rfl zc0_le ?_ ?_
          · intro hc
            rw [if_pos hc] at h
            refine zw_push hm_45 dX4_regionOf_24 (v := .inl (0 : Int32)) rfl ?_
            refine zw_iret hm_45 dX4_regionOf_25 ?_
            show ma_wp X d w 44 43 [(2, .inr (.inr (some c1))), (0, .inr (.inr (some 91))), (1, .inl l1)] [.inl (0 : Int32), .inr (.inr (some 93))] S _
            refine zw_stk hm_44 dX4_sumKept_43 (st' := [.inl (0 : Int32), .inr (.inr (some 93)), .inl (0 : Int32), .inr (.inr (some 93))]) rfl rfl ?_
            refine zw_ia hm_44 dX4_sumKept_44 (zT_is hS s_93) (zT_h hS s_93) rfl ⟨by decide, by decide⟩ ?_
            show ma_wp X d w 44 45 [(2, .inr (.inr (some c1))), (0, .inr (.inr (some 91))), (1, .inl l1)] [.inl (mI S 93 0), .inl (0 : Int32), .inr (.inr (some 93))] S _
            refine zw_push hm_44 dX4_sumKept_45 (v := .inr (.inr (some c1))) rfl ?_
            obtain ⟨hg, h⟩ := h
            refine zw_gf hm_44 dX4_sumKept_46 (v := .inl (mI S c1 2)) (zT_tis hS hg) (zT_tt hS hg) rfl f_4_63_9 rfl ?_
            refine zw_stk hm_44 dX4_sumKept_49 (st' := [.inl ((mI S 93 0) + (mI S c1 2)), .inl (0 : Int32), .inr (.inr (some 93))]) rfl rfl ?_
            refine zw_ias hm_44 dX4_sumKept_50 (zT_is hS s_93) (zT_h hS s_93) rfl ⟨by decide, by decide⟩ ?_
            refine zw_sto hm_44 dX4_sumKept_51 [(1, .inl (l1 + (1 : Int32))), (2, .inr (.inr (some c1))), (0, .inr (.inr (some 91)))] rfl rfl rfl ?_
            refine zw_goto hm_44 dX4_sumKept_54 (t := 10) rfl ?_
            exact zw_sub (ma_nd_of (ks := [0, 1]) rfl (by decide)) (ma_nd_of (ks := [1, 2, 0]) rfl (by decide)) (ma_le_cons rfl (ma_le_cons rfl (ma_le_nil _))) h
          · intro hc
            rw [if_neg hc] at h
            refine zw_push hm_45 dX4_regionOf_7 (v := .inr (.inr (some c1))) rfl ?_
            obtain ⟨hg, h⟩ := h
            refine zw_gf hm_45 dX4_regionOf_8 (v := .inl (mI S c1 4)) (zT_tis hS hg) (zT_tt hS hg) rfl f_4_97_9 rfl ?_
            refine zw_push hm_45 dX4_regionOf_11 (v := .inr (.inr (some 91))) rfl ?_
            refine zw_gf hm_45 dX4_regionOf_12 (v := .inl (mI S 91 2)) (zT_is hS s_91) (zT_t hS s_91) rfl f_4_18_4 rfl ?_
            obtain ⟨hg, h⟩ := h
            refine zw_stk hm_45 dX4_regionOf_15 (st' := [.inl ((mI S c1 4) / (mI S 91 2))]) rfl (if_neg hg) ?_
            refine zw_push hm_45 dX4_regionOf_16 (v := .inl (92 : Int32)) rfl ?_
            refine zw_min hm_45 dX4_regionOf_18 pr_4_22 (by omega) (by show 0 + 13 ≤ (w - 21); omega) (fun _ _ _ _ z => by cases z) ?_
            refine zw_goto hm_45 dX4_regionOf_21 (t := 25) rfl ?_
            refine zw_iret hm_45 dX4_regionOf_25 ?_
            show ma_wp X d w 44 43 [(2, .inr (.inr (some c1))), (0, .inr (.inr (some 91))), (1, .inl l1)] [.inl (if (92 : Int32) < ((mI S c1 4) / (mI S 91 2)) then (92 : Int32) else ((mI S c1 4) / (mI S 91 2))), .inr (.inr (some 93))] S _
            refine zw_stk hm_44 dX4_sumKept_43 (st' := [.inl (if (92 : Int32) < ((mI S c1 4) / (mI S 91 2)) then (92 : Int32) else ((mI S c1 4) / (mI S 91 2))), .inr (.inr (some 93)), .inl (if (92 : Int32) < ((mI S c1 4) / (mI S 91 2)) then (92 : Int32) else ((mI S c1 4) / (mI S 91 2))), .inr (.inr (some 93))]) rfl rfl ?_
            obtain ⟨hg, h⟩ := h
            refine zw_ia hm_44 dX4_sumKept_44 (zT_is hS s_93) (zT_h hS s_93) rfl hg ?_
            show ma_wp X d w 44 45 [(2, .inr (.inr (some c1))), (0, .inr (.inr (some 91))), (1, .inl l1)] [.inl (mI S 93 (if (92 : Int32) < ((mI S c1 4) / (mI S 91 2)) then (92 : Int32) else ((mI S c1 4) / (mI S 91 2))).toNatClampNeg), .inl (if (92 : Int32) < ((mI S c1 4) / (mI S 91 2)) then (92 : Int32) else ((mI S c1 4) / (mI S 91 2))), .inr (.inr (some 93))] S _
            refine zw_push hm_44 dX4_sumKept_45 (v := .inr (.inr (some c1))) rfl ?_
            obtain ⟨hg, h⟩ := h
            refine zw_gf hm_44 dX4_sumKept_46 (v := .inl (mI S c1 2)) (zT_tis hS hg) (zT_tt hS hg) rfl f_4_63_9 rfl ?_
            refine zw_stk hm_44 dX4_sumKept_49 (st' := [.inl ((mI S 93 (if (92 : Int32) < ((mI S c1 4) / (mI S 91 2)) then (92 : Int32) else ((mI S c1 4) / (mI S 91 2))).toNatClampNeg) + (mI S c1 2)), .inl (if (92 : Int32) < ((mI S c1 4) / (mI S 91 2)) then (92 : Int32) else ((mI S c1 4) / (mI S 91 2))), .inr (.inr (some 93))]) rfl rfl ?_
            obtain ⟨hg, h⟩ := h
            refine zw_ias hm_44 dX4_sumKept_50 (zT_is hS s_93) (zT_h hS s_93) rfl hg ?_
            refine zw_sto hm_44 dX4_sumKept_51 [(1, .inl (l1 + (1 : Int32))), (2, .inr (.inr (some c1))), (0, .inr (.inr (some 91)))] rfl rfl rfl ?_
            refine zw_goto hm_44 dX4_sumKept_54 (t := 10) rfl ?_
            exact zw_sub (ma_nd_of (ks := [0, 1]) rfl (by decide)) (ma_nd_of (ks := [1, 2, 0]) rfl (by decide)) (ma_le_cons rfl (ma_le_cons rfl (ma_le_nil _))) h
theorem lp_44_91_10 {X : Nat × (Nat → Int32)} {d w : Nat} {f : Nat → Nat → Int32} {r : Nat → Nat → Option Nat} {C Z N : Nat} {Q : Option ma_V ⊕ Nat → ma_S → Prop} (hd : 2 ≤ d) (hw : 89 ≤ w) (K : ∀ S', zL91 f r C Z N S' → Q (.inl none) S') : ∀ (n : Nat) (S : ma_S) (l1 : Int32), (512 - l1.toInt).toNat = n → zL91 f r C Z N S → (0 ≤ l1.toInt) → ma_wp X d w 44 10 [(0, .inr (.inr (some 91))), (1, .inl l1)] [] S Q := by
  intro n
  induction n using Nat.strongRecOn with
  | _ n IH =>
    intro S l1 hmu hI  hi0
    refine g_44_91_10 l1 (by omega) (by omega) (zG_T hI) ?_
    have f1 := zG_s hI (0) (512) (c := 69) (k := 6) (by decide)
    have b2 := i_bd l1
    refine zd (fun h3 => ?_) (fun h3 => ?_)
    · skip
      have g4 := i_le h3
      exact K _ hI
    · skip
      have g5 := i_nle h3
      have li6 : (0 : Int32).toInt = 0 := rfl
      refine zd (fun h7 => ?_) (fun h7 => ?_)
      · skip
        have g8 := i_lt h7
        first | have e9 : (l1 + (1 : Int32)).toInt = l1.toInt + (1) := i_addk rfl (by omega) (by omega) | have b10 := i_bd (l1 + (1 : Int32))
        exact IH _ (by omega) _ ((l1 + (1 : Int32))) rfl hI (by omega)
      · skip
        have g11 := i_nlt h7
        have li12 : (512 : Int32).toInt = 512 := rfl
        refine zd (fun h13 => ?_) (fun h13 => ?_)
        · skip
          have g14 := i_le h13
          first | have e15 : (l1 + (1 : Int32)).toInt = l1.toInt + (1) := i_addk rfl (by omega) (by omega) | have b16 := i_bd (l1 + (1 : Int32))
          exact IH _ (by omega) _ ((l1 + (1 : Int32))) rfl hI (by omega)
        · skip
          have g17 := i_nle h13
          refine ⟨i_ix (by omega) (by omega), ?_⟩
          refine ⟨fun _ => ?_, fun c1 hc => ?_⟩
          · skip
            first | have e18 : (l1 + (1 : Int32)).toInt = l1.toInt + (1) := i_addk rfl (by omega) (by omega) | have b19 := i_bd (l1 + (1 : Int32))
            exact IH _ (by omega) _ ((l1 + (1 : Int32))) rfl hI (by omega)
          · skip
            have th_c1 := (fun _ z => zG_70 hI (c := 70) (by decide) z) c1 hc
            have f20 := zG_s hI (0) (1500) (c := 91) (k := 2) (by decide)
            refine zd (fun h21 => ?_) (fun h21 => ?_)
            · skip
              have g22 := i_le h21
              refine ⟨zG_n hI th_c1, ?_⟩
              have hI23 : zL91 f r C Z N (ma_put S 93 0 (.inl ((mI S 93 0) + (mI S c1 2)))) := zG_fr hI rfl (by decide) (by decide) (by decide) trivial
              first | have e24 : (l1 + (1 : Int32)).toInt = l1.toInt + (1) := i_addk rfl (by omega) (by omega) | have b25 := i_bd (l1 + (1 : Int32))
              exact IH _ (by omega) _ ((l1 + (1 : Int32))) rfl hI23 (by omega)
            · skip
              have g26 := i_nle h21
              refine ⟨zG_n hI th_c1, ?_⟩
              refine ⟨i_nz (by omega), ?_⟩
              have f27 := zG_th hI th_c1
              first | have f28 := i_div (x := (mI S c1 4)) (y := (mI S 91 2)) (by omega) (by omega) | have b29 := i_bd ((mI S c1 4) / (mI S 91 2))
              have li30 : (92 : Int32).toInt = 92 := rfl
              have f31 := i_min ((mI S c1 4) / (mI S 91 2)) (92 : Int32)
              refine ⟨i_ix (by omega) (by omega), ?_⟩
              refine ⟨zG_n hI th_c1, ?_⟩
              refine ⟨i_ix (by omega) (by omega), ?_⟩
              have hI32 : zL91 f r C Z N (ma_put S 93 (if (92 : Int32) < ((mI S c1 4) / (mI S 91 2)) then (92 : Int32) else ((mI S c1 4) / (mI S 91 2))).toNatClampNeg (.inl ((mI S 93 (if (92 : Int32) < ((mI S c1 4) / (mI S 91 2)) then (92 : Int32) else ((mI S c1 4) / (mI S 91 2))).toNatClampNeg) + (mI S c1 2)))) := zG_fa hI rfl (by decide) (by decide) (by decide) trivial
              first | have e33 : (l1 + (1 : Int32)).toInt = l1.toInt + (1) := i_addk rfl (by omega) (by omega) | have b34 := i_bd (l1 + (1 : Int32))
              exact IH _ (by omega) _ ((l1 + (1 : Int32))) rfl hI32 (by omega)
theorem sp_44_91 {X : Nat × (Nat → Int32)} {d w : Nat} {f : Nat → Nat → Int32} {r : Nat → Nat → Option Nat} {C Z N : Nat} {Q : Option ma_V ⊕ Nat → ma_S → Prop} {S : ma_S}  (hd : 2 ≤ d) (hw : 89 ≤ w) (hI : zL91 f r C Z N S)  (K : ∀ S', zL91 f r C Z N S' → Q (.inl none) S') : ma_wp X d w 44 0 [(0, .inr (.inr (some 91)))] [] S Q := by
  refine g_44_91_0  (by omega) (by omega) (zG_T hI) ?_
  have li1 : (0 : Int32).toInt = 0 := rfl
  refine sp_276_93 ((0 : Int32)) (by omega) (by omega) hI  (fun S1 hI_S1 => zv_n ⟨zG_T hI_S1, ?_⟩)
  exact lp_44_91_10 (by omega) (by omega) K _ _ ((0 : Int32)) rfl hI_S1 (by omega)
theorem g_46_91_0 {X : Nat × (Nat → Int32)} {d w : Nat} {S : ma_S} {Q : Option ma_V ⊕ Nat → ma_S → Prop}  (hd : 0 ≤ d) (hw : 0 ≤ w) (hS : zT S) (h : ma_wp X d w 46 2 [(0, .inr (.inr (some 91))), (1, .inl (0 : Int32))] [] S Q) : ma_wp X d w 46 0 [(0, .inr (.inr (some 91)))] [] S Q := by
  refine zw_push hm_46 dX4_emptyWhereNothingIsLeft_0 (v := .inl (0 : Int32)) rfl ?_
  refine zw_sto hm_46 dX4_emptyWhereNothingIsLeft_1 [(1, .inl (0 : Int32)), (0, .inr (.inr (some 91)))] rfl rfl rfl ?_
  exact zw_sub (ma_nd_of (ks := [0, 1]) rfl (by decide)) (ma_nd_of (ks := [1, 0]) rfl (by decide)) (ma_le_cons rfl (ma_le_cons rfl (ma_le_nil _))) h
theorem g_46_91_2 {X : Nat × (Nat → Int32)} {d w : Nat} {S : ma_S} {Q : Option ma_V ⊕ Nat → ma_S → Prop} (l1 : Int32) (hd : 0 ≤ d) (hw : 0 ≤ w) (hS : zT S) (h : if (93 : Int32) ≤ l1 then (Q (.inl none) S) else ((0 ≤ l1 ∧ l1.toNatClampNeg < 93) ∧ (if (mI S 93 l1.toNatClampNeg) = 0 then ((0 ≤ l1 ∧ l1.toNatClampNeg < 93) ∧ (ma_wp X d w 46 2 [(0, .inr (.inr (some 91))), (1, .inl (l1 + (1 : Int32)))] [] (ma_put S 92 l1.toNatClampNeg (.inl (0 : Int32))) Q)) else (ma_wp X d w 46 2 [(0, .inr (.inr (some 91))), (1, .inl (l1 + (1 : Int32)))] [] S Q)))) : ma_wp X d w 46 2 [(0, .inr (.inr (some 91))), (1, .inl l1)] [] S Q := by
  refine zw_push hm_46 dX4_emptyWhereNothingIsLeft_2 (v := .inl l1) rfl ?_
  refine zw_push hm_46 dX4_emptyWhereNothingIsLeft_3 (v := .inl (93 : Int32)) rfl ?_
  refine zw_if2 hm_46 dX4_emptyWhereNothingIsLeft_5 (t := 30) rfl zc2_ge ?_ ?_
  · intro hc
    rw [if_pos hc] at h
    exact zw_vret hm_46 dX4_emptyWhereNothingIsLeft_30 h
  · intro hc
    rw [if_neg hc] at h
    refine zw_push hm_46 dX4_emptyWhereNothingIsLeft_8 (v := .inr (.inr (some 91))) rfl ?_
    refine zw_gf hm_46 dX4_emptyWhereNothingIsLeft_9 (v := .inr (.inr (some 93))) (zT_is hS s_91) (zT_t hS s_91) rfl f_4_15_4 (zT_f hS r_91_8) ?_
    refine zw_push hm_46 dX4_emptyWhereNothingIsLeft_12 (v := .inl l1) rfl ?_
    obtain ⟨hg, h⟩ := h
    refine zw_ia hm_46 dX4_emptyWhereNothingIsLeft_13 (zT_is hS s_93) (zT_h hS s_93) rfl hg ?_
    show ma_wp X d w 46 14 [(0, .inr (.inr (some 91))), (1, .inl l1)] [.inl (mI S 93 l1.toNatClampNeg)] S _
    refine zw_if0 hm_46 dX4_emptyWhereNothingIsLeft_14 (t := 24) rfl zc0_ne ?_ ?_
    · intro hc
      rw [if_neg hc] at h
      refine zw_sto hm_46 dX4_emptyWhereNothingIsLeft_24 [(1, .inl (l1 + (1 : Int32))), (0, .inr (.inr (some 91)))] rfl rfl rfl ?_
      refine zw_goto hm_46 dX4_emptyWhereNothingIsLeft_27 (t := 2) rfl ?_
      exact zw_sub (ma_nd_of (ks := [0, 1]) rfl (by decide)) (ma_nd_of (ks := [1, 0]) rfl (by decide)) (ma_le_cons rfl (ma_le_cons rfl (ma_le_nil _))) h
    · intro hc
      rw [if_pos (Classical.not_not.mp hc)] at h
      refine zw_push hm_46 dX4_emptyWhereNothingIsLeft_17 (v := .inr (.inr (some 91))) rfl ?_
      refine zw_gf hm_46 dX4_emptyWhereNothingIsLeft_18 (v := .inr (.inr (some 92))) (zT_is hS s_91) (zT_t hS s_91) rfl f_4_9_4 (zT_f hS r_91_7) ?_
      refine zw_push hm_46 dX4_emptyWhereNothingIsLeft_21 (v := .inl l1) rfl ?_
      refine zw_push hm_46 dX4_emptyWhereNothingIsLeft_22 (v := .inl (0 : Int32)) rfl ?_
      obtain ⟨hg, h⟩ := h
      refine zw_ias hm_46 dX4_emptyWhereNothingIsLeft_23 (zT_is hS s_92) (zT_h hS s_92) rfl hg ?_
      refine zw_sto hm_46 dX4_emptyWhereNothingIsLeft_24 [(1, .inl (l1 + (1 : Int32))), (0, .inr (.inr (some 91)))] rfl rfl rfl ?_
      refine zw_goto hm_46 dX4_emptyWhereNothingIsLeft_27 (t := 2) rfl ?_
      exact zw_sub (ma_nd_of (ks := [0, 1]) rfl (by decide)) (ma_nd_of (ks := [1, 0]) rfl (by decide)) (ma_le_cons rfl (ma_le_cons rfl (ma_le_nil _))) h
theorem lp_46_91_2 {X : Nat × (Nat → Int32)} {d w : Nat} {f : Nat → Nat → Int32} {r : Nat → Nat → Option Nat} {C Z N : Nat} {Q : Option ma_V ⊕ Nat → ma_S → Prop} (hd : 0 ≤ d) (hw : 0 ≤ w) (K : ∀ S', zL91 f r C Z N S' → Q (.inl none) S') : ∀ (n : Nat) (S : ma_S) (l1 : Int32), (93 - l1.toInt).toNat = n → zL91 f r C Z N S → (0 ≤ l1.toInt) → ma_wp X d w 46 2 [(0, .inr (.inr (some 91))), (1, .inl l1)] [] S Q := by
  intro n
  induction n using Nat.strongRecOn with
  | _ n IH =>
    intro S l1 hmu hI  hi0
    refine g_46_91_2 l1 (by omega) (by omega) (zG_T hI) ?_
    have li1 : (93 : Int32).toInt = 93 := rfl
    have b2 := i_bd l1
    refine zd (fun h3 => ?_) (fun h3 => ?_)
    · skip
      have g4 := i_le h3
      exact K _ hI
    · skip
      have g5 := i_nle h3
      refine ⟨i_ix (by omega) (by omega), ?_⟩
      have b6 := i_bd (mI S 93 l1.toNatClampNeg)
      have li7 : (0 : Int32).toInt = 0 := rfl
      refine zd (fun h8 => ?_) (fun h8 => ?_)
      · skip
        have g9 := i_eq h8
        refine ⟨i_ix (by omega) (by omega), ?_⟩
        have hI10 : zL91 f r C Z N (ma_put S 92 l1.toNatClampNeg (.inl (0 : Int32))) := zG_sa hI (0) (3000) rfl (by decide) (by decide) (by decide) trivial (by omega) (by omega)
        first | have e11 : (l1 + (1 : Int32)).toInt = l1.toInt + (1) := i_addk rfl (by omega) (by omega) | have b12 := i_bd (l1 + (1 : Int32))
        exact IH _ (by omega) _ ((l1 + (1 : Int32))) rfl hI10 (by omega)
      · skip
        have g13 := i_ne h8
        first | have e14 : (l1 + (1 : Int32)).toInt = l1.toInt + (1) := i_addk rfl (by omega) (by omega) | have b15 := i_bd (l1 + (1 : Int32))
        exact IH _ (by omega) _ ((l1 + (1 : Int32))) rfl hI (by omega)
theorem sp_46_91 {X : Nat × (Nat → Int32)} {d w : Nat} {f : Nat → Nat → Int32} {r : Nat → Nat → Option Nat} {C Z N : Nat} {Q : Option ma_V ⊕ Nat → ma_S → Prop} {S : ma_S}  (hd : 0 ≤ d) (hw : 0 ≤ w) (hI : zL91 f r C Z N S)  (K : ∀ S', zL91 f r C Z N S' → Q (.inl none) S') : ma_wp X d w 46 0 [(0, .inr (.inr (some 91)))] [] S Q := by
  refine g_46_91_0  (by omega) (by omega) (zG_T hI) ?_
  have li1 : (0 : Int32).toInt = 0 := rfl
  exact lp_46_91_2 (by omega) (by omega) K _ _ ((0 : Int32)) rfl hI (by omega)
