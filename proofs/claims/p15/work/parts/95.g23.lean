/-! the heap by numbers, the class (written by wip/tools/gen18.py) -/
theorem g_95_69_s_0 {X : Nat × (Nat → Int32)} {d w : Nat} {S : ma_S} {Q : Option ma_V ⊕ Nat → ma_S → Prop} (t : Nat) (i : Int32) (x : Int32) (hd : 0 ≤ d) (hw : 0 ≤ w) (hS : zT S) (h : (126 ≤ t ∧ t < mN S) ∧ (if (((mI S t 4) + (1 : Int32)) + i) < 0 then (Q (.inl (some (.inl (-1 : Int32)))) S) else (if (((mI S t 4) + (1 : Int32)) + i) < (4500 : Int32) then ((0 ≤ (((mI S t 4) + (1 : Int32)) + i) ∧ (((mI S t 4) + (1 : Int32)) + i).toNatClampNeg < 4500) ∧ ((0 ≤ (((mI S t 4) + (1 : Int32)) + i) ∧ (((mI S t 4) + (1 : Int32)) + i).toNatClampNeg < 4500) ∧ (Q (.inl (some (.inl (mI S 71 (((mI S t 4) + (1 : Int32)) + i).toNatClampNeg)))) (ma_put S 71 (((mI S t 4) + (1 : Int32)) + i).toNatClampNeg (.inl x))))) else (Q (.inl (some (.inl (-1 : Int32)))) S)))) : ma_wp X d w 95 0 [(0, .inr (.inr (some 69))), (1, .inr (.inr (some t))), (2, .inl i), (3, .inl x)] [] S Q := by
  refine zw_push hm_95 dX7_changeInt_0 (v := .inr (.inr (some t))) rfl ?_
  obtain ⟨hg, h⟩ := h
  refine zw_gf hm_95 dX7_changeInt_1 (v := .inl (mI S t 4)) (zT_tis hS hg) (zT_tt hS hg) rfl f_7_61_9 rfl ?_
  refine zw_push hm_95 dX7_changeInt_4 (v := .inl (1 : Int32)) rfl ?_
  refine zw_stk hm_95 dX7_changeInt_5 (st' := [.inl ((mI S t 4) + (1 : Int32))]) rfl rfl ?_
  refine zw_push hm_95 dX7_changeInt_6 (v := .inl i) rfl ?_
  refine zw_stk hm_95 dX7_changeInt_7 (st' := [.inl (((mI S t 4) + (1 : Int32)) + i)]) rfl rfl ?_
  refine zw_sto hm_95 dX7_changeInt_8 [(4, .inl (((mI S t 4) + (1 : Int32)) + i)), (0, .inr (.inr (some 69))), (1, .inr (.inr (some t))), (2, .inl i), (3, .inl x)] rfl rfl rfl ?_
  refine zw_push hm_95 dX7_changeInt_10 (v := .inl (((mI S t 4) + (1 : Int32)) + i)) rfl ?_
  refine zw_if0 hm_95 dX7_changeInt_12 (t := 23) rfl zc0_lt ?_ ?_
  · intro hc
    rw [if_pos hc] at h
    refine zw_push hm_95 dX7_changeInt_23 (v := .inl (-1 : Int32)) rfl ?_
    exact zw_iret hm_95 dX7_changeInt_24 h
  · intro hc
    rw [if_neg hc] at h
    refine zw_push hm_95 dX7_changeInt_15 (v := .inl (((mI S t 4) + (1 : Int32)) + i)) rfl ?_
    refine zw_push hm_95 dX7_changeInt_17 (v := .inl (4500 : Int32)) rfl ?_
    refine zw_if2 hm_95 dX7_changeInt_20 (t := 25) rfl zc2_lt ?_ ?_
    · intro hc
      rw [if_pos hc] at h
      refine zw_push hm_95 dX7_changeInt_25 (v := .inr (.inr (some 69))) rfl ?_
      refine zw_gf hm_95 dX7_changeInt_26 (v := .inr (.inr (some 71))) (zT_is hS s_69) (zT_t hS s_69) rfl f_7_17_7 (zT_f hS r_69_1) ?_
      refine zw_push hm_95 dX7_changeInt_29 (v := .inl (((mI S t 4) + (1 : Int32)) + i)) rfl ?_
      obtain ⟨hg, h⟩ := h
      refine zw_ia hm_95 dX7_changeInt_31 (zT_is hS s_71) (zT_h hS s_71) rfl hg ?_
      show ma_wp X d w 95 32 [(4, .inl (((mI S t 4) + (1 : Int32)) + i)), (0, .inr (.inr (some 69))), (1, .inr (.inr (some t))), (2, .inl i), (3, .inl x)] [.inl (mI S 71 (((mI S t 4) + (1 : Int32)) + i).toNatClampNeg)] S _
      refine zw_sto hm_95 dX7_changeInt_32 [(5, .inl (mI S 71 (((mI S t 4) + (1 : Int32)) + i).toNatClampNeg)), (4, .inl (((mI S t 4) + (1 : Int32)) + i)), (0, .inr (.inr (some 69))), (1, .inr (.inr (some t))), (2, .inl i), (3, .inl x)] rfl rfl rfl ?_
      refine zw_push hm_95 dX7_changeInt_34 (v := .inr (.inr (some 69))) rfl ?_
      refine zw_gf hm_95 dX7_changeInt_35 (v := .inr (.inr (some 71))) (zT_is hS s_69) (zT_t hS s_69) rfl f_7_17_7 (zT_f hS r_69_1) ?_
      refine zw_push hm_95 dX7_changeInt_38 (v := .inl (((mI S t 4) + (1 : Int32)) + i)) rfl ?_
      refine zw_push hm_95 dX7_changeInt_40 (v := .inl x) rfl ?_
      obtain ⟨hg, h⟩ := h
      refine zw_ias hm_95 dX7_changeInt_41 (zT_is hS s_71) (zT_h hS s_71) rfl hg ?_
      refine zw_push hm_95 dX7_changeInt_42 (v := .inl (mI S 71 (((mI S t 4) + (1 : Int32)) + i).toNatClampNeg)) rfl ?_
      exact zw_iret hm_95 dX7_changeInt_44 h
    · intro hc
      rw [if_neg hc] at h
      refine zw_push hm_95 dX7_changeInt_23 (v := .inl (-1 : Int32)) rfl ?_
      exact zw_iret hm_95 dX7_changeInt_24 h
theorem sp_95_69_s {X : Nat × (Nat → Int32)} {d w : Nat} {f : Nat → Nat → Int32} {r : Nat → Nat → Option Nat} {C Z N : Nat} {Q : Option ma_V ⊕ Nat → ma_S → Prop} {ab : Nat→Nat→Int32} {R : zRT} {W : Nat} {y : Int32} {S : ma_S} (t : Nat) (i : Int32) (x : Int32) (hd : 0 ≤ d) (hw : 0 ≤ w) (hI : zI f r C Z N S) (th_t : 126 ≤ t ∧ t < N) (hpre0 : xB S R) (hpre1 : aS W S = ab) (hpre2 : xW W) (hpre3 : zTa R y = some t) (K : ∀ v S', zI f r C Z N S' → (True) → (xB S' R) → (aS W S' = aCi ab y.toNatClampNeg i x ∧ v = aWo ab y.toNatClampNeg i) → Q (.inl (some (.inl v))) S') : ma_wp X d w 95 0 [(0, .inr (.inr (some 69))), (1, .inr (.inr (some t))), (2, .inl i), (3, .inl x)] [] S Q := by
  refine g_95_69_s_0 t i x (by omega) (by omega) (zG_T hI) ?_
  refine ⟨zG_n hI th_t, ?_⟩
  have f1 := zG_th hI th_t
  first | have e2 : ((mI S t 4) + (1 : Int32)).toInt = (mI S t 4).toInt + (1) := i_addk rfl (by omega) (by omega) | have b3 := i_bd ((mI S t 4) + (1 : Int32))
  have b4 := i_bd i
  first | have e5 : (((mI S t 4) + (1 : Int32)) + i).toInt = ((mI S t 4) + (1 : Int32)).toInt + i.toInt := i_add (by omega) (by omega) | have b6 := i_bd (((mI S t 4) + (1 : Int32)) + i)
  have li7 : (0 : Int32).toInt = 0 := rfl
  refine zd (fun h8 => ?_) (fun h8 => ?_)
  · skip
    have g9 := i_lt h8
    have li10 : (-1 : Int32).toInt = -1 := rfl
    exact K ((-1 : Int32)) _ hI trivial (show xB S R from by first | (exact (xC_o (W := 75) hpre0).2)) (show aS W S = aCi ab y.toNatClampNeg i x ∧ (-1 : Int32) = aWo ab y.toNatClampNeg i from by first | (have ty := xB_th (W := W) hpre0 hpre3; have e4 := ty.2.2.2.2.2.1; rw [hpre1] at e4; exact ⟨hpre1.trans (if_neg (by rw [← e4]; omega)).symm, (if_neg (by rw [← e4]; omega)).symm⟩))
  · skip
    have g11 := i_nlt h8
    have li12 : (4500 : Int32).toInt = 4500 := rfl
    refine zd (fun h13 => ?_) (fun h13 => ?_)
    · skip
      have g14 := i_lt h13
      refine ⟨i_ix (by omega) (by omega), ?_⟩
      refine ⟨i_ix (by omega) (by omega), ?_⟩
      have hI15 : zI f r C Z N (ma_put S 71 (((mI S t 4) + (1 : Int32)) + i).toNatClampNeg (.inl x)) := zG_fa hI rfl (by decide) (by decide) (by decide) trivial
      have b16 := i_bd (mI S 71 (((mI S t 4) + (1 : Int32)) + i).toNatClampNeg)
      exact K ((mI S 71 (((mI S t 4) + (1 : Int32)) + i).toNatClampNeg)) _ hI15 trivial (show xB (ma_put S 71 (((mI S t 4) + (1 : Int32)) + i).toNatClampNeg (.inl x)) R from by first | (exact (xC_p (c := 71) (k := (((mI S t 4) + (1 : Int32)) + i).toNatClampNeg) (x := x) (xC_o (W := 75) hpre0) 71 xW75 rfl rfl).2)) (show aS W (ma_put S 71 (((mI S t 4) + (1 : Int32)) + i).toNatClampNeg (.inl x)) = aCi ab y.toNatClampNeg i x ∧ (mI S 71 (((mI S t 4) + (1 : Int32)) + i).toNatClampNeg) = aWo ab y.toNatClampNeg i from by first | (have ty := xB_th (W := W) hpre0 hpre3; have e4 := ty.2.2.2.2.2.1; rw [hpre1] at e4; refine ⟨(xC_p (c := 71) (k := (((mI S t 4) + (1 : Int32)) + i).toNatClampNeg) (x := x) (xC_o (W := W) hpre0) 71 hpre2 rfl (zcw_s (by decide))).1.trans ?_, ?_⟩; (rw [hpre1, e4]; exact (if_pos ⟨by rw [← e4]; omega, by rw [← e4]; omega⟩).symm); (refine Eq.trans ?_ (if_pos ⟨by rw [← e4]; omega, by rw [← e4]; omega⟩).symm; rw [← hpre1, (aS_I (W := W) (S := S) (c := 71) (c' := 71)  rfl (zcw_s (by decide))), hpre1, ← e4])))
    · skip
      have g17 := i_nlt h13
      have li18 : (-1 : Int32).toInt = -1 := rfl
      exact K ((-1 : Int32)) _ hI trivial (show xB S R from by first | (exact (xC_o (W := 75) hpre0).2)) (show aS W S = aCi ab y.toNatClampNeg i x ∧ (-1 : Int32) = aWo ab y.toNatClampNeg i from by first | (have ty := xB_th (W := W) hpre0 hpre3; have e4 := ty.2.2.2.2.2.1; rw [hpre1] at e4; exact ⟨hpre1.trans (if_neg (by rw [← e4]; omega)).symm, (if_neg (by rw [← e4]; omega)).symm⟩))
theorem g_96_69_s_0 {X : Nat × (Nat → Int32)} {d w : Nat} {S : ma_S} {Q : Option ma_V ⊕ Nat → ma_S → Prop} (t : Nat) (i : Int32) (hd : 0 ≤ d) (hw : 0 ≤ w) (hS : zT S) (h : (126 ≤ t ∧ t < mN S) ∧ (if (((mI S t 4) + (1 : Int32)) + i) < 0 then (Q (.inl (some (.inl (-1 : Int32)))) S) else (if (4500 : Int32) ≤ (((mI S t 4) + (1 : Int32)) + i) then (Q (.inl (some (.inl (-1 : Int32)))) S) else ((0 ≤ (((mI S t 4) + (1 : Int32)) + i) ∧ (((mI S t 4) + (1 : Int32)) + i).toNatClampNeg < 4500) ∧ (Q (.inl (some (.inl (mI S 71 (((mI S t 4) + (1 : Int32)) + i).toNatClampNeg)))) S))))) : ma_wp X d w 96 0 [(0, .inr (.inr (some 69))), (1, .inr (.inr (some t))), (2, .inl i)] [] S Q := by
  refine zw_push hm_96 dX7_wordOf_0 (v := .inr (.inr (some t))) rfl ?_
  obtain ⟨hg, h⟩ := h
  refine zw_gf hm_96 dX7_wordOf_1 (v := .inl (mI S t 4)) (zT_tis hS hg) (zT_tt hS hg) rfl f_7_61_9 rfl ?_
  refine zw_push hm_96 dX7_wordOf_4 (v := .inl (1 : Int32)) rfl ?_
  refine zw_stk hm_96 dX7_wordOf_5 (st' := [.inl ((mI S t 4) + (1 : Int32))]) rfl rfl ?_
  refine zw_push hm_96 dX7_wordOf_6 (v := .inl i) rfl ?_
  refine zw_stk hm_96 dX7_wordOf_7 (st' := [.inl (((mI S t 4) + (1 : Int32)) + i)]) rfl rfl ?_
  refine zw_sto hm_96 dX7_wordOf_8 [(3, .inl (((mI S t 4) + (1 : Int32)) + i)), (0, .inr (.inr (some 69))), (1, .inr (.inr (some t))), (2, .inl i)] rfl rfl rfl ?_
  refine zw_push hm_96 dX7_wordOf_9 (v := .inl (((mI S t 4) + (1 : Int32)) + i)) rfl ?_
  refine zw_if0 hm_96 dX7_wordOf_10 (t := 29) rfl zc0_lt ?_ ?_
  · intro hc
    rw [if_pos hc] at h
    refine zw_push hm_96 dX7_wordOf_29 (v := .inl (-1 : Int32)) rfl ?_
    exact zw_iret hm_96 dX7_wordOf_30 h
  · intro hc
    rw [if_neg hc] at h
    refine zw_push hm_96 dX7_wordOf_13 (v := .inl (((mI S t 4) + (1 : Int32)) + i)) rfl ?_
    refine zw_push hm_96 dX7_wordOf_14 (v := .inl (4500 : Int32)) rfl ?_
    refine zw_if2 hm_96 dX7_wordOf_17 (t := 29) rfl zc2_ge ?_ ?_
    · intro hc
      rw [if_pos hc] at h
      refine zw_push hm_96 dX7_wordOf_29 (v := .inl (-1 : Int32)) rfl ?_
      exact zw_iret hm_96 dX7_wordOf_30 h
    · intro hc
      rw [if_neg hc] at h
      refine zw_push hm_96 dX7_wordOf_20 (v := .inr (.inr (some 69))) rfl ?_
      refine zw_gf hm_96 dX7_wordOf_21 (v := .inr (.inr (some 71))) (zT_is hS s_69) (zT_t hS s_69) rfl f_7_17_7 (zT_f hS r_69_1) ?_
      refine zw_push hm_96 dX7_wordOf_24 (v := .inl (((mI S t 4) + (1 : Int32)) + i)) rfl ?_
      obtain ⟨hg, h⟩ := h
      refine zw_ia hm_96 dX7_wordOf_25 (zT_is hS s_71) (zT_h hS s_71) rfl hg ?_
      show ma_wp X d w 96 26 [(3, .inl (((mI S t 4) + (1 : Int32)) + i)), (0, .inr (.inr (some 69))), (1, .inr (.inr (some t))), (2, .inl i)] [.inl (mI S 71 (((mI S t 4) + (1 : Int32)) + i).toNatClampNeg)] S _
      refine zw_goto hm_96 dX7_wordOf_26 (t := 30) rfl ?_
      exact zw_iret hm_96 dX7_wordOf_30 h
theorem sp_96_69_s {X : Nat × (Nat → Int32)} {d w : Nat} {f : Nat → Nat → Int32} {r : Nat → Nat → Option Nat} {C Z N : Nat} {Q : Option ma_V ⊕ Nat → ma_S → Prop} {ab : Nat→Nat→Int32} {R : zRT} {W : Nat} {y : Int32} {S : ma_S} (t : Nat) (i : Int32) (hd : 0 ≤ d) (hw : 0 ≤ w) (hI : zI f r C Z N S) (th_t : 126 ≤ t ∧ t < N) (hpre0 : xB S R) (hpre1 : aS W S = ab) (hpre2 : xW W) (hpre3 : zTa R y = some t) (K : ∀ v S', zI f r C Z N S' → (True) → (xB S' R) → (aS W S' = ab) → (v = aWo ab y.toNatClampNeg i) → Q (.inl (some (.inl v))) S') : ma_wp X d w 96 0 [(0, .inr (.inr (some 69))), (1, .inr (.inr (some t))), (2, .inl i)] [] S Q := by
  refine g_96_69_s_0 t i (by omega) (by omega) (zG_T hI) ?_
  refine ⟨zG_n hI th_t, ?_⟩
  have f1 := zG_th hI th_t
  first | have e2 : ((mI S t 4) + (1 : Int32)).toInt = (mI S t 4).toInt + (1) := i_addk rfl (by omega) (by omega) | have b3 := i_bd ((mI S t 4) + (1 : Int32))
  have b4 := i_bd i
  first | have e5 : (((mI S t 4) + (1 : Int32)) + i).toInt = ((mI S t 4) + (1 : Int32)).toInt + i.toInt := i_add (by omega) (by omega) | have b6 := i_bd (((mI S t 4) + (1 : Int32)) + i)
  have li7 : (0 : Int32).toInt = 0 := rfl
  refine zd (fun h8 => ?_) (fun h8 => ?_)
  · skip
    have g9 := i_lt h8
    have li10 : (-1 : Int32).toInt = -1 := rfl
    exact K ((-1 : Int32)) _ hI trivial (show xB S R from by first | (exact (xC_o (W := 75) hpre0).2)) (show aS W S = ab from by first | (exact (xC_o (W := W) hpre0).1.trans hpre1)) (show (-1 : Int32) = aWo ab y.toNatClampNeg i from by first | (have ty := xB_th (W := W) hpre0 hpre3; have e4 := ty.2.2.2.2.2.1; rw [hpre1] at e4; exact (if_neg (by rw [← e4]; omega)).symm))
  · skip
    have g11 := i_nlt h8
    have li12 : (4500 : Int32).toInt = 4500 := rfl
    refine zd (fun h13 => ?_) (fun h13 => ?_)
    · skip
      have g14 := i_le h13
      have li15 : (-1 : Int32).toInt = -1 := rfl
      exact K ((-1 : Int32)) _ hI trivial (show xB S R from by first | (exact (xC_o (W := 75) hpre0).2)) (show aS W S = ab from by first | (exact (xC_o (W := W) hpre0).1.trans hpre1)) (show (-1 : Int32) = aWo ab y.toNatClampNeg i from by first | (have ty := xB_th (W := W) hpre0 hpre3; have e4 := ty.2.2.2.2.2.1; rw [hpre1] at e4; exact (if_neg (by rw [← e4]; omega)).symm))
    · skip
      have g16 := i_nle h13
      refine ⟨i_ix (by omega) (by omega), ?_⟩
      have b17 := i_bd (mI S 71 (((mI S t 4) + (1 : Int32)) + i).toNatClampNeg)
      exact K ((mI S 71 (((mI S t 4) + (1 : Int32)) + i).toNatClampNeg)) _ hI trivial (show xB S R from by first | (exact (xC_o (W := 75) hpre0).2)) (show aS W S = ab from by first | (exact (xC_o (W := W) hpre0).1.trans hpre1)) (show (mI S 71 (((mI S t 4) + (1 : Int32)) + i).toNatClampNeg) = aWo ab y.toNatClampNeg i from by first | (have ty := xB_th (W := W) hpre0 hpre3; have e4 := ty.2.2.2.2.2.1; rw [hpre1] at e4; refine Eq.trans ?_ (if_pos ⟨by rw [← e4]; omega, by rw [← e4]; omega⟩).symm; rw [← hpre1, (aS_I (W := W) (S := S) (c := 71) (c' := 71)  rfl (zcw_s (by decide))), hpre1, ← e4]))
theorem g_97_69_s_0 {X : Nat × (Nat → Int32)} {d w : Nat} {S : ma_S} {Q : Option ma_V ⊕ Nat → ma_S → Prop} (t : Nat) (x : Int32) (hd : 0 ≤ d) (hw : 0 ≤ w) (hS : zT S) (h : (126 ≤ t ∧ t < mN S) ∧ ((126 ≤ t ∧ t < mN S) ∧ ((126 ≤ t ∧ t < mN (ma_put S t 7 (.inl ((mI S t 7) + x)))) ∧ ((126 ≤ t ∧ t < mN (ma_put S t 7 (.inl ((mI S t 7) + x)))) ∧ (Q (.inl none) (ma_put (ma_put S t 7 (.inl ((mI S t 7) + x))) t 6 (.inl ((mI (ma_put S t 7 (.inl ((mI S t 7) + x))) t 6) + x)))))))) : ma_wp X d w 97 0 [(0, .inr (.inr (some 69))), (1, .inr (.inr (some t))), (2, .inl x)] [] S Q := by
  refine zw_push hm_97 dX7_changeHolds_0 (v := .inr (.inr (some t))) rfl ?_
  refine zw_stk hm_97 dX7_changeHolds_1 (st' := [.inr (.inr (some t)), .inr (.inr (some t))]) rfl rfl ?_
  obtain ⟨hg, h⟩ := h
  refine zw_gf hm_97 dX7_changeHolds_2 (v := .inl (mI S t 7)) (zT_tis hS hg) (zT_tt hS hg) rfl f_7_101_9 rfl ?_
  refine zw_push hm_97 dX7_changeHolds_5 (v := .inl x) rfl ?_
  refine zw_stk hm_97 dX7_changeHolds_6 (st' := [.inl ((mI S t 7) + x), .inr (.inr (some t))]) rfl rfl ?_
  obtain ⟨hg, h⟩ := h
  refine zw_pf hm_97 dX7_changeHolds_7 (zT_tis hS hg) (zT_tt hS hg) p_7_101_9 zk_int ?_
  refine zw_push hm_97 dX7_changeHolds_10 (v := .inr (.inr (some t))) rfl ?_
  refine zw_stk hm_97 dX7_changeHolds_11 (st' := [.inr (.inr (some t)), .inr (.inr (some t))]) rfl rfl ?_
  obtain ⟨hg, h⟩ := h
  refine zw_gf hm_97 dX7_changeHolds_12 (v := .inl (mI (ma_put S t 7 (.inl ((mI S t 7) + x))) t 6)) (zT_tis (zT_pi hS) hg) (zT_tt (zT_pi hS) hg) rfl f_7_98_9 rfl ?_
  refine zw_push hm_97 dX7_changeHolds_15 (v := .inl x) rfl ?_
  refine zw_stk hm_97 dX7_changeHolds_16 (st' := [.inl ((mI (ma_put S t 7 (.inl ((mI S t 7) + x))) t 6) + x), .inr (.inr (some t))]) rfl rfl ?_
  obtain ⟨hg, h⟩ := h
  refine zw_pf hm_97 dX7_changeHolds_17 (zT_tis (zT_pi hS) hg) (zT_tt (zT_pi hS) hg) p_7_98_9 zk_int ?_
  exact zw_vret hm_97 dX7_changeHolds_20 h
theorem sp_97_69_s {X : Nat × (Nat → Int32)} {d w : Nat} {f : Nat → Nat → Int32} {r : Nat → Nat → Option Nat} {C Z N : Nat} {Q : Option ma_V ⊕ Nat → ma_S → Prop} {ab : Nat→Nat→Int32} {R : zRT} {W : Nat} {y : Int32} {S : ma_S} (t : Nat) (x : Int32) (hd : 0 ≤ d) (hw : 0 ≤ w) (hI : zI f r C Z N S) (th_t : 126 ≤ t ∧ t < N) (hpre0 : xB S R) (hpre1 : aS W S = ab) (hpre2 : xW W) (hpre3 : zTa R y = some t) (K : ∀ S', zI f r C Z N S' → (xB S' R) → (aS W S' = ma_u ab 133 y.toNatClampNeg (ab 133 y.toNatClampNeg + x)) → Q (.inl none) S') : ma_wp X d w 97 0 [(0, .inr (.inr (some 69))), (1, .inr (.inr (some t))), (2, .inl x)] [] S Q := by
  refine g_97_69_s_0 t x (by omega) (by omega) (zG_T hI) ?_
  refine ⟨zG_n hI th_t, ?_⟩
  refine ⟨zG_n hI th_t, ?_⟩
  have hI1 : zI f r C Z N (ma_put S t 7 (.inl ((mI S t 7) + x))) := zG_tf hI th_t.1 zI_t (by decide) (by decide) trivial (by decide) (by decide) (by decide)
  refine ⟨zG_n hI1 th_t, ?_⟩
  refine ⟨zG_n hI1 th_t, ?_⟩
  have hI2 : zI f r C Z N (ma_put (ma_put S t 7 (.inl ((mI S t 7) + x))) t 6 (.inl ((mI (ma_put S t 7 (.inl ((mI S t 7) + x))) t 6) + x))) := zG_tf hI1 th_t.1 zI_t (by decide) (by decide) trivial (by decide) (by decide) (by decide)
  exact K _ hI2 (show xB (ma_put (ma_put S t 7 (.inl ((mI S t 7) + x))) t 6 (.inl ((mI (ma_put S t 7 (.inl ((mI S t 7) + x))) t 6) + x))) R from by first | (exact (xC_6 (k := 6) (x := ((mI (ma_put S t 7 (.inl ((mI S t 7) + x))) t 6) + x)) (xC_t (k := 7) (x := ((mI S t 7) + x)) (xC_o (W := 75) hpre0) xW75 hpre3 rfl) xW75 th_t.1 rfl (by decide)).2)) (show aS W (ma_put (ma_put S t 7 (.inl ((mI S t 7) + x))) t 6 (.inl ((mI (ma_put S t 7 (.inl ((mI S t 7) + x))) t 6) + x))) = ma_u ab 133 y.toNatClampNeg (ab 133 y.toNatClampNeg + x) from by first | (have ty := xB_th (W := W) hpre0 hpre3; have e7 := ty.2.2.2.2.2.2.1; rw [hpre1] at e7; refine (xC_6 (k := 6) (x := ((mI (ma_put S t 7 (.inl ((mI S t 7) + x))) t 6) + x)) (xC_t (k := 7) (x := ((mI S t 7) + x)) (xC_o (W := W) hpre0) hpre2 hpre3 rfl) hpre2 th_t.1 rfl (by decide)).1.trans ?_; (try simp only [zp_i (c := 69) (c' := t) (k' := 6) th_t.1 (by decide), zp_i (c := 71) (c' := t) (k' := 6) th_t.1 (by decide), zp_i (c := 72) (c' := t) (k' := 6) th_t.1 (by decide), zp_i (c := 73) (c' := t) (k' := 6) th_t.1 (by decide), zp_i (c := 74) (c' := t) (k' := 6) th_t.1 (by decide), zp_i (c := 75) (c' := t) (k' := 6) th_t.1 (by decide), zp_i (c := 76) (c' := t) (k' := 6) th_t.1 (by decide), zp_i (c := 77) (c' := t) (k' := 6) th_t.1 (by decide), zp_i (c := 87) (c' := t) (k' := 6) th_t.1 (by decide), zp_i (c := 88) (c' := t) (k' := 6) th_t.1 (by decide), zp_i (c := 89) (c' := t) (k' := 6) th_t.1 (by decide), zp_i (c := 90) (c' := t) (k' := 6) th_t.1 (by decide), zp_f (k := 0) (c' := t) (k' := 6) (by decide), zp_f (k := 1) (c' := t) (k' := 6) (by decide), zp_f (k := 2) (c' := t) (k' := 6) (by decide), zp_f (k := 4) (c' := t) (k' := 6) (by decide), zp_f (k := 7) (c' := t) (k' := 6) (by decide), zp_f (k := 8) (c' := t) (k' := 6) (by decide), zp_i (c := 69) (c' := t) (k' := 7) th_t.1 (by decide), zp_i (c := 71) (c' := t) (k' := 7) th_t.1 (by decide), zp_i (c := 72) (c' := t) (k' := 7) th_t.1 (by decide), zp_i (c := 73) (c' := t) (k' := 7) th_t.1 (by decide), zp_i (c := 74) (c' := t) (k' := 7) th_t.1 (by decide), zp_i (c := 75) (c' := t) (k' := 7) th_t.1 (by decide), zp_i (c := 76) (c' := t) (k' := 7) th_t.1 (by decide), zp_i (c := 77) (c' := t) (k' := 7) th_t.1 (by decide), zp_i (c := 87) (c' := t) (k' := 7) th_t.1 (by decide), zp_i (c := 88) (c' := t) (k' := 7) th_t.1 (by decide), zp_i (c := 89) (c' := t) (k' := 7) th_t.1 (by decide), zp_i (c := 90) (c' := t) (k' := 7) th_t.1 (by decide), zp_f (k := 0) (c' := t) (k' := 7) (by decide), zp_f (k := 1) (c' := t) (k' := 7) (by decide), zp_f (k := 2) (c' := t) (k' := 7) (by decide), zp_f (k := 4) (c' := t) (k' := 7) (by decide), zp_f (k := 8) (c' := t) (k' := 7) (by decide)]); rw [hpre1, e7]))
