/-! REGIONS, the class (written by wip/tools/gen15z.py) -/
theorem g_46_91_sz_0 {X : Nat × (Nat → Int32)} {d w : Nat} {S : ma_S} {Q : Option ma_V ⊕ Nat → ma_S → Prop}  (hd : 0 ≤ d) (hw : 0 ≤ w) (hS : zT S) (h : ma_wp X d w 46 2 [(0, .inr (.inr (some 91))), (1, .inl (0 : Int32))] [] S Q) : ma_wp X d w 46 0 [(0, .inr (.inr (some 91)))] [] S Q := by
  refine zw_push hm_46 dX4_emptyWhereNothingIsLeft_0 (v := .inl (0 : Int32)) rfl ?_
  refine zw_sto hm_46 dX4_emptyWhereNothingIsLeft_1 [(1, .inl (0 : Int32)), (0, .inr (.inr (some 91)))] rfl rfl rfl ?_
  exact zw_sub (ma_nd_of (ks := [0, 1]) rfl (by decide)) (ma_nd_of (ks := [1, 0]) rfl (by decide)) (ma_le_cons rfl (ma_le_cons rfl (ma_le_nil _))) h
theorem g_46_91_sz_2 {X : Nat × (Nat → Int32)} {d w : Nat} {S : ma_S} {Q : Option ma_V ⊕ Nat → ma_S → Prop} (l1 : Int32) (hd : 0 ≤ d) (hw : 0 ≤ w) (hS : zT S) (h : if (93 : Int32) ≤ l1 then (Q (.inl none) S) else ((0 ≤ l1 ∧ l1.toNatClampNeg < 93) ∧ (if (mI S 93 l1.toNatClampNeg) = 0 then ((0 ≤ l1 ∧ l1.toNatClampNeg < 93) ∧ (ma_wp X d w 46 2 [(0, .inr (.inr (some 91))), (1, .inl (l1 + (1 : Int32)))] [] (ma_put S 92 l1.toNatClampNeg (.inl (0 : Int32))) Q)) else (ma_wp X d w 46 2 [(0, .inr (.inr (some 91))), (1, .inl (l1 + (1 : Int32)))] [] S Q)))) : ma_wp X d w 46 2 [(0, .inr (.inr (some 91))), (1, .inl l1)] [] S Q := by
  refine zw_push hm_46 dX4_emptyWhereNothingIsLeft_2 (v := .inl l1) rfl ?_
  refine zw_push hm_46 dX4_emptyWhereNothingIsLeft_3 (v := .inl (93 : Int32)) rfl ?_
  refine zw_if2 hm_46 dX4_emptyWhereNothingIsLeft_5 (t := 30) rfl zc2_ge ?_ ?_
  · intro hc
    rw [if_pos hc] at h
    exact zw_vret hm_46 dX4_emptyWhereNothingIsLeft_30 h
  · intro hc
    rw [if_neg hc] at h
    refine zw_push hm_46 dX4_emptyWhereNothingIsLeft_8 (v := .inr (.inr (some 91))) rfl ?_
    refine zw_gf hm_46 dX4_emptyWhereNothingIsLeft_9 (v := .inr (.inr (some 93))) (zT_is hS s_91) (zT_t hS s_91) rfl f_4_15_4 (zT_f hS r_91_8) ?_
    refine zw_push hm_46 dX4_emptyWhereNothingIsLeft_12 (v := .inl l1) rfl ?_
    obtain ⟨hg, h⟩ := h
    refine zw_ia hm_46 dX4_emptyWhereNothingIsLeft_13 (zT_is hS s_93) (zT_h hS s_93) rfl hg ?_
    show ma_wp X d w 46 14 [(0, .inr (.inr (some 91))), (1, .inl l1)] [.inl (mI S 93 l1.toNatClampNeg)] S _
    refine zw_if0 hm_46 dX4_emptyWhereNothingIsLeft_14 (t := 24) rfl zc0_ne ?_ ?_
    · intro hc
      rw [if_neg hc] at h
      refine zw_sto hm_46 dX4_emptyWhereNothingIsLeft_24 [(1, .inl (l1 + (1 : Int32))), (0, .inr (.inr (some 91)))] rfl rfl rfl ?_
      refine zw_goto hm_46 dX4_emptyWhereNothingIsLeft_27 (t := 2) rfl ?_
      exact zw_sub (ma_nd_of (ks := [0, 1]) rfl (by decide)) (ma_nd_of (ks := [1, 0]) rfl (by decide)) (ma_le_cons rfl (ma_le_cons rfl (ma_le_nil _))) h
    · intro hc
      rw [if_pos (Classical.not_not.mp hc)] at h
      refine zw_push hm_46 dX4_emptyWhereNothingIsLeft_17 (v := .inr (.inr (some 91))) rfl ?_
      refine zw_gf hm_46 dX4_emptyWhereNothingIsLeft_18 (v := .inr (.inr (some 92))) (zT_is hS s_91) (zT_t hS s_91) rfl f_4_9_4 (zT_f hS r_91_7) ?_
      refine zw_push hm_46 dX4_emptyWhereNothingIsLeft_21 (v := .inl l1) rfl ?_
      refine zw_push hm_46 dX4_emptyWhereNothingIsLeft_22 (v := .inl (0 : Int32)) rfl ?_
      obtain ⟨hg, h⟩ := h
      refine zw_ias hm_46 dX4_emptyWhereNothingIsLeft_23 (zT_is hS s_92) (zT_h hS s_92) rfl hg ?_
      refine zw_sto hm_46 dX4_emptyWhereNothingIsLeft_24 [(1, .inl (l1 + (1 : Int32))), (0, .inr (.inr (some 91)))] rfl rfl rfl ?_
      refine zw_goto hm_46 dX4_emptyWhereNothingIsLeft_27 (t := 2) rfl ?_
      exact zw_sub (ma_nd_of (ks := [0, 1]) rfl (by decide)) (ma_nd_of (ks := [1, 0]) rfl (by decide)) (ma_le_cons rfl (ma_le_cons rfl (ma_le_nil _))) h
theorem lp_46_91_sz_2 {X : Nat × (Nat → Int32)} {d w : Nat} {f : Nat → Nat → Int32} {r : Nat → Nat → Option Nat} {C Z N : Nat} {Q : Option ma_V ⊕ Nat → ma_S → Prop} {ab : Nat→Nat→Int32} (hd : 0 ≤ d) (hw : 0 ≤ w) (K : ∀ S', zL91 f r C Z N S' → (xB S' (mR S' 70)) → (aZ S' = rEm ab 93) → Q (.inl none) S') : ∀ (n : Nat) (S : ma_S) (l1 : Int32), (93 - l1.toInt).toNat = n → zL91 f r C Z N S → (0 ≤ l1.toInt) → (l1.toInt ≤ 93) → (xB S (mR S 70)) → (aZ S = rEm ab l1.toNatClampNeg) → ma_wp X d w 46 2 [(0, .inr (.inr (some 91))), (1, .inl l1)] [] S Q := by
  intro n
  induction n using Nat.strongRecOn with
  | _ n IH =>
    intro S l1 hmu hI  hi0 hi1 hi2 hi3
    refine g_46_91_sz_2 l1 (by omega) (by omega) (zG_T hI) ?_
    have li1 : (93 : Int32).toInt = 93 := rfl
    have b2 := i_bd l1
    refine zd (fun h3 => ?_) (fun h3 => ?_)
    · skip
      have g4 := i_le h3
      exact K _ hI (show xB S (mR S 70) from by first | (exact xB_x (xC_o (W := 75) hi2).2)) (show aZ S = rEm ab 93 from by first | (rw [hi3, show l1.toNatClampNeg = 93 from by have := tn_cast (x := l1) (by omega); omega]))
    · skip
      have g5 := i_nle h3
      refine ⟨i_ix (by omega) (by omega), ?_⟩
      have b6 := i_bd (mI S 93 l1.toNatClampNeg)
      have li7 : (0 : Int32).toInt = 0 := rfl
      refine zd (fun h8 => ?_) (fun h8 => ?_)
      · skip
        have g9 := i_eq h8
        refine ⟨i_ix (by omega) (by omega), ?_⟩
        have hI10 : zL91 f r C Z N (ma_put S 92 l1.toNatClampNeg (.inl (0 : Int32))) := zG_sa hI (0) (3000) rfl (by decide) (by decide) (by decide) trivial (by omega) (by omega)
        first | have e11 : (l1 + (1 : Int32)).toInt = l1.toInt + (1) := i_addk rfl (by omega) (by omega) | have b12 := i_bd (l1 + (1 : Int32))
        exact IH _ (by omega) _ ((l1 + (1 : Int32))) rfl hI10 (by omega) (by omega) (show xB (ma_put S 92 l1.toNatClampNeg (.inl (0 : Int32))) (mR (ma_put S 92 l1.toNatClampNeg (.inl (0 : Int32))) 70) from by first | (exact xB_x (xC_n (c := 92) (k := l1.toNatClampNeg) (x := (0 : Int32)) (xC_o (W := 75) hi2) ⟨by decide, Or.inl ⟨rfl, rfl⟩⟩).2)) (show aZ (ma_put S 92 l1.toNatClampNeg (.inl (0 : Int32))) = rEm ab ((l1 + (1 : Int32))).toNatClampNeg from by first | (rw [((Z_p9 (c := 92) (n := l1.toNatClampNeg) (x := (0 : Int32)) (xC_o (W := 75) hi2).2 (by decide)).trans (congrArg (fun q => ma_u q 92 l1.toNatClampNeg (0 : Int32)) (show aZ S = aZ S from rfl)))]; exact Em_go hi3 (by omega) (by omega) (by omega)))
      · skip
        have g13 := i_ne h8
        first | have e14 : (l1 + (1 : Int32)).toInt = l1.toInt + (1) := i_addk rfl (by omega) (by omega) | have b15 := i_bd (l1 + (1 : Int32))
        exact IH _ (by omega) _ ((l1 + (1 : Int32))) rfl hI (by omega) (by omega) (show xB S (mR S 70) from by first | (exact xB_x (xC_o (W := 75) hi2).2)) (show aZ S = rEm ab ((l1 + (1 : Int32))).toNatClampNeg from by first | (exact Em_no hi3 (by omega) (by omega) (by omega)))
theorem sp_46_91_sz {X : Nat × (Nat → Int32)} {d w : Nat} {f : Nat → Nat → Int32} {r : Nat → Nat → Option Nat} {C Z N : Nat} {Q : Option ma_V ⊕ Nat → ma_S → Prop} {ab : Nat→Nat→Int32} {S : ma_S}  (hd : 0 ≤ d) (hw : 0 ≤ w) (hI : zL91 f r C Z N S) (hpre0 : xB S (mR S 70)) (hpre1 : aZ S = ab) (K : ∀ S', zL91 f r C Z N S' → (xB S' (mR S' 70)) → (aZ S' = rEm ab 93) → Q (.inl none) S') : ma_wp X d w 46 0 [(0, .inr (.inr (some 91)))] [] S Q := by
  refine g_46_91_sz_0  (by omega) (by omega) (zG_T hI) ?_
  have li1 : (0 : Int32).toInt = 0 := rfl
  exact lp_46_91_sz_2 (by omega) (by omega) K _ _ ((0 : Int32)) rfl hI (by omega) (by omega) (show xB S (mR S 70) from by first | (exact xB_x (xC_o (W := 75) hpre0).2)) (show aZ S = rEm ab ((0 : Int32)).toNatClampNeg from by first | (rw [hpre1]; exact Em_0.symm))
