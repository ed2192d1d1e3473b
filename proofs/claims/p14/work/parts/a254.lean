/-! from 95.s21 -/
/-! REGIONS, the class (written by wip/tools/gen15z.py) -/
theorem g_42_91_sz_0 {X : Nat × (Nat → Int32)} {d w : Nat} {S : ma_S} {Q : Option ma_V ⊕ Nat → ma_S → Prop}  (hd : 0 ≤ d) (hw : 0 ≤ w) (hS : zT S) (h : ma_wp X d w 42 4 [(0, .inr (.inr (some 91))), (1, .inl (0 : Int32)), (2, .inl (0 : Int32))] [] S Q) : ma_wp X d w 42 0 [(0, .inr (.inr (some 91)))] [] S Q := by
  refine zw_push hm_42 dX4_specials_0 (v := .inl (0 : Int32)) rfl ?_
  refine zw_sto hm_42 dX4_specials_1 [(1, .inl (0 : Int32)), (0, .inr (.inr (some 91)))] rfl rfl rfl ?_
  refine zw_push hm_42 dX4_specials_2 (v := .inl (0 : Int32)) rfl ?_
  refine zw_sto hm_42 dX4_specials_3 [(2, .inl (0 : Int32)), (1, .inl (0 : Int32)), (0, .inr (.inr (some 91)))] rfl rfl rfl ?_
  exact zw_sub (ma_nd_of (ks := [0, 1, 2]) rfl (by decide)) (ma_nd_of (ks := [2, 1, 0]) rfl (by decide)) (ma_le_cons rfl (ma_le_cons rfl (ma_le_cons rfl (ma_le_nil _)))) h
theorem g_42_91_sz_4 {X : Nat × (Nat → Int32)} {d w : Nat} {S : ma_S} {Q : Option ma_V ⊕ Nat → ma_S → Prop} (l1 : Int32) (l2 : Int32) (hd : 0 ≤ d) (hw : 0 ≤ w) (hS : zT S) (h : if (mI S 91 3) ≤ l2 then (Q (.inl (some (.inl l1))) S) else (if (93 : Int32) ≤ l2 then (Q (.inl (some (.inl l1))) S) else ((0 ≤ l2 ∧ l2.toNatClampNeg < 93) ∧ (if (mI S 92 l2.toNatClampNeg) = 0 then (ma_wp X d w 42 4 [(0, .inr (.inr (some 91))), (1, .inl (l1 + (1 : Int32))), (2, .inl (l2 + (1 : Int32)))] [] S Q) else (ma_wp X d w 42 4 [(0, .inr (.inr (some 91))), (1, .inl l1), (2, .inl (l2 + (1 : Int32)))] [] S Q))))) : ma_wp X d w 42 4 [(0, .inr (.inr (some 91))), (1, .inl l1), (2, .inl l2)] [] S Q := by
  refine zw_push hm_42 dX4_specials_4 (v := .inl l2) rfl ?_
  refine zw_push hm_42 dX4_specials_5 (v := .inr (.inr (some 91))) rfl ?_
  refine zw_gf hm_42 dX4_specials_6 (v := .inl (mI S 91 3)) (zT_is hS s_91) (zT_t hS s_91) rfl f_4_28_4 rfl ?_
  refine zw_if2 hm_42 dX4_specials_9 (t := 36) rfl zc2_ge ?_ ?_
  · intro hc
    rw [if_pos hc] at h
    refine zw_push hm_42 dX4_specials_36 (v := .inl l1) rfl ?_
    exact zw_iret hm_42 dX4_specials_37 h
  · intro hc
    rw [if_neg hc] at h
    refine zw_push hm_42 dX4_specials_12 (v := .inl l2) rfl ?_
    refine zw_push hm_42 dX4_specials_13 (v := .inl (93 : Int32)) rfl ?_
    refine zw_if2 hm_42 dX4_specials_15 (t := 36) rfl zc2_ge ?_ ?_
    · intro hc
      rw [if_pos hc] at h
      refine zw_push hm_42 dX4_specials_36 (v := .inl l1) rfl ?_
      exact zw_iret hm_42 dX4_specials_37 h
    · intro hc
      rw [if_neg hc] at h
      refine zw_push hm_42 dX4_specials_18 (v := .inr (.inr (some 91))) rfl ?_
      refine zw_gf hm_42 dX4_specials_19 (v := .inr (.inr (some 92))) (zT_is hS s_91) (zT_t hS s_91) rfl f_4_9_4 (zT_f hS r_91_7) ?_
      refine zw_push hm_42 dX4_specials_22 (v := .inl l2) rfl ?_
      obtain ⟨hg, h⟩ := h
      refine zw_ia hm_42 dX4_specials_23 (zT_is hS s_92) (zT_h hS s_92) rfl hg ?_
      show ma_wp X d w 42 24 [(0, .inr (.inr (some 91))), (1, .inl l1), (2, .inl l2)] [.inl (mI S 92 l2.toNatClampNeg)] S _
      refine zw_if0 hm_42 dX4_specials_24 (t := 30) rfl zc0_ne ?_ ?_
      · intro hc
        rw [if_neg hc] at h
        refine zw_sto hm_42 dX4_specials_30 [(2, .inl (l2 + (1 : Int32))), (0, .inr (.inr (some 91))), (1, .inl l1)] rfl rfl rfl ?_
        refine zw_goto hm_42 dX4_specials_33 (t := 4) rfl ?_
        exact zw_sub (ma_nd_of (ks := [0, 1, 2]) rfl (by decide)) (ma_nd_of (ks := [2, 0, 1]) rfl (by decide)) (ma_le_cons rfl (ma_le_cons rfl (ma_le_cons rfl (ma_le_nil _)))) h
      · intro hc
        rw [if_pos (Classical.not_not.mp hc)] at h
        refine zw_sto hm_42 dX4_specials_27 [(1, .inl (l1 + (1 : Int32))), (0, .inr (.inr (some 91))), (2, .inl l2)] rfl rfl rfl ?_
        refine zw_sto hm_42 dX4_specials_30 [(2, .inl (l2 + (1 : Int32))), (1, .inl (l1 + (1 : Int32))), (0, .inr (.inr (some 91)))] rfl rfl rfl ?_
        refine zw_goto hm_42 dX4_specials_33 (t := 4) rfl ?_
        exact zw_sub (ma_nd_of (ks := [0, 1, 2]) rfl (by decide)) (ma_nd_of (ks := [2, 1, 0]) rfl (by decide)) (ma_le_cons rfl (ma_le_cons rfl (ma_le_cons rfl (ma_le_nil _)))) h
theorem lp_42_91_sz_4 {X : Nat × (Nat → Int32)} {d w : Nat} {f : Nat → Nat → Int32} {r : Nat → Nat → Option Nat} {C Z N : Nat} {Q : Option ma_V ⊕ Nat → ma_S → Prop} {S : ma_S} (hd : 0 ≤ d) (hw : 0 ≤ w) (K : ∀ v S₉, S₉ = S → (True) → (v.toInt = rEf (aZ S) 93) → Q (.inl (some (.inl v))) S₉) : ∀ (n : Nat) (l1 : Int32) (l2 : Int32), (93 - l2.toInt).toNat = n → zL91 f r C Z N S → (0 ≤ l2.toInt) → (l2.toInt ≤ 93) → (0 ≤ l1.toInt) → (l1.toInt ≤ l2.toInt) → (l1.toInt = rEf (aZ S) l2.toNatClampNeg) → ma_wp X d w 42 4 [(0, .inr (.inr (some 91))), (1, .inl l1), (2, .inl l2)] [] S Q := by
  intro n
  induction n using Nat.strongRecOn with
  | _ n IH =>
    intro l1 l2 hmu hI  hi0 hi1 hi2 hi3 hi4
    refine g_42_91_sz_4 l1 l2 (by omega) (by omega) (zG_T hI) ?_
    have f1 := zG_s hI (0) (93) (c := 91) (k := 3) (by decide)
    have b2 := i_bd l2
    refine zd (fun h3 => ?_) (fun h3 => ?_)
    · skip
      have g4 := i_le h3
      have b5 := i_bd l1
      exact K (l1) _ rfl trivial (show l1.toInt = rEf (aZ S) 93 from by first | (have i4 := congrArg Int32.toInt (show aZ S 87 4 = mI S 91 3 from rfl); exact Ef_e hi4 (by omega) (by omega) (by omega)))
    · skip
      have g6 := i_nle h3
      have li7 : (93 : Int32).toInt = 93 := rfl
      refine zd (fun h8 => ?_) (fun h8 => ?_)
      · skip
        have g9 := i_le h8
        have b10 := i_bd l1
        exact K (l1) _ rfl trivial (show l1.toInt = rEf (aZ S) 93 from by first | (have i4 := congrArg Int32.toInt (show aZ S 87 4 = mI S 91 3 from rfl); exact Ef_e hi4 (by omega) (by omega) (by omega)))
      · skip
        have g11 := i_nle h8
        refine ⟨i_ix (by omega) (by omega), ?_⟩
        first | have f12 := zG_a hI 93 (0) (3000) (c := 92) (k := l2.toNatClampNeg) (by decide) (i_ix (n := 93) (by omega) (by omega)).2 | have b13 := i_bd (mI S 92 l2.toNatClampNeg)
        have li14 : (0 : Int32).toInt = 0 := rfl
        refine zd (fun h15 => ?_) (fun h15 => ?_)
        · skip
          have g16 := i_eq h15
          have b17 := i_bd l1
          first | have e18 : (l1 + (1 : Int32)).toInt = l1.toInt + (1) := i_addk rfl (by omega) (by omega) | have b19 := i_bd (l1 + (1 : Int32))
          first | have e20 : (l2 + (1 : Int32)).toInt = l2.toInt + (1) := i_addk rfl (by omega) (by omega) | have b21 := i_bd (l2 + (1 : Int32))
          exact IH _ (by omega) ((l1 + (1 : Int32))) ((l2 + (1 : Int32))) rfl hI (by omega) (by omega) (by omega) (by omega) (show ((l1 + (1 : Int32))).toInt = rEf (aZ S) ((l2 + (1 : Int32))).toNatClampNeg from by first | (have i4 := congrArg Int32.toInt (show aZ S 87 4 = mI S 91 3 from rfl); exact Ef_y hi4 (by omega) (by omega) (by rw [aZ_9 (Or.inl rfl)]; omega) (by omega) (by omega)) | (exact Ef_n hi4 (by omega) (by rw [aZ_9 (Or.inl rfl)]; omega) (by omega)))
        · skip
          have g22 := i_ne h15
          have b23 := i_bd l1
          first | have e24 : (l2 + (1 : Int32)).toInt = l2.toInt + (1) := i_addk rfl (by omega) (by omega) | have b25 := i_bd (l2 + (1 : Int32))
          exact IH _ (by omega) (l1) ((l2 + (1 : Int32))) rfl hI (by omega) (by omega) (by omega) (by omega) (show (l1).toInt = rEf (aZ S) ((l2 + (1 : Int32))).toNatClampNeg from by first | (have i4 := congrArg Int32.toInt (show aZ S 87 4 = mI S 91 3 from rfl); exact Ef_y hi4 (by omega) (by omega) (by rw [aZ_9 (Or.inl rfl)]; omega) (by omega) (by omega)) | (exact Ef_n hi4 (by omega) (by rw [aZ_9 (Or.inl rfl)]; omega) (by omega)))
theorem sp_42_91_sz {X : Nat × (Nat → Int32)} {d w : Nat} {f : Nat → Nat → Int32} {r : Nat → Nat → Option Nat} {C Z N : Nat} {Q : Option ma_V ⊕ Nat → ma_S → Prop} {S : ma_S}  (hd : 0 ≤ d) (hw : 0 ≤ w) (hI : zL91 f r C Z N S)  (K : ∀ v S₉, S₉ = S → (True) → (v.toInt = rEf (aZ S) 93) → Q (.inl (some (.inl v))) S₉) : ma_wp X d w 42 0 [(0, .inr (.inr (some 91)))] [] S Q := by
  refine g_42_91_sz_0  (by omega) (by omega) (zG_T hI) ?_
  have li1 : (0 : Int32).toInt = 0 := rfl
  exact lp_42_91_sz_4 (by omega) (by omega) K _ ((0 : Int32)) ((0 : Int32)) rfl hI (by omega) (by omega) (by omega) (by omega) (show ((0 : Int32)).toInt = rEf (aZ S) ((0 : Int32)).toNatClampNeg from by first | (exact rfl))

