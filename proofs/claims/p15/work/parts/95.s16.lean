/-! REGIONS, the class (written by wip/tools/gen15z.py) -/
theorem g_48_91_sz_0 {X : Nat × (Nat → Int32)} {d w : Nat} {S : ma_S} {Q : Option ma_V ⊕ Nat → ma_S → Prop}  (hd : 0 ≤ d) (hw : 0 ≤ w) (hS : zT S) (h : ma_wp X d w 48 4 [(0, .inr (.inr (some 91))), (1, .inl (-1 : Int32)), (2, .inl (0 : Int32))] [] S Q) : ma_wp X d w 48 0 [(0, .inr (.inr (some 91)))] [] S Q := by
  refine zw_push hm_48 dX4_fewestLeaving_0 (v := .inl (-1 : Int32)) rfl ?_
  refine zw_sto hm_48 dX4_fewestLeaving_1 [(1, .inl (-1 : Int32)), (0, .inr (.inr (some 91)))] rfl rfl rfl ?_
  refine zw_push hm_48 dX4_fewestLeaving_2 (v := .inl (0 : Int32)) rfl ?_
  refine zw_sto hm_48 dX4_fewestLeaving_3 [(2, .inl (0 : Int32)), (1, .inl (-1 : Int32)), (0, .inr (.inr (some 91)))] rfl rfl rfl ?_
  exact zw_sub (ma_nd_of (ks := [0, 1, 2]) rfl (by decide)) (ma_nd_of (ks := [2, 1, 0]) rfl (by decide)) (ma_le_cons rfl (ma_le_cons rfl (ma_le_cons rfl (ma_le_nil _)))) h
theorem g_48_91_sz_4 {X : Nat × (Nat → Int32)} {d w : Nat} {S : ma_S} {Q : Option ma_V ⊕ Nat → ma_S → Prop} (l1 : Int32) (l2 : Int32) (hd : 0 ≤ d) (hw : 0 ≤ w) (hS : zT S) (h : if (93 : Int32) ≤ l2 then (Q (.inl (some (.inl l1))) S) else ((0 ≤ l2 ∧ l2.toNatClampNeg < 93) ∧ (if (mI S 93 l2.toNatClampNeg) ≤ 0 then (ma_wp X d w 48 4 [(0, .inr (.inr (some 91))), (1, .inl l1), (2, .inl (l2 + (1 : Int32)))] [] S Q) else (if l1 = (-1 : Int32) then (ma_wp X d w 48 4 [(0, .inr (.inr (some 91))), (1, .inl l2), (2, .inl (l2 + (1 : Int32)))] [] S Q) else ((0 ≤ l2 ∧ l2.toNatClampNeg < 93) ∧ ((0 ≤ l1 ∧ l1.toNatClampNeg < 93) ∧ (if (mI S 93 l1.toNatClampNeg) ≤ (mI S 93 l2.toNatClampNeg) then (ma_wp X d w 48 4 [(0, .inr (.inr (some 91))), (1, .inl l1), (2, .inl (l2 + (1 : Int32)))] [] S Q) else (ma_wp X d w 48 4 [(0, .inr (.inr (some 91))), (1, .inl l2), (2, .inl (l2 + (1 : Int32)))] [] S Q)))))))) : ma_wp X d w 48 4 [(0, .inr (.inr (some 91))), (1, .inl l1), (2, .inl l2)] [] S Q := by
  refine zw_push hm_48 dX4_fewestLeaving_4 (v := .inl l2) rfl ?_
  refine zw_push hm_48 dX4_fewestLeaving_5 (v := .inl (93 : Int32)) rfl ?_
  refine zw_if2 hm_48 dX4_fewestLeaving_7 (t := 47) rfl zc2_ge ?_ ?_
  · intro hc
    rw [if_pos hc] at h
    refine zw_push hm_48 dX4_fewestLeaving_47 (v := .inl l1) rfl ?_
    exact zw_iret hm_48 dX4_fewestLeaving_48 h
  · intro hc
    rw [if_neg hc] at h
    refine zw_push hm_48 dX4_fewestLeaving_10 (v := .inr (.inr (some 91))) rfl ?_
    refine zw_gf hm_48 dX4_fewestLeaving_11 (v := .inr (.inr (some 93))) (zT_is hS s_91) (zT_t hS s_91) rfl f_4_15_4 (zT_f hS r_91_8) ?_
    refine zw_push hm_48 dX4_fewestLeaving_14 (v := .inl l2) rfl ?_
    obtain ⟨hg, h⟩ := h
    refine zw_ia hm_48 dX4_fewestLeaving_15 (zT_is hS s_93) (zT_h hS s_93) rfl hg ?_
    show ma_wp X d w 48 16 [(0, .inr (.inr (some 91))), (1, .inl l1), (2, .inl l2)] [.inl (mI S 93 l2.toNatClampNeg)] S _
    refine zw_if0 hm_48 dX4_fewestLeaving_16 (t := 41) rfl zc0_le ?_ ?_
    · intro hc
      rw [if_pos hc] at h
      refine zw_sto hm_48 dX4_fewestLeaving_41 [(2, .inl (l2 + (1 : Int32))), (0, .inr (.inr (some 91))), (1, .inl l1)] rfl rfl rfl ?_
      refine zw_goto hm_48 dX4_fewestLeaving_44 (t := 4) rfl ?_
      exact zw_sub (ma_nd_of (ks := [0, 1, 2]) rfl (by decide)) (ma_nd_of (ks := [2, 0, 1]) rfl (by decide)) (ma_le_cons rfl (ma_le_cons rfl (ma_le_cons rfl (ma_le_nil _)))) h
    · intro hc
      rw [if_neg hc] at h
      refine zw_push hm_48 dX4_fewestLeaving_19 (v := .inl l1) rfl ?_
      refine zw_push hm_48 dX4_fewestLeaving_20 (v := .inl (-1 : Int32)) rfl ?_
      refine zw_if2 hm_48 dX4_fewestLeaving_21 (t := 39) rfl zc2_eq ?_ ?_
      · intro hc
        rw [if_pos hc] at h
        refine zw_push hm_48 dX4_fewestLeaving_39 (v := .inl l2) rfl ?_
        refine zw_sto hm_48 dX4_fewestLeaving_40 [(1, .inl l2), (0, .inr (.inr (some 91))), (2, .inl l2)] rfl rfl rfl ?_
        refine zw_sto hm_48 dX4_fewestLeaving_41 [(2, .inl (l2 + (1 : Int32))), (1, .inl l2), (0, .inr (.inr (some 91)))] rfl rfl rfl ?_
        refine zw_goto hm_48 dX4_fewestLeaving_44 (t := 4) rfl ?_
        exact zw_sub (ma_nd_of (ks := [0, 1, 2]) rfl (by decide)) (ma_nd_of (ks := [2, 1, 0]) rfl (by decide)) (ma_le_cons rfl (ma_le_cons rfl (ma_le_cons rfl (ma_le_nil _)))) h
      · intro hc
        rw [if_neg hc] at h
        refine zw_push hm_48 dX4_fewestLeaving_24 (v := .inr (.inr (some 91))) rfl ?_
        refine zw_gf hm_48 dX4_fewestLeaving_25 (v := .inr (.inr (some 93))) (zT_is hS s_91) (zT_t hS s_91) rfl f_4_15_4 (zT_f hS r_91_8) ?_
        refine zw_push hm_48 dX4_fewestLeaving_28 (v := .inl l2) rfl ?_
        obtain ⟨hg, h⟩ := h
        refine zw_ia hm_48 dX4_fewestLeaving_29 (zT_is hS s_93) (zT_h hS s_93) rfl hg ?_
        show ma_wp X d w 48 30 [(0, .inr (.inr (some 91))), (1, .inl l1), (2, .inl l2)] [.inl (mI S 93 l2.toNatClampNeg)] S _
        refine zw_push hm_48 dX4_fewestLeaving_30 (v := .inr (.inr (some 91))) rfl ?_
        refine zw_gf hm_48 dX4_fewestLeaving_31 (v := .inr (.inr (some 93))) (zT_is hS s_91) (zT_t hS s_91) rfl f_4_15_4 (zT_f hS r_91_8) ?_
        refine zw_push hm_48 dX4_fewestLeaving_34 (v := .inl l1) rfl ?_
        obtain ⟨hg, h⟩ := h
        refine zw_ia hm_48 dX4_fewestLeaving_35 (zT_is hS s_93) (zT_h hS s_93) rfl hg ?_
        show ma_wp X d w 48 36 [(0, .inr (.inr (some 91))), (1, .inl l1), (2, .inl l2)] [.inl (mI S 93 l1.toNatClampNeg), .inl (mI S 93 l2.toNatClampNeg)] S _
        refine zw_if2 hm_48 dX4_fewestLeaving_36 (t := 41) rfl zc2_ge ?_ ?_
        · intro hc
          rw [if_pos hc] at h
          refine zw_sto hm_48 dX4_fewestLeaving_41 [(2, .inl (l2 + (1 : Int32))), (0, .inr (.inr (some 91))), (1, .inl l1)] rfl rfl rfl ?_
          refine zw_goto hm_48 dX4_fewestLeaving_44 (t := 4) rfl ?_
          exact zw_sub (ma_nd_of (ks := [0, 1, 2]) rfl (by decide)) (ma_nd_of (ks := [2, 0, 1]) rfl (by decide)) (ma_le_cons rfl (ma_le_cons rfl (ma_le_cons rfl (ma_le_nil _)))) h
        · intro hc
          rw [if_neg hc] at h
          refine zw_push hm_48 dX4_fewestLeaving_39 (v := .inl l2) rfl ?_
          refine zw_sto hm_48 dX4_fewestLeaving_40 [(1, .inl l2), (0, .inr (.inr (some 91))), (2, .inl l2)] rfl rfl rfl ?_
          refine zw_sto hm_48 dX4_fewestLeaving_41 [(2, .inl (l2 + (1 : Int32))), (1, .inl l2), (0, .inr (.inr (some 91)))] rfl rfl rfl ?_
          refine zw_goto hm_48 dX4_fewestLeaving_44 (t := 4) rfl ?_
          exact zw_sub (ma_nd_of (ks := [0, 1, 2]) rfl (by decide)) (ma_nd_of (ks := [2, 1, 0]) rfl (by decide)) (ma_le_cons rfl (ma_le_cons rfl (ma_le_cons rfl (ma_le_nil _)))) h
theorem lp_48_91_sz_4 {X : Nat × (Nat → Int32)} {d w : Nat} {f : Nat → Nat → Int32} {r : Nat → Nat → Option Nat} {C Z N : Nat} {Q : Option ma_V ⊕ Nat → ma_S → Prop} {S : ma_S} (hd : 0 ≤ d) (hw : 0 ≤ w) (K : ∀ v S', S' = S → (-1 ≤ v.toInt ∧ v.toInt ≤ 92) → (v.toInt = rFw (aZ S)) → Q (.inl (some (.inl v))) S') : ∀ (n : Nat) (l1 : Int32) (l2 : Int32), (93 - l2.toInt).toNat = n → zL91 f r C Z N S → (0 ≤ l2.toInt) → (l2.toInt ≤ 93) → (-1 ≤ l1.toInt) → (l1.toInt ≤ 92) → (l1.toInt = rFg (fun k => (aZ S 93 k).toInt) l2.toNatClampNeg) → ma_wp X d w 48 4 [(0, .inr (.inr (some 91))), (1, .inl l1), (2, .inl l2)] [] S Q := by
  intro n
  induction n using Nat.strongRecOn with
  | _ n IH =>
    intro l1 l2 hmu hI  hi0 hi1 hi2 hi3 hi4
    refine g_48_91_sz_4 l1 l2 (by omega) (by omega) (zG_T hI) ?_
    have li1 : (93 : Int32).toInt = 93 := rfl
    have b2 := i_bd l2
    refine zd (fun h3 => ?_) (fun h3 => ?_)
    · skip
      have g4 := i_le h3
      have b5 := i_bd l1
      exact K (l1) _ rfl (by omega) (show l1.toInt = rFw (aZ S) from by first | (have q := hi4; rw [show l2.toNatClampNeg = 93 from by have := tn_cast (x := l2) (by omega); omega] at q; exact q))
    · skip
      have g6 := i_nle h3
      refine ⟨i_ix (by omega) (by omega), ?_⟩
      have b7 := i_bd (mI S 93 l2.toNatClampNeg)
      have li8 : (0 : Int32).toInt = 0 := rfl
      refine zd (fun h9 => ?_) (fun h9 => ?_)
      · skip
        have g10 := i_le h9
        have b11 := i_bd l1
        first | have e12 : (l2 + (1 : Int32)).toInt = l2.toInt + (1) := i_addk rfl (by omega) (by omega) | have b13 := i_bd (l2 + (1 : Int32))
        exact IH _ (by omega) (l1) ((l2 + (1 : Int32))) rfl hI (by omega) (by omega) (by omega) (by omega) (show (l1).toInt = rFg (fun k => (aZ S 93 k).toInt) ((l2 + (1 : Int32))).toNatClampNeg from by first | (exact Fw_s hi4 (by omega) (by omega) (Or.inr ⟨by omega, rfl⟩)) | (exact Fw_s hi4 (by omega) (by omega) (Or.inl ⟨by omega, by omega, rfl⟩)))
      · skip
        have g14 := i_nle h9
        have b15 := i_bd l1
        have li16 : (-1 : Int32).toInt = -1 := rfl
        refine zd (fun h17 => ?_) (fun h17 => ?_)
        · skip
          have g18 := i_eq h17
          first | have e19 : (l2 + (1 : Int32)).toInt = l2.toInt + (1) := i_addk rfl (by omega) (by omega) | have b20 := i_bd (l2 + (1 : Int32))
          exact IH _ (by omega) (l2) ((l2 + (1 : Int32))) rfl hI (by omega) (by omega) (by omega) (by omega) (show (l2).toInt = rFg (fun k => (aZ S 93 k).toInt) ((l2 + (1 : Int32))).toNatClampNeg from by first | (exact Fw_s hi4 (by omega) (by omega) (Or.inr ⟨by omega, rfl⟩)) | (exact Fw_s hi4 (by omega) (by omega) (Or.inl ⟨by omega, by omega, rfl⟩)))
        · skip
          have g21 := i_ne h17
          refine ⟨i_ix (by omega) (by omega), ?_⟩
          refine ⟨i_ix (by omega) (by omega), ?_⟩
          have b22 := i_bd (mI S 93 l1.toNatClampNeg)
          refine zd (fun h23 => ?_) (fun h23 => ?_)
          · skip
            have g24 := i_le h23
            first | have e25 : (l2 + (1 : Int32)).toInt = l2.toInt + (1) := i_addk rfl (by omega) (by omega) | have b26 := i_bd (l2 + (1 : Int32))
            exact IH _ (by omega) (l1) ((l2 + (1 : Int32))) rfl hI (by omega) (by omega) (by omega) (by omega) (show (l1).toInt = rFg (fun k => (aZ S 93 k).toInt) ((l2 + (1 : Int32))).toNatClampNeg from by first | (exact Fw_s hi4 (by omega) (by omega) (Or.inr ⟨by omega, rfl⟩)) | (exact Fw_s hi4 (by omega) (by omega) (Or.inl ⟨by omega, by omega, rfl⟩)))
          · skip
            have g27 := i_nle h23
            first | have e28 : (l2 + (1 : Int32)).toInt = l2.toInt + (1) := i_addk rfl (by omega) (by omega) | have b29 := i_bd (l2 + (1 : Int32))
            exact IH _ (by omega) (l2) ((l2 + (1 : Int32))) rfl hI (by omega) (by omega) (by omega) (by omega) (show (l2).toInt = rFg (fun k => (aZ S 93 k).toInt) ((l2 + (1 : Int32))).toNatClampNeg from by first | (exact Fw_s hi4 (by omega) (by omega) (Or.inr ⟨by omega, rfl⟩)) | (exact Fw_s hi4 (by omega) (by omega) (Or.inl ⟨by omega, by omega, rfl⟩)))
theorem sp_48_91_sz {X : Nat × (Nat → Int32)} {d w : Nat} {f : Nat → Nat → Int32} {r : Nat → Nat → Option Nat} {C Z N : Nat} {Q : Option ma_V ⊕ Nat → ma_S → Prop} {S : ma_S}  (hd : 0 ≤ d) (hw : 0 ≤ w) (hI : zL91 f r C Z N S)  (K : ∀ v S', S' = S → (-1 ≤ v.toInt ∧ v.toInt ≤ 92) → (v.toInt = rFw (aZ S)) → Q (.inl (some (.inl v))) S') : ma_wp X d w 48 0 [(0, .inr (.inr (some 91)))] [] S Q := by
  refine g_48_91_sz_0  (by omega) (by omega) (zG_T hI) ?_
  have li1 : (-1 : Int32).toInt = -1 := rfl
  have li2 : (0 : Int32).toInt = 0 := rfl
  exact lp_48_91_sz_4 (by omega) (by omega) K _ ((-1 : Int32)) ((0 : Int32)) rfl hI (by omega) (by omega) (by omega) (by omega) (show ((-1 : Int32)).toInt = rFg (fun k => (aZ S 93 k).toInt) ((0 : Int32)).toNatClampNeg from by first | (exact rfl))
