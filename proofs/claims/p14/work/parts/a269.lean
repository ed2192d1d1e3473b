/-! from 95.u21 -/
/-! AGES, the class (written by wip/tools/gen15y.py) -/
theorem g_276_83_sy_0 {X : Nat × (Nat → Int32)} {d w : Nat} {S : ma_S} {Q : Option ma_V ⊕ Nat → ma_S → Prop} (x : Int32) (hd : 0 ≤ d) (hw : 0 ≤ w) (hS : zT S) (h : ma_wp X d w 276 5 [(0, .inr (.inr (some 83))), (1, .inl x), (2, .inl (0 : Int32)), (3, .inl (375 : Int32))] [] S Q) : ma_wp X d w 276 0 [(0, .inr (.inr (some 83))), (1, .inl x)] [] S Q := by
  refine zw_push hm_276 dJ7_fill_53178_0 (v := .inl (0 : Int32)) rfl ?_
  refine zw_sto hm_276 dJ7_fill_53178_1 [(2, .inl (0 : Int32)), (0, .inr (.inr (some 83))), (1, .inl x)] rfl rfl rfl ?_
  refine zw_push hm_276 dJ7_fill_53178_2 (v := .inr (.inr (some 83))) rfl ?_
  refine zw_len hm_276 dJ7_fill_53178_3 (zT_is hS s_83) (zT_h hS s_83) rfl rfl ?_
  refine zw_sto hm_276 dJ7_fill_53178_4 [(3, .inl (375 : Int32)), (2, .inl (0 : Int32)), (0, .inr (.inr (some 83))), (1, .inl x)] rfl rfl rfl ?_
  exact zw_sub (ma_nd_of (ks := [0, 1, 2, 3]) rfl (by decide)) (ma_nd_of (ks := [3, 2, 0, 1]) rfl (by decide)) (ma_le_cons rfl (ma_le_cons rfl (ma_le_cons rfl (ma_le_cons rfl (ma_le_nil _))))) h
theorem g_276_83_sy_5 {X : Nat × (Nat → Int32)} {d w : Nat} {S : ma_S} {Q : Option ma_V ⊕ Nat → ma_S → Prop} (l1 : Int32) (l2 : Int32) (l3 : Int32) (hd : 0 ≤ d) (hw : 0 ≤ w) (hS : zT S) (h : if l3 ≤ l2 then (Q (.inl none) S) else ((0 ≤ l2 ∧ l2.toNatClampNeg < 375) ∧ (ma_wp X d w 276 5 [(0, .inr (.inr (some 83))), (1, .inl l1), (2, .inl (l2 + (1 : Int32))), (3, .inl l3)] [] (ma_put S 83 l2.toNatClampNeg (.inl l1)) Q))) : ma_wp X d w 276 5 [(0, .inr (.inr (some 83))), (1, .inl l1), (2, .inl l2), (3, .inl l3)] [] S Q := by
  refine zw_push hm_276 dJ7_fill_53178_5 (v := .inl l2) rfl ?_
  refine zw_push hm_276 dJ7_fill_53178_6 (v := .inl l3) rfl ?_
  refine zw_if2 hm_276 dJ7_fill_53178_7 (t := 20) rfl zc2_ge ?_ ?_
  · intro hc
    rw [if_pos hc] at h
    exact zw_vret hm_276 dJ7_fill_53178_20 h
  · intro hc
    rw [if_neg hc] at h
    refine zw_push hm_276 dJ7_fill_53178_10 (v := .inr (.inr (some 83))) rfl ?_
    refine zw_push hm_276 dJ7_fill_53178_11 (v := .inl l2) rfl ?_
    refine zw_push hm_276 dJ7_fill_53178_12 (v := .inl l1) rfl ?_
    obtain ⟨hg, h⟩ := h
    refine zw_ias hm_276 dJ7_fill_53178_13 (zT_is hS s_83) (zT_h hS s_83) rfl hg ?_
    refine zw_sto hm_276 dJ7_fill_53178_14 [(2, .inl (l2 + (1 : Int32))), (0, .inr (.inr (some 83))), (1, .inl l1), (3, .inl l3)] rfl rfl rfl ?_
    refine zw_goto hm_276 dJ7_fill_53178_17 (t := 5) rfl ?_
    exact zw_sub (ma_nd_of (ks := [0, 1, 2, 3]) rfl (by decide)) (ma_nd_of (ks := [2, 0, 1, 3]) rfl (by decide)) (ma_le_cons rfl (ma_le_cons rfl (ma_le_cons rfl (ma_le_cons rfl (ma_le_nil _))))) h
theorem lp_276_83_sy_5 {X : Nat × (Nat → Int32)} {d w : Nat} {f : Nat → Nat → Int32} {r : Nat → Nat → Option Nat} {C Z N : Nat} {Q : Option ma_V ⊕ Nat → ma_S → Prop} {ab : Nat→Nat→Int32} {x : Int32} (hd : 0 ≤ d) (hw : 0 ≤ w) (K : ∀ S₉, zJ82 f r C Z N S₉ → (xB S₉ (mR S₉ 70)) → (aG S₉ = zFl ab 83 x 375) → Q (.inl none) S₉) : ∀ (n : Nat) (S : ma_S) (l1 : Int32) (l2 : Int32) (l3 : Int32), (l3.toInt - l2.toInt).toNat = n → zJ82 f r C Z N S → (0 ≤ l2.toInt) → (l3.toInt = 375) → (l2.toInt ≤ 375) → (xB S (mR S 70)) → (aG S = zFl ab 83 l1 l2.toInt) → (l1 = x) → ma_wp X d w 276 5 [(0, .inr (.inr (some 83))), (1, .inl l1), (2, .inl l2), (3, .inl l3)] [] S Q := by
  intro n
  induction n using Nat.strongRecOn with
  | _ n IH =>
    intro S l1 l2 l3 hmu hI  hi0 hi1 hi2 hi3 hi4 hi5
    refine g_276_83_sy_5 l1 l2 l3 (by omega) (by omega) (zG_T hI) ?_
    have b1 := i_bd l3
    have b2 := i_bd l2
    refine zd (fun h3 => ?_) (fun h3 => ?_)
    · skip
      have g4 := i_le h3
      exact K _ hI (show xB S (mR S 70) from by first | (exact xB_x (xC_o (W := 75) hi3).2)) (show aG S = zFl ab 83 x 375 from by first | (rw [hi4, show l2.toInt = 375 from by omega, hi5]))
    · skip
      have g5 := i_nle h3
      refine ⟨i_ix (by omega) (by omega), ?_⟩
      have hI6 : zJ82 f r C Z N (ma_put S 83 l2.toNatClampNeg (.inl l1)) := zG_fa hI rfl (by decide) (by decide) (by decide) (show zJ82_x (mI S) from zG_x hI)
      have b7 := i_bd l1
      first | have e8 : (l2 + (1 : Int32)).toInt = l2.toInt + (1) := i_addk rfl (by omega) (by omega) | have b9 := i_bd (l2 + (1 : Int32))
      exact IH _ (by omega) _ (l1) ((l2 + (1 : Int32))) (l3) rfl hI6 (by omega) (by omega) (by omega) (show xB (ma_put S 83 l2.toNatClampNeg (.inl l1)) (mR (ma_put S 83 l2.toNatClampNeg (.inl l1)) 70) from by first | (exact xB_x (xC_n (c := 83) (k := l2.toNatClampNeg) (x := l1) (xC_o (W := 75) hi3) ⟨by decide, Or.inl ⟨rfl, rfl⟩⟩).2)) (show aG (ma_put S 83 l2.toNatClampNeg (.inl l1)) = zFl ab 83 (l1) ((l2 + (1 : Int32))).toInt from by first | (rw [((G_p8 (n := l2.toNatClampNeg) (x := l1) (xC_o (W := 75) hi3).2).trans (congrArg (fun q => ma_u q 83 l2.toNatClampNeg l1) (show aG S = aG S from rfl))), hi4]; exact zFl_s (by omega) (by omega))) (show (l1) = x from by first | (exact rfl) | (exact hi5))
theorem sp_276_83_sy {X : Nat × (Nat → Int32)} {d w : Nat} {f : Nat → Nat → Int32} {r : Nat → Nat → Option Nat} {C Z N : Nat} {Q : Option ma_V ⊕ Nat → ma_S → Prop} {ab : Nat→Nat→Int32} {S : ma_S} (x : Int32) (hd : 0 ≤ d) (hw : 0 ≤ w) (hI : zJ82 f r C Z N S) (hpre0 : xB S (mR S 70)) (hpre1 : aG S = ab) (K : ∀ S₉, zJ82 f r C Z N S₉ → (xB S₉ (mR S₉ 70)) → (aG S₉ = zFl ab 83 x 375) → Q (.inl none) S₉) : ma_wp X d w 276 0 [(0, .inr (.inr (some 83))), (1, .inl x)] [] S Q := by
  refine g_276_83_sy_0 x (by omega) (by omega) (zG_T hI) ?_
  have b1 := i_bd x
  have li2 : (0 : Int32).toInt = 0 := rfl
  have li3 : (375 : Int32).toInt = 375 := rfl
  exact lp_276_83_sy_5 (by omega) (by omega) K _ _ (x) ((0 : Int32)) ((375 : Int32)) rfl hI (by omega) (by omega) (by omega) (show xB S (mR S 70) from by first | (exact xB_x (xC_o (W := 75) hpre0).2)) (show aG S = zFl ab 83 (x) ((0 : Int32)).toInt from by first | (rw [hpre1]; exact zFl_0.symm)) (show (x) = x from by first | (exact rfl))

/-! from 95.u22 -/
/-! AGES, the class (written by wip/tools/gen15y.py) -/
theorem g_6_82_sy_0 {X : Nat × (Nat → Int32)} {d w : Nat} {S : ma_S} {Q : Option ma_V ⊕ Nat → ma_S → Prop}  (hd : 2 ≤ d) (hw : 46 ≤ w) (hS : zT S) (h : ma_wp X (d - 1) (w - 23) 276 0 [(0, .inr (.inr (some 83))), (1, .inl (0 : Int32))] [] S (zv (fun S1 => zT S1 ∧ (ma_wp X d w 6 10 [(0, .inr (.inr (some 82))), (1, .inl (0 : Int32))] [] S1 Q)) (fun _ _ => False))) : ma_wp X d w 6 0 [(0, .inr (.inr (some 82)))] [] S Q := by
  refine zw_push hm_6 dX0_findDirty_0 (v := .inr (.inr (some 82))) rfl ?_
  refine zw_gf hm_6 dX0_findDirty_1 (v := .inr (.inr (some 83))) (zT_is hS s_82) (zT_t hS s_82) rfl f_1_9_1 (zT_f hS r_82_9) ?_
  refine zw_push hm_6 dX0_findDirty_4 (v := .inl (0 : Int32)) rfl ?_
  refine zw_cs hm_6 dX0_findDirty_5 pn_1_37 sl_1_37 hm_276 [.inl (0 : Int32), .inr (.inr (some 83))] [] rfl ⟨by omega, by omega⟩ rfl (zw_mono h (zv_go ?_ ?_))
  · intro S1 hv
    obtain ⟨hS1, h⟩ := hv
    refine zw_push hm_6 dX0_findDirty_8 (v := .inl (0 : Int32)) rfl ?_
    refine zw_sto hm_6 dX0_findDirty_9 [(1, .inl (0 : Int32)), (0, .inr (.inr (some 82)))] rfl rfl rfl ?_
    exact zw_sub (ma_nd_of (ks := [0, 1]) rfl (by decide)) (ma_nd_of (ks := [1, 0]) rfl (by decide)) (ma_le_cons rfl (ma_le_cons rfl (ma_le_nil _))) h
  · intro x S9 hx
    exact hx.elim
theorem g_6_82_sy_10 {X : Nat × (Nat → Int32)} {d w : Nat} {S : ma_S} {Q : Option ma_V ⊕ Nat → ma_S → Prop} (l1 : Int32) (hd : 2 ≤ d) (hw : 46 ≤ w) (hS : zT S) (h : if (mI S 69 6) ≤ l1 then (Q (.inl none) S) else (if l1 < 0 then (ma_wp X d w 6 10 [(0, .inr (.inr (some 82))), (1, .inl (l1 + (1 : Int32)))] [] S Q) else (if (512 : Int32) ≤ l1 then (ma_wp X d w 6 10 [(0, .inr (.inr (some 82))), (1, .inl (l1 + (1 : Int32)))] [] S Q) else ((0 ≤ l1 ∧ l1.toNatClampNeg < 512) ∧ (((mR S 70 l1.toNatClampNeg) = none → ma_wp X d w 6 10 [(0, .inr (.inr (some 82))), (1, .inl (l1 + (1 : Int32)))] [] S Q) ∧ (∀ c1, (mR S 70 l1.toNatClampNeg) = some c1 → (126 ≤ c1 ∧ c1 < mN S) ∧ (if (mI S c1 4) < (mI S 82 3) then (ma_wp X d w 6 44 [(0, .inr (.inr (some 82))), (1, .inl l1), (2, .inr (.inr (some c1))), (3, .inl (0 : Int32))] [] S Q) else (ma_wp X d w 6 10 [(0, .inr (.inr (some 82))), (1, .inl (l1 + (1 : Int32)))] [] S Q)))))))) : ma_wp X d w 6 10 [(0, .inr (.inr (some 82))), (1, .inl l1)] [] S Q := by
  refine zw_push hm_6 dX0_findDirty_10 (v := .inl l1) rfl ?_
  refine zw_push hm_6 dX0_findDirty_11 (v := .inr (.inr (some 82))) rfl ?_
  refine zw_gf hm_6 dX0_findDirty_12 (v := .inr (.inr (some 69))) (zT_is hS s_82) (zT_t hS s_82) rfl f_1_80_1 (zT_f hS r_82_0) ?_
  refine zw_gf hm_6 dX0_findDirty_15 (v := .inl (mI S 69 6)) (zT_is hS s_69) (zT_t hS s_69) rfl f_1_119_7 rfl ?_
  refine zw_if2 hm_6 dX0_findDirty_18 (t := 81) rfl zc2_ge ?_ ?_
  · intro hc
    rw [if_pos hc] at h
    exact zw_vret hm_6 dX0_findDirty_81 h
  · intro hc
    rw [if_neg hc] at h
    refine zw_push hm_6 dX0_findDirty_21 (v := .inr (.inr (some 82))) rfl ?_
    refine zw_gf hm_6 dX0_findDirty_22 (v := .inr (.inr (some 69))) (zT_is hS s_82) (zT_t hS s_82) rfl f_1_80_1 (zT_f hS r_82_0) ?_
    refine zw_push hm_6 dX0_findDirty_25 (v := .inl l1) rfl ?_
    refine zw_cv hm_6 dX0_findDirty_26 v_1_122_7 hm_81 [.inl l1] [] rfl (zT_rt hS s_69 rfl) ⟨by omega, by omega⟩ rfl ?_
    show ma_wp X (d - 1) (w - 21) 81 0 [(0, .inr (.inr (some 69))), (1, .inl l1)] [] S _
    refine zw_push hm_81 dX7_thingAt_0 (v := .inl l1) rfl ?_
    refine zw_if0 hm_81 dX7_thingAt_1 (t := 20) rfl zc0_lt ?_ ?_
    · intro hc
      rw [if_pos hc] at h
      refine zw_push hm_81 dX7_thingAt_20 (v := .inr (.inr none)) rfl ?_
      refine zw_aret hm_81 dX7_thingAt_21 ?_
      show ma_wp X d w 6 29 [(0, .inr (.inr (some 82))), (1, .inl l1)] [.inr (.inr none)] S _
      refine zw_sto hm_6 dX0_findDirty_29 [(2, .inr (.inr none)), (0, .inr (.inr (some 82))), (1, .inl l1)] rfl rfl rfl ?_
      refine zw_push hm_6 dX0_findDirty_30 (v := .inr (.inr none)) rfl ?_
      refine zw_ifnull hm_6 dX0_findDirty_31 (t := 75) rfl (fun _ => ?_) (fun _ z => by cases z)
      refine zw_sto hm_6 dX0_findDirty_75 [(1, .inl (l1 + (1 : Int32))), (2, .inr (.inr none)), (0, .inr (.inr (some 82)))] rfl rfl rfl ?_
      refine zw_goto hm_6 dX0_findDirty_78 (t := 10) rfl ?_
      exact zw_sub (ma_nd_of (ks := [0, 1]) rfl (by decide)) (ma_nd_of (ks := [1, 2, 0]) rfl (by decide)) (ma_le_cons rfl (ma_le_cons rfl (ma_le_nil _))) h
    · intro hc
      rw [if_neg hc] at h
      refine zw_push hm_81 dX7_thingAt_4 (v := .inl l1) rfl ?_
      refine zw_push hm_81 dX7_thingAt_5 (v := .inl (512 : Int32)) rfl ?_
      refine zw_if2 hm_81 dX7_thingAt_8 (t := 20) rfl zc2_ge ?_ ?_
      · intro hc
        rw [if_pos hc] at h
        refine zw_push hm_81 dX7_thingAt_20 (v := .inr (.inr none)) rfl ?_
        refine zw_aret hm_81 dX7_thingAt_21 ?_
        show ma_wp X d w 6 29 [(0, .inr (.inr (some 82))), (1, .inl l1)] [.inr (.inr none)] S _
        refine zw_sto hm_6 dX0_findDirty_29 [(2, .inr (.inr none)), (0, .inr (.inr (some 82))), (1, .inl l1)] rfl rfl rfl ?_
        refine zw_push hm_6 dX0_findDirty_30 (v := .inr (.inr none)) rfl ?_
        refine zw_ifnull hm_6 dX0_findDirty_31 (t := 75) rfl (fun _ => ?_) (fun _ z => by cases z)
        refine zw_sto hm_6 dX0_findDirty_75 [(1, .inl (l1 + (1 : Int32))), (2, .inr (.inr none)), (0, .inr (.inr (some 82)))] rfl rfl rfl ?_
        refine zw_goto hm_6 dX0_findDirty_78 (t := 10) rfl ?_
        exact zw_sub (ma_nd_of (ks := [0, 1]) rfl (by decide)) (ma_nd_of (ks := [1, 2, 0]) rfl (by decide)) (ma_le_cons rfl (ma_le_cons rfl (ma_le_nil _))) h
      · intro hc
        rw [if_neg hc] at h
        refine zw_push hm_81 dX7_thingAt_11 (v := .inr (.inr (some 69))) rfl ?_
        refine zw_gf hm_81 dX7_thingAt_12 (v := .inr (.inr (some 70))) (zT_is hS s_69) (zT_t hS s_69) rfl f_7_11_7 (zT_f hS r_69_0) ?_
        refine zw_push hm_81 dX7_thingAt_15 (v := .inl l1) rfl ?_
        obtain ⟨hg, h⟩ := h
        refine zw_aa hm_81 dX7_thingAt_16 (zT_is hS s_70) (zT_h hS s_70) rfl rfl hg rfl ?_
        show ma_wp X (d - 1) (w - 21) 81 17 [(0, .inr (.inr (some 69))), (1, .inl l1)] [.inr (.inr (mR S 70 l1.toNatClampNeg))] S _
        refine zw_goto hm_81 dX7_thingAt_17 (t := 21) rfl ?_
        refine zw_aret hm_81 dX7_thingAt_21 ?_
        show ma_wp X d w 6 29 [(0, .inr (.inr (some 82))), (1, .inl l1)] [.inr (.inr (mR S 70 l1.toNatClampNeg))] S _
        refine zw_sto hm_6 dX0_findDirty_29 [(2, .inr (.inr (mR S 70 l1.toNatClampNeg))), (0, .inr (.inr (some 82))), (1, .inl l1)] rfl rfl rfl ?_
        refine zw_push hm_6 dX0_findDirty_30 (v := .inr (.inr (mR S 70 l1.toNatClampNeg))) rfl ?_
        refine zw_ifnull hm_6 dX0_findDirty_31 (t := 75) rfl ?_ ?_
        · intro hc
          have h := h.1 hc
          (try rw [hc])
          show ma_wp X d w 6 75 [(2, .inr (.inr none)), (0, .inr (.inr (some 82))), (1, .inl l1)] [] S _
          refine zw_sto hm_6 dX0_findDirty_75 [(1, .inl (l1 + (1 : Int32))), (2, .inr (.inr none)), (0, .inr (.inr (some 82)))] rfl rfl rfl ?_
          refine zw_goto hm_6 dX0_findDirty_78 (t := 10) rfl ?_
          exact zw_sub (ma_nd_of (ks := [0, 1]) rfl (by decide)) (ma_nd_of (ks := [1, 2, 0]) rfl (by decide)) (ma_le_cons rfl (ma_le_cons rfl (ma_le_nil _))) h
        · intro c1 hc
          have h := h.2 c1 hc
          (try rw [hc])
          show ma_wp X d w 6 34 [(2, .inr (.inr (some c1))), (0, .inr (.inr (some 82))), (1, .inl l1)] [] S _
          refine zw_push hm_6 dX0_findDirty_34 (v := .inr (.inr (some 82))) rfl ?_
          refine zw_push hm_6 dX0_findDirty_35 (v := .inr (.inr (some c1))) rfl ?_
          refine zw_cv hm_6 dX0_findDirty_36 v_1_58_1 hm_7 [.inr (.inr (some c1))] [] rfl (zT_rt hS s_82 rfl) ⟨by omega, by omega⟩ rfl ?_
          show ma_wp X (d - 1) (w - 21) 7 0 [(0, .inr (.inr (some 82))), (1, .inr (.inr (some c1)))] [] S _
          refine zw_push hm_7 dX0_isYoung_0 (v := .inr (.inr (some c1))) rfl ?_
          obtain ⟨hg, h⟩ := h
          refine zw_gf hm_7 dX0_isYoung_1 (v := .inl (mI S c1 4)) (zT_tis hS hg) (zT_tt hS hg) rfl f_1_62_9 rfl ?_
          refine zw_push hm_7 dX0_isYoung_4 (v := .inr (.inr (some 82))) rfl ?_
          refine zw_gf hm_7 dX0_isYoung_5 (v := .inl (mI S 82 3)) (zT_is hS s_82) (zT_t hS s_82) rfl f_1_19_1 rfl ?_
          refine zw_if2 hm_7 dX0_isYoung_8 (t := 15) rfl zc2_lt ?_ ?_
          · intro hc
            rw [if_pos hc] at h
            refine zw_push hm_7 dX0_isYoung_15 (v := .inl (0 : Int32)) rfl ?_
            refine zw_bret hm_7 dX0_isYoung_16 (by decide) ?_
            show ma_wp X d w 6 39 [(2, .inr (.inr (some c1))), (0, .inr (.inr (some 82))), (1, .inl l1)] [.inl (0 : Int32)] S _
            refine zw_if0 hm_6 dX0_findDirty_39 (t := 75) rfl zc0_ne (fun hc => absurd hc (by decide)) (fun _ => ?_)
            refine zw_push hm_6 dX0_findDirty_42 (v := .inl (0 : Int32)) rfl ?_
            refine zw_sto hm_6 dX0_findDirty_43 [(3, .inl (0 : Int32)), (2, .inr (.inr (some c1))), (0, .inr (.inr (some 82))), (1, .inl l1)] rfl rfl rfl ?_
            exact zw_sub (ma_nd_of (ks := [0, 1, 2, 3]) rfl (by decide)) (ma_nd_of (ks := [3, 2, 0, 1]) rfl (by decide)) (ma_le_cons rfl (ma_le_cons rfl (ma_le_cons rfl (ma_le_cons rfl (ma_le_nil _))))) h
          · intro hc
            rw [if_neg hc] at h
            refine zw_push hm_7 dX0_isYoung_11 (v := .inl (1 : Int32)) rfl ?_
            refine zw_goto hm_7 dX0_isYoung_12 (t := 16) rfl ?_
            refine zw_bret hm_7 dX0_isYoung_16 (by decide) ?_
            show ma_wp X d w 6 39 [(2, .inr (.inr (some c1))), (0, .inr (.inr (some 82))), (1, .inl l1)] [.inl (1 : Int32)] S _
            refine zw_if0 hm_6 dX0_findDirty_39 (t := 75) rfl zc0_ne (fun _ => ?_) (fun hc => absurd (by decide) hc)
            refine zw_sto hm_6 dX0_findDirty_75 [(1, .inl (l1 + (1 : Int32))), (2, .inr (.inr (some c1))), (0, .inr (.inr (some 82)))] rfl rfl rfl ?_
            refine zw_goto hm_6 dX0_findDirty_78 (t := 10) rfl ?_
            exact zw_sub (ma_nd_of (ks := [0, 1]) rfl (by decide)) (ma_nd_of (ks := [1, 2, 0]) rfl (by decide)) (ma_le_cons rfl (ma_le_cons rfl (ma_le_nil _))) h
theorem g_6_82_sy_44 {X : Nat × (Nat → Int32)} {d w : Nat} {S : ma_S} {Q : Option ma_V ⊕ Nat → ma_S → Prop} (l1 : Int32) (l2 : Nat) (l3 : Int32) (hd : 2 ≤ d) (hw : 46 ≤ w) (hS : zT S) (h : (126 ≤ l2 ∧ l2 < mN S) ∧ (if ((mI S l2 2) - (1 : Int32)) ≤ l3 then (ma_wp X d w 6 10 [(0, .inr (.inr (some 82))), (1, .inl (l1 + (1 : Int32)))] [] S Q) else (ma_wp X (d - 1) (w - 25) 82 0 [(0, .inr (.inr (some 69))), (1, .inr (.inr (some l2))), (2, .inl l3)] [] S (zo (fun v2 S1 => zT S1 ∧ (ma_wp X (d - 1) (w - 24) 8 0 [(0, .inr (.inr (some 82))), (1, .inr (.inr (some l2))), (2, .inl l3), (3, .inr (.inr v2))] [] S1 (zv (fun S3 => zT S3 ∧ (ma_wp X d w 6 44 [(0, .inr (.inr (some 82))), (1, .inl l1), (2, .inr (.inr (some l2))), (3, .inl (l3 + (1 : Int32)))] [] S3 Q)) (fun x S9 => Q (.inr x) S9)))) (fun x S9 => Q (.inr x) S9))))) : ma_wp X d w 6 44 [(0, .inr (.inr (some 82))), (1, .inl l1), (2, .inr (.inr (some l2))), (3, .inl l3)] [] S Q := by
  refine zw_push hm_6 dX0_findDirty_44 (v := .inl l3) rfl ?_
  refine zw_push hm_6 dX0_findDirty_45 (v := .inr (.inr (some l2))) rfl ?_
  obtain ⟨hg, h⟩ := h
  refine zw_gf hm_6 dX0_findDirty_46 (v := .inl (mI S l2 2)) (zT_tis hS hg) (zT_tt hS hg) rfl f_1_67_9 rfl ?_
  refine zw_push hm_6 dX0_findDirty_49 (v := .inl (1 : Int32)) rfl ?_
  refine zw_stk hm_6 dX0_findDirty_50 (st₉ := [.inl ((mI S l2 2) - (1 : Int32)), .inl l3]) rfl rfl ?_
  refine zw_if2 hm_6 dX0_findDirty_51 (t := 75) rfl zc2_ge ?_ ?_
  · intro hc
    rw [if_pos hc] at h
    refine zw_sto hm_6 dX0_findDirty_75 [(1, .inl (l1 + (1 : Int32))), (0, .inr (.inr (some 82))), (2, .inr (.inr (some l2))), (3, .inl l3)] rfl rfl rfl ?_
    refine zw_goto hm_6 dX0_findDirty_78 (t := 10) rfl ?_
    exact zw_sub (ma_nd_of (ks := [0, 1]) rfl (by decide)) (ma_nd_of (ks := [1, 0, 2, 3]) rfl (by decide)) (ma_le_cons rfl (ma_le_cons rfl (ma_le_nil _))) h
  · intro hc
    rw [if_neg hc] at h
    refine zw_push hm_6 dX0_findDirty_54 (v := .inr (.inr (some 82))) rfl ?_
    refine zw_push hm_6 dX0_findDirty_55 (v := .inr (.inr (some l2))) rfl ?_
    refine zw_push hm_6 dX0_findDirty_56 (v := .inl l3) rfl ?_
    refine zw_push hm_6 dX0_findDirty_57 (v := .inr (.inr (some 82))) rfl ?_
    refine zw_gf hm_6 dX0_findDirty_58 (v := .inr (.inr (some 69))) (zT_is hS s_82) (zT_t hS s_82) rfl f_1_80_1 (zT_f hS r_82_0) ?_
    refine zw_push hm_6 dX0_findDirty_61 (v := .inr (.inr (some l2))) rfl ?_
    refine zw_push hm_6 dX0_findDirty_62 (v := .inl l3) rfl ?_
    refine zw_cv hm_6 dX0_findDirty_63 v_1_140_7 hm_82 [.inl l3, .inr (.inr (some l2))] [.inl l3, .inr (.inr (some l2)), .inr (.inr (some 82))] rfl (zT_rt hS s_69 rfl) ⟨by omega, by omega⟩ rfl (zw_mono h (zo_go ?_ ?_))
    · intro v2 S1 hv
      obtain ⟨hS1, h⟩ := hv
      refine zw_cv hm_6 dX0_findDirty_66 v_1_160_1 hm_8 [.inr (.inr v2), .inl l3, .inr (.inr (some l2))] [] rfl (zT_rt hS1 s_82 rfl) ⟨by omega, by omega⟩ rfl (zw_mono h (zv_go ?_ ?_))
      · intro S3 hv
        obtain ⟨hS3, h⟩ := hv
        refine zw_sto hm_6 dX0_findDirty_69 [(3, .inl (l3 + (1 : Int32))), (0, .inr (.inr (some 82))), (1, .inl l1), (2, .inr (.inr (some l2)))] rfl rfl rfl ?_
        refine zw_goto hm_6 dX0_findDirty_72 (t := 44) rfl ?_
        exact zw_sub (ma_nd_of (ks := [0, 1, 2, 3]) rfl (by decide)) (ma_nd_of (ks := [3, 0, 1, 2]) rfl (by decide)) (ma_le_cons rfl (ma_le_cons rfl (ma_le_cons rfl (ma_le_cons rfl (ma_le_nil _))))) h
      · intro x S9 hx
        exact ⟨by decide, hx⟩
    · intro x S9 hx
      exact ⟨by decide, hx⟩
theorem lp_6_82_sy_44 {X : Nat × (Nat → Int32)} {d w : Nat} {f : Nat → Nat → Int32} {r : Nat → Nat → Option Nat} {C Z N : Nat} {Q : Option ma_V ⊕ Nat → ma_S → Prop} {ab : Nat→Nat→Int32} (hd : 2 ≤ d) (hw : 46 ≤ w) (K : ∀ S₉, zJ82 f r C Z N S₉ → (xB S₉ (mR S₉ 70)) → (aG S₉ = gFd ab) → Q (.inl none) S₉) {nB : Nat} (OUT : ∀ (S₉ : ma_S) (l1 : Int32), (512 - l1.toInt).toNat < nB → zJ82 f r C Z N S₉ → (0 ≤ l1.toInt) → (l1.toInt ≤ 512) → (xB S₉ (mR S₉ 70)) → (qI ab) → (aG S₉ = gF1 ab l1.toNatClampNeg) → ma_wp X d w 6 10 [(0, .inr (.inr (some 82))), (1, .inl l1)] [] S₉ Q) : ∀ (n : Nat) (S : ma_S) (l1 : Int32) (l2 : Nat) (l3 : Int32), (61 - l3.toInt).toNat = n → zJ82 f r C Z N S → (126 ≤ l2 ∧ l2 < N) → (0 ≤ l1.toInt) → (l1.toInt < 512) → ((512 - l1.toInt).toNat = nB) → (0 ≤ l3.toInt) → (xB S (mR S 70)) → (qI ab) → (zTa (mR S 70) l1 = some l2) → (ab 126 l1.toNatClampNeg ≠ 0 ∧ (ab 130 l1.toNatClampNeg).toInt < (ab 87 9).toInt) → (l3.toInt ≤ (ab 128 l1.toNatClampNeg).toInt - 1) → (aG S = gF2 ab l1.toNatClampNeg l3.toNatClampNeg) → ma_wp X d w 6 44 [(0, .inr (.inr (some 82))), (1, .inl l1), (2, .inr (.inr (some l2))), (3, .inl l3)] [] S Q := by
  intro n
  induction n using Nat.strongRecOn with
  | _ n IH =>
    intro S l1 l2 l3 hmu hI th_l2 hi0 hi1 hi2 hi3 hi4 hi5 hi6 hi7 hi8 hi9
    refine g_6_82_sy_44 l1 l2 l3 (by omega) (by omega) (zG_T hI) ?_
    refine ⟨zG_n hI th_l2, ?_⟩
    have f1 := zG_th hI th_l2
    first | have e2 : ((mI S l2 2) - (1 : Int32)).toInt = (mI S l2 2).toInt - (1) := i_subk rfl (by omega) (by omega) | have b3 := i_bd ((mI S l2 2) - (1 : Int32))
    have b4 := i_bd l3
    refine zd (fun h5 => ?_) (fun h5 => ?_)
    · skip
      have g6 := i_le h5
      have b7 := i_bd l1
      first | have e8 : (l1 + (1 : Int32)).toInt = l1.toInt + (1) := i_addk rfl (by omega) (by omega) | have b9 := i_bd (l1 + (1 : Int32))
      exact OUT _ ((l1 + (1 : Int32))) (by omega) hI (by omega) (by omega) (show xB S (mR S 70) from by first | (exact xB_x (xC_o (W := 75) hi4).2)) (show qI ab from by first | (exact hi5)) (show aG S = gF1 ab ((l1 + (1 : Int32))).toNatClampNeg from by first | (have ty := xB_th (W := 75) hi4 hi6; have g2 := hi9; have e2 : (ab 128 l1.toNatClampNeg).toInt = (mI S l2 2).toInt := (by rw [← F2_r (a := ab) (n := l1.toNatClampNeg) (j := l3.toNatClampNeg) (c := 128) (by decide), ← g2, aG_o (by decide) (by decide), ← ty.2.2.2.2.1]); have tc := tn_cast (x := l1) (by omega); have tc2 := tn_cast (x := (l1 + (1 : Int32))) (by omega); rw [show (l1 + (1 : Int32)).toNatClampNeg = l1.toNatClampNeg + 1 from by omega]; rw [g2]; have f7 := hi8; exact F2_e hi7.1 hi7.2 (by rw [e2]; have := tn_cast (x := l3) (by omega); omega)))
    · skip
      have g10 := i_nle h5
      refine sp_82_69_s (R := (mR S 70)) (W := 75) (y := l1) l2 (l3) (by omega) (by omega) (zJ82_dn hI) th_l2 (show xB S (mR S 70) from by first | (exact xB_x (xC_o (W := 75) hi4).2)) (show zTa (mR S 70) l1 = some l2 from by first | (exact hi6)) (by omega) (fun v2 S1 eS_S1 hq_v2 rp0_S1 => zo_n ⟨(by rw [eS_S1]; exact zG_T hI), ?_⟩)
      replace eS_S1 := eS_S1.symm; subst eS_S1
      have rp0_S1 : v2 = zTa (mR S 70) (aRef (aS 75 S) l1.toNatClampNeg l3) := rp0_S1
      refine sp_8_82_sy (ab := (aG S)) (R := (mR S 70)) (y := ((aRef (aS 75 S) l1.toNatClampNeg l3))) (yt := (l1)) l2 (l3) (v2) (by omega) (by omega) hI th_l2 hq_v2 (show xB S (mR S 70) from by first | (exact xB_x (xC_o (W := 75) hi4).2)) (show aG S = (aG S) from by first | (exact rfl)) (show zTa (mR S 70) (l1) = some l2 from by first | (exact hi6)) (show v2 = zTa (mR S 70) ((aRef (aS 75 S) l1.toNatClampNeg l3)) from by first | (exact rp0_S1)) (by omega) (by omega) (fun S3 hI_S3 rp0_S3 rp1_S3 => zv_n ⟨zG_T hI_S3, ?_⟩)
      have rp0_S3 : xB S3 (mR S 70) := rp0_S3
      have rp1_S3 : aG S3 = (gNr (aG S) (l1).toNatClampNeg l3.toInt ((aRef (aS 75 S) l1.toNatClampNeg l3))) := rp1_S3
      have b11 := i_bd l1
      first | have e12 : (l3 + (1 : Int32)).toInt = l3.toInt + (1) := i_addk rfl (by omega) (by omega) | have b13 := i_bd (l3 + (1 : Int32))
      exact IH _ (by omega) _ (l1) l2 ((l3 + (1 : Int32))) rfl hI_S3 th_l2 (by omega) (by omega) (by omega) (by omega) (show xB S3 (mR S3 70) from by first | (exact xB_x (xC_o (W := 75) rp0_S3).2)) (show qI ab from by first | (exact hi5)) (show zTa (mR S3 70) (l1) = some l2 from by first | (rw [rp0_S3.1]; exact hi6)) (show ab 126 (l1).toNatClampNeg ≠ 0 ∧ (ab 130 (l1).toNatClampNeg).toInt < (ab 87 9).toInt from by first | (exact hi7)) (show ((l3 + (1 : Int32))).toInt ≤ (ab 128 (l1).toNatClampNeg).toInt - 1 from by first | (have ty := xB_th (W := 75) hi4 hi6; have g2 := hi9; have e2 : (ab 128 l1.toNatClampNeg).toInt = (mI S l2 2).toInt := (by rw [← F2_r (a := ab) (n := l1.toNatClampNeg) (j := l3.toNatClampNeg) (c := 128) (by decide), ← g2, aG_o (by decide) (by decide), ← ty.2.2.2.2.1]); omega)) (show aG S3 = gF2 ab (l1).toNatClampNeg ((l3 + (1 : Int32))).toNatClampNeg from by first | (have g2 := hi9; have i6 := hi5; have tc := tn_cast (x := l3) (by omega); have tc2 := tn_cast (x := (l3 + (1 : Int32))) (by omega); rw [rp1_S3, G_rf, g2, show (l3 + (1 : Int32)).toNatClampNeg = l3.toNatClampNeg + 1 from by omega, show l3.toInt = (l3.toNatClampNeg : Int) from by omega]; exact Nr_s hi7.2 (ofN_tn (by omega)) (hi5.1 l1.toNatClampNeg ⟨by have := tn_cast (x := l1) (by omega); omega, hi7.1⟩).1.2))
theorem lp_6_82_sy_10 {X : Nat × (Nat → Int32)} {d w : Nat} {f : Nat → Nat → Int32} {r : Nat → Nat → Option Nat} {C Z N : Nat} {Q : Option ma_V ⊕ Nat → ma_S → Prop} {ab : Nat→Nat→Int32} (hd : 2 ≤ d) (hw : 46 ≤ w) (K : ∀ S₉, zJ82 f r C Z N S₉ → (xB S₉ (mR S₉ 70)) → (aG S₉ = gFd ab) → Q (.inl none) S₉) : ∀ (n : Nat) (S : ma_S) (l1 : Int32), (512 - l1.toInt).toNat = n → zJ82 f r C Z N S → (0 ≤ l1.toInt) → (l1.toInt ≤ 512) → (xB S (mR S 70)) → (qI ab) → (aG S = gF1 ab l1.toNatClampNeg) → ma_wp X d w 6 10 [(0, .inr (.inr (some 82))), (1, .inl l1)] [] S Q := by
  intro n
  induction n using Nat.strongRecOn with
  | _ n IH =>
    intro S l1 hmu hI  hi0 hi1 hi2 hi3 hi4
    refine g_6_82_sy_10 l1 (by omega) (by omega) (zG_T hI) ?_
    have f1 := zG_s hI (0) (512) (c := 69) (k := 6) (by decide)
    have b2 := i_bd l1
    refine zd (fun h3 => ?_) (fun h3 => ?_)
    · skip
      have g4 := i_le h3
      exact K _ hI (show xB S (mR S 70) from by first | (exact xB_x (xC_o (W := 75) hi2).2)) (show aG S = gFd ab from by first | (have g1 := hi4; have r6 := congrArg Int32.toInt (show ab 69 6 = mI S 69 6 from (by rw [← F1_r (a := ab) (n := l1.toNatClampNeg) (c := 69) (by decide), ← g1]; exact (aG_o (by decide) (by decide)).trans (aS_I rfl rfl))); have tc := tn_cast (x := l1) (by omega); rw [g1]; exact F1_end hi3 (by omega) (by omega)))
    · skip
      have g5 := i_nle h3
      have li6 : (0 : Int32).toInt = 0 := rfl
      refine zd (fun h7 => ?_) (fun h7 => ?_)
      · skip
        have g8 := i_lt h7
        first | have e9 : (l1 + (1 : Int32)).toInt = l1.toInt + (1) := i_addk rfl (by omega) (by omega) | have b10 := i_bd (l1 + (1 : Int32))
        exact IH _ (by omega) _ ((l1 + (1 : Int32))) rfl hI (by omega) (by omega) (show xB S (mR S 70) from by first | (exact xB_x (xC_o (W := 75) hi2).2)) (show qI ab from by first | (exact hi3)) (show aG S = gF1 ab ((l1 + (1 : Int32))).toNatClampNeg from by first | (exfalso; omega))
      · skip
        have g11 := i_nlt h7
        have li12 : (512 : Int32).toInt = 512 := rfl
        refine zd (fun h13 => ?_) (fun h13 => ?_)
        · skip
          have g14 := i_le h13
          first | have e15 : (l1 + (1 : Int32)).toInt = l1.toInt + (1) := i_addk rfl (by omega) (by omega) | have b16 := i_bd (l1 + (1 : Int32))
          exact IH _ (by omega) _ ((l1 + (1 : Int32))) rfl hI (by omega) (by omega) (show xB S (mR S 70) from by first | (exact xB_x (xC_o (W := 75) hi2).2)) (show qI ab from by first | (exact hi3)) (show aG S = gF1 ab ((l1 + (1 : Int32))).toNatClampNeg from by first | (exfalso; omega))
        · skip
          have g17 := i_nle h13
          refine ⟨i_ix (by omega) (by omega), ?_⟩
          refine ⟨fun hc => ?_, fun c1 hc => ?_⟩
          · skip
            have rn_c1 : zTa (mR S 70) l1 = none := (ta_rd (y := l1) hi2 (by omega) (by omega)).symm.trans hc
            first | have e18 : (l1 + (1 : Int32)).toInt = l1.toInt + (1) := i_addk rfl (by omega) (by omega) | have b19 := i_bd (l1 + (1 : Int32))
            exact IH _ (by omega) _ ((l1 + (1 : Int32))) rfl hI (by omega) (by omega) (show xB S (mR S 70) from by first | (exact xB_x (xC_o (W := 75) hi2).2)) (show qI ab from by first | (exact hi3)) (show aG S = gF1 ab ((l1 + (1 : Int32))).toNatClampNeg from by first | (have g1 := hi4; have tc := tn_cast (x := l1) (by omega); have tc2 := tn_cast (x := (l1 + (1 : Int32))) (by omega); rw [show (l1 + (1 : Int32)).toNatClampNeg = l1.toNatClampNeg + 1 from by omega]; rw [gF1_n (fun z => xB_nt (W := 75) hi2 rn_c1 ⟨by omega, by omega, by rw [← aG_o (by decide) (by decide), g1, F1_r (by decide)]; exact z.1⟩)]; exact g1))
          · skip
            have th_c1 := (fun _ z => zG_70 hI (c := 70) (by decide) z) c1 hc
            have rg_c1 : zTa (mR S 70) l1 = some c1 := (ta_rd (y := l1) hi2 (by omega) (by omega)).symm.trans hc
            refine ⟨zG_n hI th_c1, ?_⟩
            have f20 := zG_th hI th_c1
            have x21 : (mI S 82 3).toInt ≤ (mI S 82 7).toInt ∧ (mI S 82 7).toInt ≤ (mI S 82 3).toInt + (mI S 82 2).toInt := zG_x hI
            have f22 := zG_s hI (0) (1500) (c := 82) (k := 3) (by decide)
            refine zd (fun h23 => ?_) (fun h23 => ?_)
            · skip
              have g24 := i_lt h23
              exact lp_6_82_sy_44 (by omega) (by omega) K (fun _ _ z1 z2 z3 z4 z5 z6 z7 => IH _ z1 _ _ rfl z2 z3 z4 z5 z6 z7) _ _ (l1) c1 ((0 : Int32)) rfl hI th_c1 (by omega) (by omega) (by omega) (by omega) (show xB S (mR S 70) from by first | (exact xB_x (xC_o (W := 75) hi2).2)) (show qI ab from by first | (exact hi3)) (show zTa (mR S 70) (l1) = some c1 from by first | (exact rg_c1)) (show ab 126 (l1).toNatClampNeg ≠ 0 ∧ (ab 130 (l1).toNatClampNeg).toInt < (ab 87 9).toInt from by first | (have g1 := hi4; have ty := xB_th (W := 75) hi2 rg_c1; refine ⟨?_, ?_⟩; (rw [← F1_r (a := ab) (n := l1.toNatClampNeg) (c := 126) (by decide), ← g1, aG_o (by decide) (by decide), ty.2.2.2.2.2.2.2.2]; decide); (rw [← F1_r (a := ab) (n := l1.toNatClampNeg) (c := 130) (by decide), ← F1_r (a := ab) (n := l1.toNatClampNeg) (c := 87) (by decide), ← g1, aG_o (c := 130) (by decide) (by decide), ← ty.2.2.2.2.2.1]; show (mI S c1 4).toInt < (mI S 82 3).toInt; omega))) (show ((0 : Int32)).toInt ≤ (ab 128 (l1).toNatClampNeg).toInt - 1 from by first | (have ty := xB_th (W := 75) hi2 rg_c1; have g1 := hi4; have e2 : (ab 128 l1.toNatClampNeg).toInt = (mI S c1 2).toInt := (by rw [← F1_r (a := ab) (n := l1.toNatClampNeg) (c := 128) (by decide), ← g1, aG_o (by decide) (by decide), ← ty.2.2.2.2.1]); have zt := zG_th hI th_c1; have t0 : (0 : Int32).toInt = 0 := rfl; omega)) (show aG S = gF2 ab (l1).toNatClampNeg ((0 : Int32)).toNatClampNeg from by first | (rw [hi4]; exact F2_0.symm))
            · skip
              have g25 := i_nlt h23
              first | have e26 : (l1 + (1 : Int32)).toInt = l1.toInt + (1) := i_addk rfl (by omega) (by omega) | have b27 := i_bd (l1 + (1 : Int32))
              exact IH _ (by omega) _ ((l1 + (1 : Int32))) rfl hI (by omega) (by omega) (show xB S (mR S 70) from by first | (exact xB_x (xC_o (W := 75) hi2).2)) (show qI ab from by first | (exact hi3)) (show aG S = gF1 ab ((l1 + (1 : Int32))).toNatClampNeg from by first | (have g1 := hi4; have ty := xB_th (W := 75) hi2 rg_c1; have tc := tn_cast (x := l1) (by omega); have tc2 := tn_cast (x := (l1 + (1 : Int32))) (by omega); rw [show (l1 + (1 : Int32)).toNatClampNeg = l1.toNatClampNeg + 1 from by omega]; rw [gF1_n (fun z => ?_)]; (exact g1); (have z2 := z.2; rw [← F1_r (a := ab) (n := l1.toNatClampNeg) (c := 130) (by decide), ← F1_r (a := ab) (n := l1.toNatClampNeg) (c := 87) (by decide), ← g1, aG_o (c := 130) (by decide) (by decide), ← ty.2.2.2.2.2.1] at z2; have z3 : (mI S c1 4).toInt < (mI S 82 3).toInt := z2; omega)) | (exfalso; omega))
theorem sp_6_82_sy {X : Nat × (Nat → Int32)} {d w : Nat} {f : Nat → Nat → Int32} {r : Nat → Nat → Option Nat} {C Z N : Nat} {Q : Option ma_V ⊕ Nat → ma_S → Prop} {ab : Nat→Nat→Int32} {S : ma_S}  (hd : 2 ≤ d) (hw : 46 ≤ w) (hI : zJ82 f r C Z N S) (hpre0 : xB S (mR S 70)) (hpre1 : aG S = ab) (hpre2 : qI ab) (K : ∀ S₉, zJ82 f r C Z N S₉ → (xB S₉ (mR S₉ 70)) → (aG S₉ = gFd ab) → Q (.inl none) S₉) : ma_wp X d w 6 0 [(0, .inr (.inr (some 82)))] [] S Q := by
  refine g_6_82_sy_0  (by omega) (by omega) (zG_T hI) ?_
  have li1 : (0 : Int32).toInt = 0 := rfl
  refine sp_276_83_sy (ab := (aG S)) ((0 : Int32)) (by omega) (by omega) hI (show xB S (mR S 70) from by first | (exact xB_x (xC_o (W := 75) hpre0).2)) (show aG S = (aG S) from by first | (exact rfl)) (fun S1 hI_S1 rp0_S1 rp1_S1 => zv_n ⟨zG_T hI_S1, ?_⟩)
  have rp0_S1 : xB S1 (mR S1 70) := rp0_S1
  have rp1_S1 : aG S1 = zFl (aG S) 83 (0 : Int32) 375 := rp1_S1
  exact lp_6_82_sy_10 (by omega) (by omega) K _ _ ((0 : Int32)) rfl hI_S1 (by omega) (by omega) (show xB S1 (mR S1 70) from by first | (exact xB_x (xC_o (W := 75) rp0_S1).2)) (show qI ab from by first | (exact hpre2) | (rw [hpre1]; exact hpre2)) (show aG S1 = gF1 ab ((0 : Int32)).toNatClampNeg from by first | (rw [rp1_S1, hpre1]; exact gF1_0.symm))

