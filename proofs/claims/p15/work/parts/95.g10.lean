/-! the heap by numbers, the class (written by wip/tools/gen18.py) -/
theorem g_88_69_s_0 {X : Nat × (Nat → Int32)} {d w : Nat} {S : ma_S} {Q : Option ma_V ⊕ Nat → ma_S → Prop} (x : Int32) (z : Int32) (hd : 0 ≤ d) (hw : 0 ≤ w) (hS : zT S) (h : ma_wp X d w 88 2 [(0, .inr (.inr (some 69))), (2, .inl z), (3, .inl x)] [] S Q) : ma_wp X d w 88 0 [(0, .inr (.inr (some 69))), (1, .inl x), (2, .inl z)] [] S Q := by
  refine zw_push hm_88 dX7_freeWords_0 (v := .inl x) rfl ?_
  refine zw_sto hm_88 dX7_freeWords_1 [(3, .inl x), (0, .inr (.inr (some 69))), (1, .inl x), (2, .inl z)] rfl rfl rfl ?_
  exact zw_sub (ma_nd_of (ks := [0, 2, 3]) rfl (by decide)) (ma_nd_of (ks := [3, 0, 1, 2]) rfl (by decide)) (ma_le_cons rfl (ma_le_cons rfl (ma_le_cons rfl (ma_le_nil _)))) h
theorem g_88_69_s_2 {X : Nat × (Nat → Int32)} {d w : Nat} {S : ma_S} {Q : Option ma_V ⊕ Nat → ma_S → Prop} (l2 : Int32) (l3 : Int32) (hd : 0 ≤ d) (hw : 0 ≤ w) (hS : zT S) (h : if l3 < 0 then (Q (.inl none) S) else (if l2 ≤ l3 then (Q (.inl none) S) else (if (4500 : Int32) ≤ l3 then (Q (.inl none) S) else ((0 ≤ l3 ∧ l3.toNatClampNeg < 4500) ∧ (ma_wp X d w 88 2 [(0, .inr (.inr (some 69))), (2, .inl l2), (3, .inl (l3 + (1 : Int32)))] [] (ma_put S 71 l3.toNatClampNeg (.inl (-1 : Int32))) Q))))) : ma_wp X d w 88 2 [(0, .inr (.inr (some 69))), (2, .inl l2), (3, .inl l3)] [] S Q := by
  refine zw_push hm_88 dX7_freeWords_2 (v := .inl l3) rfl ?_
  refine zw_if0 hm_88 dX7_freeWords_3 (t := 31) rfl zc0_lt ?_ ?_
  · intro hc
    rw [if_pos hc] at h
    exact zw_vret hm_88 dX7_freeWords_31 h
  · intro hc
    rw [if_neg hc] at h
    refine zw_push hm_88 dX7_freeWords_6 (v := .inl l3) rfl ?_
    refine zw_push hm_88 dX7_freeWords_7 (v := .inl l2) rfl ?_
    refine zw_if2 hm_88 dX7_freeWords_8 (t := 31) rfl zc2_ge ?_ ?_
    · intro hc
      rw [if_pos hc] at h
      exact zw_vret hm_88 dX7_freeWords_31 h
    · intro hc
      rw [if_neg hc] at h
      refine zw_push hm_88 dX7_freeWords_11 (v := .inl l3) rfl ?_
      refine zw_push hm_88 dX7_freeWords_12 (v := .inl (4500 : Int32)) rfl ?_
      refine zw_if2 hm_88 dX7_freeWords_15 (t := 31) rfl zc2_ge ?_ ?_
      · intro hc
        rw [if_pos hc] at h
        exact zw_vret hm_88 dX7_freeWords_31 h
      · intro hc
        rw [if_neg hc] at h
        refine zw_push hm_88 dX7_freeWords_18 (v := .inr (.inr (some 69))) rfl ?_
        refine zw_gf hm_88 dX7_freeWords_19 (v := .inr (.inr (some 71))) (zT_is hS s_69) (zT_t hS s_69) rfl f_7_17_7 (zT_f hS r_69_1) ?_
        refine zw_push hm_88 dX7_freeWords_22 (v := .inl l3) rfl ?_
        refine zw_push hm_88 dX7_freeWords_23 (v := .inl (-1 : Int32)) rfl ?_
        obtain ⟨hg, h⟩ := h
        refine zw_ias hm_88 dX7_freeWords_24 (zT_is hS s_71) (zT_h hS s_71) rfl hg ?_
        refine zw_sto hm_88 dX7_freeWords_25 [(3, .inl (l3 + (1 : Int32))), (0, .inr (.inr (some 69))), (2, .inl l2)] rfl rfl rfl ?_
        refine zw_goto hm_88 dX7_freeWords_28 (t := 2) rfl ?_
        exact zw_sub (ma_nd_of (ks := [0, 2, 3]) rfl (by decide)) (ma_nd_of (ks := [3, 0, 2]) rfl (by decide)) (ma_le_cons rfl (ma_le_cons rfl (ma_le_cons rfl (ma_le_nil _)))) h
theorem lp_88_69_s_2 {X : Nat × (Nat → Int32)} {d w : Nat} {f : Nat → Nat → Int32} {r : Nat → Nat → Option Nat} {C Z N : Nat} {Q : Option ma_V ⊕ Nat → ma_S → Prop} {ab : Nat→Nat→Int32} {R : zRT} {W : Nat} {x : Int32} {z : Int32} (hd : 0 ≤ d) (hw : 0 ≤ w) (K : ∀ S', zI f r C Z N S' → (xB S' R) → (aS W S' = zFr ab x.toInt (zMin z.toInt)) → Q (.inl none) S') : ∀ (n : Nat) (S : ma_S) (l2 : Int32) (l3 : Int32), (4500 - l3.toInt).toNat = n → zI f r C Z N S → (x.toInt ≤ l3.toInt) → (l2.toInt = z.toInt) → (0 ≤ x.toInt) → (l3.toInt = x.toInt ∨ (l3.toInt ≤ z.toInt ∧ l3.toInt ≤ 4500)) → (xB S R) → (xW W) → (aS W S = zFr ab x.toInt l3.toInt) → ma_wp X d w 88 2 [(0, .inr (.inr (some 69))), (2, .inl l2), (3, .inl l3)] [] S Q := by
  intro n
  induction n using Nat.strongRecOn with
  | _ n IH =>
    intro S l2 l3 hmu hI  hi0 hi1 hi2 hi3 hi4 hi5 hi6
    refine g_88_69_s_2 l2 l3 (by omega) (by omega) (zG_T hI) ?_
    have b1 := i_bd l3
    have li2 : (0 : Int32).toInt = 0 := rfl
    refine zd (fun h3 => ?_) (fun h3 => ?_)
    · skip
      have g4 := i_lt h3
      exact K _ hI (show xB S R from by first | (exact (xC_o (W := 75) hi4).2)) (show aS W S = zFr ab x.toInt (zMin z.toInt) from by first | (rw [hi6]; exact zFr_e (by unfold zMin; split <;> omega)))
    · skip
      have g5 := i_nlt h3
      have b6 := i_bd l2
      refine zd (fun h7 => ?_) (fun h7 => ?_)
      · skip
        have g8 := i_le h7
        exact K _ hI (show xB S R from by first | (exact (xC_o (W := 75) hi4).2)) (show aS W S = zFr ab x.toInt (zMin z.toInt) from by first | (rw [hi6]; exact zFr_e (by unfold zMin; split <;> omega)))
      · skip
        have g9 := i_nle h7
        have li10 : (4500 : Int32).toInt = 4500 := rfl
        refine zd (fun h11 => ?_) (fun h11 => ?_)
        · skip
          have g12 := i_le h11
          exact K _ hI (show xB S R from by first | (exact (xC_o (W := 75) hi4).2)) (show aS W S = zFr ab x.toInt (zMin z.toInt) from by first | (rw [hi6]; exact zFr_e (by unfold zMin; split <;> omega)))
        · skip
          have g13 := i_nle h11
          refine ⟨i_ix (by omega) (by omega), ?_⟩
          have hI14 : zI f r C Z N (ma_put S 71 l3.toNatClampNeg (.inl (-1 : Int32))) := zG_fa hI rfl (by decide) (by decide) (by decide) trivial
          first | have e15 : (l3 + (1 : Int32)).toInt = l3.toInt + (1) := i_addk rfl (by omega) (by omega) | have b16 := i_bd (l3 + (1 : Int32))
          exact IH _ (by omega) _ (l2) ((l3 + (1 : Int32))) rfl hI14 (by omega) (by omega) (by omega) (by omega) (show xB (ma_put S 71 l3.toNatClampNeg (.inl (-1 : Int32))) R from by first | (exact (xC_p (c := 71) (k := l3.toNatClampNeg) (x := (-1 : Int32)) (xC_o (W := 75) hi4) 71 xW75 rfl rfl).2)) (show xW W from by first | (exact hi5) | (exact xW88)) (show aS W (ma_put S 71 l3.toNatClampNeg (.inl (-1 : Int32))) = zFr ab x.toInt ((l3 + (1 : Int32))).toInt from by first | (refine (xC_p (c := 71) (k := l3.toNatClampNeg) (x := (-1 : Int32)) (xC_o (W := W) hi4) 71 hi5 rfl (zcw_s (by decide))).1.trans ?_; skip; rw [hi6]; exact zFr_s (by omega) (by omega) (by omega)))
theorem sp_88_69_s {X : Nat × (Nat → Int32)} {d w : Nat} {f : Nat → Nat → Int32} {r : Nat → Nat → Option Nat} {C Z N : Nat} {Q : Option ma_V ⊕ Nat → ma_S → Prop} {ab : Nat→Nat→Int32} {R : zRT} {W : Nat} {S : ma_S} (x : Int32) (z : Int32) (hd : 0 ≤ d) (hw : 0 ≤ w) (hI : zI f r C Z N S) (hpre0 : xB S R) (hpre1 : aS W S = ab) (hpre2 : xW W) (hpre3 : 0 ≤ x.toInt) (K : ∀ S', zI f r C Z N S' → (xB S' R) → (aS W S' = zFr ab x.toInt (zMin z.toInt)) → Q (.inl none) S') : ma_wp X d w 88 0 [(0, .inr (.inr (some 69))), (1, .inl x), (2, .inl z)] [] S Q := by
  refine g_88_69_s_0 x z (by omega) (by omega) (zG_T hI) ?_
  have b1 := i_bd z
  have b2 := i_bd x
  exact lp_88_69_s_2 (by omega) (by omega) K _ _ (z) (x) rfl hI (by omega) (by omega) (by omega) (by omega) (show xB S R from by first | (exact (xC_o (W := 75) hpre0).2)) (show xW W from by first | (exact hpre2) | (exact xW88)) (show aS W S = zFr ab x.toInt (x).toInt from by first | (rw [hpre1]; exact (zFr_0 (Int.le_refl _)).symm))
