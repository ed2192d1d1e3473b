/-! the class behind (written by wip/tools/gen95c.py) -/
theorem g_276_71_0 {X : Nat × (Nat → Int32)} {d w : Nat} {S : ma_S} {Q : Option ma_V ⊕ Nat → ma_S → Prop} (x : Int32) (hd : 0 ≤ d) (hw : 0 ≤ w) (hS : zT S) (h : ma_wp X d w 276 5 [(0, .inr (.inr (some 71))), (1, .inl x), (2, .inl (0 : Int32)), (3, .inl (4500 : Int32))] [] S Q) : ma_wp X d w 276 0 [(0, .inr (.inr (some 71))), (1, .inl x)] [] S Q := by
  refine zw_push hm_276 dJ7_fill_53178_0 (v := .inl (0 : Int32)) rfl ?_
  refine zw_sto hm_276 dJ7_fill_53178_1 [(2, .inl (0 : Int32)), (0, .inr (.inr (some 71))), (1, .inl x)] rfl rfl rfl ?_
  refine zw_push hm_276 dJ7_fill_53178_2 (v := .inr (.inr (some 71))) rfl ?_
  refine zw_len hm_276 dJ7_fill_53178_3 (zT_is hS s_71) (zT_h hS s_71) rfl rfl ?_
  refine zw_sto hm_276 dJ7_fill_53178_4 [(3, .inl (4500 : Int32)), (2, .inl (0 : Int32)), (0, .inr (.inr (some 71))), (1, .inl x)] rfl rfl rfl ?_
  exact zw_sub (ma_nd_of (ks := [0, 1, 2, 3]) rfl (by decide)) (ma_nd_of (ks := [3, 2, 0, 1]) rfl (by decide)) (ma_le_cons rfl (ma_le_cons rfl (ma_le_cons rfl (ma_le_cons rfl (ma_le_nil _))))) h
theorem g_276_71_5 {X : Nat × (Nat → Int32)} {d w : Nat} {S : ma_S} {Q : Option ma_V ⊕ Nat → ma_S → Prop} (l1 : Int32) (l2 : Int32) (l3 : Int32) (hd : 0 ≤ d) (hw : 0 ≤ w) (hS : zT S) (h : if l3 ≤ l2 then (Q (.inl none) S) else ((0 ≤ l2 ∧ l2.toNatClampNeg < 4500) ∧ (ma_wp X d w 276 5 [(0, .inr (.inr (some 71))), (1, .inl l1), (2, .inl (l2 + (1 : Int32))), (3, .inl l3)] [] (ma_put S 71 l2.toNatClampNeg (.inl l1)) Q))) : ma_wp X d w 276 5 [(0, .inr (.inr (some 71))), (1, .inl l1), (2, .inl l2), (3, .inl l3)] [] S Q := by
  refine zw_push hm_276 dJ7_fill_53178_5 (v := .inl l2) rfl ?_
  refine zw_push hm_276 dJ7_fill_53178_6 (v := .inl l3) rfl ?_
  refine zw_if2 hm_276 dJ7_fill_53178_7 (t := 20) rfl zc2_ge ?_ ?_
  · intro hc
    rw [if_pos hc] at h
    exact zw_vret hm_276 dJ7_fill_53178_20 h
  · intro hc
    rw [if_neg hc] at h
    refine zw_push hm_276 dJ7_fill_53178_10 (v := .inr (.inr (some 71))) rfl ?_
    refine zw_push hm_276 dJ7_fill_53178_11 (v := .inl l2) rfl ?_
    refine zw_push hm_276 dJ7_fill_53178_12 (v := .inl l1) rfl ?_
    obtain ⟨hg, h⟩ := h
    refine zw_ias hm_276 dJ7_fill_53178_13 (zT_is hS s_71) (zT_h hS s_71) rfl hg ?_
    refine zw_sto hm_276 dJ7_fill_53178_14 [(2, .inl (l2 + (1 : Int32))), (0, .inr (.inr (some 71))), (1, .inl l1), (3, .inl l3)] rfl rfl rfl ?_
    refine zw_goto hm_276 dJ7_fill_53178_17 (t := 5) rfl ?_
    exact zw_sub (ma_nd_of (ks := [0, 1, 2, 3]) rfl (by decide)) (ma_nd_of (ks := [2, 0, 1, 3]) rfl (by decide)) (ma_le_cons rfl (ma_le_cons rfl (ma_le_cons rfl (ma_le_cons rfl (ma_le_nil _))))) h
theorem lp_276_71_5 {X : Nat × (Nat → Int32)} {d w : Nat} {f : Nat → Nat → Int32} {r : Nat → Nat → Option Nat} {C Z N : Nat} {Q : Option ma_V ⊕ Nat → ma_S → Prop} (hd : 0 ≤ d) (hw : 0 ≤ w) (K : ∀ S', zI f r C Z N S' → Q (.inl none) S') : ∀ (n : Nat) (S : ma_S) (l1 : Int32) (l2 : Int32) (l3 : Int32), (l3.toInt - l2.toInt).toNat = n → zI f r C Z N S → (0 ≤ l2.toInt) → (l3.toInt = 4500) → ma_wp X d w 276 5 [(0, .inr (.inr (some 71))), (1, .inl l1), (2, .inl l2), (3, .inl l3)] [] S Q := by
  intro n
  induction n using Nat.strongRecOn with
  | _ n IH =>
    intro S l1 l2 l3 hmu hI  hi0 hi1
    refine g_276_71_5 l1 l2 l3 (by omega) (by omega) (zG_T hI) ?_
    have b1 := i_bd l3
    have b2 := i_bd l2
    refine zd (fun h3 => ?_) (fun h3 => ?_)
    · skip
      have g4 := i_le h3
      exact K _ hI
    · skip
      have g5 := i_nle h3
      refine ⟨i_ix (by omega) (by omega), ?_⟩
      have hI6 : zI f r C Z N (ma_put S 71 l2.toNatClampNeg (.inl l1)) := zG_fa hI rfl (by decide) (by decide) (by decide) trivial
      have b7 := i_bd l1
      first | have e8 : (l2 + (1 : Int32)).toInt = l2.toInt + (1) := i_addk rfl (by omega) (by omega) | have b9 := i_bd (l2 + (1 : Int32))
      exact IH _ (by omega) _ (l1) ((l2 + (1 : Int32))) (l3) rfl hI6 (by omega) (by omega)
theorem sp_276_71 {X : Nat × (Nat → Int32)} {d w : Nat} {f : Nat → Nat → Int32} {r : Nat → Nat → Option Nat} {C Z N : Nat} {Q : Option ma_V ⊕ Nat → ma_S → Prop} {S : ma_S} (x : Int32) (hd : 0 ≤ d) (hw : 0 ≤ w) (hI : zI f r C Z N S)  (K : ∀ S', zI f r C Z N S' → Q (.inl none) S') : ma_wp X d w 276 0 [(0, .inr (.inr (some 71))), (1, .inl x)] [] S Q := by
  refine g_276_71_0 x (by omega) (by omega) (zG_T hI) ?_
  have b1 := i_bd x
  have li2 : (0 : Int32).toInt = 0 := rfl
  have li3 : (4500 : Int32).toInt = 4500 := rfl
  exact lp_276_71_5 (by omega) (by omega) K _ _ (x) ((0 : Int32)) ((4500 : Int32)) rfl hI (by omega) (by omega)
theorem g_276_72_0 {X : Nat × (Nat → Int32)} {d w : Nat} {S : ma_S} {Q : Option ma_V ⊕ Nat → ma_S → Prop} (x : Int32) (hd : 0 ≤ d) (hw : 0 ≤ w) (hS : zT S) (h : ma_wp X d w 276 5 [(0, .inr (.inr (some 72))), (1, .inl x), (2, .inl (0 : Int32)), (3, .inl (16 : Int32))] [] S Q) : ma_wp X d w 276 0 [(0, .inr (.inr (some 72))), (1, .inl x)] [] S Q := by
  refine zw_push hm_276 dJ7_fill_53178_0 (v := .inl (0 : Int32)) rfl ?_
  refine zw_sto hm_276 dJ7_fill_53178_1 [(2, .inl (0 : Int32)), (0, .inr (.inr (some 72))), (1, .inl x)] rfl rfl rfl ?_
  refine zw_push hm_276 dJ7_fill_53178_2 (v := .inr (.inr (some 72))) rfl ?_
  refine zw_len hm_276 dJ7_fill_53178_3 (zT_is hS s_72) (zT_h hS s_72) rfl rfl ?_
  refine zw_sto hm_276 dJ7_fill_53178_4 [(3, .inl (16 : Int32)), (2, .inl (0 : Int32)), (0, .inr (.inr (some 72))), (1, .inl x)] rfl rfl rfl ?_
  exact zw_sub (ma_nd_of (ks := [0, 1, 2, 3]) rfl (by decide)) (ma_nd_of (ks := [3, 2, 0, 1]) rfl (by decide)) (ma_le_cons rfl (ma_le_cons rfl (ma_le_cons rfl (ma_le_cons rfl (ma_le_nil _))))) h
theorem g_276_72_5 {X : Nat × (Nat → Int32)} {d w : Nat} {S : ma_S} {Q : Option ma_V ⊕ Nat → ma_S → Prop} (l1 : Int32) (l2 : Int32) (l3 : Int32) (hd : 0 ≤ d) (hw : 0 ≤ w) (hS : zT S) (h : if l3 ≤ l2 then (Q (.inl none) S) else ((0 ≤ l2 ∧ l2.toNatClampNeg < 16) ∧ (ma_wp X d w 276 5 [(0, .inr (.inr (some 72))), (1, .inl l1), (2, .inl (l2 + (1 : Int32))), (3, .inl l3)] [] (ma_put S 72 l2.toNatClampNeg (.inl l1)) Q))) : ma_wp X d w 276 5 [(0, .inr (.inr (some 72))), (1, .inl l1), (2, .inl l2), (3, .inl l3)] [] S Q := by
  refine zw_push hm_276 dJ7_fill_53178_5 (v := .inl l2) rfl ?_
  refine zw_push hm_276 dJ7_fill_53178_6 (v := .inl l3) rfl ?_
  refine zw_if2 hm_276 dJ7_fill_53178_7 (t := 20) rfl zc2_ge ?_ ?_
  · intro hc
    rw [if_pos hc] at h
    exact zw_vret hm_276 dJ7_fill_53178_20 h
  · intro hc
    rw [if_neg hc] at h
    refine zw_push hm_276 dJ7_fill_53178_10 (v := .inr (.inr (some 72))) rfl ?_
    refine zw_push hm_276 dJ7_fill_53178_11 (v := .inl l2) rfl ?_
    refine zw_push hm_276 dJ7_fill_53178_12 (v := .inl l1) rfl ?_
    obtain ⟨hg, h⟩ := h
    refine zw_ias hm_276 dJ7_fill_53178_13 (zT_is hS s_72) (zT_h hS s_72) rfl hg ?_
    refine zw_sto hm_276 dJ7_fill_53178_14 [(2, .inl (l2 + (1 : Int32))), (0, .inr (.inr (some 72))), (1, .inl l1), (3, .inl l3)] rfl rfl rfl ?_
    refine zw_goto hm_276 dJ7_fill_53178_17 (t := 5) rfl ?_
    exact zw_sub (ma_nd_of (ks := [0, 1, 2, 3]) rfl (by decide)) (ma_nd_of (ks := [2, 0, 1, 3]) rfl (by decide)) (ma_le_cons rfl (ma_le_cons rfl (ma_le_cons rfl (ma_le_cons rfl (ma_le_nil _))))) h
theorem lp_276_72_5 {X : Nat × (Nat → Int32)} {d w : Nat} {f : Nat → Nat → Int32} {r : Nat → Nat → Option Nat} {C Z N : Nat} {Q : Option ma_V ⊕ Nat → ma_S → Prop} (hd : 0 ≤ d) (hw : 0 ≤ w) (K : ∀ S', zI f r C Z N S' → Q (.inl none) S') : ∀ (n : Nat) (S : ma_S) (l1 : Int32) (l2 : Int32) (l3 : Int32), (l3.toInt - l2.toInt).toNat = n → zI f r C Z N S → (0 ≤ l2.toInt) → (l3.toInt = 16) → ma_wp X d w 276 5 [(0, .inr (.inr (some 72))), (1, .inl l1), (2, .inl l2), (3, .inl l3)] [] S Q := by
  intro n
  induction n using Nat.strongRecOn with
  | _ n IH =>
    intro S l1 l2 l3 hmu hI  hi0 hi1
    refine g_276_72_5 l1 l2 l3 (by omega) (by omega) (zG_T hI) ?_
    have b1 := i_bd l3
    have b2 := i_bd l2
    refine zd (fun h3 => ?_) (fun h3 => ?_)
    · skip
      have g4 := i_le h3
      exact K _ hI
    · skip
      have g5 := i_nle h3
      refine ⟨i_ix (by omega) (by omega), ?_⟩
      have hI6 : zI f r C Z N (ma_put S 72 l2.toNatClampNeg (.inl l1)) := zG_fa hI rfl (by decide) (by decide) (by decide) trivial
      have b7 := i_bd l1
      first | have e8 : (l2 + (1 : Int32)).toInt = l2.toInt + (1) := i_addk rfl (by omega) (by omega) | have b9 := i_bd (l2 + (1 : Int32))
      exact IH _ (by omega) _ (l1) ((l2 + (1 : Int32))) (l3) rfl hI6 (by omega) (by omega)
theorem sp_276_72 {X : Nat × (Nat → Int32)} {d w : Nat} {f : Nat → Nat → Int32} {r : Nat → Nat → Option Nat} {C Z N : Nat} {Q : Option ma_V ⊕ Nat → ma_S → Prop} {S : ma_S} (x : Int32) (hd : 0 ≤ d) (hw : 0 ≤ w) (hI : zI f r C Z N S)  (K : ∀ S', zI f r C Z N S' → Q (.inl none) S') : ma_wp X d w 276 0 [(0, .inr (.inr (some 72))), (1, .inl x)] [] S Q := by
  refine g_276_72_0 x (by omega) (by omega) (zG_T hI) ?_
  have b1 := i_bd x
  have li2 : (0 : Int32).toInt = 0 := rfl
  have li3 : (16 : Int32).toInt = 16 := rfl
  exact lp_276_72_5 (by omega) (by omega) K _ _ (x) ((0 : Int32)) ((16 : Int32)) rfl hI (by omega) (by omega)
theorem g_276_73_0 {X : Nat × (Nat → Int32)} {d w : Nat} {S : ma_S} {Q : Option ma_V ⊕ Nat → ma_S → Prop} (x : Int32) (hd : 0 ≤ d) (hw : 0 ≤ w) (hS : zT S) (h : ma_wp X d w 276 5 [(0, .inr (.inr (some 73))), (1, .inl x), (2, .inl (0 : Int32)), (3, .inl (16 : Int32))] [] S Q) : ma_wp X d w 276 0 [(0, .inr (.inr (some 73))), (1, .inl x)] [] S Q := by
  refine zw_push hm_276 dJ7_fill_53178_0 (v := .inl (0 : Int32)) rfl ?_
  refine zw_sto hm_276 dJ7_fill_53178_1 [(2, .inl (0 : Int32)), (0, .inr (.inr (some 73))), (1, .inl x)] rfl rfl rfl ?_
  refine zw_push hm_276 dJ7_fill_53178_2 (v := .inr (.inr (some 73))) rfl ?_
  refine zw_len hm_276 dJ7_fill_53178_3 (zT_is hS s_73) (zT_h hS s_73) rfl rfl ?_
  refine zw_sto hm_276 dJ7_fill_53178_4 [(3, .inl (16 : Int32)), (2, .inl (0 : Int32)), (0, .inr (.inr (some 73))), (1, .inl x)] rfl rfl rfl ?_
  exact zw_sub (ma_nd_of (ks := [0, 1, 2, 3]) rfl (by decide)) (ma_nd_of (ks := [3, 2, 0, 1]) rfl (by decide)) (ma_le_cons rfl (ma_le_cons rfl (ma_le_cons rfl (ma_le_cons rfl (ma_le_nil _))))) h
theorem g_276_73_5 {X : Nat × (Nat → Int32)} {d w : Nat} {S : ma_S} {Q : Option ma_V ⊕ Nat → ma_S → Prop} (l1 : Int32) (l2 : Int32) (l3 : Int32) (hd : 0 ≤ d) (hw : 0 ≤ w) (hS : zT S) (h : if l3 ≤ l2 then (Q (.inl none) S) else ((0 ≤ l2 ∧ l2.toNatClampNeg < 16) ∧ (ma_wp X d w 276 5 [(0, .inr (.inr (some 73))), (1, .inl l1), (2, .inl (l2 + (1 : Int32))), (3, .inl l3)] [] (ma_put S 73 l2.toNatClampNeg (.inl l1)) Q))) : ma_wp X d w 276 5 [(0, .inr (.inr (some 73))), (1, .inl l1), (2, .inl l2), (3, .inl l3)] [] S Q := by
  refine zw_push hm_276 dJ7_fill_53178_5 (v := .inl l2) rfl ?_
  refine zw_push hm_276 dJ7_fill_53178_6 (v := .inl l3) rfl ?_
  refine zw_if2 hm_276 dJ7_fill_53178_7 (t := 20) rfl zc2_ge ?_ ?_
  · intro hc
    rw [if_pos hc] at h
    exact zw_vret hm_276 dJ7_fill_53178_20 h
  · intro hc
    rw [if_neg hc] at h
    refine zw_push hm_276 dJ7_fill_53178_10 (v := .inr (.inr (some 73))) rfl ?_
    refine zw_push hm_276 dJ7_fill_53178_11 (v := .inl l2) rfl ?_
    refine zw_push hm_276 dJ7_fill_53178_12 (v := .inl l1) rfl ?_
    obtain ⟨hg, h⟩ := h
    refine zw_ias hm_276 dJ7_fill_53178_13 (zT_is hS s_73) (zT_h hS s_73) rfl hg ?_
    refine zw_sto hm_276 dJ7_fill_53178_14 [(2, .inl (l2 + (1 : Int32))), (0, .inr (.inr (some 73))), (1, .inl l1), (3, .inl l3)] rfl rfl rfl ?_
    refine zw_goto hm_276 dJ7_fill_53178_17 (t := 5) rfl ?_
    exact zw_sub (ma_nd_of (ks := [0, 1, 2, 3]) rfl (by decide)) (ma_nd_of (ks := [2, 0, 1, 3]) rfl (by decide)) (ma_le_cons rfl (ma_le_cons rfl (ma_le_cons rfl (ma_le_cons rfl (ma_le_nil _))))) h
theorem lp_276_73_5 {X : Nat × (Nat → Int32)} {d w : Nat} {f : Nat → Nat → Int32} {r : Nat → Nat → Option Nat} {C Z N : Nat} {Q : Option ma_V ⊕ Nat → ma_S → Prop} (hd : 0 ≤ d) (hw : 0 ≤ w) (K : ∀ S', zI f r C Z N S' → Q (.inl none) S') : ∀ (n : Nat) (S : ma_S) (l1 : Int32) (l2 : Int32) (l3 : Int32), (l3.toInt - l2.toInt).toNat = n → zI f r C Z N S → (0 ≤ l2.toInt) → (l3.toInt = 16) → ma_wp X d w 276 5 [(0, .inr (.inr (some 73))), (1, .inl l1), (2, .inl l2), (3, .inl l3)] [] S Q := by
  intro n
  induction n using Nat.strongRecOn with
  | _ n IH =>
    intro S l1 l2 l3 hmu hI  hi0 hi1
    refine g_276_73_5 l1 l2 l3 (by omega) (by omega) (zG_T hI) ?_
    have b1 := i_bd l3
    have b2 := i_bd l2
    refine zd (fun h3 => ?_) (fun h3 => ?_)
    · skip
      have g4 := i_le h3
      exact K _ hI
    · skip
      have g5 := i_nle h3
      refine ⟨i_ix (by omega) (by omega), ?_⟩
      have hI6 : zI f r C Z N (ma_put S 73 l2.toNatClampNeg (.inl l1)) := zG_fa hI rfl (by decide) (by decide) (by decide) trivial
      have b7 := i_bd l1
      first | have e8 : (l2 + (1 : Int32)).toInt = l2.toInt + (1) := i_addk rfl (by omega) (by omega) | have b9 := i_bd (l2 + (1 : Int32))
      exact IH _ (by omega) _ (l1) ((l2 + (1 : Int32))) (l3) rfl hI6 (by omega) (by omega)
theorem sp_276_73 {X : Nat × (Nat → Int32)} {d w : Nat} {f : Nat → Nat → Int32} {r : Nat → Nat → Option Nat} {C Z N : Nat} {Q : Option ma_V ⊕ Nat → ma_S → Prop} {S : ma_S} (x : Int32) (hd : 0 ≤ d) (hw : 0 ≤ w) (hI : zI f r C Z N S)  (K : ∀ S', zI f r C Z N S' → Q (.inl none) S') : ma_wp X d w 276 0 [(0, .inr (.inr (some 73))), (1, .inl x)] [] S Q := by
  refine g_276_73_0 x (by omega) (by omega) (zG_T hI) ?_
  have b1 := i_bd x
  have li2 : (0 : Int32).toInt = 0 := rfl
  have li3 : (16 : Int32).toInt = 16 := rfl
  exact lp_276_73_5 (by omega) (by omega) K _ _ (x) ((0 : Int32)) ((16 : Int32)) rfl hI (by omega) (by omega)
theorem g_80_69_0 {X : Nat × (Nat → Int32)} {d w : Nat} {S : ma_S} {Q : Option ma_V ⊕ Nat → ma_S → Prop}  (hd : 1 ≤ d) (hw : 23 ≤ w) (hS : zT S) (h : ma_wp X d w 80 2 [(0, .inr (.inr (some 69))), (1, .inl (0 : Int32))] [] S Q) : ma_wp X d w 80 0 [(0, .inr (.inr (some 69)))] [] S Q := by
  refine zw_push hm_80 dX7_forgetAll_0 (v := .inl (0 : Int32)) rfl ?_
  refine zw_sto hm_80 dX7_forgetAll_1 [(1, .inl (0 : Int32)), (0, .inr (.inr (some 69)))] rfl rfl rfl ?_
  exact zw_sub (ma_nd_of (ks := [0, 1]) rfl (by decide)) (ma_nd_of (ks := [1, 0]) rfl (by decide)) (ma_le_cons rfl (ma_le_cons rfl (ma_le_nil _))) h
theorem g_80_69_2 {X : Nat × (Nat → Int32)} {d w : Nat} {S : ma_S} {Q : Option ma_V ⊕ Nat → ma_S → Prop} (l1 : Int32) (hd : 1 ≤ d) (hw : 23 ≤ w) (hS : zT S) (h : if (512 : Int32) ≤ l1 then (ma_wp X (d - 1) (w - 23) 276 0 [(0, .inr (.inr (some 71))), (1, .inl (-1 : Int32))] [] S (zv (fun S1 => zT S1 ∧ (ma_wp X (d - 1) (w - 23) 276 0 [(0, .inr (.inr (some 72))), (1, .inl (-1 : Int32))] [] S1 (zv (fun S3 => zT S3 ∧ (ma_wp X (d - 1) (w - 23) 276 0 [(0, .inr (.inr (some 73))), (1, .inl (-1 : Int32))] [] S3 (zv (fun S5 => zT S5 ∧ (Q (.inl none) (ma_put (ma_put (ma_put (ma_put (ma_put (ma_put (ma_put (ma_put S5 69 5 (.inl (0 : Int32))) 69 6 (.inl (0 : Int32))) 69 7 (.inl (0 : Int32))) 69 8 (.inl (0 : Int32))) 69 9 (.inl (0 : Int32))) 69 10 (.inl (0 : Int32))) 69 11 (.inl (0 : Int32))) 69 12 (.inl (0 : Int32))))) (fun _ _ => False)))) (fun _ _ => False)))) (fun _ _ => False))) else ((0 ≤ l1 ∧ l1.toNatClampNeg < 512) ∧ (ma_wp X d w 80 2 [(0, .inr (.inr (some 69))), (1, .inl (l1 + (1 : Int32)))] [] (ma_put S 70 l1.toNatClampNeg (.inr (.inr none))) Q))) : ma_wp X d w 80 2 [(0, .inr (.inr (some 69))), (1, .inl l1)] [] S Q := by
  refine zw_push hm_80 dX7_forgetAll_2 (v := .inl l1) rfl ?_
  refine zw_push hm_80 dX7_forgetAll_3 (v := .inl (512 : Int32)) rfl ?_
  refine zw_if2 hm_80 dX7_forgetAll_6 (t := 22) rfl zc2_ge ?_ ?_
  · intro hc
    rw [if_pos hc] at h
    refine zw_push hm_80 dX7_forgetAll_22 (v := .inr (.inr (some 69))) rfl ?_
    refine zw_gf hm_80 dX7_forgetAll_23 (v := .inr (.inr (some 71))) (zT_is hS s_69) (zT_t hS s_69) rfl f_7_17_7 (zT_f hS r_69_1) ?_
    refine zw_push hm_80 dX7_forgetAll_26 (v := .inl (-1 : Int32)) rfl ?_
    refine zw_cs hm_80 dX7_forgetAll_27 pn_7_30 sl_7_30 hm_276 [.inl (-1 : Int32), .inr (.inr (some 71))] [] rfl ⟨by omega, by omega⟩ rfl (zw_mono h (zv_go ?_ ?_))
    · intro S1 hv
      obtain ⟨hS1, h⟩ := hv
      refine zw_push hm_80 dX7_forgetAll_30 (v := .inr (.inr (some 69))) rfl ?_
      refine zw_gf hm_80 dX7_forgetAll_31 (v := .inr (.inr (some 72))) (zT_is hS1 s_69) (zT_t hS1 s_69) rfl f_7_21_7 (zT_f hS1 r_69_2) ?_
      refine zw_push hm_80 dX7_forgetAll_34 (v := .inl (-1 : Int32)) rfl ?_
      refine zw_cs hm_80 dX7_forgetAll_35 pn_7_30 sl_7_30 hm_276 [.inl (-1 : Int32), .inr (.inr (some 72))] [] rfl ⟨by omega, by omega⟩ rfl (zw_mono h (zv_go ?_ ?_))
      · intro S3 hv
        obtain ⟨hS3, h⟩ := hv
        refine zw_push hm_80 dX7_forgetAll_38 (v := .inr (.inr (some 69))) rfl ?_
        refine zw_gf hm_80 dX7_forgetAll_39 (v := .inr (.inr (some 73))) (zT_is hS3 s_69) (zT_t hS3 s_69) rfl f_7_24_7 (zT_f hS3 r_69_3) ?_
        refine zw_push hm_80 dX7_forgetAll_42 (v := .inl (-1 : Int32)) rfl ?_
        refine zw_cs hm_80 dX7_forgetAll_43 pn_7_30 sl_7_30 hm_276 [.inl (-1 : Int32), .inr (.inr (some 73))] [] rfl ⟨by omega, by omega⟩ rfl (zw_mono h (zv_go ?_ ?_))
        · intro S5 hv
          obtain ⟨hS5, h⟩ := hv
          refine zw_push hm_80 dX7_forgetAll_46 (v := .inr (.inr (some 69))) rfl ?_
          refine zw_push hm_80 dX7_forgetAll_47 (v := .inl (0 : Int32)) rfl ?_
          refine zw_pf hm_80 dX7_forgetAll_48 (zT_is hS5 s_69) (zT_t hS5 s_69) p_7_36_7 zk_int ?_
          refine zw_push hm_80 dX7_forgetAll_51 (v := .inr (.inr (some 69))) rfl ?_
          refine zw_push hm_80 dX7_forgetAll_52 (v := .inl (0 : Int32)) rfl ?_
          refine zw_pf hm_80 dX7_forgetAll_53 (zT_is (zT_pi hS5) s_69) (zT_t (zT_pi hS5) s_69) p_7_40_7 zk_int ?_
          refine zw_push hm_80 dX7_forgetAll_56 (v := .inr (.inr (some 69))) rfl ?_
          refine zw_push hm_80 dX7_forgetAll_57 (v := .inl (0 : Int32)) rfl ?_
          refine zw_pf hm_80 dX7_forgetAll_58 (zT_is (zT_pi (zT_pi hS5)) s_69) (zT_t (zT_pi (zT_pi hS5)) s_69) p_7_43_7 zk_int ?_
          refine zw_push hm_80 dX7_forgetAll_61 (v := .inr (.inr (some 69))) rfl ?_
          refine zw_push hm_80 dX7_forgetAll_62 (v := .inl (0 : Int32)) rfl ?_
          refine zw_pf hm_80 dX7_forgetAll_63 (zT_is (zT_pi (zT_pi (zT_pi hS5))) s_69) (zT_t (zT_pi (zT_pi (zT_pi hS5))) s_69) p_7_46_7 zk_int ?_
          refine zw_push hm_80 dX7_forgetAll_66 (v := .inr (.inr (some 69))) rfl ?_
          refine zw_push hm_80 dX7_forgetAll_67 (v := .inl (0 : Int32)) rfl ?_
          refine zw_pf hm_80 dX7_forgetAll_68 (zT_is (zT_pi (zT_pi (zT_pi (zT_pi hS5)))) s_69) (zT_t (zT_pi (zT_pi (zT_pi (zT_pi hS5)))) s_69) p_7_49_7 zk_int ?_
          refine zw_push hm_80 dX7_forgetAll_71 (v := .inr (.inr (some 69))) rfl ?_
          refine zw_push hm_80 dX7_forgetAll_72 (v := .inl (0 : Int32)) rfl ?_
          refine zw_pf hm_80 dX7_forgetAll_73 (zT_is (zT_pi (zT_pi (zT_pi (zT_pi (zT_pi hS5))))) s_69) (zT_t (zT_pi (zT_pi (zT_pi (zT_pi (zT_pi hS5))))) s_69) p_7_52_7 zk_int ?_
          refine zw_push hm_80 dX7_forgetAll_76 (v := .inr (.inr (some 69))) rfl ?_
          refine zw_push hm_80 dX7_forgetAll_77 (v := .inl (0 : Int32)) rfl ?_
          refine zw_pf hm_80 dX7_forgetAll_78 (zT_is (zT_pi (zT_pi (zT_pi (zT_pi (zT_pi (zT_pi hS5)))))) s_69) (zT_t (zT_pi (zT_pi (zT_pi (zT_pi (zT_pi (zT_pi hS5)))))) s_69) p_7_55_7 zk_int ?_
          refine zw_push hm_80 dX7_forgetAll_81 (v := .inr (.inr (some 69))) rfl ?_
          refine zw_push hm_80 dX7_forgetAll_82 (v := .inl (0 : Int32)) rfl ?_
          refine zw_pf hm_80 dX7_forgetAll_83 (zT_is (zT_pi (zT_pi (zT_pi (zT_pi (zT_pi (zT_pi (zT_pi hS5))))))) s_69) (zT_t (zT_pi (zT_pi (zT_pi (zT_pi (zT_pi (zT_pi (zT_pi hS5))))))) s_69) p_7_58_7 zk_int ?_
          exact zw_vret hm_80 dX7_forgetAll_86 h
        · intro x S9 hx
          exact hx.elim
      · intro x S9 hx
        exact hx.elim
    · intro x S9 hx
      exact hx.elim
  · intro hc
    rw [if_neg hc] at h
    refine zw_push hm_80 dX7_forgetAll_9 (v := .inr (.inr (some 69))) rfl ?_
    refine zw_gf hm_80 dX7_forgetAll_10 (v := .inr (.inr (some 70))) (zT_is hS s_69) (zT_t hS s_69) rfl f_7_11_7 (zT_f hS r_69_0) ?_
    refine zw_push hm_80 dX7_forgetAll_13 (v := .inl l1) rfl ?_
    refine zw_push hm_80 dX7_forgetAll_14 (v := .inr (.inr none)) rfl ?_
    obtain ⟨hg, h⟩ := h
    refine zw_aas hm_80 dX7_forgetAll_15 (zT_is hS s_70) (zT_h hS s_70) rfl hg (fun _ z => by cases z) ?_
    refine zw_sto hm_80 dX7_forgetAll_16 [(1, .inl (l1 + (1 : Int32))), (0, .inr (.inr (some 69)))] rfl rfl rfl ?_
    refine zw_goto hm_80 dX7_forgetAll_19 (t := 2) rfl ?_
    exact zw_sub (ma_nd_of (ks := [0, 1]) rfl (by decide)) (ma_nd_of (ks := [1, 0]) rfl (by decide)) (ma_le_cons rfl (ma_le_cons rfl (ma_le_nil _))) h
theorem lp_80_69_2 {X : Nat × (Nat → Int32)} {d w : Nat} {f : Nat → Nat → Int32} {r : Nat → Nat → Option Nat} {C Z N : Nat} {Q : Option ma_V ⊕ Nat → ma_S → Prop} (hd : 1 ≤ d) (hw : 23 ≤ w) (K : ∀ S', zS f r C Z N S' → Q (.inl none) S') : ∀ (n : Nat) (S : ma_S) (l1 : Int32), (512 - l1.toInt).toNat = n → zS f r C Z N S → (0 ≤ l1.toInt) → ma_wp X d w 80 2 [(0, .inr (.inr (some 69))), (1, .inl l1)] [] S Q := by
  intro n
  induction n using Nat.strongRecOn with
  | _ n IH =>
    intro S l1 hmu hI  hi0
    refine g_80_69_2 l1 (by omega) (by omega) (zG_T hI) ?_
    have li1 : (512 : Int32).toInt = 512 := rfl
    have b2 := i_bd l1
    refine zd (fun h3 => ?_) (fun h3 => ?_)
    · skip
      have g4 := i_le h3
      have li5 : (-1 : Int32).toInt = -1 := rfl
      refine sp_276_71 ((-1 : Int32)) (by omega) (by omega) (zS_dn hI)  (fun S1 hL_S1 => zv_n ⟨zG_T hL_S1, ?_⟩)
      have hI_S1 := zS_up hI hL_S1
      refine sp_276_72 ((-1 : Int32)) (by omega) (by omega) (zS_dn hI_S1)  (fun S3 hL_S3 => zv_n ⟨zG_T hL_S3, ?_⟩)
      have hI_S3 := zS_up hI_S1 hL_S3
      refine sp_276_73 ((-1 : Int32)) (by omega) (by omega) (zS_dn hI_S3)  (fun S5 hL_S5 => zv_n ⟨zG_T hL_S5, ?_⟩)
      have hI_S5 := zS_up hI_S3 hL_S5
      have li7 : (0 : Int32).toInt = 0 := rfl
      have hI6 : zS f r C Z N (ma_put S5 69 5 (.inl (0 : Int32))) := zG_sp hI_S5 (0) (512) rfl (by decide) (by decide) (by decide) trivial (by omega) (by omega)
      have hI8 : zS f r C Z N (ma_put (ma_put S5 69 5 (.inl (0 : Int32))) 69 6 (.inl (0 : Int32))) := zG_sp hI6 (0) (512) rfl (by decide) (by decide) (by decide) trivial (by omega) (by omega)
      have hI9 : zS f r C Z N (ma_put (ma_put (ma_put S5 69 5 (.inl (0 : Int32))) 69 6 (.inl (0 : Int32))) 69 7 (.inl (0 : Int32))) := zG_fr hI8 rfl (by decide) (by decide) (by decide) trivial
      have hI10 : zS f r C Z N (ma_put (ma_put (ma_put (ma_put S5 69 5 (.inl (0 : Int32))) 69 6 (.inl (0 : Int32))) 69 7 (.inl (0 : Int32))) 69 8 (.inl (0 : Int32))) := zG_fr hI9 rfl (by decide) (by decide) (by decide) trivial
      have hI11 : zS f r C Z N (ma_put (ma_put (ma_put (ma_put (ma_put S5 69 5 (.inl (0 : Int32))) 69 6 (.inl (0 : Int32))) 69 7 (.inl (0 : Int32))) 69 8 (.inl (0 : Int32))) 69 9 (.inl (0 : Int32))) := zG_fr hI10 rfl (by decide) (by decide) (by decide) trivial
      have hI12 : zS f r C Z N (ma_put (ma_put (ma_put (ma_put (ma_put (ma_put S5 69 5 (.inl (0 : Int32))) 69 6 (.inl (0 : Int32))) 69 7 (.inl (0 : Int32))) 69 8 (.inl (0 : Int32))) 69 9 (.inl (0 : Int32))) 69 10 (.inl (0 : Int32))) := zG_fr hI11 rfl (by decide) (by decide) (by decide) trivial
      have hI13 : zS f r C Z N (ma_put (ma_put (ma_put (ma_put (ma_put (ma_put (ma_put S5 69 5 (.inl (0 : Int32))) 69 6 (.inl (0 : Int32))) 69 7 (.inl (0 : Int32))) 69 8 (.inl (0 : Int32))) 69 9 (.inl (0 : Int32))) 69 10 (.inl (0 : Int32))) 69 11 (.inl (0 : Int32))) := zG_fr hI12 rfl (by decide) (by decide) (by decide) trivial
      have hI14 : zS f r C Z N (ma_put (ma_put (ma_put (ma_put (ma_put (ma_put (ma_put (ma_put S5 69 5 (.inl (0 : Int32))) 69 6 (.inl (0 : Int32))) 69 7 (.inl (0 : Int32))) 69 8 (.inl (0 : Int32))) 69 9 (.inl (0 : Int32))) 69 10 (.inl (0 : Int32))) 69 11 (.inl (0 : Int32))) 69 12 (.inl (0 : Int32))) := zG_fr hI13 rfl (by decide) (by decide) (by decide) trivial
      exact K _ hI14
    · skip
      have g15 := i_nle h3
      refine ⟨i_ix (by omega) (by omega), ?_⟩
      have hI16 : zS f r C Z N (ma_put S 70 l1.toNatClampNeg (.inr (.inr none))) := zG_rf hI (by decide) (by decide +kernel) (fun _ z => by cases z)
      first | have e17 : (l1 + (1 : Int32)).toInt = l1.toInt + (1) := i_addk rfl (by omega) (by omega) | have b18 := i_bd (l1 + (1 : Int32))
      exact IH _ (by omega) _ ((l1 + (1 : Int32))) rfl hI16 (by omega)
theorem sp_80_69 {X : Nat × (Nat → Int32)} {d w : Nat} {f : Nat → Nat → Int32} {r : Nat → Nat → Option Nat} {C Z N : Nat} {Q : Option ma_V ⊕ Nat → ma_S → Prop} {S : ma_S}  (hd : 1 ≤ d) (hw : 23 ≤ w) (hI : zS f r C Z N S)  (K : ∀ S', zS f r C Z N S' → Q (.inl none) S') : ma_wp X d w 80 0 [(0, .inr (.inr (some 69)))] [] S Q := by
  refine g_80_69_0  (by omega) (by omega) (zG_T hI) ?_
  have li1 : (0 : Int32).toInt = 0 := rfl
  exact lp_80_69_2 (by omega) (by omega) K _ _ ((0 : Int32)) rfl hI (by omega)
theorem g_91_69_0 {X : Nat × (Nat → Int32)} {d w : Nat} {S : ma_S} {Q : Option ma_V ⊕ Nat → ma_S → Prop} (t : Nat) (hd : 2 ≤ d) (hw : 42 ≤ w) (hS : zT S) (h : (126 ≤ t ∧ t < mN S) ∧ ((126 ≤ t ∧ t < mN S) ∧ ((126 ≤ t ∧ t < mN S) ∧ (if (512 : Int32) ≤ (mI S t 0) then (Q (.inl none) S) else ((126 ≤ t ∧ t < mN S) ∧ (if (mI S t 4) < 0 then (Q (.inl none) S) else (if ((mI S t 4) + (mI S t 2)) ≤ (4500 : Int32) then ((126 ≤ t ∧ t < mN S) ∧ ((0 ≤ (mI S t 0) ∧ (mI S t 0).toNatClampNeg < 512) ∧ ((126 ≤ t ∧ t < mN S) ∧ ((126 ≤ t ∧ t < mN (ma_put S 70 (mI S t 0).toNatClampNeg (.inr (.inr (some t))))) ∧ ((126 ≤ t ∧ t < mN (ma_put S 70 (mI S t 0).toNatClampNeg (.inr (.inr (some t))))) ∧ ((0 ≤ (mI S t 4) ∧ (mI S t 4).toNatClampNeg < 4500) ∧ (ma_wp X d w 91 60 [(0, .inr (.inr (some 69))), (1, .inr (.inr (some t))), (3, .inl (0 : Int32))] [] (ma_put (ma_put S 70 (mI S t 0).toNatClampNeg (.inr (.inr (some t)))) 71 (mI S t 4).toNatClampNeg (.inl (mI S t 0))) Q))))))) else (Q (.inl none) S)))))))) : ma_wp X d w 91 0 [(0, .inr (.inr (some 69))), (1, .inr (.inr (some t)))] [] S Q := by
  refine zw_push hm_91 dX7_add_0 (v := .inr (.inr (some t))) rfl ?_
  obtain ⟨hg, h⟩ := h
  refine zw_gf hm_91 dX7_add_1 (v := .inl (mI S t 4)) (zT_tis hS hg) (zT_tt hS hg) rfl f_7_61_9 rfl ?_
  refine zw_push hm_91 dX7_add_4 (v := .inr (.inr (some t))) rfl ?_
  obtain ⟨hg, h⟩ := h
  refine zw_gf hm_91 dX7_add_5 (v := .inl (mI S t 2)) (zT_tis hS hg) (zT_tt hS hg) rfl f_7_64_9 rfl ?_
  refine zw_stk hm_91 dX7_add_8 (st' := [.inl ((mI S t 4) + (mI S t 2))]) rfl rfl ?_
  refine zw_sto hm_91 dX7_add_9 [(2, .inl ((mI S t 4) + (mI S t 2))), (0, .inr (.inr (some 69))), (1, .inr (.inr (some t)))] rfl rfl rfl ?_
  refine zw_push hm_91 dX7_add_10 (v := .inr (.inr (some t))) rfl ?_
  obtain ⟨hg, h⟩ := h
  refine zw_gf hm_91 dX7_add_11 (v := .inl (mI S t 0)) (zT_tis hS hg) (zT_tt hS hg) rfl f_7_67_9 rfl ?_
  refine zw_push hm_91 dX7_add_14 (v := .inl (512 : Int32)) rfl ?_
  refine zw_if2 hm_91 dX7_add_17 (t := 34) rfl zc2_ge ?_ ?_
  · intro hc
    rw [if_pos hc] at h
    exact zw_vret hm_91 dX7_add_34 h
  · intro hc
    rw [if_neg hc] at h
    refine zw_push hm_91 dX7_add_20 (v := .inr (.inr (some t))) rfl ?_
    obtain ⟨hg, h⟩ := h
    refine zw_gf hm_91 dX7_add_21 (v := .inl (mI S t 4)) (zT_tis hS hg) (zT_tt hS hg) rfl f_7_61_9 rfl ?_
    refine zw_if0 hm_91 dX7_add_24 (t := 34) rfl zc0_lt ?_ ?_
    · intro hc
      rw [if_pos hc] at h
      exact zw_vret hm_91 dX7_add_34 h
    · intro hc
      rw [if_neg hc] at h
      refine zw_push hm_91 dX7_add_27 (v := .inl ((mI S t 4) + (mI S t 2))) rfl ?_
      refine zw_push hm_91 dX7_add_28 (v := .inl (4500 : Int32)) rfl ?_
      refine zw_if2 hm_91 dX7_add_31 (t := 35) rfl zc2_le ?_ ?_
      · intro hc
        rw [if_pos hc] at h
        refine zw_push hm_91 dX7_add_35 (v := .inr (.inr (some 69))) rfl ?_
        refine zw_gf hm_91 dX7_add_36 (v := .inr (.inr (some 70))) (zT_is hS s_69) (zT_t hS s_69) rfl f_7_11_7 (zT_f hS r_69_0) ?_
        refine zw_push hm_91 dX7_add_39 (v := .inr (.inr (some t))) rfl ?_
        obtain ⟨hg, h⟩ := h
        refine zw_gf hm_91 dX7_add_40 (v := .inl (mI S t 0)) (zT_tis hS hg) (zT_tt hS hg) rfl f_7_67_9 rfl ?_
        refine zw_push hm_91 dX7_add_43 (v := .inr (.inr (some t))) rfl ?_
        obtain ⟨hg, h⟩ := h
        obtain ⟨hg2, h⟩ := h
        refine zw_aas hm_91 dX7_add_44 (zT_is hS s_70) (zT_h hS s_70) rfl hg (fun b z => by cases z; exact ⟨zT_tis hS hg2, zT_tt hS hg2⟩) ?_
        refine zw_push hm_91 dX7_add_45 (v := .inr (.inr (some 69))) rfl ?_
        refine zw_gf hm_91 dX7_add_46 (v := .inr (.inr (some 71))) (zT_is (zT_pr hS (zfi_row (by decide +kernel))) s_69) (zT_t (zT_pr hS (zfi_row (by decide +kernel))) s_69) rfl f_7_17_7 (zT_f (zT_pr hS (zfi_row (by decide +kernel))) r_69_1) ?_
        refine zw_push hm_91 dX7_add_49 (v := .inr (.inr (some t))) rfl ?_
        obtain ⟨hg, h⟩ := h
        refine zw_gf hm_91 dX7_add_50 (v := .inl (mI S t 4)) (zT_tis (zT_pr hS (zfi_row (by decide +kernel))) hg) (zT_tt (zT_pr hS (zfi_row (by decide +kernel))) hg) rfl f_7_61_9 rfl ?_
        refine zw_push hm_91 dX7_add_53 (v := .inr (.inr (some t))) rfl ?_
        obtain ⟨hg, h⟩ := h
        refine zw_gf hm_91 dX7_add_54 (v := .inl (mI S t 0)) (zT_tis (zT_pr hS (zfi_row (by decide +kernel))) hg) (zT_tt (zT_pr hS (zfi_row (by decide +kernel))) hg) rfl f_7_67_9 rfl ?_
        obtain ⟨hg, h⟩ := h
        refine zw_ias hm_91 dX7_add_57 (zT_is (zT_pr hS (zfi_row (by decide +kernel))) s_71) (zT_h (zT_pr hS (zfi_row (by decide +kernel))) s_71) rfl hg ?_
        refine zw_push hm_91 dX7_add_58 (v := .inl (0 : Int32)) rfl ?_
        refine zw_sto hm_91 dX7_add_59 [(3, .inl (0 : Int32)), (2, .inl ((mI S t 4) + (mI S t 2))), (0, .inr (.inr (some 69))), (1, .inr (.inr (some t)))] rfl rfl rfl ?_
        exact zw_sub (ma_nd_of (ks := [0, 1, 3]) rfl (by decide)) (ma_nd_of (ks := [3, 2, 0, 1]) rfl (by decide)) (ma_le_cons rfl (ma_le_cons rfl (ma_le_cons rfl (ma_le_nil _)))) h
      · intro hc
        rw [if_neg hc] at h
        exact zw_vret hm_91 dX7_add_34 h
theorem g_91_69_60 {X : Nat × (Nat → Int32)} {d w : Nat} {S : ma_S} {Q : Option ma_V ⊕ Nat → ma_S → Prop} (l1 : Nat) (l3 : Int32) (hd : 2 ≤ d) (hw : 42 ≤ w) (hS : zT S) (h : (126 ≤ l1 ∧ l1 < mN S) ∧ (if ((mI S l1 2) - (1 : Int32)) ≤ l3 then ((126 ≤ l1 ∧ l1 < mN (ma_put (ma_put S 69 6 (.inl ((mI S 69 6) + (1 : Int32)))) 69 7 (.inl ((mI S 69 7) + (1 : Int32))))) ∧ (Q (.inl none) (ma_put (ma_put (ma_put S 69 6 (.inl ((mI S 69 6) + (1 : Int32)))) 69 7 (.inl ((mI S 69 7) + (1 : Int32)))) 69 8 (.inl ((mI S 69 8) + (mI (ma_put (ma_put S 69 6 (.inl ((mI S 69 6) + (1 : Int32)))) 69 7 (.inl ((mI S 69 7) + (1 : Int32)))) l1 2)))))) else ((126 ≤ l1 ∧ l1 < mN S) ∧ ((126 ≤ l1 ∧ l1 < mN S) ∧ ((126 ≤ l1 ∧ l1 < mN S) ∧ (if l3 < 0 then ((0 ≤ (((mI S l1 4) + (1 : Int32)) + l3) ∧ (((mI S l1 4) + (1 : Int32)) + l3).toNatClampNeg < 4500) ∧ (ma_wp X d w 91 60 [(0, .inr (.inr (some 69))), (1, .inr (.inr (some l1))), (3, .inl (l3 + (1 : Int32)))] [] (ma_put S 71 (((mI S l1 4) + (1 : Int32)) + l3).toNatClampNeg (.inl (0 : Int32))) Q)) else ((126 ≤ l1 ∧ l1 < mN S) ∧ (if ((mI S l1 2) - (1 : Int32)) ≤ l3 then ((0 ≤ (((mI S l1 4) + (1 : Int32)) + l3) ∧ (((mI S l1 4) + (1 : Int32)) + l3).toNatClampNeg < 4500) ∧ (ma_wp X d w 91 60 [(0, .inr (.inr (some 69))), (1, .inr (.inr (some l1))), (3, .inl (l3 + (1 : Int32)))] [] (ma_put S 71 (((mI S l1 4) + (1 : Int32)) + l3).toNatClampNeg (.inl (0 : Int32))) Q)) else ((126 ≤ l1 ∧ l1 < mN S) ∧ (if (lg_cmp ((((mL S l1 3).toUInt64 >>> (l3.toInt64.toUInt64 &&& Int64.toUInt64 63)).toInt64) &&& (1 : Int64)) (0 : Int64)) = 0 then ((0 ≤ (((mI S l1 4) + (1 : Int32)) + l3) ∧ (((mI S l1 4) + (1 : Int32)) + l3).toNatClampNeg < 4500) ∧ (ma_wp X d w 91 60 [(0, .inr (.inr (some 69))), (1, .inr (.inr (some l1))), (3, .inl (l3 + (1 : Int32)))] [] (ma_put S 71 (((mI S l1 4) + (1 : Int32)) + l3).toNatClampNeg (.inl (0 : Int32))) Q)) else ((0 ≤ (((mI S l1 4) + (1 : Int32)) + l3) ∧ (((mI S l1 4) + (1 : Int32)) + l3).toNatClampNeg < 4500) ∧ (ma_wp X d w 91 60 [(0, .inr (.inr (some 69))), (1, .inr (.inr (some l1))), (3, .inl (l3 + (1 : Int32)))] [] (ma_put S 71 (((mI S l1 4) + (1 : Int32)) + l3).toNatClampNeg (.inl (-1 : Int32))) Q)))))))))))) : ma_wp X d w 91 60 [(0, .inr (.inr (some 69))), (1, .inr (.inr (some l1))), (3, .inl l3)] [] S Q := by
  refine zw_push hm_91 dX7_add_60 (v := .inl l3) rfl ?_
  refine zw_push hm_91 dX7_add_61 (v := .inr (.inr (some l1))) rfl ?_
  obtain ⟨hg, h⟩ := h
  refine zw_gf hm_91 dX7_add_62 (v := .inl (mI S l1 2)) (zT_tis hS hg) (zT_tt hS hg) rfl f_7_64_9 rfl ?_
  refine zw_push hm_91 dX7_add_65 (v := .inl (1 : Int32)) rfl ?_
  refine zw_stk hm_91 dX7_add_66 (st' := [.inl ((mI S l1 2) - (1 : Int32)), .inl l3]) rfl rfl ?_
  refine zw_if2 hm_91 dX7_add_67 (t := 102) rfl zc2_ge ?_ ?_
  · intro hc
    rw [if_pos hc] at h
    refine zw_push hm_91 dX7_add_102 (v := .inr (.inr (some 69))) rfl ?_
    refine zw_stk hm_91 dX7_add_103 (st' := [.inr (.inr (some 69)), .inr (.inr (some 69))]) rfl rfl ?_
    refine zw_gf hm_91 dX7_add_104 (v := .inl (mI S 69 6)) (zT_is hS s_69) (zT_t hS s_69) rfl f_7_40_7 rfl ?_
    refine zw_push hm_91 dX7_add_107 (v := .inl (1 : Int32)) rfl ?_
    refine zw_stk hm_91 dX7_add_108 (st' := [.inl ((mI S 69 6) + (1 : Int32)), .inr (.inr (some 69))]) rfl rfl ?_
    refine zw_pf hm_91 dX7_add_109 (zT_is hS s_69) (zT_t hS s_69) p_7_40_7 zk_int ?_
    refine zw_push hm_91 dX7_add_112 (v := .inr (.inr (some 69))) rfl ?_
    refine zw_stk hm_91 dX7_add_113 (st' := [.inr (.inr (some 69)), .inr (.inr (some 69))]) rfl rfl ?_
    refine zw_gf hm_91 dX7_add_114 (v := .inl (mI S 69 7)) (zT_is (zT_pi hS) s_69) (zT_t (zT_pi hS) s_69) rfl f_7_43_7 rfl ?_
    refine zw_push hm_91 dX7_add_117 (v := .inl (1 : Int32)) rfl ?_
    refine zw_stk hm_91 dX7_add_118 (st' := [.inl ((mI S 69 7) + (1 : Int32)), .inr (.inr (some 69))]) rfl rfl ?_
    refine zw_pf hm_91 dX7_add_119 (zT_is (zT_pi hS) s_69) (zT_t (zT_pi hS) s_69) p_7_43_7 zk_int ?_
    refine zw_push hm_91 dX7_add_122 (v := .inr (.inr (some 69))) rfl ?_
    refine zw_stk hm_91 dX7_add_123 (st' := [.inr (.inr (some 69)), .inr (.inr (some 69))]) rfl rfl ?_
    refine zw_gf hm_91 dX7_add_124 (v := .inl (mI S 69 8)) (zT_is (zT_pi (zT_pi hS)) s_69) (zT_t (zT_pi (zT_pi hS)) s_69) rfl f_7_46_7 rfl ?_
    refine zw_push hm_91 dX7_add_127 (v := .inr (.inr (some l1))) rfl ?_
    obtain ⟨hg, h⟩ := h
    refine zw_gf hm_91 dX7_add_128 (v := .inl (mI (ma_put (ma_put S 69 6 (.inl ((mI S 69 6) + (1 : Int32)))) 69 7 (.inl ((mI S 69 7) + (1 : Int32)))) l1 2)) (zT_tis (zT_pi (zT_pi hS)) hg) (zT_tt (zT_pi (zT_pi hS)) hg) rfl f_7_64_9 rfl ?_
    refine zw_stk hm_91 dX7_add_131 (st' := [.inl ((mI S 69 8) + (mI (ma_put (ma_put S 69 6 (.inl ((mI S 69 6) + (1 : Int32)))) 69 7 (.inl ((mI S 69 7) + (1 : Int32)))) l1 2)), .inr (.inr (some 69))]) rfl rfl ?_
    refine zw_pf hm_91 dX7_add_132 (zT_is (zT_pi (zT_pi hS)) s_69) (zT_t (zT_pi (zT_pi hS)) s_69) p_7_46_7 zk_int ?_
    exact zw_vret hm_91 dX7_add_135 h
  · intro hc
    rw [if_neg hc] at h
    refine zw_push hm_91 dX7_add_70 (v := .inr (.inr (some 69))) rfl ?_
    refine zw_gf hm_91 dX7_add_71 (v := .inr (.inr (some 71))) (zT_is hS s_69) (zT_t hS s_69) rfl f_7_17_7 (zT_f hS r_69_1) ?_
    refine zw_push hm_91 dX7_add_74 (v := .inr (.inr (some l1))) rfl ?_
    obtain ⟨hg, h⟩ := h
    refine zw_gf hm_91 dX7_add_75 (v := .inl (mI S l1 4)) (zT_tis hS hg) (zT_tt hS hg) rfl f_7_61_9 rfl ?_
    refine zw_push hm_91 dX7_add_78 (v := .inl (1 : Int32)) rfl ?_
    refine zw_stk hm_91 dX7_add_79 (st' := [.inl ((mI S l1 4) + (1 : Int32)), .inr (.inr (some 71))]) rfl rfl ?_
    refine zw_push hm_91 dX7_add_80 (v := .inl l3) rfl ?_
    refine zw_stk hm_91 dX7_add_81 (st' := [.inl (((mI S l1 4) + (1 : Int32)) + l3), .inr (.inr (some 71))]) rfl rfl ?_
    refine zw_push hm_91 dX7_add_82 (v := .inr (.inr (some l1))) rfl ?_
    refine zw_push hm_91 dX7_add_83 (v := .inl l3) rfl ?_
    obtain ⟨hg, h⟩ := h
    refine zw_cv hm_91 dX7_add_84 v_7_70_9 hm_113 [.inl l3] [.inl (((mI S l1 4) + (1 : Int32)) + l3), .inr (.inr (some 71))] rfl (zT_trt hS hg) ⟨by omega, by omega⟩ rfl ?_
    show ma_wp X (d - 1) (w - 21) 113 0 [(0, .inr (.inr (some l1))), (1, .inl l3)] [] S _
    refine zw_push hm_113 dX9_isReference_0 (v := .inr (.inr (some l1))) rfl ?_
    refine zw_push hm_113 dX9_isReference_1 (v := .inl l3) rfl ?_
    obtain ⟨hg, h⟩ := h
    refine zw_cv hm_113 dX9_isReference_2 v_9_26_9 hm_114 [.inl l3] [] rfl (zT_trt hS hg) ⟨by omega, by omega⟩ rfl ?_
    show ma_wp X ((d - 1) - 1) ((w - 21) - 21) 114 0 [(0, .inr (.inr (some l1))), (1, .inl l3)] [] S _
    refine zw_push hm_114 dX9_hasWord_0 (v := .inl l3) rfl ?_
    refine zw_if0 hm_114 dX9_hasWord_1 (t := 18) rfl zc0_lt ?_ ?_
    · intro hc
      rw [if_pos hc] at h
      refine zw_push hm_114 dX9_hasWord_18 (v := .inl (0 : Int32)) rfl ?_
      refine zw_bret hm_114 dX9_hasWord_19 (by decide) ?_
      show ma_wp X (d - 1) (w - 21) 113 5 [(0, .inr (.inr (some l1))), (1, .inl l3)] [.inl (0 : Int32)] S _
      refine zw_if0 hm_113 dX9_isReference_5 (t := 25) rfl zc0_eq (fun _ => ?_) (fun hc => absurd (by decide) hc)
      refine zw_push hm_113 dX9_isReference_25 (v := .inl (0 : Int32)) rfl ?_
      refine zw_bret hm_113 dX9_isReference_26 (by decide) ?_
      show ma_wp X d w 91 87 [(0, .inr (.inr (some 69))), (1, .inr (.inr (some l1))), (3, .inl l3)] [.inl (0 : Int32), .inl (((mI S l1 4) + (1 : Int32)) + l3), .inr (.inr (some 71))] S _
      refine zw_if0 hm_91 dX7_add_87 (t := 94) rfl zc0_eq (fun _ => ?_) (fun hc => absurd (by decide) hc)
      refine zw_push hm_91 dX7_add_94 (v := .inl (0 : Int32)) rfl ?_
      obtain ⟨hg, h⟩ := h
      refine zw_ias hm_91 dX7_add_95 (zT_is hS s_71) (zT_h hS s_71) rfl hg ?_
      refine zw_sto hm_91 dX7_add_96 [(3, .inl (l3 + (1 : Int32))), (0, .inr (.inr (some 69))), (1, .inr (.inr (some l1)))] rfl rfl rfl ?_
      refine zw_goto hm_91 dX7_add_99 (t := 60) rfl ?_
      exact zw_sub (ma_nd_of (ks := [0, 1, 3]) rfl (by decide)) (ma_nd_of (ks := [3, 0, 1]) rfl (by decide)) (ma_le_cons rfl (ma_le_cons rfl (ma_le_cons rfl (ma_le_nil _)))) h
    · intro hc
      rw [if_neg hc] at h
      refine zw_push hm_114 dX9_hasWord_4 (v := .inl l3) rfl ?_
      refine zw_push hm_114 dX9_hasWord_5 (v := .inr (.inr (some l1))) rfl ?_
      obtain ⟨hg, h⟩ := h
      refine zw_gf hm_114 dX9_hasWord_6 (v := .inl (mI S l1 2)) (zT_tis hS hg) (zT_tt hS hg) rfl f_9_16_9 rfl ?_
      refine zw_push hm_114 dX9_hasWord_9 (v := .inl (1 : Int32)) rfl ?_
      refine zw_stk hm_114 dX9_hasWord_10 (st' := [.inl ((mI S l1 2) - (1 : Int32)), .inl l3]) rfl rfl ?_
      refine zw_if2 hm_114 dX9_hasWord_11 (t := 18) rfl zc2_ge ?_ ?_
      · intro hc
        rw [if_pos hc] at h
        refine zw_push hm_114 dX9_hasWord_18 (v := .inl (0 : Int32)) rfl ?_
        refine zw_bret hm_114 dX9_hasWord_19 (by decide) ?_
        show ma_wp X (d - 1) (w - 21) 113 5 [(0, .inr (.inr (some l1))), (1, .inl l3)] [.inl (0 : Int32)] S _
        refine zw_if0 hm_113 dX9_isReference_5 (t := 25) rfl zc0_eq (fun _ => ?_) (fun hc => absurd (by decide) hc)
        refine zw_push hm_113 dX9_isReference_25 (v := .inl (0 : Int32)) rfl ?_
        refine zw_bret hm_113 dX9_isReference_26 (by decide) ?_
        show ma_wp X d w 91 87 [(0, .inr (.inr (some 69))), (1, .inr (.inr (some l1))), (3, .inl l3)] [.inl (0 : Int32), .inl (((mI S l1 4) + (1 : Int32)) + l3), .inr (.inr (some 71))] S _
        refine zw_if0 hm_91 dX7_add_87 (t := 94) rfl zc0_eq (fun _ => ?_) (fun hc => absurd (by decide) hc)
        refine zw_push hm_91 dX7_add_94 (v := .inl (0 : Int32)) rfl ?_
        obtain ⟨hg, h⟩ := h
        refine zw_ias hm_91 dX7_add_95 (zT_is hS s_71) (zT_h hS s_71) rfl hg ?_
        refine zw_sto hm_91 dX7_add_96 [(3, .inl (l3 + (1 : Int32))), (0, .inr (.inr (some 69))), (1, .inr (.inr (some l1)))] rfl rfl rfl ?_
        refine zw_goto hm_91 dX7_add_99 (t := 60) rfl ?_
        exact zw_sub (ma_nd_of (ks := [0, 1, 3]) rfl (by decide)) (ma_nd_of (ks := [3, 0, 1]) rfl (by decide)) (ma_le_cons rfl (ma_le_cons rfl (ma_le_cons rfl (ma_le_nil _)))) h
      · intro hc
        rw [if_neg hc] at h
        refine zw_push hm_114 dX9_hasWord_14 (v := .inl (1 : Int32)) rfl ?_
        refine zw_goto hm_114 dX9_hasWord_15 (t := 19) rfl ?_
        refine zw_bret hm_114 dX9_hasWord_19 (by decide) ?_
        show ma_wp X (d - 1) (w - 21) 113 5 [(0, .inr (.inr (some l1))), (1, .inl l3)] [.inl (1 : Int32)] S _
        refine zw_if0 hm_113 dX9_isReference_5 (t := 25) rfl zc0_eq (fun hc => absurd hc (by decide)) (fun _ => ?_)
        refine zw_push hm_113 dX9_isReference_8 (v := .inr (.inr (some l1))) rfl ?_
        obtain ⟨hg, h⟩ := h
        refine zw_gf hm_113 dX9_isReference_9 (v := .inr (.inl (mL S l1 3))) (zT_tis hS hg) (zT_tt hS hg) rfl f_9_19_9 rfl ?_
        refine zw_push hm_113 dX9_isReference_12 (v := .inl l3) rfl ?_
        refine zw_stk hm_113 dX9_isReference_13 (st' := [.inr (.inl (((mL S l1 3).toUInt64 >>> (l3.toInt64.toUInt64 &&& Int64.toUInt64 63)).toInt64))]) rfl rfl ?_
        refine zw_push hm_113 dX9_isReference_14 (v := .inr (.inl (1 : Int64))) rfl ?_
        refine zw_stk hm_113 dX9_isReference_15 (st' := [.inr (.inl ((((mL S l1 3).toUInt64 >>> (l3.toInt64.toUInt64 &&& Int64.toUInt64 63)).toInt64) &&& (1 : Int64)))]) rfl rfl ?_
        refine zw_push hm_113 dX9_isReference_16 (v := .inr (.inl (0 : Int64))) rfl ?_
        refine zw_stk hm_113 dX9_isReference_17 (st' := [.inl (lg_cmp ((((mL S l1 3).toUInt64 >>> (l3.toInt64.toUInt64 &&& Int64.toUInt64 63)).toInt64) &&& (1 : Int64)) (0 : Int64))]) rfl rfl ?_
        refine zw_if0 hm_113 dX9_isReference_18 (t := 25) rfl zc0_eq ?_ ?_
        · intro hc
          rw [if_pos hc] at h
          refine zw_push hm_113 dX9_isReference_25 (v := .inl (0 : Int32)) rfl ?_
          refine zw_bret hm_113 dX9_isReference_26 (by decide) ?_
          show ma_wp X d w 91 87 [(0, .inr (.inr (some 69))), (1, .inr (.inr (some l1))), (3, .inl l3)] [.inl (0 : Int32), .inl (((mI S l1 4) + (1 : Int32)) + l3), .inr (.inr (some 71))] S _
          refine zw_if0 hm_91 dX7_add_87 (t := 94) rfl zc0_eq (fun _ => ?_) (fun hc => absurd (by decide) hc)
          refine zw_push hm_91 dX7_add_94 (v := .inl (0 : Int32)) rfl ?_
          obtain ⟨hg, h⟩ := h
          refine zw_ias hm_91 dX7_add_95 (zT_is hS s_71) (zT_h hS s_71) rfl hg ?_
          refine zw_sto hm_91 dX7_add_96 [(3, .inl (l3 + (1 : Int32))), (0, .inr (.inr (some 69))), (1, .inr (.inr (some l1)))] rfl rfl rfl ?_
          refine zw_goto hm_91 dX7_add_99 (t := 60) rfl ?_
          exact zw_sub (ma_nd_of (ks := [0, 1, 3]) rfl (by decide)) (ma_nd_of (ks := [3, 0, 1]) rfl (by decide)) (ma_le_cons rfl (ma_le_cons rfl (ma_le_cons rfl (ma_le_nil _)))) h
        · intro hc
          rw [if_neg hc] at h
          refine zw_push hm_113 dX9_isReference_21 (v := .inl (1 : Int32)) rfl ?_
          refine zw_goto hm_113 dX9_isReference_22 (t := 26) rfl ?_
          refine zw_bret hm_113 dX9_isReference_26 (by decide) ?_
          show ma_wp X d w 91 87 [(0, .inr (.inr (some 69))), (1, .inr (.inr (some l1))), (3, .inl l3)] [.inl (1 : Int32), .inl (((mI S l1 4) + (1 : Int32)) + l3), .inr (.inr (some 71))] S _
          refine zw_if0 hm_91 dX7_add_87 (t := 94) rfl zc0_eq (fun hc => absurd hc (by decide)) (fun _ => ?_)
          refine zw_push hm_91 dX7_add_90 (v := .inl (-1 : Int32)) rfl ?_
          refine zw_goto hm_91 dX7_add_91 (t := 95) rfl ?_
          obtain ⟨hg, h⟩ := h
          refine zw_ias hm_91 dX7_add_95 (zT_is hS s_71) (zT_h hS s_71) rfl hg ?_
          refine zw_sto hm_91 dX7_add_96 [(3, .inl (l3 + (1 : Int32))), (0, .inr (.inr (some 69))), (1, .inr (.inr (some l1)))] rfl rfl rfl ?_
          refine zw_goto hm_91 dX7_add_99 (t := 60) rfl ?_
          exact zw_sub (ma_nd_of (ks := [0, 1, 3]) rfl (by decide)) (ma_nd_of (ks := [3, 0, 1]) rfl (by decide)) (ma_le_cons rfl (ma_le_cons rfl (ma_le_cons rfl (ma_le_nil _)))) h
theorem lp_91_69_60 {X : Nat × (Nat → Int32)} {d w : Nat} {f : Nat → Nat → Int32} {r : Nat → Nat → Option Nat} {C Z N : Nat} {Q : Option ma_V ⊕ Nat → ma_S → Prop} (hd : 2 ≤ d) (hw : 42 ≤ w) (K : ∀ S', zS f r C Z N S' → Q (.inl none) S') : ∀ (n : Nat) (S : ma_S) (l1 : Nat) (l3 : Int32), (61 - l3.toInt).toNat = n → zS f r C Z N S → (126 ≤ l1 ∧ l1 < N) → (0 ≤ l3.toInt) → ((mI S 69 6).toInt ≤ 511) → ((mI S l1 4).toInt + (mI S l1 2).toInt ≤ 4500) → ma_wp X d w 91 60 [(0, .inr (.inr (some 69))), (1, .inr (.inr (some l1))), (3, .inl l3)] [] S Q := by
  intro n
  induction n using Nat.strongRecOn with
  | _ n IH =>
    intro S l1 l3 hmu hI th_l1 hi0 hi1 hi2
    refine g_91_69_60 l1 l3 (by omega) (by omega) (zG_T hI) ?_
    refine ⟨zG_n hI th_l1, ?_⟩
    have f1 := zG_th hI th_l1
    first | have e2 : ((mI S l1 2) - (1 : Int32)).toInt = (mI S l1 2).toInt - (1) := i_subk rfl (by omega) (by omega) | have b3 := i_bd ((mI S l1 2) - (1 : Int32))
    have b4 := i_bd l3
    refine zd (fun h5 => ?_) (fun h5 => ?_)
    · skip
      have g6 := i_le h5
      have f8 := zG_s hI (0) (512) (c := 69) (k := 6) (by decide)
      first | have e9 : ((mI S 69 6) + (1 : Int32)).toInt = (mI S 69 6).toInt + (1) := i_addk rfl (by omega) (by omega) | have b10 := i_bd ((mI S 69 6) + (1 : Int32))
      have hI7 : zS f r C Z N (ma_put S 69 6 (.inl ((mI S 69 6) + (1 : Int32)))) := zG_sp hI (0) (512) rfl (by decide) (by decide) (by decide) trivial (by omega) (by omega)
      have hI11 : zS f r C Z N (ma_put (ma_put S 69 6 (.inl ((mI S 69 6) + (1 : Int32)))) 69 7 (.inl ((mI S 69 7) + (1 : Int32)))) := zG_fr hI7 rfl (by decide) (by decide) (by decide) trivial
      refine ⟨zG_n hI11 th_l1, ?_⟩
      have hI12 : zS f r C Z N (ma_put (ma_put (ma_put S 69 6 (.inl ((mI S 69 6) + (1 : Int32)))) 69 7 (.inl ((mI S 69 7) + (1 : Int32)))) 69 8 (.inl ((mI S 69 8) + (mI (ma_put (ma_put S 69 6 (.inl ((mI S 69 6) + (1 : Int32)))) 69 7 (.inl ((mI S 69 7) + (1 : Int32)))) l1 2)))) := zG_fr hI11 rfl (by decide) (by decide) (by decide) trivial
      exact K _ hI12
    · skip
      have g13 := i_nle h5
      refine ⟨zG_n hI th_l1, ?_⟩
      refine ⟨zG_n hI th_l1, ?_⟩
      refine ⟨zG_n hI th_l1, ?_⟩
      have li14 : (0 : Int32).toInt = 0 := rfl
      refine zd (fun h15 => ?_) (fun h15 => ?_)
      · skip
        have g16 := i_lt h15
        have f17 := zG_th hI th_l1
        first | have e18 : ((mI S l1 4) + (1 : Int32)).toInt = (mI S l1 4).toInt + (1) := i_addk rfl (by omega) (by omega) | have b19 := i_bd ((mI S l1 4) + (1 : Int32))
        first | have e20 : (((mI S l1 4) + (1 : Int32)) + l3).toInt = ((mI S l1 4) + (1 : Int32)).toInt + l3.toInt := i_add (by omega) (by omega) | have b21 := i_bd (((mI S l1 4) + (1 : Int32)) + l3)
        refine ⟨i_ix (by omega) (by omega), ?_⟩
        have hI22 : zS f r C Z N (ma_put S 71 (((mI S l1 4) + (1 : Int32)) + l3).toNatClampNeg (.inl (0 : Int32))) := zG_fa hI rfl (by decide) (by decide) (by decide) trivial
        first | have e23 : (l3 + (1 : Int32)).toInt = l3.toInt + (1) := i_addk rfl (by omega) (by omega) | have b24 := i_bd (l3 + (1 : Int32))
        have f25 := zG_s hI (0) (512) (c := 69) (k := 6) (by decide)
        have q26 : (mI (ma_put S 71 (((mI S l1 4) + (1 : Int32)) + l3).toNatClampNeg (.inl (0 : Int32))) l1 4).toInt = (mI S l1 4).toInt := zp_fx th_l1.1 (by decide)
        have f27 := zG_th hI22 th_l1
        have q28 : (mI (ma_put S 71 (((mI S l1 4) + (1 : Int32)) + l3).toNatClampNeg (.inl (0 : Int32))) l1 2).toInt = (mI S l1 2).toInt := zp_fx th_l1.1 (by decide)
        have f29 := zG_th hI22 th_l1
        exact IH _ (by omega) _ l1 ((l3 + (1 : Int32))) rfl hI22 th_l1 (by omega) (show (mI S 69 6).toInt ≤ 511 from by omega) (show (mI (ma_put S 71 (((mI S l1 4) + (1 : Int32)) + l3).toNatClampNeg (.inl (0 : Int32))) l1 4).toInt + (mI (ma_put S 71 (((mI S l1 4) + (1 : Int32)) + l3).toNatClampNeg (.inl (0 : Int32))) l1 2).toInt ≤ 4500 from by omega)
      · skip
        have g30 := i_nlt h15
        refine ⟨zG_n hI th_l1, ?_⟩
        refine zd (fun h31 => ?_) (fun h31 => ?_)
        · skip
          have g32 := i_le h31
          have f33 := zG_th hI th_l1
          first | have e34 : ((mI S l1 4) + (1 : Int32)).toInt = (mI S l1 4).toInt + (1) := i_addk rfl (by omega) (by omega) | have b35 := i_bd ((mI S l1 4) + (1 : Int32))
          first | have e36 : (((mI S l1 4) + (1 : Int32)) + l3).toInt = ((mI S l1 4) + (1 : Int32)).toInt + l3.toInt := i_add (by omega) (by omega) | have b37 := i_bd (((mI S l1 4) + (1 : Int32)) + l3)
          refine ⟨i_ix (by omega) (by omega), ?_⟩
          have hI38 : zS f r C Z N (ma_put S 71 (((mI S l1 4) + (1 : Int32)) + l3).toNatClampNeg (.inl (0 : Int32))) := zG_fa hI rfl (by decide) (by decide) (by decide) trivial
          first | have e39 : (l3 + (1 : Int32)).toInt = l3.toInt + (1) := i_addk rfl (by omega) (by omega) | have b40 := i_bd (l3 + (1 : Int32))
          have f41 := zG_s hI (0) (512) (c := 69) (k := 6) (by decide)
          have q42 : (mI (ma_put S 71 (((mI S l1 4) + (1 : Int32)) + l3).toNatClampNeg (.inl (0 : Int32))) l1 4).toInt = (mI S l1 4).toInt := zp_fx th_l1.1 (by decide)
          have f43 := zG_th hI38 th_l1
          have q44 : (mI (ma_put S 71 (((mI S l1 4) + (1 : Int32)) + l3).toNatClampNeg (.inl (0 : Int32))) l1 2).toInt = (mI S l1 2).toInt := zp_fx th_l1.1 (by decide)
          have f45 := zG_th hI38 th_l1
          exact IH _ (by omega) _ l1 ((l3 + (1 : Int32))) rfl hI38 th_l1 (by omega) (show (mI S 69 6).toInt ≤ 511 from by omega) (show (mI (ma_put S 71 (((mI S l1 4) + (1 : Int32)) + l3).toNatClampNeg (.inl (0 : Int32))) l1 4).toInt + (mI (ma_put S 71 (((mI S l1 4) + (1 : Int32)) + l3).toNatClampNeg (.inl (0 : Int32))) l1 2).toInt ≤ 4500 from by omega)
        · skip
          have g46 := i_nle h31
          refine ⟨zG_n hI th_l1, ?_⟩
          have b47 := i_bd (lg_cmp ((((mL S l1 3).toUInt64 >>> (l3.toInt64.toUInt64 &&& Int64.toUInt64 63)).toInt64) &&& (1 : Int64)) (0 : Int64))
          refine zd (fun h48 => ?_) (fun h48 => ?_)
          · skip
            have g49 := i_eq h48
            have f50 := zG_th hI th_l1
            first | have e51 : ((mI S l1 4) + (1 : Int32)).toInt = (mI S l1 4).toInt + (1) := i_addk rfl (by omega) (by omega) | have b52 := i_bd ((mI S l1 4) + (1 : Int32))
            first | have e53 : (((mI S l1 4) + (1 : Int32)) + l3).toInt = ((mI S l1 4) + (1 : Int32)).toInt + l3.toInt := i_add (by omega) (by omega) | have b54 := i_bd (((mI S l1 4) + (1 : Int32)) + l3)
            refine ⟨i_ix (by omega) (by omega), ?_⟩
            have hI55 : zS f r C Z N (ma_put S 71 (((mI S l1 4) + (1 : Int32)) + l3).toNatClampNeg (.inl (0 : Int32))) := zG_fa hI rfl (by decide) (by decide) (by decide) trivial
            first | have e56 : (l3 + (1 : Int32)).toInt = l3.toInt + (1) := i_addk rfl (by omega) (by omega) | have b57 := i_bd (l3 + (1 : Int32))
            have f58 := zG_s hI (0) (512) (c := 69) (k := 6) (by decide)
            have q59 : (mI (ma_put S 71 (((mI S l1 4) + (1 : Int32)) + l3).toNatClampNeg (.inl (0 : Int32))) l1 4).toInt = (mI S l1 4).toInt := zp_fx th_l1.1 (by decide)
            have f60 := zG_th hI55 th_l1
            have q61 : (mI (ma_put S 71 (((mI S l1 4) + (1 : Int32)) + l3).toNatClampNeg (.inl (0 : Int32))) l1 2).toInt = (mI S l1 2).toInt := zp_fx th_l1.1 (by decide)
            have f62 := zG_th hI55 th_l1
            exact IH _ (by omega) _ l1 ((l3 + (1 : Int32))) rfl hI55 th_l1 (by omega) (show (mI S 69 6).toInt ≤ 511 from by omega) (show (mI (ma_put S 71 (((mI S l1 4) + (1 : Int32)) + l3).toNatClampNeg (.inl (0 : Int32))) l1 4).toInt + (mI (ma_put S 71 (((mI S l1 4) + (1 : Int32)) + l3).toNatClampNeg (.inl (0 : Int32))) l1 2).toInt ≤ 4500 from by omega)
          · skip
            have g63 := i_ne h48
            have f64 := zG_th hI th_l1
            first | have e65 : ((mI S l1 4) + (1 : Int32)).toInt = (mI S l1 4).toInt + (1) := i_addk rfl (by omega) (by omega) | have b66 := i_bd ((mI S l1 4) + (1 : Int32))
            first | have e67 : (((mI S l1 4) + (1 : Int32)) + l3).toInt = ((mI S l1 4) + (1 : Int32)).toInt + l3.toInt := i_add (by omega) (by omega) | have b68 := i_bd (((mI S l1 4) + (1 : Int32)) + l3)
            refine ⟨i_ix (by omega) (by omega), ?_⟩
            have hI69 : zS f r C Z N (ma_put S 71 (((mI S l1 4) + (1 : Int32)) + l3).toNatClampNeg (.inl (-1 : Int32))) := zG_fa hI rfl (by decide) (by decide) (by decide) trivial
            first | have e70 : (l3 + (1 : Int32)).toInt = l3.toInt + (1) := i_addk rfl (by omega) (by omega) | have b71 := i_bd (l3 + (1 : Int32))
            have f72 := zG_s hI (0) (512) (c := 69) (k := 6) (by decide)
            have q73 : (mI (ma_put S 71 (((mI S l1 4) + (1 : Int32)) + l3).toNatClampNeg (.inl (-1 : Int32))) l1 4).toInt = (mI S l1 4).toInt := zp_fx th_l1.1 (by decide)
            have f74 := zG_th hI69 th_l1
            have q75 : (mI (ma_put S 71 (((mI S l1 4) + (1 : Int32)) + l3).toNatClampNeg (.inl (-1 : Int32))) l1 2).toInt = (mI S l1 2).toInt := zp_fx th_l1.1 (by decide)
            have f76 := zG_th hI69 th_l1
            exact IH _ (by omega) _ l1 ((l3 + (1 : Int32))) rfl hI69 th_l1 (by omega) (show (mI S 69 6).toInt ≤ 511 from by omega) (show (mI (ma_put S 71 (((mI S l1 4) + (1 : Int32)) + l3).toNatClampNeg (.inl (-1 : Int32))) l1 4).toInt + (mI (ma_put S 71 (((mI S l1 4) + (1 : Int32)) + l3).toNatClampNeg (.inl (-1 : Int32))) l1 2).toInt ≤ 4500 from by omega)
theorem sp_91_69 {X : Nat × (Nat → Int32)} {d w : Nat} {f : Nat → Nat → Int32} {r : Nat → Nat → Option Nat} {C Z N : Nat} {Q : Option ma_V ⊕ Nat → ma_S → Prop} {S : ma_S} (t : Nat) (hd : 2 ≤ d) (hw : 42 ≤ w) (hI : zS f r C Z N S) (th_t : 126 ≤ t ∧ t < N) (hpre0 : (mI S 69 6).toInt ≤ 511) (K : ∀ S', zS f r C Z N S' → Q (.inl none) S') : ma_wp X d w 91 0 [(0, .inr (.inr (some 69))), (1, .inr (.inr (some t)))] [] S Q := by
  refine g_91_69_0 t (by omega) (by omega) (zG_T hI) ?_
  refine ⟨zG_n hI th_t, ?_⟩
  refine ⟨zG_n hI th_t, ?_⟩
  refine ⟨zG_n hI th_t, ?_⟩
  have li1 : (512 : Int32).toInt = 512 := rfl
  have f2 := zG_th hI th_t
  refine zd (fun h3 => ?_) (fun h3 => ?_)
  · skip
    have g4 := i_le h3
    exact K _ hI
  · skip
    have g5 := i_nle h3
    refine ⟨zG_n hI th_t, ?_⟩
    have f6 := zG_th hI th_t
    have li7 : (0 : Int32).toInt = 0 := rfl
    refine zd (fun h8 => ?_) (fun h8 => ?_)
    · skip
      have g9 := i_lt h8
      exact K _ hI
    · skip
      have g10 := i_nlt h8
      have f11 := zG_th hI th_t
      first | have e12 : ((mI S t 4) + (mI S t 2)).toInt = (mI S t 4).toInt + (mI S t 2).toInt := i_add (by omega) (by omega) | have b13 := i_bd ((mI S t 4) + (mI S t 2))
      have li14 : (4500 : Int32).toInt = 4500 := rfl
      refine zd (fun h15 => ?_) (fun h15 => ?_)
      · skip
        have g16 := i_le h15
        refine ⟨zG_n hI th_t, ?_⟩
        refine ⟨i_ix (by omega) (by omega), ?_⟩
        refine ⟨zG_n hI th_t, ?_⟩
        have hI17 : zS f r C Z N (ma_put S 70 (mI S t 0).toNatClampNeg (.inr (.inr (some t)))) := zG_rf hI (by decide) (by decide +kernel) (fun _ z => by cases z; exact th_t)
        refine ⟨zG_n hI17 th_t, ?_⟩
        refine ⟨zG_n hI17 th_t, ?_⟩
        refine ⟨i_ix (by omega) (by omega), ?_⟩
        have hI18 : zS f r C Z N (ma_put (ma_put S 70 (mI S t 0).toNatClampNeg (.inr (.inr (some t)))) 71 (mI S t 4).toNatClampNeg (.inl (mI S t 0))) := zG_fa hI17 rfl (by decide) (by decide) (by decide) trivial
        have f19 := zG_s hI (0) (512) (c := 69) (k := 6) (by decide)
        have q20 : (mI (ma_put (ma_put S 70 (mI S t 0).toNatClampNeg (.inr (.inr (some t)))) 71 (mI S t 4).toNatClampNeg (.inl (mI S t 0))) t 4).toInt = (mI S t 4).toInt := zp_fx th_t.1 (by decide)
        have f21 := zG_th hI18 th_t
        have q22 : (mI (ma_put (ma_put S 70 (mI S t 0).toNatClampNeg (.inr (.inr (some t)))) 71 (mI S t 4).toNatClampNeg (.inl (mI S t 0))) t 2).toInt = (mI S t 2).toInt := zp_fx th_t.1 (by decide)
        have f23 := zG_th hI18 th_t
        exact lp_91_69_60 (by omega) (by omega) K _ _ t ((0 : Int32)) rfl hI18 th_t (by omega) (show (mI S 69 6).toInt ≤ 511 from by omega) (show (mI (ma_put (ma_put S 70 (mI S t 0).toNatClampNeg (.inr (.inr (some t)))) 71 (mI S t 4).toNatClampNeg (.inl (mI S t 0))) t 4).toInt + (mI (ma_put (ma_put S 70 (mI S t 0).toNatClampNeg (.inr (.inr (some t)))) 71 (mI S t 4).toNatClampNeg (.inl (mI S t 0))) t 2).toInt ≤ 4500 from by omega)
      · skip
        have g24 := i_nle h15
        exact K _ hI
