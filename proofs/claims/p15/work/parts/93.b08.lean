/-! collectors, by what they keep (written by wip/tools/gen93b.py) -/
theorem g_78_87_0 {X : Nat × (Nat → Int32)} {d w : Nat} {S : ma_S} {Q : Option ma_V ⊕ Nat → ma_S → Prop}  (hd : 0 ≤ d) (hw : 0 ≤ w) (hS : zT S) (h : ((mI S 87 8) = 0 ∨ (mI S 87 8) = 1) ∧ (Q (.inl (some (.inl (mI S 87 8)))) S)) : ma_wp X d w 78 0 [(0, .inr (.inr (some 87)))] [] S Q := by
  refine zw_push hm_78 dX6_isMarking_0 (v := .inr (.inr (some 87))) rfl ?_
  refine zw_gf hm_78 dX6_isMarking_1 (v := .inl (mI S 87 8)) (zT_is hS s_87) (zT_t hS s_87) rfl f_6_31_6 rfl ?_
  obtain ⟨hg, h⟩ := h
  exact zw_bret hm_78 dX6_isMarking_4 hg h
theorem sp_78_87 {X : Nat × (Nat → Int32)} {d w : Nat} {f : Nat → Nat → Int32} {r : Nat → Nat → Option Nat} {C Z N : Nat} {Q : Option ma_V ⊕ Nat → ma_S → Prop} {S : ma_S}  (hd : 0 ≤ d) (hw : 0 ≤ w) (hI : zJ87 f r C Z N S)  (K : ∀ v S', zJ87 f r C Z N S' → (v = 0 ∨ v = 1) → Q (.inl (some (.inl v))) S') : ma_wp X d w 78 0 [(0, .inr (.inr (some 87)))] [] S Q := by
  refine g_78_87_0  (by omega) (by omega) (zG_T hI) ?_
  have f1 := zG_s hI (0) (1) (c := 87) (k := 8) (by decide)
  refine ⟨(i_bool (by omega) (by omega)), ?_⟩
  exact K ((mI S 87 8)) _ hI (i_bool (by omega) (by omega))
theorem g_66_87_66_0 {X : Nat × (Nat → Int32)} {d w : Nat} {S : ma_S} {Q : Option ma_V ⊕ Nat → ma_S → Prop}  (hd : 1 ≤ d) (hw : 21 ≤ w) (hS : zT S) (h : ma_wp X (d - 1) (w - 21) 100 0 [(0, .inr (.inr (some 87))), (1, .inr (.inr (some 66)))] [] S (zv (fun S1 => zT S1 ∧ (Q (.inl none) (ma_put (ma_put (ma_put S1 87 6 (.inl (mI S1 66 2))) 87 7 (.inl (mI S1 66 3))) 87 8 (.inl (0 : Int32))))) (fun _ _ => False))) : ma_wp X d w 66 0 [(0, .inr (.inr (some 87))), (1, .inr (.inr (some 66)))] [] S Q := by
  refine zw_push hm_66 dX6_open_0 (v := .inr (.inr (some 87))) rfl ?_
  refine zw_push hm_66 dX6_open_1 (v := .inr (.inr (some 66))) rfl ?_
  refine zw_csp hm_66 dX6_open_2 ip_6_20 il_6_20 hm_100 [.inr (.inr (some 66))] [] rfl (zT_is hS s_87) (by rw [(zT_t hS s_87)]; decide) ⟨by omega, by omega⟩ rfl (zw_mono h (zv_go ?_ ?_))
  · intro S1 hv
    obtain ⟨hS1, h⟩ := hv
    refine zw_push hm_66 dX6_open_5 (v := .inr (.inr (some 87))) rfl ?_
    refine zw_push hm_66 dX6_open_6 (v := .inr (.inr (some 66))) rfl ?_
    refine zw_push hm_66 dX6_open_7 (v := .inl (2 : Int32)) rfl ?_
    refine zw_ia hm_66 dX6_open_8 (zT_is hS1 s_66) (zT_h hS1 s_66) rfl ⟨by decide, by decide⟩ ?_
    show ma_wp X d w 66 9 [(0, .inr (.inr (some 87))), (1, .inr (.inr (some 66)))] [.inl (mI S1 66 2), .inr (.inr (some 87))] S1 _
    refine zw_pf hm_66 dX6_open_9 (zT_is hS1 s_87) (zT_t hS1 s_87) p_6_24_6 zk_int ?_
    refine zw_push hm_66 dX6_open_12 (v := .inr (.inr (some 87))) rfl ?_
    refine zw_push hm_66 dX6_open_13 (v := .inr (.inr (some 66))) rfl ?_
    refine zw_push hm_66 dX6_open_14 (v := .inl (3 : Int32)) rfl ?_
    refine zw_ia hm_66 dX6_open_15 (zT_is (zT_pi hS1) s_66) (zT_h (zT_pi hS1) s_66) rfl ⟨by decide, by decide⟩ ?_
    show ma_wp X d w 66 16 [(0, .inr (.inr (some 87))), (1, .inr (.inr (some 66)))] [.inl (mI S1 66 3), .inr (.inr (some 87))] (ma_put S1 87 6 (.inl (mI S1 66 2))) _
    refine zw_pf hm_66 dX6_open_16 (zT_is (zT_pi hS1) s_87) (zT_t (zT_pi hS1) s_87) p_6_28_6 zk_int ?_
    refine zw_push hm_66 dX6_open_19 (v := .inr (.inr (some 87))) rfl ?_
    refine zw_push hm_66 dX6_open_20 (v := .inl (0 : Int32)) rfl ?_
    refine zw_pf hm_66 dX6_open_21 (zT_is (zT_pi (zT_pi hS1)) s_87) (zT_t (zT_pi (zT_pi hS1)) s_87) p_6_31_6 (zk_bool (by decide)) ?_
    exact zw_vret hm_66 dX6_open_24 h
  · intro x S9 hx
    exact hx.elim
theorem sp_66_87_66 {X : Nat × (Nat → Int32)} {d w : Nat} {f : Nat → Nat → Int32} {r : Nat → Nat → Option Nat} {C Z N : Nat} {Q : Option ma_V ⊕ Nat → ma_S → Prop} {S : ma_S}  (hd : 1 ≤ d) (hw : 21 ≤ w) (hI : zJ87 f r C Z N S) (hpre0 : 0 ≤ (mI S 66 0).toInt ∧ (mI S 66 0).toInt ≤ 1500 ∧ -1 ≤ (mI S 66 2).toInt ∧ (mI S 66 2).toInt ≤ 1500) (K : ∀ S', zJ87 f r C Z N S' → Q (.inl none) S') : ma_wp X d w 66 0 [(0, .inr (.inr (some 87))), (1, .inr (.inr (some 66)))] [] S Q := by
  refine g_66_87_66_0  (by omega) (by omega) (zG_T hI) ?_
  have q1 : (mI S 66 0).toInt = (f 66 0).toInt := zG_zi hI rfl
  have b2 := i_bd (mI S 66 0)
  have q3 : (mI S 66 2).toInt = (f 66 2).toInt := zG_zi hI rfl
  have b4 := i_bd (mI S 66 2)
  refine sp_100_87_66  (by omega) (by omega) hI (show 0 ≤ (mI S 66 0).toInt ∧ (mI S 66 0).toInt ≤ 1500 from by omega) (fun S1 hI_S1 => zv_n ⟨zG_T hI_S1, ?_⟩)
  have q6 : (mI S1 66 2).toInt = (f 66 2).toInt := zG_zi hI_S1 rfl
  have b7 := i_bd (mI S1 66 2)
  have hI5 : zJ87 f r C Z N (ma_put S1 87 6 (.inl (mI S1 66 2))) := zG_sp hI_S1 (-1) (1500) rfl (by decide) (by decide) (by decide) trivial (by omega) (by omega)
  have hI8 : zJ87 f r C Z N (ma_put (ma_put S1 87 6 (.inl (mI S1 66 2))) 87 7 (.inl (mI S1 66 3))) := zG_fr hI5 rfl (by decide) (by decide) (by decide) trivial
  have li10 : (0 : Int32).toInt = 0 := rfl
  have hI9 : zJ87 f r C Z N (ma_put (ma_put (ma_put S1 87 6 (.inl (mI S1 66 2))) 87 7 (.inl (mI S1 66 3))) 87 8 (.inl (0 : Int32))) := zG_sp hI8 (0) (1) rfl (by decide) (by decide) (by decide) trivial (by omega) (by omega)
  exact K _ hI9
theorem g_29_81_66_zK81_0 {X : Nat × (Nat → Int32)} {d w : Nat} {S : ma_S} {Q : Option ma_V ⊕ Nat → ma_S → Prop}  (hd : 0 ≤ d) (hw : 0 ≤ w) (hS : zT S) (h : Q (.inl none) (ma_put (ma_put (ma_put S 81 2 (.inl (mI S 66 0))) 81 3 (.inl (0 : Int32))) 81 4 (.inl (0 : Int32)))) : ma_wp X d w 29 0 [(0, .inr (.inr (some 81))), (1, .inr (.inr (some 66)))] [] S Q := by
  refine zw_push hm_29 dX3_open_0 (v := .inr (.inr (some 81))) rfl ?_
  refine zw_push hm_29 dX3_open_1 (v := .inr (.inr (some 66))) rfl ?_
  refine zw_push hm_29 dX3_open_2 (v := .inl (0 : Int32)) rfl ?_
  refine zw_ia hm_29 dX3_open_3 (zT_is hS s_66) (zT_h hS s_66) rfl ⟨by decide, by decide⟩ ?_
  show ma_wp X d w 29 4 [(0, .inr (.inr (some 81))), (1, .inr (.inr (some 66)))] [.inl (mI S 66 0), .inr (.inr (some 81))] S _
  refine zw_pf hm_29 dX3_open_4 (zT_is hS s_81) (zT_t hS s_81) p_3_9_3 zk_int ?_
  refine zw_push hm_29 dX3_open_7 (v := .inr (.inr (some 81))) rfl ?_
  refine zw_push hm_29 dX3_open_8 (v := .inl (0 : Int32)) rfl ?_
  refine zw_pf hm_29 dX3_open_9 (zT_is (zT_pi hS) s_81) (zT_t (zT_pi hS) s_81) p_3_15_3 zk_int ?_
  refine zw_push hm_29 dX3_open_12 (v := .inr (.inr (some 81))) rfl ?_
  refine zw_push hm_29 dX3_open_13 (v := .inl (0 : Int32)) rfl ?_
  refine zw_pf hm_29 dX3_open_14 (zT_is (zT_pi (zT_pi hS)) s_81) (zT_t (zT_pi (zT_pi hS)) s_81) p_3_18_3 zk_int ?_
  exact zw_vret hm_29 dX3_open_17 h
theorem sp_29_81_66_zK81 {X : Nat × (Nat → Int32)} {d w : Nat} {f : Nat → Nat → Int32} {r : Nat → Nat → Option Nat} {C Z N : Nat} {Q : Option ma_V ⊕ Nat → ma_S → Prop} {S : ma_S}  (hd : 0 ≤ d) (hw : 0 ≤ w) (hI : zK81 f r C Z N S) (hpre0 : 0 ≤ (mI S 66 0).toInt ∧ (mI S 66 0).toInt ≤ 1500) (K : ∀ S', zK81 f r C Z N S' → (0 ≤ (mI S' 81 3).toInt ∧ (mI S' 81 3).toInt ≤ (mI S' 81 2).toInt) → Q (.inl none) S') : ma_wp X d w 29 0 [(0, .inr (.inr (some 81))), (1, .inr (.inr (some 66)))] [] S Q := by
  refine g_29_81_66_zK81_0  (by omega) (by omega) (zG_T hI) ?_
  have b2 := i_bd (mI S 66 0)
  have hI1 : zK81 f r C Z N (ma_put S 81 2 (.inl (mI S 66 0))) := zG_sp hI (0) (1500) rfl (by decide) (by decide) (by decide) trivial (by omega) (by omega)
  have li4 : (0 : Int32).toInt = 0 := rfl
  have hI3 : zK81 f r C Z N (ma_put (ma_put S 81 2 (.inl (mI S 66 0))) 81 3 (.inl (0 : Int32))) := zG_sp hI1 (0) (1500) rfl (by decide) (by decide) (by decide) trivial (by omega) (by omega)
  have hI5 : zK81 f r C Z N (ma_put (ma_put (ma_put S 81 2 (.inl (mI S 66 0))) 81 3 (.inl (0 : Int32))) 81 4 (.inl (0 : Int32))) := zG_sp hI3 (0) (400000) rfl (by decide) (by decide) (by decide) trivial (by omega) (by omega)
  exact K _ hI5 (show 0 ≤ (0 : Int32).toInt ∧ (0 : Int32).toInt ≤ (mI S 66 0).toInt from by omega)
theorem g_276_83_zK82_0 {X : Nat × (Nat → Int32)} {d w : Nat} {S : ma_S} {Q : Option ma_V ⊕ Nat → ma_S → Prop} (x : Int32) (hd : 0 ≤ d) (hw : 0 ≤ w) (hS : zT S) (h : ma_wp X d w 276 5 [(0, .inr (.inr (some 83))), (1, .inl x), (2, .inl (0 : Int32)), (3, .inl (375 : Int32))] [] S Q) : ma_wp X d w 276 0 [(0, .inr (.inr (some 83))), (1, .inl x)] [] S Q := by
  refine zw_push hm_276 dJ7_fill_53178_0 (v := .inl (0 : Int32)) rfl ?_
  refine zw_sto hm_276 dJ7_fill_53178_1 [(2, .inl (0 : Int32)), (0, .inr (.inr (some 83))), (1, .inl x)] rfl rfl rfl ?_
  refine zw_push hm_276 dJ7_fill_53178_2 (v := .inr (.inr (some 83))) rfl ?_
  refine zw_len hm_276 dJ7_fill_53178_3 (zT_is hS s_83) (zT_h hS s_83) rfl rfl ?_
  refine zw_sto hm_276 dJ7_fill_53178_4 [(3, .inl (375 : Int32)), (2, .inl (0 : Int32)), (0, .inr (.inr (some 83))), (1, .inl x)] rfl rfl rfl ?_
  exact zw_sub (ma_nd_of (ks := [0, 1, 2, 3]) rfl (by decide)) (ma_nd_of (ks := [3, 2, 0, 1]) rfl (by decide)) (ma_le_cons rfl (ma_le_cons rfl (ma_le_cons rfl (ma_le_cons rfl (ma_le_nil _))))) h
theorem g_276_83_zK82_5 {X : Nat × (Nat → Int32)} {d w : Nat} {S : ma_S} {Q : Option ma_V ⊕ Nat → ma_S → Prop} (l1 : Int32) (l2 : Int32) (l3 : Int32) (hd : 0 ≤ d) (hw : 0 ≤ w) (hS : zT S) (h : if l3 ≤ l2 then (Q (.inl none) S) else ((0 ≤ l2 ∧ l2.toNatClampNeg < 375) ∧ (ma_wp X d w 276 5 [(0, .inr (.inr (some 83))), (1, .inl l1), (2, .inl (l2 + (1 : Int32))), (3, .inl l3)] [] (ma_put S 83 l2.toNatClampNeg (.inl l1)) Q))) : ma_wp X d w 276 5 [(0, .inr (.inr (some 83))), (1, .inl l1), (2, .inl l2), (3, .inl l3)] [] S Q := by
  refine zw_push hm_276 dJ7_fill_53178_5 (v := .inl l2) rfl ?_
  refine zw_push hm_276 dJ7_fill_53178_6 (v := .inl l3) rfl ?_
  refine zw_if2 hm_276 dJ7_fill_53178_7 (t := 20) rfl zc2_ge ?_ ?_
  · intro hc
    rw [if_pos hc] at h
    exact zw_vret hm_276 dJ7_fill_53178_20 h
  · intro hc
    rw [if_neg hc] at h
    refine zw_push hm_276 dJ7_fill_53178_10 (v := .inr (.inr (some 83))) rfl ?_
    refine zw_push hm_276 dJ7_fill_53178_11 (v := .inl l2) rfl ?_
    refine zw_push hm_276 dJ7_fill_53178_12 (v := .inl l1) rfl ?_
    obtain ⟨hg, h⟩ := h
    refine zw_ias hm_276 dJ7_fill_53178_13 (zT_is hS s_83) (zT_h hS s_83) rfl hg ?_
    refine zw_sto hm_276 dJ7_fill_53178_14 [(2, .inl (l2 + (1 : Int32))), (0, .inr (.inr (some 83))), (1, .inl l1), (3, .inl l3)] rfl rfl rfl ?_
    refine zw_goto hm_276 dJ7_fill_53178_17 (t := 5) rfl ?_
    exact zw_sub (ma_nd_of (ks := [0, 1, 2, 3]) rfl (by decide)) (ma_nd_of (ks := [2, 0, 1, 3]) rfl (by decide)) (ma_le_cons rfl (ma_le_cons rfl (ma_le_cons rfl (ma_le_cons rfl (ma_le_nil _))))) h
theorem lp_276_83_zK82_5 {X : Nat × (Nat → Int32)} {d w : Nat} {f : Nat → Nat → Int32} {r : Nat → Nat → Option Nat} {C Z N : Nat} {Q : Option ma_V ⊕ Nat → ma_S → Prop} (hd : 0 ≤ d) (hw : 0 ≤ w) (K : ∀ S', zK82 f r C Z N S' → ((mI S' 82 3).toInt ≤ (mI S' 82 7).toInt ∧ (mI S' 82 7).toInt ≤ (mI S' 82 3).toInt + (mI S' 82 2).toInt) → Q (.inl none) S') : ∀ (n : Nat) (S : ma_S) (l1 : Int32) (l2 : Int32) (l3 : Int32), (l3.toInt - l2.toInt).toNat = n → zK82 f r C Z N S → (0 ≤ l2.toInt) → (l3.toInt = 375) → ((mI S 82 3).toInt ≤ (mI S 82 7).toInt ∧ (mI S 82 7).toInt ≤ (mI S 82 3).toInt + (mI S 82 2).toInt) → ma_wp X d w 276 5 [(0, .inr (.inr (some 83))), (1, .inl l1), (2, .inl l2), (3, .inl l3)] [] S Q := by
  intro n
  induction n using Nat.strongRecOn with
  | _ n IH =>
    intro S l1 l2 l3 hmu hI  hi0 hi1 hi2
    refine g_276_83_zK82_5 l1 l2 l3 (by omega) (by omega) (zG_T hI) ?_
    have b1 := i_bd l3
    have b2 := i_bd l2
    refine zd (fun h3 => ?_) (fun h3 => ?_)
    · skip
      have g4 := i_le h3
      have f5 := zG_s hI (0) (1500) (c := 82) (k := 3) (by decide)
      have f6 := zG_s hI (0) (3000) (c := 82) (k := 7) (by decide)
      have f7 := zG_s hI (0) (1500) (c := 82) (k := 2) (by decide)
      exact K _ hI (show (mI S 82 3).toInt ≤ (mI S 82 7).toInt ∧ (mI S 82 7).toInt ≤ (mI S 82 3).toInt + (mI S 82 2).toInt from by omega)
    · skip
      have g8 := i_nle h3
      refine ⟨i_ix (by omega) (by omega), ?_⟩
      have hI9 : zK82 f r C Z N (ma_put S 83 l2.toNatClampNeg (.inl l1)) := zG_fa hI rfl (by decide) (by decide) (by decide) trivial
      have b10 := i_bd l1
      first | have e11 : (l2 + (1 : Int32)).toInt = l2.toInt + (1) := i_addk rfl (by omega) (by omega) | have b12 := i_bd (l2 + (1 : Int32))
      have f13 := zG_s hI (0) (1500) (c := 82) (k := 3) (by decide)
      have f14 := zG_s hI (0) (3000) (c := 82) (k := 7) (by decide)
      have f15 := zG_s hI (0) (1500) (c := 82) (k := 2) (by decide)
      exact IH _ (by omega) _ (l1) ((l2 + (1 : Int32))) (l3) rfl hI9 (by omega) (by omega) (show (mI S 82 3).toInt ≤ (mI S 82 7).toInt ∧ (mI S 82 7).toInt ≤ (mI S 82 3).toInt + (mI S 82 2).toInt from by omega)
theorem sp_276_83_zK82 {X : Nat × (Nat → Int32)} {d w : Nat} {f : Nat → Nat → Int32} {r : Nat → Nat → Option Nat} {C Z N : Nat} {Q : Option ma_V ⊕ Nat → ma_S → Prop} {S : ma_S} (x : Int32) (hd : 0 ≤ d) (hw : 0 ≤ w) (hI : zK82 f r C Z N S) (hpre0 : (mI S 82 3).toInt ≤ (mI S 82 7).toInt ∧ (mI S 82 7).toInt ≤ (mI S 82 3).toInt + (mI S 82 2).toInt) (K : ∀ S', zK82 f r C Z N S' → ((mI S' 82 3).toInt ≤ (mI S' 82 7).toInt ∧ (mI S' 82 7).toInt ≤ (mI S' 82 3).toInt + (mI S' 82 2).toInt) → Q (.inl none) S') : ma_wp X d w 276 0 [(0, .inr (.inr (some 83))), (1, .inl x)] [] S Q := by
  refine g_276_83_zK82_0 x (by omega) (by omega) (zG_T hI) ?_
  have b1 := i_bd x
  have li2 : (0 : Int32).toInt = 0 := rfl
  have li3 : (375 : Int32).toInt = 375 := rfl
  have f4 := zG_s hI (0) (1500) (c := 82) (k := 3) (by decide)
  have f5 := zG_s hI (0) (3000) (c := 82) (k := 7) (by decide)
  have f6 := zG_s hI (0) (1500) (c := 82) (k := 2) (by decide)
  exact lp_276_83_zK82_5 (by omega) (by omega) K _ _ (x) ((0 : Int32)) ((375 : Int32)) rfl hI (by omega) (by omega) (show (mI S 82 3).toInt ≤ (mI S 82 7).toInt ∧ (mI S 82 7).toInt ≤ (mI S 82 3).toInt + (mI S 82 2).toInt from by omega)
theorem g_276_83_0 {X : Nat × (Nat → Int32)} {d w : Nat} {S : ma_S} {Q : Option ma_V ⊕ Nat → ma_S → Prop} (x : Int32) (hd : 0 ≤ d) (hw : 0 ≤ w) (hS : zT S) (h : ma_wp X d w 276 5 [(0, .inr (.inr (some 83))), (1, .inl x), (2, .inl (0 : Int32)), (3, .inl (375 : Int32))] [] S Q) : ma_wp X d w 276 0 [(0, .inr (.inr (some 83))), (1, .inl x)] [] S Q := by
  refine zw_push hm_276 dJ7_fill_53178_0 (v := .inl (0 : Int32)) rfl ?_
  refine zw_sto hm_276 dJ7_fill_53178_1 [(2, .inl (0 : Int32)), (0, .inr (.inr (some 83))), (1, .inl x)] rfl rfl rfl ?_
  refine zw_push hm_276 dJ7_fill_53178_2 (v := .inr (.inr (some 83))) rfl ?_
  refine zw_len hm_276 dJ7_fill_53178_3 (zT_is hS s_83) (zT_h hS s_83) rfl rfl ?_
  refine zw_sto hm_276 dJ7_fill_53178_4 [(3, .inl (375 : Int32)), (2, .inl (0 : Int32)), (0, .inr (.inr (some 83))), (1, .inl x)] rfl rfl rfl ?_
  exact zw_sub (ma_nd_of (ks := [0, 1, 2, 3]) rfl (by decide)) (ma_nd_of (ks := [3, 2, 0, 1]) rfl (by decide)) (ma_le_cons rfl (ma_le_cons rfl (ma_le_cons rfl (ma_le_cons rfl (ma_le_nil _))))) h
theorem g_276_83_5 {X : Nat × (Nat → Int32)} {d w : Nat} {S : ma_S} {Q : Option ma_V ⊕ Nat → ma_S → Prop} (l1 : Int32) (l2 : Int32) (l3 : Int32) (hd : 0 ≤ d) (hw : 0 ≤ w) (hS : zT S) (h : if l3 ≤ l2 then (Q (.inl none) S) else ((0 ≤ l2 ∧ l2.toNatClampNeg < 375) ∧ (ma_wp X d w 276 5 [(0, .inr (.inr (some 83))), (1, .inl l1), (2, .inl (l2 + (1 : Int32))), (3, .inl l3)] [] (ma_put S 83 l2.toNatClampNeg (.inl l1)) Q))) : ma_wp X d w 276 5 [(0, .inr (.inr (some 83))), (1, .inl l1), (2, .inl l2), (3, .inl l3)] [] S Q := by
  refine zw_push hm_276 dJ7_fill_53178_5 (v := .inl l2) rfl ?_
  refine zw_push hm_276 dJ7_fill_53178_6 (v := .inl l3) rfl ?_
  refine zw_if2 hm_276 dJ7_fill_53178_7 (t := 20) rfl zc2_ge ?_ ?_
  · intro hc
    rw [if_pos hc] at h
    exact zw_vret hm_276 dJ7_fill_53178_20 h
  · intro hc
    rw [if_neg hc] at h
    refine zw_push hm_276 dJ7_fill_53178_10 (v := .inr (.inr (some 83))) rfl ?_
    refine zw_push hm_276 dJ7_fill_53178_11 (v := .inl l2) rfl ?_
    refine zw_push hm_276 dJ7_fill_53178_12 (v := .inl l1) rfl ?_
    obtain ⟨hg, h⟩ := h
    refine zw_ias hm_276 dJ7_fill_53178_13 (zT_is hS s_83) (zT_h hS s_83) rfl hg ?_
    refine zw_sto hm_276 dJ7_fill_53178_14 [(2, .inl (l2 + (1 : Int32))), (0, .inr (.inr (some 83))), (1, .inl l1), (3, .inl l3)] rfl rfl rfl ?_
    refine zw_goto hm_276 dJ7_fill_53178_17 (t := 5) rfl ?_
    exact zw_sub (ma_nd_of (ks := [0, 1, 2, 3]) rfl (by decide)) (ma_nd_of (ks := [2, 0, 1, 3]) rfl (by decide)) (ma_le_cons rfl (ma_le_cons rfl (ma_le_cons rfl (ma_le_cons rfl (ma_le_nil _))))) h
theorem lp_276_83_5 {X : Nat × (Nat → Int32)} {d w : Nat} {f : Nat → Nat → Int32} {r : Nat → Nat → Option Nat} {C Z N : Nat} {Q : Option ma_V ⊕ Nat → ma_S → Prop} (hd : 0 ≤ d) (hw : 0 ≤ w) (K : ∀ S', zJ82 f r C Z N S' → Q (.inl none) S') : ∀ (n : Nat) (S : ma_S) (l1 : Int32) (l2 : Int32) (l3 : Int32), (l3.toInt - l2.toInt).toNat = n → zJ82 f r C Z N S → (0 ≤ l2.toInt) → (l3.toInt = 375) → ma_wp X d w 276 5 [(0, .inr (.inr (some 83))), (1, .inl l1), (2, .inl l2), (3, .inl l3)] [] S Q := by
  intro n
  induction n using Nat.strongRecOn with
  | _ n IH =>
    intro S l1 l2 l3 hmu hI  hi0 hi1
    refine g_276_83_5 l1 l2 l3 (by omega) (by omega) (zG_T hI) ?_
    have b1 := i_bd l3
    have b2 := i_bd l2
    refine zd (fun h3 => ?_) (fun h3 => ?_)
    · skip
      have g4 := i_le h3
      exact K _ hI
    · skip
      have g5 := i_nle h3
      refine ⟨i_ix (by omega) (by omega), ?_⟩
      have hI6 : zJ82 f r C Z N (ma_put S 83 l2.toNatClampNeg (.inl l1)) := zG_fa hI rfl (by decide) (by decide) (by decide) (show zJ82_x (mI S) from zG_x hI)
      have b7 := i_bd l1
      first | have e8 : (l2 + (1 : Int32)).toInt = l2.toInt + (1) := i_addk rfl (by omega) (by omega) | have b9 := i_bd (l2 + (1 : Int32))
      exact IH _ (by omega) _ (l1) ((l2 + (1 : Int32))) (l3) rfl hI6 (by omega) (by omega)
theorem sp_276_83 {X : Nat × (Nat → Int32)} {d w : Nat} {f : Nat → Nat → Int32} {r : Nat → Nat → Option Nat} {C Z N : Nat} {Q : Option ma_V ⊕ Nat → ma_S → Prop} {S : ma_S} (x : Int32) (hd : 0 ≤ d) (hw : 0 ≤ w) (hI : zJ82 f r C Z N S)  (K : ∀ S', zJ82 f r C Z N S' → Q (.inl none) S') : ma_wp X d w 276 0 [(0, .inr (.inr (some 83))), (1, .inl x)] [] S Q := by
  refine g_276_83_0 x (by omega) (by omega) (zG_T hI) ?_
  have b1 := i_bd x
  have li2 : (0 : Int32).toInt = 0 := rfl
  have li3 : (375 : Int32).toInt = 375 := rfl
  exact lp_276_83_5 (by omega) (by omega) K _ _ (x) ((0 : Int32)) ((375 : Int32)) rfl hI (by omega) (by omega)
theorem g_1_82_66_zK82_0 {X : Nat × (Nat → Int32)} {d w : Nat} {S : ma_S} {Q : Option ma_V ⊕ Nat → ma_S → Prop}  (hd : 1 ≤ d) (hw : 23 ≤ w) (hS : zT S) (h : ma_wp X (d - 1) (w - 23) 276 0 [(0, .inr (.inr (some 83))), (1, .inl (0 : Int32))] [] (ma_put (ma_put (ma_put (ma_put (ma_put (ma_put (ma_put S 82 2 (.inl (mI S 66 0))) 82 3 (.inl (mI S 66 1))) 82 4 (.inl (mI S 66 2))) 82 5 (.inl (mI S 66 3))) 82 6 (.inl (0 : Int32))) 82 7 (.inl (mI S 66 1))) 82 8 (.inl (mI S 66 1))) (zv (fun S1 => zT S1 ∧ (Q (.inl none) S1)) (fun _ _ => False))) : ma_wp X d w 1 0 [(0, .inr (.inr (some 82))), (1, .inr (.inr (some 66)))] [] S Q := by
  refine zw_push hm_1 dX0_open_0 (v := .inr (.inr (some 82))) rfl ?_
  refine zw_push hm_1 dX0_open_1 (v := .inr (.inr (some 66))) rfl ?_
  refine zw_push hm_1 dX0_open_2 (v := .inl (0 : Int32)) rfl ?_
  refine zw_ia hm_1 dX0_open_3 (zT_is hS s_66) (zT_h hS s_66) rfl ⟨by decide, by decide⟩ ?_
  show ma_wp X d w 1 4 [(0, .inr (.inr (some 82))), (1, .inr (.inr (some 66)))] [.inl (mI S 66 0), .inr (.inr (some 82))] S _
  refine zw_pf hm_1 dX0_open_4 (zT_is hS s_82) (zT_t hS s_82) p_1_15_1 zk_int ?_
  refine zw_push hm_1 dX0_open_7 (v := .inr (.inr (some 82))) rfl ?_
  refine zw_push hm_1 dX0_open_8 (v := .inr (.inr (some 66))) rfl ?_
  refine zw_push hm_1 dX0_open_9 (v := .inl (1 : Int32)) rfl ?_
  refine zw_ia hm_1 dX0_open_10 (zT_is (zT_pi hS) s_66) (zT_h (zT_pi hS) s_66) rfl ⟨by decide, by decide⟩ ?_
  show ma_wp X d w 1 11 [(0, .inr (.inr (some 82))), (1, .inr (.inr (some 66)))] [.inl (mI S 66 1), .inr (.inr (some 82))] (ma_put S 82 2 (.inl (mI S 66 0))) _
  refine zw_pf hm_1 dX0_open_11 (zT_is (zT_pi hS) s_82) (zT_t (zT_pi hS) s_82) p_1_19_1 zk_int ?_
  refine zw_push hm_1 dX0_open_14 (v := .inr (.inr (some 82))) rfl ?_
  refine zw_push hm_1 dX0_open_15 (v := .inr (.inr (some 66))) rfl ?_
  refine zw_push hm_1 dX0_open_16 (v := .inl (2 : Int32)) rfl ?_
  refine zw_ia hm_1 dX0_open_17 (zT_is (zT_pi (zT_pi hS)) s_66) (zT_h (zT_pi (zT_pi hS)) s_66) rfl ⟨by decide, by decide⟩ ?_
  show ma_wp X d w 1 18 [(0, .inr (.inr (some 82))), (1, .inr (.inr (some 66)))] [.inl (mI S 66 2), .inr (.inr (some 82))] (ma_put (ma_put S 82 2 (.inl (mI S 66 0))) 82 3 (.inl (mI S 66 1))) _
  refine zw_pf hm_1 dX0_open_18 (zT_is (zT_pi (zT_pi hS)) s_82) (zT_t (zT_pi (zT_pi hS)) s_82) p_1_22_1 zk_int ?_
  refine zw_push hm_1 dX0_open_21 (v := .inr (.inr (some 82))) rfl ?_
  refine zw_push hm_1 dX0_open_22 (v := .inr (.inr (some 66))) rfl ?_
  refine zw_push hm_1 dX0_open_23 (v := .inl (3 : Int32)) rfl ?_
  refine zw_ia hm_1 dX0_open_24 (zT_is (zT_pi (zT_pi (zT_pi hS))) s_66) (zT_h (zT_pi (zT_pi (zT_pi hS))) s_66) rfl ⟨by decide, by decide⟩ ?_
  show ma_wp X d w 1 25 [(0, .inr (.inr (some 82))), (1, .inr (.inr (some 66)))] [.inl (mI S 66 3), .inr (.inr (some 82))] (ma_put (ma_put (ma_put S 82 2 (.inl (mI S 66 0))) 82 3 (.inl (mI S 66 1))) 82 4 (.inl (mI S 66 2))) _
  refine zw_pf hm_1 dX0_open_25 (zT_is (zT_pi (zT_pi (zT_pi hS))) s_82) (zT_t (zT_pi (zT_pi (zT_pi hS))) s_82) p_1_25_1 zk_int ?_
  refine zw_push hm_1 dX0_open_28 (v := .inr (.inr (some 82))) rfl ?_
  refine zw_push hm_1 dX0_open_29 (v := .inl (0 : Int32)) rfl ?_
  refine zw_pf hm_1 dX0_open_30 (zT_is (zT_pi (zT_pi (zT_pi (zT_pi hS)))) s_82) (zT_t (zT_pi (zT_pi (zT_pi (zT_pi hS)))) s_82) p_1_28_1 zk_int ?_
  refine zw_push hm_1 dX0_open_33 (v := .inr (.inr (some 82))) rfl ?_
  refine zw_push hm_1 dX0_open_34 (v := .inr (.inr (some 82))) rfl ?_
  refine zw_gf hm_1 dX0_open_35 (v := .inl (mI S 66 1)) (zT_is (zT_pi (zT_pi (zT_pi (zT_pi (zT_pi hS))))) s_82) (zT_t (zT_pi (zT_pi (zT_pi (zT_pi (zT_pi hS))))) s_82) rfl f_1_19_1 rfl ?_
  refine zw_pf hm_1 dX0_open_38 (zT_is (zT_pi (zT_pi (zT_pi (zT_pi (zT_pi hS))))) s_82) (zT_t (zT_pi (zT_pi (zT_pi (zT_pi (zT_pi hS))))) s_82) p_1_31_1 zk_int ?_
  refine zw_push hm_1 dX0_open_41 (v := .inr (.inr (some 82))) rfl ?_
  refine zw_push hm_1 dX0_open_42 (v := .inr (.inr (some 82))) rfl ?_
  refine zw_gf hm_1 dX0_open_43 (v := .inl (mI S 66 1)) (zT_is (zT_pi (zT_pi (zT_pi (zT_pi (zT_pi (zT_pi hS)))))) s_82) (zT_t (zT_pi (zT_pi (zT_pi (zT_pi (zT_pi (zT_pi hS)))))) s_82) rfl f_1_19_1 rfl ?_
  refine zw_pf hm_1 dX0_open_46 (zT_is (zT_pi (zT_pi (zT_pi (zT_pi (zT_pi (zT_pi hS)))))) s_82) (zT_t (zT_pi (zT_pi (zT_pi (zT_pi (zT_pi (zT_pi hS)))))) s_82) p_1_34_1 zk_int ?_
  refine zw_push hm_1 dX0_open_49 (v := .inr (.inr (some 82))) rfl ?_
  refine zw_gf hm_1 dX0_open_50 (v := .inr (.inr (some 83))) (zT_is (zT_pi (zT_pi (zT_pi (zT_pi (zT_pi (zT_pi (zT_pi hS))))))) s_82) (zT_t (zT_pi (zT_pi (zT_pi (zT_pi (zT_pi (zT_pi (zT_pi hS))))))) s_82) rfl f_1_9_1 (zT_f (zT_pi (zT_pi (zT_pi (zT_pi (zT_pi (zT_pi (zT_pi hS))))))) r_82_9) ?_
  refine zw_push hm_1 dX0_open_53 (v := .inl (0 : Int32)) rfl ?_
  refine zw_cs hm_1 dX0_open_54 pn_1_37 sl_1_37 hm_276 [.inl (0 : Int32), .inr (.inr (some 83))] [] rfl ⟨by omega, by omega⟩ rfl (zw_mono h (zv_go ?_ ?_))
  · intro S1 hv
    obtain ⟨hS1, h⟩ := hv
    exact zw_vret hm_1 dX0_open_57 h
  · intro x S9 hx
    exact hx.elim
theorem sp_1_82_66_zK82 {X : Nat × (Nat → Int32)} {d w : Nat} {f : Nat → Nat → Int32} {r : Nat → Nat → Option Nat} {C Z N : Nat} {Q : Option ma_V ⊕ Nat → ma_S → Prop} {S : ma_S}  (hd : 1 ≤ d) (hw : 23 ≤ w) (hI : zK82 f r C Z N S) (hpre0 : 0 ≤ (mI S 66 0).toInt ∧ (mI S 66 0).toInt ≤ 1500 ∧ 0 ≤ (mI S 66 1).toInt ∧ (mI S 66 1).toInt ≤ 1500) (K : ∀ S', zK82 f r C Z N S' → ((mI S' 82 3).toInt ≤ (mI S' 82 7).toInt ∧ (mI S' 82 7).toInt ≤ (mI S' 82 3).toInt + (mI S' 82 2).toInt) → Q (.inl none) S') : ma_wp X d w 1 0 [(0, .inr (.inr (some 82))), (1, .inr (.inr (some 66)))] [] S Q := by
  refine g_1_82_66_zK82_0  (by omega) (by omega) (zG_T hI) ?_
  have li1 : (0 : Int32).toInt = 0 := rfl
  have b3 := i_bd (mI S 66 0)
  have hI2 : zK82 f r C Z N (ma_put S 82 2 (.inl (mI S 66 0))) := zG_sp hI (0) (1500) rfl (by decide) (by decide) (by decide) trivial (by omega) (by omega)
  have b5 := i_bd (mI S 66 1)
  have hI4 : zK82 f r C Z N (ma_put (ma_put S 82 2 (.inl (mI S 66 0))) 82 3 (.inl (mI S 66 1))) := zG_sp hI2 (0) (1500) rfl (by decide) (by decide) (by decide) trivial (by omega) (by omega)
  have hI6 : zK82 f r C Z N (ma_put (ma_put (ma_put S 82 2 (.inl (mI S 66 0))) 82 3 (.inl (mI S 66 1))) 82 4 (.inl (mI S 66 2))) := zG_fr hI4 rfl (by decide) (by decide) (by decide) trivial
  have hI7 : zK82 f r C Z N (ma_put (ma_put (ma_put (ma_put S 82 2 (.inl (mI S 66 0))) 82 3 (.inl (mI S 66 1))) 82 4 (.inl (mI S 66 2))) 82 5 (.inl (mI S 66 3))) := zG_fr hI6 rfl (by decide) (by decide) (by decide) trivial
  have hI8 : zK82 f r C Z N (ma_put (ma_put (ma_put (ma_put (ma_put S 82 2 (.inl (mI S 66 0))) 82 3 (.inl (mI S 66 1))) 82 4 (.inl (mI S 66 2))) 82 5 (.inl (mI S 66 3))) 82 6 (.inl (0 : Int32))) := zG_sp hI7 (0) (400000) rfl (by decide) (by decide) (by decide) trivial (by omega) (by omega)
  have hI9 : zK82 f r C Z N (ma_put (ma_put (ma_put (ma_put (ma_put (ma_put S 82 2 (.inl (mI S 66 0))) 82 3 (.inl (mI S 66 1))) 82 4 (.inl (mI S 66 2))) 82 5 (.inl (mI S 66 3))) 82 6 (.inl (0 : Int32))) 82 7 (.inl (mI S 66 1))) := zG_sp hI8 (0) (3000) rfl (by decide) (by decide) (by decide) trivial (by omega) (by omega)
  have hI10 : zK82 f r C Z N (ma_put (ma_put (ma_put (ma_put (ma_put (ma_put (ma_put S 82 2 (.inl (mI S 66 0))) 82 3 (.inl (mI S 66 1))) 82 4 (.inl (mI S 66 2))) 82 5 (.inl (mI S 66 3))) 82 6 (.inl (0 : Int32))) 82 7 (.inl (mI S 66 1))) 82 8 (.inl (mI S 66 1))) := zG_sp hI9 (0) (400000) rfl (by decide) (by decide) (by decide) trivial (by omega) (by omega)
  refine sp_276_83_zK82 ((0 : Int32)) (by omega) (by omega) hI10 (show (mI S 66 1).toInt ≤ (mI S 66 1).toInt ∧ (mI S 66 1).toInt ≤ (mI S 66 1).toInt + (mI S 66 0).toInt from by omega) (fun S1 hI_S1 hp_S1 => zv_n ⟨zG_T hI_S1, ?_⟩)
  have f11 := zG_s hI_S1 (0) (1500) (c := 82) (k := 3) (by decide)
  have f12 := zG_s hI_S1 (0) (3000) (c := 82) (k := 7) (by decide)
  have f13 := zG_s hI_S1 (0) (1500) (c := 82) (k := 2) (by decide)
  exact K _ hI_S1 (show (mI S1 82 3).toInt ≤ (mI S1 82 7).toInt ∧ (mI S1 82 7).toInt ≤ (mI S1 82 3).toInt + (mI S1 82 2).toInt from by omega)
theorem g_2_82_0 {X : Nat × (Nat → Int32)} {d w : Nat} {S : ma_S} {Q : Option ma_V ⊕ Nat → ma_S → Prop}  (hd : 0 ≤ d) (hw : 0 ≤ w) (hS : zT S) (h : Q (.inl (some (.inl ((mI S 82 3) + ((2 : Int32) * (mI S 82 2)))))) S) : ma_wp X d w 2 0 [(0, .inr (.inr (some 82)))] [] S Q := by
  refine zw_push hm_2 dX0_total_0 (v := .inr (.inr (some 82))) rfl ?_
  refine zw_gf hm_2 dX0_total_1 (v := .inl (mI S 82 3)) (zT_is hS s_82) (zT_t hS s_82) rfl f_1_19_1 rfl ?_
  refine zw_push hm_2 dX0_total_4 (v := .inl (2 : Int32)) rfl ?_
  refine zw_push hm_2 dX0_total_5 (v := .inr (.inr (some 82))) rfl ?_
  refine zw_gf hm_2 dX0_total_6 (v := .inl (mI S 82 2)) (zT_is hS s_82) (zT_t hS s_82) rfl f_1_15_1 rfl ?_
  refine zw_stk hm_2 dX0_total_9 (st' := [.inl ((2 : Int32) * (mI S 82 2)), .inl (mI S 82 3)]) rfl rfl ?_
  refine zw_stk hm_2 dX0_total_10 (st' := [.inl ((mI S 82 3) + ((2 : Int32) * (mI S 82 2)))]) rfl rfl ?_
  exact zw_iret hm_2 dX0_total_11 h
theorem sp_2_82 {X : Nat × (Nat → Int32)} {d w : Nat} {f : Nat → Nat → Int32} {r : Nat → Nat → Option Nat} {C Z N : Nat} {Q : Option ma_V ⊕ Nat → ma_S → Prop} {S : ma_S}  (hd : 0 ≤ d) (hw : 0 ≤ w) (hI : zJ82 f r C Z N S)  (K : ∀ v S', zJ82 f r C Z N S' → (True) → Q (.inl (some (.inl v))) S') : ma_wp X d w 2 0 [(0, .inr (.inr (some 82)))] [] S Q := by
  refine g_2_82_0  (by omega) (by omega) (zG_T hI) ?_
  have x1 : (mI S 82 3).toInt ≤ (mI S 82 7).toInt ∧ (mI S 82 7).toInt ≤ (mI S 82 3).toInt + (mI S 82 2).toInt := zG_x hI
  have f2 := zG_s hI (0) (1500) (c := 82) (k := 3) (by decide)
  have li3 : (2 : Int32).toInt = 2 := rfl
  have f4 := zG_s hI (0) (1500) (c := 82) (k := 2) (by decide)
  first | have f5 := i_muln (x := (2 : Int32)) (y := (mI S 82 2)) (by omega) (by omega) (by omega) (by omega) | have b6 := i_bd ((2 : Int32) * (mI S 82 2))
  first | have e7 : ((mI S 82 3) + ((2 : Int32) * (mI S 82 2))).toInt = (mI S 82 3).toInt + ((2 : Int32) * (mI S 82 2)).toInt := i_add (by omega) (by omega) | have b8 := i_bd ((mI S 82 3) + ((2 : Int32) * (mI S 82 2)))
  exact K (((mI S 82 3) + ((2 : Int32) * (mI S 82 2)))) _ hI trivial
theorem g_21_82_0 {X : Nat × (Nat → Int32)} {d w : Nat} {S : ma_S} {Q : Option ma_V ⊕ Nat → ma_S → Prop}  (hd : 0 ≤ d) (hw : 0 ≤ w) (hS : zT S) (h : Q (.inl (some (.inl (mI S 82 8)))) S) : ma_wp X d w 21 0 [(0, .inr (.inr (some 82)))] [] S Q := by
  refine zw_push hm_21 dX0_topPlace_0 (v := .inr (.inr (some 82))) rfl ?_
  refine zw_gf hm_21 dX0_topPlace_1 (v := .inl (mI S 82 8)) (zT_is hS s_82) (zT_t hS s_82) rfl f_1_34_1 rfl ?_
  exact zw_iret hm_21 dX0_topPlace_4 h
theorem sp_21_82 {X : Nat × (Nat → Int32)} {d w : Nat} {f : Nat → Nat → Int32} {r : Nat → Nat → Option Nat} {C Z N : Nat} {Q : Option ma_V ⊕ Nat → ma_S → Prop} {S : ma_S}  (hd : 0 ≤ d) (hw : 0 ≤ w) (hI : zJ82 f r C Z N S)  (K : ∀ v S', zJ82 f r C Z N S' → (True) → Q (.inl (some (.inl v))) S') : ma_wp X d w 21 0 [(0, .inr (.inr (some 82)))] [] S Q := by
  refine g_21_82_0  (by omega) (by omega) (zG_T hI) ?_
  have f1 := zG_s hI (0) (400000) (c := 82) (k := 8) (by decide)
  exact K ((mI S 82 8)) _ hI trivial
