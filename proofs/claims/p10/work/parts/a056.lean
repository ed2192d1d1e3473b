/-! from 95.x12 -/
/-! the class opens a heap (written by wip/tools/gen15h.py) -/
theorem g_59_80_66_sn_0 {X : Nat × (Nat → Int32)} {d w : Nat} {S : ma_S} {Q : Option ma_V ⊕ Nat → ma_S → Prop}  (hd : 0 ≤ d) (hw : 0 ≤ w) (hS : zT S) (h : Q (.inl none) (ma_put (ma_put S 80 2 (.inl (mI S 66 0))) 80 3 (.inl (0 : Int32)))) : ma_wp X d w 59 0 [(0, .inr (.inr (some 80))), (1, .inr (.inr (some 66)))] [] S Q := by
  refine zw_push hm_59 dX5_open_0 (v := .inr (.inr (some 80))) rfl ?_
  refine zw_push hm_59 dX5_open_1 (v := .inr (.inr (some 66))) rfl ?_
  refine zw_push hm_59 dX5_open_2 (v := .inl (0 : Int32)) rfl ?_
  refine zw_ia hm_59 dX5_open_3 (zT_is hS s_66) (zT_h hS s_66) rfl ⟨by decide, by decide⟩ ?_
  show ma_wp X d w 59 4 [(0, .inr (.inr (some 80))), (1, .inr (.inr (some 66)))] [.inl (mI S 66 0), .inr (.inr (some 80))] S _
  refine zw_pf hm_59 dX5_open_4 (zT_is hS s_80) (zT_t hS s_80) p_5_9_5 zk_int ?_
  refine zw_push hm_59 dX5_open_7 (v := .inr (.inr (some 80))) rfl ?_
  refine zw_push hm_59 dX5_open_8 (v := .inl (0 : Int32)) rfl ?_
  refine zw_pf hm_59 dX5_open_9 (zT_is (zT_pi hS) s_80) (zT_t (zT_pi hS) s_80) p_5_15_5 zk_int ?_
  exact zw_vret hm_59 dX5_open_12 h
theorem sp_59_80_66_sn {X : Nat × (Nat → Int32)} {d w : Nat} {f : Nat → Nat → Int32} {r : Nat → Nat → Option Nat} {C Z N : Nat} {Q : Option ma_V ⊕ Nat → ma_S → Prop} {ab : Nat→Nat→Int32} {S : ma_S}  (hd : 0 ≤ d) (hw : 0 ≤ w) (hI : zJ80 f r C Z N S) (hpre0 : 0 ≤ (mI S 66 0).toInt ∧ (mI S 66 0).toInt ≤ 1500) (hpre1 : xB S (mR S 70)) (hpre2 : aS 88 S = ab) (K : ∀ S₉, zJ80 f r C Z N S₉ → (xB S₉ (mR S₉ 70)) → (aS 88 S₉ = ab) → ((mI S₉ 80 2) = (f 66) 0 ∧ (mI S₉ 80 3) = 0) → Q (.inl none) S₉) : ma_wp X d w 59 0 [(0, .inr (.inr (some 80))), (1, .inr (.inr (some 66)))] [] S Q := by
  refine g_59_80_66_sn_0  (by omega) (by omega) (zG_T hI) ?_
  have q1 : (mI S 66 0).toInt = (f 66 0).toInt := zG_zi hI rfl
  have b2 := i_bd (mI S 66 0)
  have hI3 : zJ80 f r C Z N (ma_put S 80 2 (.inl (mI S 66 0))) := zG_sp hI (0) (1500) rfl (by decide) (by decide) (by decide) trivial (by omega) (by omega)
  have li5 : (0 : Int32).toInt = 0 := rfl
  have hI4 : zJ80 f r C Z N (ma_put (ma_put S 80 2 (.inl (mI S 66 0))) 80 3 (.inl (0 : Int32))) := zG_sp hI3 (0) (400000) rfl (by decide) (by decide) (by decide) trivial (by omega) (by omega)
  exact K _ hI4 (show xB (ma_put (ma_put S 80 2 (.inl (mI S 66 0))) 80 3 (.inl (0 : Int32))) (mR (ma_put (ma_put S 80 2 (.inl (mI S 66 0))) 80 3 (.inl (0 : Int32))) 70) from by first | (exact xB_x (xC_n (c := 80) (k := 3) (x := (0 : Int32)) (xC_n (c := 80) (k := 2) (x := (mI S 66 0)) (xC_o (W := 75) hpre1) ⟨by decide, Or.inl ⟨rfl, rfl⟩⟩) ⟨by decide, Or.inl ⟨rfl, rfl⟩⟩).2)) (show aS 88 (ma_put (ma_put S 80 2 (.inl (mI S 66 0))) 80 3 (.inl (0 : Int32))) = ab from by first | (exact (xC_n (c := 80) (k := 3) (x := (0 : Int32)) (xC_n (c := 80) (k := 2) (x := (mI S 66 0)) (xC_o (W := 88) hpre1) ⟨by decide, Or.inr ⟨rfl, Or.inr ⟨rfl, by decide⟩⟩⟩) ⟨by decide, Or.inr ⟨rfl, Or.inr ⟨rfl, by decide⟩⟩⟩).1.trans hpre2)) (show (mI S 66 0) = (f 66) 0 ∧ (0 : Int32) = 0 from by first | (exact ⟨(show mI S 66 0 = f 66 0 from zG_z hI rfl), rfl⟩))
theorem g_29_81_66_zK81_sn_0 {X : Nat × (Nat → Int32)} {d w : Nat} {S : ma_S} {Q : Option ma_V ⊕ Nat → ma_S → Prop}  (hd : 0 ≤ d) (hw : 0 ≤ w) (hS : zT S) (h : Q (.inl none) (ma_put (ma_put (ma_put S 81 2 (.inl (mI S 66 0))) 81 3 (.inl (0 : Int32))) 81 4 (.inl (0 : Int32)))) : ma_wp X d w 29 0 [(0, .inr (.inr (some 81))), (1, .inr (.inr (some 66)))] [] S Q := by
  refine zw_push hm_29 dX3_open_0 (v := .inr (.inr (some 81))) rfl ?_
  refine zw_push hm_29 dX3_open_1 (v := .inr (.inr (some 66))) rfl ?_
  refine zw_push hm_29 dX3_open_2 (v := .inl (0 : Int32)) rfl ?_
  refine zw_ia hm_29 dX3_open_3 (zT_is hS s_66) (zT_h hS s_66) rfl ⟨by decide, by decide⟩ ?_
  show ma_wp X d w 29 4 [(0, .inr (.inr (some 81))), (1, .inr (.inr (some 66)))] [.inl (mI S 66 0), .inr (.inr (some 81))] S _
  refine zw_pf hm_29 dX3_open_4 (zT_is hS s_81) (zT_t hS s_81) p_3_9_3 zk_int ?_
  refine zw_push hm_29 dX3_open_7 (v := .inr (.inr (some 81))) rfl ?_
  refine zw_push hm_29 dX3_open_8 (v := .inl (0 : Int32)) rfl ?_
  refine zw_pf hm_29 dX3_open_9 (zT_is (zT_pi hS) s_81) (zT_t (zT_pi hS) s_81) p_3_15_3 zk_int ?_
  refine zw_push hm_29 dX3_open_12 (v := .inr (.inr (some 81))) rfl ?_
  refine zw_push hm_29 dX3_open_13 (v := .inl (0 : Int32)) rfl ?_
  refine zw_pf hm_29 dX3_open_14 (zT_is (zT_pi (zT_pi hS)) s_81) (zT_t (zT_pi (zT_pi hS)) s_81) p_3_18_3 zk_int ?_
  exact zw_vret hm_29 dX3_open_17 h
theorem sp_29_81_66_zK81_sn {X : Nat × (Nat → Int32)} {d w : Nat} {f : Nat → Nat → Int32} {r : Nat → Nat → Option Nat} {C Z N : Nat} {Q : Option ma_V ⊕ Nat → ma_S → Prop} {ab : Nat→Nat→Int32} {S : ma_S}  (hd : 0 ≤ d) (hw : 0 ≤ w) (hI : zK81 f r C Z N S) (hpre0 : 0 ≤ (mI S 66 0).toInt ∧ (mI S 66 0).toInt ≤ 1500) (hpre1 : xB S (mR S 70)) (hpre2 : aS 88 S = ab) (K : ∀ S₉, zK81 f r C Z N S₉ → (0 ≤ (mI S₉ 81 3).toInt ∧ (mI S₉ 81 3).toInt ≤ (mI S₉ 81 2).toInt) → (xB S₉ (mR S₉ 70)) → (aS 88 S₉ = ab) → ((mI S₉ 81 2) = (f 66) 0 ∧ (mI S₉ 81 3) = 0 ∧ (mI S₉ 81 4) = 0) → Q (.inl none) S₉) : ma_wp X d w 29 0 [(0, .inr (.inr (some 81))), (1, .inr (.inr (some 66)))] [] S Q := by
  refine g_29_81_66_zK81_sn_0  (by omega) (by omega) (zG_T hI) ?_
  have q1 : (mI S 66 0).toInt = (f 66 0).toInt := zG_zi hI rfl
  have b2 := i_bd (mI S 66 0)
  have hI3 : zK81 f r C Z N (ma_put S 81 2 (.inl (mI S 66 0))) := zG_sp hI (0) (1500) rfl (by decide) (by decide) (by decide) trivial (by omega) (by omega)
  have li5 : (0 : Int32).toInt = 0 := rfl
  have hI4 : zK81 f r C Z N (ma_put (ma_put S 81 2 (.inl (mI S 66 0))) 81 3 (.inl (0 : Int32))) := zG_sp hI3 (0) (1500) rfl (by decide) (by decide) (by decide) trivial (by omega) (by omega)
  have hI6 : zK81 f r C Z N (ma_put (ma_put (ma_put S 81 2 (.inl (mI S 66 0))) 81 3 (.inl (0 : Int32))) 81 4 (.inl (0 : Int32))) := zG_sp hI4 (0) (400000) rfl (by decide) (by decide) (by decide) trivial (by omega) (by omega)
  exact K _ hI6 (show 0 ≤ (0 : Int32).toInt ∧ (0 : Int32).toInt ≤ (mI S 66 0).toInt from by omega) (show xB (ma_put (ma_put (ma_put S 81 2 (.inl (mI S 66 0))) 81 3 (.inl (0 : Int32))) 81 4 (.inl (0 : Int32))) (mR (ma_put (ma_put (ma_put S 81 2 (.inl (mI S 66 0))) 81 3 (.inl (0 : Int32))) 81 4 (.inl (0 : Int32))) 70) from by first | (exact xB_x (xC_n (c := 81) (k := 4) (x := (0 : Int32)) (xC_n (c := 81) (k := 3) (x := (0 : Int32)) (xC_n (c := 81) (k := 2) (x := (mI S 66 0)) (xC_o (W := 75) hpre1) ⟨by decide, Or.inl ⟨rfl, rfl⟩⟩) ⟨by decide, Or.inl ⟨rfl, rfl⟩⟩) ⟨by decide, Or.inl ⟨rfl, rfl⟩⟩).2)) (show aS 88 (ma_put (ma_put (ma_put S 81 2 (.inl (mI S 66 0))) 81 3 (.inl (0 : Int32))) 81 4 (.inl (0 : Int32))) = ab from by first | (exact (xC_n (c := 81) (k := 4) (x := (0 : Int32)) (xC_n (c := 81) (k := 3) (x := (0 : Int32)) (xC_n (c := 81) (k := 2) (x := (mI S 66 0)) (xC_o (W := 88) hpre1) ⟨by decide, Or.inr ⟨rfl, Or.inr ⟨rfl, by decide⟩⟩⟩) ⟨by decide, Or.inr ⟨rfl, Or.inr ⟨rfl, by decide⟩⟩⟩) ⟨by decide, Or.inr ⟨rfl, Or.inr ⟨rfl, by decide⟩⟩⟩).1.trans hpre2)) (show (mI S 66 0) = (f 66) 0 ∧ (0 : Int32) = 0 ∧ (0 : Int32) = 0 from by first | (exact ⟨(show mI S 66 0 = f 66 0 from zG_z hI rfl), rfl, rfl⟩))
theorem g_276_83_zK82_sn_0 {X : Nat × (Nat → Int32)} {d w : Nat} {S : ma_S} {Q : Option ma_V ⊕ Nat → ma_S → Prop} (x : Int32) (hd : 0 ≤ d) (hw : 0 ≤ w) (hS : zT S) (h : ma_wp X d w 276 5 [(0, .inr (.inr (some 83))), (1, .inl x), (2, .inl (0 : Int32)), (3, .inl (375 : Int32))] [] S Q) : ma_wp X d w 276 0 [(0, .inr (.inr (some 83))), (1, .inl x)] [] S Q := by
  refine zw_push hm_276 dJ7_fill_53178_0 (v := .inl (0 : Int32)) rfl ?_
  refine zw_sto hm_276 dJ7_fill_53178_1 [(2, .inl (0 : Int32)), (0, .inr (.inr (some 83))), (1, .inl x)] rfl rfl rfl ?_
  refine zw_push hm_276 dJ7_fill_53178_2 (v := .inr (.inr (some 83))) rfl ?_
  refine zw_len hm_276 dJ7_fill_53178_3 (zT_is hS s_83) (zT_h hS s_83) rfl rfl ?_
  refine zw_sto hm_276 dJ7_fill_53178_4 [(3, .inl (375 : Int32)), (2, .inl (0 : Int32)), (0, .inr (.inr (some 83))), (1, .inl x)] rfl rfl rfl ?_
  exact zw_sub (ma_nd_of (ks := [0, 1, 2, 3]) rfl (by decide)) (ma_nd_of (ks := [3, 2, 0, 1]) rfl (by decide)) (ma_le_cons rfl (ma_le_cons rfl (ma_le_cons rfl (ma_le_cons rfl (ma_le_nil _))))) h
theorem g_276_83_zK82_sn_5 {X : Nat × (Nat → Int32)} {d w : Nat} {S : ma_S} {Q : Option ma_V ⊕ Nat → ma_S → Prop} (l1 : Int32) (l2 : Int32) (l3 : Int32) (hd : 0 ≤ d) (hw : 0 ≤ w) (hS : zT S) (h : if l3 ≤ l2 then (Q (.inl none) S) else ((0 ≤ l2 ∧ l2.toNatClampNeg < 375) ∧ (ma_wp X d w 276 5 [(0, .inr (.inr (some 83))), (1, .inl l1), (2, .inl (l2 + (1 : Int32))), (3, .inl l3)] [] (ma_put S 83 l2.toNatClampNeg (.inl l1)) Q))) : ma_wp X d w 276 5 [(0, .inr (.inr (some 83))), (1, .inl l1), (2, .inl l2), (3, .inl l3)] [] S Q := by
  refine zw_push hm_276 dJ7_fill_53178_5 (v := .inl l2) rfl ?_
  refine zw_push hm_276 dJ7_fill_53178_6 (v := .inl l3) rfl ?_
  refine zw_if2 hm_276 dJ7_fill_53178_7 (t := 20) rfl zc2_ge ?_ ?_
  · intro hc
    rw [if_pos hc] at h
    exact zw_vret hm_276 dJ7_fill_53178_20 h
  · intro hc
    rw [if_neg hc] at h
    refine zw_push hm_276 dJ7_fill_53178_10 (v := .inr (.inr (some 83))) rfl ?_
    refine zw_push hm_276 dJ7_fill_53178_11 (v := .inl l2) rfl ?_
    refine zw_push hm_276 dJ7_fill_53178_12 (v := .inl l1) rfl ?_
    obtain ⟨hg, h⟩ := h
    refine zw_ias hm_276 dJ7_fill_53178_13 (zT_is hS s_83) (zT_h hS s_83) rfl hg ?_
    refine zw_sto hm_276 dJ7_fill_53178_14 [(2, .inl (l2 + (1 : Int32))), (0, .inr (.inr (some 83))), (1, .inl l1), (3, .inl l3)] rfl rfl rfl ?_
    refine zw_goto hm_276 dJ7_fill_53178_17 (t := 5) rfl ?_
    exact zw_sub (ma_nd_of (ks := [0, 1, 2, 3]) rfl (by decide)) (ma_nd_of (ks := [2, 0, 1, 3]) rfl (by decide)) (ma_le_cons rfl (ma_le_cons rfl (ma_le_cons rfl (ma_le_cons rfl (ma_le_nil _))))) h
theorem lp_276_83_zK82_sn_5 {X : Nat × (Nat → Int32)} {d w : Nat} {f : Nat → Nat → Int32} {r : Nat → Nat → Option Nat} {C Z N : Nat} {Q : Option ma_V ⊕ Nat → ma_S → Prop} {ab : Nat→Nat→Int32} {fp82 : Nat→Int32} {x : Int32} (hd : 0 ≤ d) (hw : 0 ≤ w) (K : ∀ S₉, zK82 f r C Z N S₉ → ((mI S₉ 82 3).toInt ≤ (mI S₉ 82 7).toInt ∧ (mI S₉ 82 7).toInt ≤ (mI S₉ 82 3).toInt + (mI S₉ 82 2).toInt) → (xB S₉ (mR S₉ 70)) → (aS 88 S₉ = ab) → ((mI S₉ 82) = fp82) → (∀ k : Nat, k < 375 → (mI S₉ 83) k = x) → Q (.inl none) S₉) : ∀ (n : Nat) (S : ma_S) (l1 : Int32) (l2 : Int32) (l3 : Int32), (l3.toInt - l2.toInt).toNat = n → zK82 f r C Z N S → (0 ≤ l2.toInt) → (l3.toInt = 375) → (l2.toInt ≤ 375) → ((mI S 82 3).toInt ≤ (mI S 82 7).toInt ∧ (mI S 82 7).toInt ≤ (mI S 82 3).toInt + (mI S 82 2).toInt) → (xB S (mR S 70)) → (aS 88 S = ab) → ((mI S 82) = fp82) → (∀ k : Nat, (k : Int) < l2.toInt → (mI S 83) k = l1) → (l1 = x) → ma_wp X d w 276 5 [(0, .inr (.inr (some 83))), (1, .inl l1), (2, .inl l2), (3, .inl l3)] [] S Q := by
  intro n
  induction n using Nat.strongRecOn with
  | _ n IH =>
    intro S l1 l2 l3 hmu hI  hi0 hi1 hi2 hi3 hi4 hi5 hi6 hi7 hi8
    refine g_276_83_zK82_sn_5 l1 l2 l3 (by omega) (by omega) (zG_T hI) ?_
    have b1 := i_bd l3
    have b2 := i_bd l2
    refine zd (fun h3 => ?_) (fun h3 => ?_)
    · skip
      have g4 := i_le h3
      have f5 := zG_s hI (0) (1500) (c := 82) (k := 3) (by decide)
      have f6 := zG_s hI (0) (3000) (c := 82) (k := 7) (by decide)
      have f7 := zG_s hI (0) (1500) (c := 82) (k := 2) (by decide)
      exact K _ hI (show (mI S 82 3).toInt ≤ (mI S 82 7).toInt ∧ (mI S 82 7).toInt ≤ (mI S 82 3).toInt + (mI S 82 2).toInt from by omega) (show xB S (mR S 70) from by first | (exact xB_x (xC_o (W := 75) hi4).2)) (show aS 88 S = ab from by first | (exact hi5)) (show (mI S 82) = fp82 from by first | (exact hi6)) (show ∀ k : Nat, k < 375 → (mI S 83) k = x from by first | (intro k hk; rw [← hi8]; exact hi7 k (by omega)))
    · skip
      have g8 := i_nle h3
      refine ⟨i_ix (by omega) (by omega), ?_⟩
      have hI9 : zK82 f r C Z N (ma_put S 83 l2.toNatClampNeg (.inl l1)) := zG_fa hI rfl (by decide) (by decide) (by decide) trivial
      have b10 := i_bd l1
      first | have e11 : (l2 + (1 : Int32)).toInt = l2.toInt + (1) := i_addk rfl (by omega) (by omega) | have b12 := i_bd (l2 + (1 : Int32))
      have f13 := zG_s hI (0) (1500) (c := 82) (k := 3) (by decide)
      have f14 := zG_s hI (0) (3000) (c := 82) (k := 7) (by decide)
      have f15 := zG_s hI (0) (1500) (c := 82) (k := 2) (by decide)
      exact IH _ (by omega) _ (l1) ((l2 + (1 : Int32))) (l3) rfl hI9 (by omega) (by omega) (by omega) (show (mI S 82 3).toInt ≤ (mI S 82 7).toInt ∧ (mI S 82 7).toInt ≤ (mI S 82 3).toInt + (mI S 82 2).toInt from by omega) (show xB (ma_put S 83 l2.toNatClampNeg (.inl l1)) (mR (ma_put S 83 l2.toNatClampNeg (.inl l1)) 70) from by first | (exact xB_x (xC_n (c := 83) (k := l2.toNatClampNeg) (x := l1) (xC_o (W := 75) hi4) ⟨by decide, Or.inl ⟨rfl, rfl⟩⟩).2)) (show aS 88 (ma_put S 83 l2.toNatClampNeg (.inl l1)) = ab from by first | (exact (xC_n (c := 83) (k := l2.toNatClampNeg) (x := l1) (xC_o (W := 88) hi4) ⟨by decide, Or.inr ⟨rfl, Or.inr ⟨rfl, by decide⟩⟩⟩).1.trans hi5)) (show (mI (ma_put S 83 l2.toNatClampNeg (.inl l1)) 82) = fp82 from by first | (exact ((zr_n (P := 82) (c := 83) (by decide)).trans hi6))) (show ∀ k : Nat, (k : Int) < ((l2 + (1 : Int32))).toInt → (mI (ma_put S 83 l2.toNatClampNeg (.inl l1)) 83) k = (l1) from by first | (intro k hk; show (if (83 : Nat) = 83 ∧ k = l2.toNatClampNeg then l1 else mI S 83 k) = l1; by_cases w : k = l2.toNatClampNeg; (rw [if_pos ⟨rfl, w⟩]); (rw [if_neg (fun z => w z.2)]; exact hi7 k (by have := tn_cast (x := l2) (by omega); omega)))) (show (l1) = x from by first | (exact rfl) | (exact hi8))
theorem sp_276_83_zK82_sn {X : Nat × (Nat → Int32)} {d w : Nat} {f : Nat → Nat → Int32} {r : Nat → Nat → Option Nat} {C Z N : Nat} {Q : Option ma_V ⊕ Nat → ma_S → Prop} {ab : Nat→Nat→Int32} {fp82 : Nat→Int32} {S : ma_S} (x : Int32) (hd : 0 ≤ d) (hw : 0 ≤ w) (hI : zK82 f r C Z N S) (hpre0 : (mI S 82 3).toInt ≤ (mI S 82 7).toInt ∧ (mI S 82 7).toInt ≤ (mI S 82 3).toInt + (mI S 82 2).toInt) (hpre1 : xB S (mR S 70)) (hpre2 : aS 88 S = ab) (hpre3 : (mI S 82) = fp82) (K : ∀ S₉, zK82 f r C Z N S₉ → ((mI S₉ 82 3).toInt ≤ (mI S₉ 82 7).toInt ∧ (mI S₉ 82 7).toInt ≤ (mI S₉ 82 3).toInt + (mI S₉ 82 2).toInt) → (xB S₉ (mR S₉ 70)) → (aS 88 S₉ = ab) → ((mI S₉ 82) = fp82) → (∀ k : Nat, k < 375 → (mI S₉ 83) k = x) → Q (.inl none) S₉) : ma_wp X d w 276 0 [(0, .inr (.inr (some 83))), (1, .inl x)] [] S Q := by
  refine g_276_83_zK82_sn_0 x (by omega) (by omega) (zG_T hI) ?_
  have b1 := i_bd x
  have li2 : (0 : Int32).toInt = 0 := rfl
  have li3 : (375 : Int32).toInt = 375 := rfl
  have f4 := zG_s hI (0) (1500) (c := 82) (k := 3) (by decide)
  have f5 := zG_s hI (0) (3000) (c := 82) (k := 7) (by decide)
  have f6 := zG_s hI (0) (1500) (c := 82) (k := 2) (by decide)
  exact lp_276_83_zK82_sn_5 (by omega) (by omega) K _ _ (x) ((0 : Int32)) ((375 : Int32)) rfl hI (by omega) (by omega) (by omega) (show (mI S 82 3).toInt ≤ (mI S 82 7).toInt ∧ (mI S 82 7).toInt ≤ (mI S 82 3).toInt + (mI S 82 2).toInt from by omega) (show xB S (mR S 70) from by first | (exact xB_x (xC_o (W := 75) hpre1).2)) (show aS 88 S = ab from by first | (exact (xC_o (W := 88) hpre1).1.trans hpre2)) (show (mI S 82) = fp82 from by first | (exact hpre3)) (show ∀ k : Nat, (k : Int) < ((0 : Int32)).toInt → (mI S 83) k = (x) from by first | (intro k hk; exact absurd hk (by have z0 : (0 : Int32).toInt = 0 := rfl; omega))) (show (x) = x from by first | (exact rfl))
theorem g_276_92_sn_0 {X : Nat × (Nat → Int32)} {d w : Nat} {S : ma_S} {Q : Option ma_V ⊕ Nat → ma_S → Prop} (x : Int32) (hd : 0 ≤ d) (hw : 0 ≤ w) (hS : zT S) (h : ma_wp X d w 276 5 [(0, .inr (.inr (some 92))), (1, .inl x), (2, .inl (0 : Int32)), (3, .inl (93 : Int32))] [] S Q) : ma_wp X d w 276 0 [(0, .inr (.inr (some 92))), (1, .inl x)] [] S Q := by
  refine zw_push hm_276 dJ7_fill_53178_0 (v := .inl (0 : Int32)) rfl ?_
  refine zw_sto hm_276 dJ7_fill_53178_1 [(2, .inl (0 : Int32)), (0, .inr (.inr (some 92))), (1, .inl x)] rfl rfl rfl ?_
  refine zw_push hm_276 dJ7_fill_53178_2 (v := .inr (.inr (some 92))) rfl ?_
  refine zw_len hm_276 dJ7_fill_53178_3 (zT_is hS s_92) (zT_h hS s_92) rfl rfl ?_
  refine zw_sto hm_276 dJ7_fill_53178_4 [(3, .inl (93 : Int32)), (2, .inl (0 : Int32)), (0, .inr (.inr (some 92))), (1, .inl x)] rfl rfl rfl ?_
  exact zw_sub (ma_nd_of (ks := [0, 1, 2, 3]) rfl (by decide)) (ma_nd_of (ks := [3, 2, 0, 1]) rfl (by decide)) (ma_le_cons rfl (ma_le_cons rfl (ma_le_cons rfl (ma_le_cons rfl (ma_le_nil _))))) h
theorem g_276_92_sn_5 {X : Nat × (Nat → Int32)} {d w : Nat} {S : ma_S} {Q : Option ma_V ⊕ Nat → ma_S → Prop} (l1 : Int32) (l2 : Int32) (l3 : Int32) (hd : 0 ≤ d) (hw : 0 ≤ w) (hS : zT S) (h : if l3 ≤ l2 then (Q (.inl none) S) else ((0 ≤ l2 ∧ l2.toNatClampNeg < 93) ∧ (ma_wp X d w 276 5 [(0, .inr (.inr (some 92))), (1, .inl l1), (2, .inl (l2 + (1 : Int32))), (3, .inl l3)] [] (ma_put S 92 l2.toNatClampNeg (.inl l1)) Q))) : ma_wp X d w 276 5 [(0, .inr (.inr (some 92))), (1, .inl l1), (2, .inl l2), (3, .inl l3)] [] S Q := by
  refine zw_push hm_276 dJ7_fill_53178_5 (v := .inl l2) rfl ?_
  refine zw_push hm_276 dJ7_fill_53178_6 (v := .inl l3) rfl ?_
  refine zw_if2 hm_276 dJ7_fill_53178_7 (t := 20) rfl zc2_ge ?_ ?_
  · intro hc
    rw [if_pos hc] at h
    exact zw_vret hm_276 dJ7_fill_53178_20 h
  · intro hc
    rw [if_neg hc] at h
    refine zw_push hm_276 dJ7_fill_53178_10 (v := .inr (.inr (some 92))) rfl ?_
    refine zw_push hm_276 dJ7_fill_53178_11 (v := .inl l2) rfl ?_
    refine zw_push hm_276 dJ7_fill_53178_12 (v := .inl l1) rfl ?_
    obtain ⟨hg, h⟩ := h
    refine zw_ias hm_276 dJ7_fill_53178_13 (zT_is hS s_92) (zT_h hS s_92) rfl hg ?_
    refine zw_sto hm_276 dJ7_fill_53178_14 [(2, .inl (l2 + (1 : Int32))), (0, .inr (.inr (some 92))), (1, .inl l1), (3, .inl l3)] rfl rfl rfl ?_
    refine zw_goto hm_276 dJ7_fill_53178_17 (t := 5) rfl ?_
    exact zw_sub (ma_nd_of (ks := [0, 1, 2, 3]) rfl (by decide)) (ma_nd_of (ks := [2, 0, 1, 3]) rfl (by decide)) (ma_le_cons rfl (ma_le_cons rfl (ma_le_cons rfl (ma_le_cons rfl (ma_le_nil _))))) h
theorem lp_276_92_sn_5 {X : Nat × (Nat → Int32)} {d w : Nat} {f : Nat → Nat → Int32} {r : Nat → Nat → Option Nat} {C Z N : Nat} {Q : Option ma_V ⊕ Nat → ma_S → Prop} {ab : Nat→Nat→Int32} {fp91 : Nat→Int32} {x : Int32} (hd : 0 ≤ d) (hw : 0 ≤ w) (K : ∀ S₉, zM92 f r C Z N S₉ → (xB S₉ (mR S₉ 70)) → (aS 88 S₉ = ab) → ((mI S₉ 91) = fp91) → (∀ k : Nat, k < 93 → (mI S₉ 92) k = x) → Q (.inl none) S₉) : ∀ (n : Nat) (S : ma_S) (l1 : Int32) (l2 : Int32) (l3 : Int32), (l3.toInt - l2.toInt).toNat = n → zM92 f r C Z N S → (0 ≤ l2.toInt) → (l3.toInt = 93) → (l2.toInt ≤ 93) → (0 ≤ l1.toInt) → (l1.toInt ≤ 3000) → (xB S (mR S 70)) → (aS 88 S = ab) → ((mI S 91) = fp91) → (∀ k : Nat, (k : Int) < l2.toInt → (mI S 92) k = l1) → (l1 = x) → ma_wp X d w 276 5 [(0, .inr (.inr (some 92))), (1, .inl l1), (2, .inl l2), (3, .inl l3)] [] S Q := by
  intro n
  induction n using Nat.strongRecOn with
  | _ n IH =>
    intro S l1 l2 l3 hmu hI  hi0 hi1 hi2 hi3 hi4 hi5 hi6 hi7 hi8 hi9
    refine g_276_92_sn_5 l1 l2 l3 (by omega) (by omega) (zG_T hI) ?_
    have b1 := i_bd l3
    have b2 := i_bd l2
    refine zd (fun h3 => ?_) (fun h3 => ?_)
    · skip
      have g4 := i_le h3
      exact K _ hI (show xB S (mR S 70) from by first | (exact xB_x (xC_o (W := 75) hi5).2)) (show aS 88 S = ab from by first | (exact hi6)) (show (mI S 91) = fp91 from by first | (exact hi7)) (show ∀ k : Nat, k < 93 → (mI S 92) k = x from by first | (intro k hk; rw [← hi9]; exact hi8 k (by omega)))
    · skip
      have g5 := i_nle h3
      refine ⟨i_ix (by omega) (by omega), ?_⟩
      have b7 := i_bd l1
      have hI6 : zM92 f r C Z N (ma_put S 92 l2.toNatClampNeg (.inl l1)) := zG_sa hI (0) (3000) rfl (by decide) (by decide) (by decide) trivial (by omega) (by omega)
      first | have e8 : (l2 + (1 : Int32)).toInt = l2.toInt + (1) := i_addk rfl (by omega) (by omega) | have b9 := i_bd (l2 + (1 : Int32))
      exact IH _ (by omega) _ (l1) ((l2 + (1 : Int32))) (l3) rfl hI6 (by omega) (by omega) (by omega) (by omega) (by omega) (show xB (ma_put S 92 l2.toNatClampNeg (.inl l1)) (mR (ma_put S 92 l2.toNatClampNeg (.inl l1)) 70) from by first | (exact xB_x (xC_n (c := 92) (k := l2.toNatClampNeg) (x := l1) (xC_o (W := 75) hi5) ⟨by decide, Or.inl ⟨rfl, rfl⟩⟩).2)) (show aS 88 (ma_put S 92 l2.toNatClampNeg (.inl l1)) = ab from by first | (exact (xC_n (c := 92) (k := l2.toNatClampNeg) (x := l1) (xC_o (W := 88) hi5) ⟨by decide, Or.inr ⟨rfl, Or.inr ⟨rfl, by decide⟩⟩⟩).1.trans hi6)) (show (mI (ma_put S 92 l2.toNatClampNeg (.inl l1)) 91) = fp91 from by first | (exact ((zr_n (P := 91) (c := 92) (by decide)).trans hi7))) (show ∀ k : Nat, (k : Int) < ((l2 + (1 : Int32))).toInt → (mI (ma_put S 92 l2.toNatClampNeg (.inl l1)) 92) k = (l1) from by first | (intro k hk; show (if (92 : Nat) = 92 ∧ k = l2.toNatClampNeg then l1 else mI S 92 k) = l1; by_cases w : k = l2.toNatClampNeg; (rw [if_pos ⟨rfl, w⟩]); (rw [if_neg (fun z => w z.2)]; exact hi8 k (by have := tn_cast (x := l2) (by omega); omega)))) (show (l1) = x from by first | (exact rfl) | (exact hi9))
theorem sp_276_92_sn {X : Nat × (Nat → Int32)} {d w : Nat} {f : Nat → Nat → Int32} {r : Nat → Nat → Option Nat} {C Z N : Nat} {Q : Option ma_V ⊕ Nat → ma_S → Prop} {ab : Nat→Nat→Int32} {fp91 : Nat→Int32} {S : ma_S} (x : Int32) (hd : 0 ≤ d) (hw : 0 ≤ w) (hI : zM92 f r C Z N S) (hpre0 : 0 ≤ x.toInt) (hpre1 : x.toInt ≤ 3000) (hpre2 : xB S (mR S 70)) (hpre3 : aS 88 S = ab) (hpre4 : (mI S 91) = fp91) (K : ∀ S₉, zM92 f r C Z N S₉ → (xB S₉ (mR S₉ 70)) → (aS 88 S₉ = ab) → ((mI S₉ 91) = fp91) → (∀ k : Nat, k < 93 → (mI S₉ 92) k = x) → Q (.inl none) S₉) : ma_wp X d w 276 0 [(0, .inr (.inr (some 92))), (1, .inl x)] [] S Q := by
  refine g_276_92_sn_0 x (by omega) (by omega) (zG_T hI) ?_
  have b1 := i_bd x
  have li2 : (0 : Int32).toInt = 0 := rfl
  have li3 : (93 : Int32).toInt = 93 := rfl
  exact lp_276_92_sn_5 (by omega) (by omega) K _ _ (x) ((0 : Int32)) ((93 : Int32)) rfl hI (by omega) (by omega) (by omega) (by omega) (by omega) (show xB S (mR S 70) from by first | (exact xB_x (xC_o (W := 75) hpre2).2)) (show aS 88 S = ab from by first | (exact (xC_o (W := 88) hpre2).1.trans hpre3)) (show (mI S 91) = fp91 from by first | (exact hpre4)) (show ∀ k : Nat, (k : Int) < ((0 : Int32)).toInt → (mI S 92) k = (x) from by first | (intro k hk; exact absurd hk (by have z0 : (0 : Int32).toInt = 0 := rfl; omega))) (show (x) = x from by first | (exact rfl))

/-! from 95.x13 -/
/-! the class opens a heap (written by wip/tools/gen15h.py) -/
theorem g_1_82_66_zK82_sn_0 {X : Nat × (Nat → Int32)} {d w : Nat} {S : ma_S} {Q : Option ma_V ⊕ Nat → ma_S → Prop}  (hd : 1 ≤ d) (hw : 23 ≤ w) (hS : zT S) (h : ma_wp X (d - 1) (w - 23) 276 0 [(0, .inr (.inr (some 83))), (1, .inl (0 : Int32))] [] (ma_put (ma_put (ma_put (ma_put (ma_put (ma_put (ma_put S 82 2 (.inl (mI S 66 0))) 82 3 (.inl (mI S 66 1))) 82 4 (.inl (mI S 66 2))) 82 5 (.inl (mI S 66 3))) 82 6 (.inl (0 : Int32))) 82 7 (.inl (mI S 66 1))) 82 8 (.inl (mI S 66 1))) (zv (fun S1 => zT S1 ∧ (Q (.inl none) S1)) (fun _ _ => False))) : ma_wp X d w 1 0 [(0, .inr (.inr (some 82))), (1, .inr (.inr (some 66)))] [] S Q := by
  refine zw_push hm_1 dX0_open_0 (v := .inr (.inr (some 82))) rfl ?_
  refine zw_push hm_1 dX0_open_1 (v := .inr (.inr (some 66))) rfl ?_
  refine zw_push hm_1 dX0_open_2 (v := .inl (0 : Int32)) rfl ?_
  refine zw_ia hm_1 dX0_open_3 (zT_is hS s_66) (zT_h hS s_66) rfl ⟨by decide, by decide⟩ ?_
  show ma_wp X d w 1 4 [(0, .inr (.inr (some 82))), (1, .inr (.inr (some 66)))] [.inl (mI S 66 0), .inr (.inr (some 82))] S _
  refine zw_pf hm_1 dX0_open_4 (zT_is hS s_82) (zT_t hS s_82) p_1_15_1 zk_int ?_
  refine zw_push hm_1 dX0_open_7 (v := .inr (.inr (some 82))) rfl ?_
  refine zw_push hm_1 dX0_open_8 (v := .inr (.inr (some 66))) rfl ?_
  refine zw_push hm_1 dX0_open_9 (v := .inl (1 : Int32)) rfl ?_
  refine zw_ia hm_1 dX0_open_10 (zT_is (zT_pi hS) s_66) (zT_h (zT_pi hS) s_66) rfl ⟨by decide, by decide⟩ ?_
  show ma_wp X d w 1 11 [(0, .inr (.inr (some 82))), (1, .inr (.inr (some 66)))] [.inl (mI S 66 1), .inr (.inr (some 82))] (ma_put S 82 2 (.inl (mI S 66 0))) _
  refine zw_pf hm_1 dX0_open_11 (zT_is (zT_pi hS) s_82) (zT_t (zT_pi hS) s_82) p_1_19_1 zk_int ?_
  refine zw_push hm_1 dX0_open_14 (v := .inr (.inr (some 82))) rfl ?_
  refine zw_push hm_1 dX0_open_15 (v := .inr (.inr (some 66))) rfl ?_
  refine zw_push hm_1 dX0_open_16 (v := .inl (2 : Int32)) rfl ?_
  refine zw_ia hm_1 dX0_open_17 (zT_is (zT_pi (zT_pi hS)) s_66) (zT_h (zT_pi (zT_pi hS)) s_66) rfl ⟨by decide, by decide⟩ ?_
  show ma_wp X d w 1 18 [(0, .inr (.inr (some 82))), (1, .inr (.inr (some 66)))] [.inl (mI S 66 2), .inr (.inr (some 82))] (ma_put (ma_put S 82 2 (.inl (mI S 66 0))) 82 3 (.inl (mI S 66 1))) _
  refine zw_pf hm_1 dX0_open_18 (zT_is (zT_pi (zT_pi hS)) s_82) (zT_t (zT_pi (zT_pi hS)) s_82) p_1_22_1 zk_int ?_
  refine zw_push hm_1 dX0_open_21 (v := .inr (.inr (some 82))) rfl ?_
  refine zw_push hm_1 dX0_open_22 (v := .inr (.inr (some 66))) rfl ?_
  refine zw_push hm_1 dX0_open_23 (v := .inl (3 : Int32)) rfl ?_
  refine zw_ia hm_1 dX0_open_24 (zT_is (zT_pi (zT_pi (zT_pi hS))) s_66) (zT_h (zT_pi (zT_pi (zT_pi hS))) s_66) rfl ⟨by decide, by decide⟩ ?_
  show ma_wp X d w 1 25 [(0, .inr (.inr (some 82))), (1, .inr (.inr (some 66)))] [.inl (mI S 66 3), .inr (.inr (some 82))] (ma_put (ma_put (ma_put S 82 2 (.inl (mI S 66 0))) 82 3 (.inl (mI S 66 1))) 82 4 (.inl (mI S 66 2))) _
  refine zw_pf hm_1 dX0_open_25 (zT_is (zT_pi (zT_pi (zT_pi hS))) s_82) (zT_t (zT_pi (zT_pi (zT_pi hS))) s_82) p_1_25_1 zk_int ?_
  refine zw_push hm_1 dX0_open_28 (v := .inr (.inr (some 82))) rfl ?_
  refine zw_push hm_1 dX0_open_29 (v := .inl (0 : Int32)) rfl ?_
  refine zw_pf hm_1 dX0_open_30 (zT_is (zT_pi (zT_pi (zT_pi (zT_pi hS)))) s_82) (zT_t (zT_pi (zT_pi (zT_pi (zT_pi hS)))) s_82) p_1_28_1 zk_int ?_
  refine zw_push hm_1 dX0_open_33 (v := .inr (.inr (some 82))) rfl ?_
  refine zw_push hm_1 dX0_open_34 (v := .inr (.inr (some 82))) rfl ?_
  refine zw_gf hm_1 dX0_open_35 (v := .inl (mI S 66 1)) (zT_is (zT_pi (zT_pi (zT_pi (zT_pi (zT_pi hS))))) s_82) (zT_t (zT_pi (zT_pi (zT_pi (zT_pi (zT_pi hS))))) s_82) rfl f_1_19_1 rfl ?_
  refine zw_pf hm_1 dX0_open_38 (zT_is (zT_pi (zT_pi (zT_pi (zT_pi (zT_pi hS))))) s_82) (zT_t (zT_pi (zT_pi (zT_pi (zT_pi (zT_pi hS))))) s_82) p_1_31_1 zk_int ?_
  refine zw_push hm_1 dX0_open_41 (v := .inr (.inr (some 82))) rfl ?_
  refine zw_push hm_1 dX0_open_42 (v := .inr (.inr (some 82))) rfl ?_
  refine zw_gf hm_1 dX0_open_43 (v := .inl (mI S 66 1)) (zT_is (zT_pi (zT_pi (zT_pi (zT_pi (zT_pi (zT_pi hS)))))) s_82) (zT_t (zT_pi (zT_pi (zT_pi (zT_pi (zT_pi (zT_pi hS)))))) s_82) rfl f_1_19_1 rfl ?_
  refine zw_pf hm_1 dX0_open_46 (zT_is (zT_pi (zT_pi (zT_pi (zT_pi (zT_pi (zT_pi hS)))))) s_82) (zT_t (zT_pi (zT_pi (zT_pi (zT_pi (zT_pi (zT_pi hS)))))) s_82) p_1_34_1 zk_int ?_
  refine zw_push hm_1 dX0_open_49 (v := .inr (.inr (some 82))) rfl ?_
  refine zw_gf hm_1 dX0_open_50 (v := .inr (.inr (some 83))) (zT_is (zT_pi (zT_pi (zT_pi (zT_pi (zT_pi (zT_pi (zT_pi hS))))))) s_82) (zT_t (zT_pi (zT_pi (zT_pi (zT_pi (zT_pi (zT_pi (zT_pi hS))))))) s_82) rfl f_1_9_1 (zT_f (zT_pi (zT_pi (zT_pi (zT_pi (zT_pi (zT_pi (zT_pi hS))))))) r_82_9) ?_
  refine zw_push hm_1 dX0_open_53 (v := .inl (0 : Int32)) rfl ?_
  refine zw_cs hm_1 dX0_open_54 pn_1_37 sl_1_37 hm_276 [.inl (0 : Int32), .inr (.inr (some 83))] [] rfl ⟨by omega, by omega⟩ rfl (zw_mono h (zv_go ?_ ?_))
  · intro S1 hv
    obtain ⟨hS1, h⟩ := hv
    exact zw_vret hm_1 dX0_open_57 h
  · intro x S9 hx
    exact hx.elim
theorem sp_1_82_66_zK82_sn {X : Nat × (Nat → Int32)} {d w : Nat} {f : Nat → Nat → Int32} {r : Nat → Nat → Option Nat} {C Z N : Nat} {Q : Option ma_V ⊕ Nat → ma_S → Prop} {ab : Nat→Nat→Int32} {S : ma_S}  (hd : 1 ≤ d) (hw : 23 ≤ w) (hI : zK82 f r C Z N S) (hpre0 : 0 ≤ (mI S 66 0).toInt ∧ (mI S 66 0).toInt ≤ 1500 ∧ 0 ≤ (mI S 66 1).toInt ∧ (mI S 66 1).toInt ≤ 1500) (hpre1 : xB S (mR S 70)) (hpre2 : aS 88 S = ab) (K : ∀ S₉, zK82 f r C Z N S₉ → ((mI S₉ 82 3).toInt ≤ (mI S₉ 82 7).toInt ∧ (mI S₉ 82 7).toInt ≤ (mI S₉ 82 3).toInt + (mI S₉ 82 2).toInt) → (xB S₉ (mR S₉ 70)) → (aS 88 S₉ = ab) → ((mI S₉ 82 2) = (f 66) 0 ∧ (mI S₉ 82 3) = (f 66) 1 ∧ (mI S₉ 82 4) = (f 66) 2 ∧ (mI S₉ 82 5) = (f 66) 3 ∧ (mI S₉ 82 6) = 0 ∧ (mI S₉ 82 7) = (f 66) 1 ∧ (mI S₉ 82 8) = (f 66) 1 ∧ ∀ k : Nat, k < 375 → (mI S₉ 83) k = 0) → Q (.inl none) S₉) : ma_wp X d w 1 0 [(0, .inr (.inr (some 82))), (1, .inr (.inr (some 66)))] [] S Q := by
  refine g_1_82_66_zK82_sn_0  (by omega) (by omega) (zG_T hI) ?_
  have q1 : (mI S 66 0).toInt = (f 66 0).toInt := zG_zi hI rfl
  have b2 := i_bd (mI S 66 0)
  have q3 : (mI S 66 1).toInt = (f 66 1).toInt := zG_zi hI rfl
  have b4 := i_bd (mI S 66 1)
  have li5 : (0 : Int32).toInt = 0 := rfl
  have hI6 : zK82 f r C Z N (ma_put S 82 2 (.inl (mI S 66 0))) := zG_sp hI (0) (1500) rfl (by decide) (by decide) (by decide) trivial (by omega) (by omega)
  have hI7 : zK82 f r C Z N (ma_put (ma_put S 82 2 (.inl (mI S 66 0))) 82 3 (.inl (mI S 66 1))) := zG_sp hI6 (0) (1500) rfl (by decide) (by decide) (by decide) trivial (by omega) (by omega)
  have hI8 : zK82 f r C Z N (ma_put (ma_put (ma_put S 82 2 (.inl (mI S 66 0))) 82 3 (.inl (mI S 66 1))) 82 4 (.inl (mI S 66 2))) := zG_fr hI7 rfl (by decide) (by decide) (by decide) trivial
  have hI9 : zK82 f r C Z N (ma_put (ma_put (ma_put (ma_put S 82 2 (.inl (mI S 66 0))) 82 3 (.inl (mI S 66 1))) 82 4 (.inl (mI S 66 2))) 82 5 (.inl (mI S 66 3))) := zG_fr hI8 rfl (by decide) (by decide) (by decide) trivial
  have hI10 : zK82 f r C Z N (ma_put (ma_put (ma_put (ma_put (ma_put S 82 2 (.inl (mI S 66 0))) 82 3 (.inl (mI S 66 1))) 82 4 (.inl (mI S 66 2))) 82 5 (.inl (mI S 66 3))) 82 6 (.inl (0 : Int32))) := zG_sp hI9 (0) (400000) rfl (by decide) (by decide) (by decide) trivial (by omega) (by omega)
  have hI11 : zK82 f r C Z N (ma_put (ma_put (ma_put (ma_put (ma_put (ma_put S 82 2 (.inl (mI S 66 0))) 82 3 (.inl (mI S 66 1))) 82 4 (.inl (mI S 66 2))) 82 5 (.inl (mI S 66 3))) 82 6 (.inl (0 : Int32))) 82 7 (.inl (mI S 66 1))) := zG_sp hI10 (0) (3000) rfl (by decide) (by decide) (by decide) trivial (by omega) (by omega)
  have hI12 : zK82 f r C Z N (ma_put (ma_put (ma_put (ma_put (ma_put (ma_put (ma_put S 82 2 (.inl (mI S 66 0))) 82 3 (.inl (mI S 66 1))) 82 4 (.inl (mI S 66 2))) 82 5 (.inl (mI S 66 3))) 82 6 (.inl (0 : Int32))) 82 7 (.inl (mI S 66 1))) 82 8 (.inl (mI S 66 1))) := zG_sp hI11 (0) (400000) rfl (by decide) (by decide) (by decide) trivial (by omega) (by omega)
  refine sp_276_83_zK82_sn (ab := (aS 88 (ma_put (ma_put (ma_put (ma_put (ma_put (ma_put (ma_put S 82 2 (.inl (mI S 66 0))) 82 3 (.inl (mI S 66 1))) 82 4 (.inl (mI S 66 2))) 82 5 (.inl (mI S 66 3))) 82 6 (.inl (0 : Int32))) 82 7 (.inl (mI S 66 1))) 82 8 (.inl (mI S 66 1))))) (fp82 := (mI (ma_put (ma_put (ma_put (ma_put (ma_put (ma_put (ma_put S 82 2 (.inl (mI S 66 0))) 82 3 (.inl (mI S 66 1))) 82 4 (.inl (mI S 66 2))) 82 5 (.inl (mI S 66 3))) 82 6 (.inl (0 : Int32))) 82 7 (.inl (mI S 66 1))) 82 8 (.inl (mI S 66 1))) 82)) ((0 : Int32)) (by omega) (by omega) hI12 (show (mI S 66 1).toInt ≤ (mI S 66 1).toInt ∧ (mI S 66 1).toInt ≤ (mI S 66 1).toInt + (mI S 66 0).toInt from by omega) (show xB (ma_put (ma_put (ma_put (ma_put (ma_put (ma_put (ma_put S 82 2 (.inl (mI S 66 0))) 82 3 (.inl (mI S 66 1))) 82 4 (.inl (mI S 66 2))) 82 5 (.inl (mI S 66 3))) 82 6 (.inl (0 : Int32))) 82 7 (.inl (mI S 66 1))) 82 8 (.inl (mI S 66 1))) (mR (ma_put (ma_put (ma_put (ma_put (ma_put (ma_put (ma_put S 82 2 (.inl (mI S 66 0))) 82 3 (.inl (mI S 66 1))) 82 4 (.inl (mI S 66 2))) 82 5 (.inl (mI S 66 3))) 82 6 (.inl (0 : Int32))) 82 7 (.inl (mI S 66 1))) 82 8 (.inl (mI S 66 1))) 70) from by first | (exact xB_x (xC_n (c := 82) (k := 8) (x := (mI S 66 1)) (xC_n (c := 82) (k := 7) (x := (mI S 66 1)) (xC_n (c := 82) (k := 6) (x := (0 : Int32)) (xC_n (c := 82) (k := 5) (x := (mI S 66 3)) (xC_n (c := 82) (k := 4) (x := (mI S 66 2)) (xC_n (c := 82) (k := 3) (x := (mI S 66 1)) (xC_n (c := 82) (k := 2) (x := (mI S 66 0)) (xC_o (W := 75) hpre1) ⟨by decide, Or.inl ⟨rfl, rfl⟩⟩) ⟨by decide, Or.inl ⟨rfl, rfl⟩⟩) ⟨by decide, Or.inl ⟨rfl, rfl⟩⟩) ⟨by decide, Or.inl ⟨rfl, rfl⟩⟩) ⟨by decide, Or.inl ⟨rfl, rfl⟩⟩) ⟨by decide, Or.inl ⟨rfl, rfl⟩⟩) ⟨by decide, Or.inl ⟨rfl, rfl⟩⟩).2)) (show aS 88 (ma_put (ma_put (ma_put (ma_put (ma_put (ma_put (ma_put S 82 2 (.inl (mI S 66 0))) 82 3 (.inl (mI S 66 1))) 82 4 (.inl (mI S 66 2))) 82 5 (.inl (mI S 66 3))) 82 6 (.inl (0 : Int32))) 82 7 (.inl (mI S 66 1))) 82 8 (.inl (mI S 66 1))) = (aS 88 (ma_put (ma_put (ma_put (ma_put (ma_put (ma_put (ma_put S 82 2 (.inl (mI S 66 0))) 82 3 (.inl (mI S 66 1))) 82 4 (.inl (mI S 66 2))) 82 5 (.inl (mI S 66 3))) 82 6 (.inl (0 : Int32))) 82 7 (.inl (mI S 66 1))) 82 8 (.inl (mI S 66 1)))) from by first | (exact rfl)) (show (mI (ma_put (ma_put (ma_put (ma_put (ma_put (ma_put (ma_put S 82 2 (.inl (mI S 66 0))) 82 3 (.inl (mI S 66 1))) 82 4 (.inl (mI S 66 2))) 82 5 (.inl (mI S 66 3))) 82 6 (.inl (0 : Int32))) 82 7 (.inl (mI S 66 1))) 82 8 (.inl (mI S 66 1))) 82) = (mI (ma_put (ma_put (ma_put (ma_put (ma_put (ma_put (ma_put S 82 2 (.inl (mI S 66 0))) 82 3 (.inl (mI S 66 1))) 82 4 (.inl (mI S 66 2))) 82 5 (.inl (mI S 66 3))) 82 6 (.inl (0 : Int32))) 82 7 (.inl (mI S 66 1))) 82 8 (.inl (mI S 66 1))) 82) from by first | (exact rfl)) (fun S1 hI_S1 hp_S1 rp0_S1 rp1_S1 rp2_S1 rp3_S1 => zv_n ⟨zG_T hI_S1, ?_⟩)
  have rp0_S1 : xB S1 (mR S1 70) := rp0_S1
  have rp1_S1 : aS 88 S1 = (aS 88 (ma_put (ma_put (ma_put (ma_put (ma_put (ma_put (ma_put S 82 2 (.inl (mI S 66 0))) 82 3 (.inl (mI S 66 1))) 82 4 (.inl (mI S 66 2))) 82 5 (.inl (mI S 66 3))) 82 6 (.inl (0 : Int32))) 82 7 (.inl (mI S 66 1))) 82 8 (.inl (mI S 66 1)))) := rp1_S1
  have rp2_S1 : (mI S1 82) = (mI (ma_put (ma_put (ma_put (ma_put (ma_put (ma_put (ma_put S 82 2 (.inl (mI S 66 0))) 82 3 (.inl (mI S 66 1))) 82 4 (.inl (mI S 66 2))) 82 5 (.inl (mI S 66 3))) 82 6 (.inl (0 : Int32))) 82 7 (.inl (mI S 66 1))) 82 8 (.inl (mI S 66 1))) 82) := rp2_S1
  have rp3_S1 : ∀ k : Nat, k < 375 → (mI S1 83) k = (0 : Int32) := rp3_S1
  have f13 := zG_s hI_S1 (0) (1500) (c := 82) (k := 3) (by decide)
  have f14 := zG_s hI_S1 (0) (3000) (c := 82) (k := 7) (by decide)
  have f15 := zG_s hI_S1 (0) (1500) (c := 82) (k := 2) (by decide)
  have b16 := i_bd (mI S1 82 4)
  have b17 := i_bd (mI S1 82 5)
  have f18 := zG_s hI_S1 (0) (400000) (c := 82) (k := 6) (by decide)
  have f19 := zG_s hI_S1 (0) (400000) (c := 82) (k := 8) (by decide)
  exact K _ hI_S1 (show (mI S1 82 3).toInt ≤ (mI S1 82 7).toInt ∧ (mI S1 82 7).toInt ≤ (mI S1 82 3).toInt + (mI S1 82 2).toInt from by omega) (show xB S1 (mR S1 70) from by first | (exact xB_x (xC_o (W := 75) rp0_S1).2)) (show aS 88 S1 = ab from by first | (exact rp1_S1.trans ((xC_n (c := 82) (k := 8) (x := (mI S 66 1)) (xC_n (c := 82) (k := 7) (x := (mI S 66 1)) (xC_n (c := 82) (k := 6) (x := (0 : Int32)) (xC_n (c := 82) (k := 5) (x := (mI S 66 3)) (xC_n (c := 82) (k := 4) (x := (mI S 66 2)) (xC_n (c := 82) (k := 3) (x := (mI S 66 1)) (xC_n (c := 82) (k := 2) (x := (mI S 66 0)) (xC_o (W := 88) hpre1) ⟨by decide, Or.inr ⟨rfl, Or.inr ⟨rfl, by decide⟩⟩⟩) ⟨by decide, Or.inr ⟨rfl, Or.inr ⟨rfl, by decide⟩⟩⟩) ⟨by decide, Or.inr ⟨rfl, Or.inr ⟨rfl, by decide⟩⟩⟩) ⟨by decide, Or.inr ⟨rfl, Or.inr ⟨rfl, by decide⟩⟩⟩) ⟨by decide, Or.inr ⟨rfl, Or.inr ⟨rfl, by decide⟩⟩⟩) ⟨by decide, Or.inr ⟨rfl, Or.inr ⟨rfl, by decide⟩⟩⟩) ⟨by decide, Or.inr ⟨rfl, Or.inr ⟨rfl, by decide⟩⟩⟩).1.trans hpre2))) (show (mI S1 82 2) = (f 66) 0 ∧ (mI S1 82 3) = (f 66) 1 ∧ (mI S1 82 4) = (f 66) 2 ∧ (mI S1 82 5) = (f 66) 3 ∧ (mI S1 82 6) = 0 ∧ (mI S1 82 7) = (f 66) 1 ∧ (mI S1 82 8) = (f 66) 1 ∧ ∀ k : Nat, k < 375 → (mI S1 83) k = 0 from by first | (exact ⟨(congrFun rp2_S1 2).trans (show mI S 66 0 = f 66 0 from zG_z hI rfl), (congrFun rp2_S1 3).trans (show mI S 66 1 = f 66 1 from zG_z hI rfl), (congrFun rp2_S1 4).trans (show mI S 66 2 = f 66 2 from zG_z hI rfl), (congrFun rp2_S1 5).trans (show mI S 66 3 = f 66 3 from zG_z hI rfl), (congrFun rp2_S1 6).trans rfl, (congrFun rp2_S1 7).trans (show mI S 66 1 = f 66 1 from zG_z hI rfl), (congrFun rp2_S1 8).trans (show mI S 66 1 = f 66 1 from zG_z hI rfl), rp3_S1⟩))

/-! from 95.x14 -/
/-! the class opens a heap (written by wip/tools/gen15h.py) -/
theorem g_38_91_66_sn_0 {X : Nat × (Nat → Int32)} {d w : Nat} {S : ma_S} {Q : Option ma_V ⊕ Nat → ma_S → Prop}  (hd : 1 ≤ d) (hw : 68 ≤ w) (hS : zT S) (h : if (mI S 66 1) ≤ 0 then (ma_wp X (d - 1) (w - 23) 276 0 [(0, .inr (.inr (some 92))), (1, .inl (0 : Int32))] [] (ma_put (ma_put (ma_put (ma_put S 91 2 (.inl (mI S 66 1))) 91 3 (.inl (0 : Int32))) 91 4 (.inl (mI S 66 2))) 91 5 (.inl (0 : Int32))) (zv (fun S1 => zT S1 ∧ (Q (.inl none) S1)) (fun _ _ => False))) else ((mI S 66 1) ≠ 0 ∧ (ma_wp X (d - 1) (w - 23) 276 0 [(0, .inr (.inr (some 92))), (1, .inl (0 : Int32))] [] (ma_put (ma_put (ma_put (ma_put S 91 2 (.inl (mI S 66 1))) 91 3 (.inl (if (93 : Int32) < ((mI S 66 0) / (mI S 66 1)) then (93 : Int32) else ((mI S 66 0) / (mI S 66 1))))) 91 4 (.inl (mI S 66 2))) 91 5 (.inl (0 : Int32))) (zv (fun S3 => zT S3 ∧ (Q (.inl none) S3)) (fun _ _ => False))))) : ma_wp X d w 38 0 [(0, .inr (.inr (some 91))), (1, .inr (.inr (some 66)))] [] S Q := by
  refine zw_push hm_38 dX4_open_0 (v := .inr (.inr (some 91))) rfl ?_
  refine zw_push hm_38 dX4_open_1 (v := .inr (.inr (some 66))) rfl ?_
  refine zw_push hm_38 dX4_open_2 (v := .inl (1 : Int32)) rfl ?_
  refine zw_ia hm_38 dX4_open_3 (zT_is hS s_66) (zT_h hS s_66) rfl ⟨by decide, by decide⟩ ?_
  show ma_wp X d w 38 4 [(0, .inr (.inr (some 91))), (1, .inr (.inr (some 66)))] [.inl (mI S 66 1), .inr (.inr (some 91))] S _
  refine zw_pf hm_38 dX4_open_4 (zT_is hS s_91) (zT_t hS s_91) p_4_18_4 zk_int ?_
  refine zw_push hm_38 dX4_open_7 (v := .inr (.inr (some 91))) rfl ?_
  refine zw_push hm_38 dX4_open_8 (v := .inr (.inr (some 91))) rfl ?_
  refine zw_gf hm_38 dX4_open_9 (v := .inl (mI S 66 1)) (zT_is (zT_pi hS) s_91) (zT_t (zT_pi hS) s_91) rfl f_4_18_4 rfl ?_
  refine zw_if0 hm_38 dX4_open_12 (t := 31) rfl zc0_le ?_ ?_
  · intro hc
    rw [if_pos hc] at h
    refine zw_push hm_38 dX4_open_31 (v := .inl (0 : Int32)) rfl ?_
    refine zw_pf hm_38 dX4_open_32 (zT_is (zT_pi hS) s_91) (zT_t (zT_pi hS) s_91) p_4_28_4 zk_int ?_
    refine zw_push hm_38 dX4_open_35 (v := .inr (.inr (some 91))) rfl ?_
    refine zw_push hm_38 dX4_open_36 (v := .inr (.inr (some 66))) rfl ?_
    refine zw_push hm_38 dX4_open_37 (v := .inl (2 : Int32)) rfl ?_
    refine zw_ia hm_38 dX4_open_38 (zT_is (zT_pi (zT_pi hS)) s_66) (zT_h (zT_pi (zT_pi hS)) s_66) rfl ⟨by decide, by decide⟩ ?_
    show ma_wp X d w 38 39 [(0, .inr (.inr (some 91))), (1, .inr (.inr (some 66)))] [.inl (mI S 66 2), .inr (.inr (some 91))] (ma_put (ma_put S 91 2 (.inl (mI S 66 1))) 91 3 (.inl (0 : Int32))) _
    refine zw_pf hm_38 dX4_open_39 (zT_is (zT_pi (zT_pi hS)) s_91) (zT_t (zT_pi (zT_pi hS)) s_91) p_4_31_4 zk_int ?_
    refine zw_push hm_38 dX4_open_42 (v := .inr (.inr (some 91))) rfl ?_
    refine zw_push hm_38 dX4_open_43 (v := .inl (0 : Int32)) rfl ?_
    refine zw_pf hm_38 dX4_open_44 (zT_is (zT_pi (zT_pi (zT_pi hS))) s_91) (zT_t (zT_pi (zT_pi (zT_pi hS))) s_91) p_4_34_4 zk_int ?_
    refine zw_push hm_38 dX4_open_47 (v := .inr (.inr (some 91))) rfl ?_
    refine zw_gf hm_38 dX4_open_48 (v := .inr (.inr (some 92))) (zT_is (zT_pi (zT_pi (zT_pi (zT_pi hS)))) s_91) (zT_t (zT_pi (zT_pi (zT_pi (zT_pi hS)))) s_91) rfl f_4_9_4 (zT_f (zT_pi (zT_pi (zT_pi (zT_pi hS)))) r_91_7) ?_
    refine zw_push hm_38 dX4_open_51 (v := .inl (0 : Int32)) rfl ?_
    refine zw_cs hm_38 dX4_open_52 pn_4_37 sl_4_37 hm_276 [.inl (0 : Int32), .inr (.inr (some 92))] [] rfl ⟨by omega, by omega⟩ rfl (zw_mono h (zv_go ?_ ?_))
    · intro S1 hv
      obtain ⟨hS1, h⟩ := hv
      exact zw_vret hm_38 dX4_open_55 h
    · intro x S9 hx
      exact hx.elim
  · intro hc
    rw [if_neg hc] at h
    refine zw_push hm_38 dX4_open_15 (v := .inr (.inr (some 66))) rfl ?_
    refine zw_push hm_38 dX4_open_16 (v := .inl (0 : Int32)) rfl ?_
    refine zw_ia hm_38 dX4_open_17 (zT_is (zT_pi hS) s_66) (zT_h (zT_pi hS) s_66) rfl ⟨by decide, by decide⟩ ?_
    show ma_wp X d w 38 18 [(0, .inr (.inr (some 91))), (1, .inr (.inr (some 66)))] [.inl (mI S 66 0), .inr (.inr (some 91))] (ma_put S 91 2 (.inl (mI S 66 1))) _
    refine zw_push hm_38 dX4_open_18 (v := .inr (.inr (some 91))) rfl ?_
    refine zw_gf hm_38 dX4_open_19 (v := .inl (mI S 66 1)) (zT_is (zT_pi hS) s_91) (zT_t (zT_pi hS) s_91) rfl f_4_18_4 rfl ?_
    obtain ⟨hg, h⟩ := h
    refine zw_stk hm_38 dX4_open_22 (st₉ := [.inl ((mI S 66 0) / (mI S 66 1)), .inr (.inr (some 91))]) rfl (if_neg hg) ?_
    refine zw_push hm_38 dX4_open_23 (v := .inl (93 : Int32)) rfl ?_
    refine zw_min hm_38 dX4_open_25 pr_4_22 (by omega) (by show 1 + 13 ≤ w; omega) (fun _ _ _ _ z => by cases z) ?_
    refine zw_goto hm_38 dX4_open_28 (t := 32) rfl ?_
    refine zw_pf hm_38 dX4_open_32 (zT_is (zT_pi hS) s_91) (zT_t (zT_pi hS) s_91) p_4_28_4 zk_int ?_
    refine zw_push hm_38 dX4_open_35 (v := .inr (.inr (some 91))) rfl ?_
    refine zw_push hm_38 dX4_open_36 (v := .inr (.inr (some 66))) rfl ?_
    refine zw_push hm_38 dX4_open_37 (v := .inl (2 : Int32)) rfl ?_
    refine zw_ia hm_38 dX4_open_38 (zT_is (zT_pi (zT_pi hS)) s_66) (zT_h (zT_pi (zT_pi hS)) s_66) rfl ⟨by decide, by decide⟩ ?_
    show ma_wp X d w 38 39 [(0, .inr (.inr (some 91))), (1, .inr (.inr (some 66)))] [.inl (mI S 66 2), .inr (.inr (some 91))] (ma_put (ma_put S 91 2 (.inl (mI S 66 1))) 91 3 (.inl (if (93 : Int32) < ((mI S 66 0) / (mI S 66 1)) then (93 : Int32) else ((mI S 66 0) / (mI S 66 1))))) _
    refine zw_pf hm_38 dX4_open_39 (zT_is (zT_pi (zT_pi hS)) s_91) (zT_t (zT_pi (zT_pi hS)) s_91) p_4_31_4 zk_int ?_
    refine zw_push hm_38 dX4_open_42 (v := .inr (.inr (some 91))) rfl ?_
    refine zw_push hm_38 dX4_open_43 (v := .inl (0 : Int32)) rfl ?_
    refine zw_pf hm_38 dX4_open_44 (zT_is (zT_pi (zT_pi (zT_pi hS))) s_91) (zT_t (zT_pi (zT_pi (zT_pi hS))) s_91) p_4_34_4 zk_int ?_
    refine zw_push hm_38 dX4_open_47 (v := .inr (.inr (some 91))) rfl ?_
    refine zw_gf hm_38 dX4_open_48 (v := .inr (.inr (some 92))) (zT_is (zT_pi (zT_pi (zT_pi (zT_pi hS)))) s_91) (zT_t (zT_pi (zT_pi (zT_pi (zT_pi hS)))) s_91) rfl f_4_9_4 (zT_f (zT_pi (zT_pi (zT_pi (zT_pi hS)))) r_91_7) ?_
    refine zw_push hm_38 dX4_open_51 (v := .inl (0 : Int32)) rfl ?_
    refine zw_cs hm_38 dX4_open_52 pn_4_37 sl_4_37 hm_276 [.inl (0 : Int32), .inr (.inr (some 92))] [] rfl ⟨by omega, by omega⟩ rfl (zw_mono h (zv_go ?_ ?_))
    · intro S3 hv
      obtain ⟨hS3, h⟩ := hv
      exact zw_vret hm_38 dX4_open_55 h
    · intro x S9 hx
      exact hx.elim
theorem sp_38_91_66_sn {X : Nat × (Nat → Int32)} {d w : Nat} {f : Nat → Nat → Int32} {r : Nat → Nat → Option Nat} {C Z N : Nat} {Q : Option ma_V ⊕ Nat → ma_S → Prop} {ab : Nat→Nat→Int32} {S : ma_S}  (hd : 1 ≤ d) (hw : 68 ≤ w) (hI : zL91 f r C Z N S) (hpre0 : 0 ≤ (mI S 66 0).toInt ∧ (mI S 66 0).toInt ≤ 1500 ∧ 16 ≤ (mI S 66 1).toInt ∧ (mI S 66 1).toInt ≤ 1500) (hpre1 : xB S (mR S 70)) (hpre2 : aS 88 S = ab) (K : ∀ S₉, zL91 f r C Z N S₉ → (xB S₉ (mR S₉ 70)) → (aS 88 S₉ = ab) → ((mI S₉ 91 2) = (f 66) 1 ∧ (mI S₉ 91 3).toInt = (f 66 0).toInt / (f 66 1).toInt ∧ (mI S₉ 91 4) = (f 66) 2 ∧ (mI S₉ 91 5) = 0 ∧ ∀ k : Nat, k < 93 → (mI S₉ 92) k = 0) → Q (.inl none) S₉) : ma_wp X d w 38 0 [(0, .inr (.inr (some 91))), (1, .inr (.inr (some 66)))] [] S Q := by
  refine g_38_91_66_sn_0  (by omega) (by omega) (zG_T hI) ?_
  have q1 : (mI S 66 0).toInt = (f 66 0).toInt := zG_zi hI rfl
  have b2 := i_bd (mI S 66 0)
  have q3 : (mI S 66 1).toInt = (f 66 1).toInt := zG_zi hI rfl
  have b4 := i_bd (mI S 66 1)
  have li5 : (0 : Int32).toInt = 0 := rfl
  refine zd (fun h6 => ?_) (fun h6 => ?_)
  · skip
    have g7 := i_le h6
    have hI8 : zL91 f r C Z N (ma_put S 91 2 (.inl (mI S 66 1))) := zG_sp hI (0) (1500) rfl (by decide) (by decide) (by decide) trivial (by omega) (by omega)
    have hI9 : zL91 f r C Z N (ma_put (ma_put S 91 2 (.inl (mI S 66 1))) 91 3 (.inl (0 : Int32))) := zG_sp hI8 (0) (93) rfl (by decide) (by decide) (by decide) trivial (by omega) (by omega)
    have hI10 : zL91 f r C Z N (ma_put (ma_put (ma_put S 91 2 (.inl (mI S 66 1))) 91 3 (.inl (0 : Int32))) 91 4 (.inl (mI S 66 2))) := zG_fr hI9 rfl (by decide) (by decide) (by decide) trivial
    have hI11 : zL91 f r C Z N (ma_put (ma_put (ma_put (ma_put S 91 2 (.inl (mI S 66 1))) 91 3 (.inl (0 : Int32))) 91 4 (.inl (mI S 66 2))) 91 5 (.inl (0 : Int32))) := zG_sp hI10 (0) (92) rfl (by decide) (by decide) (by decide) trivial (by omega) (by omega)
    refine sp_276_92_sn (ab := (aS 88 (ma_put (ma_put (ma_put (ma_put S 91 2 (.inl (mI S 66 1))) 91 3 (.inl (0 : Int32))) 91 4 (.inl (mI S 66 2))) 91 5 (.inl (0 : Int32))))) (fp91 := (mI (ma_put (ma_put (ma_put (ma_put S 91 2 (.inl (mI S 66 1))) 91 3 (.inl (0 : Int32))) 91 4 (.inl (mI S 66 2))) 91 5 (.inl (0 : Int32))) 91)) ((0 : Int32)) (by omega) (by omega) (zL91_dn_zM92 hI11) (by omega) (by omega) (show xB (ma_put (ma_put (ma_put (ma_put S 91 2 (.inl (mI S 66 1))) 91 3 (.inl (0 : Int32))) 91 4 (.inl (mI S 66 2))) 91 5 (.inl (0 : Int32))) (mR (ma_put (ma_put (ma_put (ma_put S 91 2 (.inl (mI S 66 1))) 91 3 (.inl (0 : Int32))) 91 4 (.inl (mI S 66 2))) 91 5 (.inl (0 : Int32))) 70) from by first | (exact xB_x (xC_n (c := 91) (k := 5) (x := (0 : Int32)) (xC_n (c := 91) (k := 4) (x := (mI S 66 2)) (xC_n (c := 91) (k := 3) (x := (0 : Int32)) (xC_n (c := 91) (k := 2) (x := (mI S 66 1)) (xC_o (W := 75) hpre1) ⟨by decide, Or.inl ⟨rfl, rfl⟩⟩) ⟨by decide, Or.inl ⟨rfl, rfl⟩⟩) ⟨by decide, Or.inl ⟨rfl, rfl⟩⟩) ⟨by decide, Or.inl ⟨rfl, rfl⟩⟩).2)) (show aS 88 (ma_put (ma_put (ma_put (ma_put S 91 2 (.inl (mI S 66 1))) 91 3 (.inl (0 : Int32))) 91 4 (.inl (mI S 66 2))) 91 5 (.inl (0 : Int32))) = (aS 88 (ma_put (ma_put (ma_put (ma_put S 91 2 (.inl (mI S 66 1))) 91 3 (.inl (0 : Int32))) 91 4 (.inl (mI S 66 2))) 91 5 (.inl (0 : Int32)))) from by first | (exact rfl)) (show (mI (ma_put (ma_put (ma_put (ma_put S 91 2 (.inl (mI S 66 1))) 91 3 (.inl (0 : Int32))) 91 4 (.inl (mI S 66 2))) 91 5 (.inl (0 : Int32))) 91) = (mI (ma_put (ma_put (ma_put (ma_put S 91 2 (.inl (mI S 66 1))) 91 3 (.inl (0 : Int32))) 91 4 (.inl (mI S 66 2))) 91 5 (.inl (0 : Int32))) 91) from by first | (exact rfl)) (fun S1 hL_S1 rp0_S1 rp1_S1 rp2_S1 rp3_S1 => zv_n ⟨zG_T hL_S1, ?_⟩)
    have hI_S1 := zL91_up_zM92 hI11 hL_S1
    have rp0_S1 : xB S1 (mR S1 70) := by
      have z := rp0_S1
      (try rw [show mI (ma_put (ma_put (ma_put (ma_put S 91 2 (.inl (mI S 66 1))) 91 3 (.inl (0 : Int32))) 91 4 (.inl (mI S 66 2))) 91 5 (.inl (0 : Int32))) 65 = f 65 from funext (fun k => zG_z hI11 rfl)] at z)
      (try rw [show mI (ma_put (ma_put (ma_put (ma_put S 91 2 (.inl (mI S 66 1))) 91 3 (.inl (0 : Int32))) 91 4 (.inl (mI S 66 2))) 91 5 (.inl (0 : Int32))) 64 1 = f 64 1 from zG_z hI11 rfl] at z)
      exact z
    have rp1_S1 : aS 88 S1 = (aS 88 (ma_put (ma_put (ma_put (ma_put S 91 2 (.inl (mI S 66 1))) 91 3 (.inl (0 : Int32))) 91 4 (.inl (mI S 66 2))) 91 5 (.inl (0 : Int32)))) := by
      have z := rp1_S1
      (try rw [show mI (ma_put (ma_put (ma_put (ma_put S 91 2 (.inl (mI S 66 1))) 91 3 (.inl (0 : Int32))) 91 4 (.inl (mI S 66 2))) 91 5 (.inl (0 : Int32))) 65 = f 65 from funext (fun k => zG_z hI11 rfl)] at z)
      (try rw [show mI (ma_put (ma_put (ma_put (ma_put S 91 2 (.inl (mI S 66 1))) 91 3 (.inl (0 : Int32))) 91 4 (.inl (mI S 66 2))) 91 5 (.inl (0 : Int32))) 64 1 = f 64 1 from zG_z hI11 rfl] at z)
      exact z
    have rp2_S1 : (mI S1 91) = (mI (ma_put (ma_put (ma_put (ma_put S 91 2 (.inl (mI S 66 1))) 91 3 (.inl (0 : Int32))) 91 4 (.inl (mI S 66 2))) 91 5 (.inl (0 : Int32))) 91) := by
      have z := rp2_S1
      (try rw [show mI (ma_put (ma_put (ma_put (ma_put S 91 2 (.inl (mI S 66 1))) 91 3 (.inl (0 : Int32))) 91 4 (.inl (mI S 66 2))) 91 5 (.inl (0 : Int32))) 65 = f 65 from funext (fun k => zG_z hI11 rfl)] at z)
      (try rw [show mI (ma_put (ma_put (ma_put (ma_put S 91 2 (.inl (mI S 66 1))) 91 3 (.inl (0 : Int32))) 91 4 (.inl (mI S 66 2))) 91 5 (.inl (0 : Int32))) 64 1 = f 64 1 from zG_z hI11 rfl] at z)
      exact z
    have rp3_S1 : ∀ k : Nat, k < 93 → (mI S1 92) k = (0 : Int32) := by
      have z := rp3_S1
      (try rw [show mI (ma_put (ma_put (ma_put (ma_put S 91 2 (.inl (mI S 66 1))) 91 3 (.inl (0 : Int32))) 91 4 (.inl (mI S 66 2))) 91 5 (.inl (0 : Int32))) 65 = f 65 from funext (fun k => zG_z hI11 rfl)] at z)
      (try rw [show mI (ma_put (ma_put (ma_put (ma_put S 91 2 (.inl (mI S 66 1))) 91 3 (.inl (0 : Int32))) 91 4 (.inl (mI S 66 2))) 91 5 (.inl (0 : Int32))) 64 1 = f 64 1 from zG_z hI11 rfl] at z)
      exact z
    have q12 : (mI S1 91 2).toInt = (mI S 66 1).toInt := zG_zi hL_S1 rfl
    have f13 := zG_s hI_S1 (0) (1500) (c := 91) (k := 2) (by decide)
    have q14 : (mI S1 91 3).toInt = (0 : Int32).toInt := zG_zi hL_S1 rfl
    have f15 := zG_s hI_S1 (0) (93) (c := 91) (k := 3) (by decide)
    have q16 : (mI S 66 2).toInt = (f 66 2).toInt := zG_zi hI rfl
    have b17 := i_bd (mI S 66 2)
    have q18 : (mI S1 91 4).toInt = (mI S 66 2).toInt := zG_zi hL_S1 rfl
    have b19 := i_bd (mI S1 91 4)
    have q20 : (mI S1 91 5).toInt = (0 : Int32).toInt := zG_zi hL_S1 rfl
    have f21 := zG_s hI_S1 (0) (92) (c := 91) (k := 5) (by decide)
    exact K _ hI_S1 (show xB S1 (mR S1 70) from by first | (exact xB_x (xC_o (W := 75) rp0_S1).2)) (show aS 88 S1 = ab from by first | (exact rp1_S1.trans ((xC_n (c := 91) (k := 5) (x := (0 : Int32)) (xC_n (c := 91) (k := 4) (x := (mI S 66 2)) (xC_n (c := 91) (k := 3) (x := (0 : Int32)) (xC_n (c := 91) (k := 2) (x := (mI S 66 1)) (xC_o (W := 88) hpre1) ⟨by decide, Or.inr ⟨rfl, Or.inr ⟨rfl, by decide⟩⟩⟩) ⟨by decide, Or.inr ⟨rfl, Or.inr ⟨rfl, by decide⟩⟩⟩) ⟨by decide, Or.inr ⟨rfl, Or.inr ⟨rfl, by decide⟩⟩⟩) ⟨by decide, Or.inr ⟨rfl, Or.inr ⟨rfl, by decide⟩⟩⟩).1.trans hpre2))) (show (mI S1 91 2) = (f 66) 1 ∧ (mI S1 91 3).toInt = (f 66 0).toInt / (f 66 1).toInt ∧ (mI S1 91 4) = (f 66) 2 ∧ (mI S1 91 5) = 0 ∧ ∀ k : Nat, k < 93 → (mI S1 92) k = 0 from by first | (have dv := (i_div (x := (mI S 66 0)) (y := (mI S 66 1)) (by omega) (by omega)).2.2.1; have d9 := i_div16 (x := (mI S 66 0)) (y := (mI S 66 1)) (by omega) (by omega) (by omega); have e0 : (mI S 66 0) = f 66 0 := zG_z hI rfl; have e1 : (mI S 66 1) = f 66 1 := zG_z hI rfl; refine ⟨(congrFun rp2_S1 2).trans (show mI S 66 1 = f 66 1 from zG_z hI rfl), ?_, (congrFun rp2_S1 4).trans (show mI S 66 2 = f 66 2 from zG_z hI rfl), (congrFun rp2_S1 5).trans rfl, rp3_S1⟩; rw [congrFun rp2_S1 3, ← e0, ← e1]; show ((0 : Int32)).toInt = _; omega))
  · skip
    have g22 := i_nle h6
    refine ⟨i_nz (by omega), ?_⟩
    have hI23 : zL91 f r C Z N (ma_put S 91 2 (.inl (mI S 66 1))) := zG_sp hI (0) (1500) rfl (by decide) (by decide) (by decide) trivial (by omega) (by omega)
    first | have f25 := i_div (x := (mI S 66 0)) (y := (mI S 66 1)) (by omega) (by omega) | have b26 := i_bd ((mI S 66 0) / (mI S 66 1))
    have li27 : (93 : Int32).toInt = 93 := rfl
    have f28 := i_min ((mI S 66 0) / (mI S 66 1)) (93 : Int32)
    have hI24 : zL91 f r C Z N (ma_put (ma_put S 91 2 (.inl (mI S 66 1))) 91 3 (.inl (if (93 : Int32) < ((mI S 66 0) / (mI S 66 1)) then (93 : Int32) else ((mI S 66 0) / (mI S 66 1))))) := zG_sp hI23 (0) (93) rfl (by decide) (by decide) (by decide) trivial (by omega) (by omega)
    have hI29 : zL91 f r C Z N (ma_put (ma_put (ma_put S 91 2 (.inl (mI S 66 1))) 91 3 (.inl (if (93 : Int32) < ((mI S 66 0) / (mI S 66 1)) then (93 : Int32) else ((mI S 66 0) / (mI S 66 1))))) 91 4 (.inl (mI S 66 2))) := zG_fr hI24 rfl (by decide) (by decide) (by decide) trivial
    have hI30 : zL91 f r C Z N (ma_put (ma_put (ma_put (ma_put S 91 2 (.inl (mI S 66 1))) 91 3 (.inl (if (93 : Int32) < ((mI S 66 0) / (mI S 66 1)) then (93 : Int32) else ((mI S 66 0) / (mI S 66 1))))) 91 4 (.inl (mI S 66 2))) 91 5 (.inl (0 : Int32))) := zG_sp hI29 (0) (92) rfl (by decide) (by decide) (by decide) trivial (by omega) (by omega)
    refine sp_276_92_sn (ab := (aS 88 (ma_put (ma_put (ma_put (ma_put S 91 2 (.inl (mI S 66 1))) 91 3 (.inl (if (93 : Int32) < ((mI S 66 0) / (mI S 66 1)) then (93 : Int32) else ((mI S 66 0) / (mI S 66 1))))) 91 4 (.inl (mI S 66 2))) 91 5 (.inl (0 : Int32))))) (fp91 := (mI (ma_put (ma_put (ma_put (ma_put S 91 2 (.inl (mI S 66 1))) 91 3 (.inl (if (93 : Int32) < ((mI S 66 0) / (mI S 66 1)) then (93 : Int32) else ((mI S 66 0) / (mI S 66 1))))) 91 4 (.inl (mI S 66 2))) 91 5 (.inl (0 : Int32))) 91)) ((0 : Int32)) (by omega) (by omega) (zL91_dn_zM92 hI30) (by omega) (by omega) (show xB (ma_put (ma_put (ma_put (ma_put S 91 2 (.inl (mI S 66 1))) 91 3 (.inl (if (93 : Int32) < ((mI S 66 0) / (mI S 66 1)) then (93 : Int32) else ((mI S 66 0) / (mI S 66 1))))) 91 4 (.inl (mI S 66 2))) 91 5 (.inl (0 : Int32))) (mR (ma_put (ma_put (ma_put (ma_put S 91 2 (.inl (mI S 66 1))) 91 3 (.inl (if (93 : Int32) < ((mI S 66 0) / (mI S 66 1)) then (93 : Int32) else ((mI S 66 0) / (mI S 66 1))))) 91 4 (.inl (mI S 66 2))) 91 5 (.inl (0 : Int32))) 70) from by first | (exact xB_x (xC_n (c := 91) (k := 5) (x := (0 : Int32)) (xC_n (c := 91) (k := 4) (x := (mI S 66 2)) (xC_n (c := 91) (k := 3) (x := (if (93 : Int32) < ((mI S 66 0) / (mI S 66 1)) then (93 : Int32) else ((mI S 66 0) / (mI S 66 1)))) (xC_n (c := 91) (k := 2) (x := (mI S 66 1)) (xC_o (W := 75) hpre1) ⟨by decide, Or.inl ⟨rfl, rfl⟩⟩) ⟨by decide, Or.inl ⟨rfl, rfl⟩⟩) ⟨by decide, Or.inl ⟨rfl, rfl⟩⟩) ⟨by decide, Or.inl ⟨rfl, rfl⟩⟩).2)) (show aS 88 (ma_put (ma_put (ma_put (ma_put S 91 2 (.inl (mI S 66 1))) 91 3 (.inl (if (93 : Int32) < ((mI S 66 0) / (mI S 66 1)) then (93 : Int32) else ((mI S 66 0) / (mI S 66 1))))) 91 4 (.inl (mI S 66 2))) 91 5 (.inl (0 : Int32))) = (aS 88 (ma_put (ma_put (ma_put (ma_put S 91 2 (.inl (mI S 66 1))) 91 3 (.inl (if (93 : Int32) < ((mI S 66 0) / (mI S 66 1)) then (93 : Int32) else ((mI S 66 0) / (mI S 66 1))))) 91 4 (.inl (mI S 66 2))) 91 5 (.inl (0 : Int32)))) from by first | (exact rfl)) (show (mI (ma_put (ma_put (ma_put (ma_put S 91 2 (.inl (mI S 66 1))) 91 3 (.inl (if (93 : Int32) < ((mI S 66 0) / (mI S 66 1)) then (93 : Int32) else ((mI S 66 0) / (mI S 66 1))))) 91 4 (.inl (mI S 66 2))) 91 5 (.inl (0 : Int32))) 91) = (mI (ma_put (ma_put (ma_put (ma_put S 91 2 (.inl (mI S 66 1))) 91 3 (.inl (if (93 : Int32) < ((mI S 66 0) / (mI S 66 1)) then (93 : Int32) else ((mI S 66 0) / (mI S 66 1))))) 91 4 (.inl (mI S 66 2))) 91 5 (.inl (0 : Int32))) 91) from by first | (exact rfl)) (fun S3 hL_S3 rp0_S3 rp1_S3 rp2_S3 rp3_S3 => zv_n ⟨zG_T hL_S3, ?_⟩)
    have hI_S3 := zL91_up_zM92 hI30 hL_S3
    have rp0_S3 : xB S3 (mR S3 70) := by
      have z := rp0_S3
      (try rw [show mI (ma_put (ma_put (ma_put (ma_put S 91 2 (.inl (mI S 66 1))) 91 3 (.inl (if (93 : Int32) < ((mI S 66 0) / (mI S 66 1)) then (93 : Int32) else ((mI S 66 0) / (mI S 66 1))))) 91 4 (.inl (mI S 66 2))) 91 5 (.inl (0 : Int32))) 65 = f 65 from funext (fun k => zG_z hI30 rfl)] at z)
      (try rw [show mI (ma_put (ma_put (ma_put (ma_put S 91 2 (.inl (mI S 66 1))) 91 3 (.inl (if (93 : Int32) < ((mI S 66 0) / (mI S 66 1)) then (93 : Int32) else ((mI S 66 0) / (mI S 66 1))))) 91 4 (.inl (mI S 66 2))) 91 5 (.inl (0 : Int32))) 64 1 = f 64 1 from zG_z hI30 rfl] at z)
      exact z
    have rp1_S3 : aS 88 S3 = (aS 88 (ma_put (ma_put (ma_put (ma_put S 91 2 (.inl (mI S 66 1))) 91 3 (.inl (if (93 : Int32) < ((mI S 66 0) / (mI S 66 1)) then (93 : Int32) else ((mI S 66 0) / (mI S 66 1))))) 91 4 (.inl (mI S 66 2))) 91 5 (.inl (0 : Int32)))) := by
      have z := rp1_S3
      (try rw [show mI (ma_put (ma_put (ma_put (ma_put S 91 2 (.inl (mI S 66 1))) 91 3 (.inl (if (93 : Int32) < ((mI S 66 0) / (mI S 66 1)) then (93 : Int32) else ((mI S 66 0) / (mI S 66 1))))) 91 4 (.inl (mI S 66 2))) 91 5 (.inl (0 : Int32))) 65 = f 65 from funext (fun k => zG_z hI30 rfl)] at z)
      (try rw [show mI (ma_put (ma_put (ma_put (ma_put S 91 2 (.inl (mI S 66 1))) 91 3 (.inl (if (93 : Int32) < ((mI S 66 0) / (mI S 66 1)) then (93 : Int32) else ((mI S 66 0) / (mI S 66 1))))) 91 4 (.inl (mI S 66 2))) 91 5 (.inl (0 : Int32))) 64 1 = f 64 1 from zG_z hI30 rfl] at z)
      exact z
    have rp2_S3 : (mI S3 91) = (mI (ma_put (ma_put (ma_put (ma_put S 91 2 (.inl (mI S 66 1))) 91 3 (.inl (if (93 : Int32) < ((mI S 66 0) / (mI S 66 1)) then (93 : Int32) else ((mI S 66 0) / (mI S 66 1))))) 91 4 (.inl (mI S 66 2))) 91 5 (.inl (0 : Int32))) 91) := by
      have z := rp2_S3
      (try rw [show mI (ma_put (ma_put (ma_put (ma_put S 91 2 (.inl (mI S 66 1))) 91 3 (.inl (if (93 : Int32) < ((mI S 66 0) / (mI S 66 1)) then (93 : Int32) else ((mI S 66 0) / (mI S 66 1))))) 91 4 (.inl (mI S 66 2))) 91 5 (.inl (0 : Int32))) 65 = f 65 from funext (fun k => zG_z hI30 rfl)] at z)
      (try rw [show mI (ma_put (ma_put (ma_put (ma_put S 91 2 (.inl (mI S 66 1))) 91 3 (.inl (if (93 : Int32) < ((mI S 66 0) / (mI S 66 1)) then (93 : Int32) else ((mI S 66 0) / (mI S 66 1))))) 91 4 (.inl (mI S 66 2))) 91 5 (.inl (0 : Int32))) 64 1 = f 64 1 from zG_z hI30 rfl] at z)
      exact z
    have rp3_S3 : ∀ k : Nat, k < 93 → (mI S3 92) k = (0 : Int32) := by
      have z := rp3_S3
      (try rw [show mI (ma_put (ma_put (ma_put (ma_put S 91 2 (.inl (mI S 66 1))) 91 3 (.inl (if (93 : Int32) < ((mI S 66 0) / (mI S 66 1)) then (93 : Int32) else ((mI S 66 0) / (mI S 66 1))))) 91 4 (.inl (mI S 66 2))) 91 5 (.inl (0 : Int32))) 65 = f 65 from funext (fun k => zG_z hI30 rfl)] at z)
      (try rw [show mI (ma_put (ma_put (ma_put (ma_put S 91 2 (.inl (mI S 66 1))) 91 3 (.inl (if (93 : Int32) < ((mI S 66 0) / (mI S 66 1)) then (93 : Int32) else ((mI S 66 0) / (mI S 66 1))))) 91 4 (.inl (mI S 66 2))) 91 5 (.inl (0 : Int32))) 64 1 = f 64 1 from zG_z hI30 rfl] at z)
      exact z
    have q31 : (mI S3 91 2).toInt = (mI S 66 1).toInt := zG_zi hL_S3 rfl
    have f32 := zG_s hI_S3 (0) (1500) (c := 91) (k := 2) (by decide)
    have q33 : (mI S3 91 3).toInt = (if (93 : Int32) < ((mI S 66 0) / (mI S 66 1)) then (93 : Int32) else ((mI S 66 0) / (mI S 66 1))).toInt := zG_zi hL_S3 rfl
    have f34 := zG_s hI_S3 (0) (93) (c := 91) (k := 3) (by decide)
    have q35 : (mI S 66 2).toInt = (f 66 2).toInt := zG_zi hI rfl
    have b36 := i_bd (mI S 66 2)
    have q37 : (mI S3 91 4).toInt = (mI S 66 2).toInt := zG_zi hL_S3 rfl
    have b38 := i_bd (mI S3 91 4)
    have q39 : (mI S3 91 5).toInt = (0 : Int32).toInt := zG_zi hL_S3 rfl
    have f40 := zG_s hI_S3 (0) (92) (c := 91) (k := 5) (by decide)
    exact K _ hI_S3 (show xB S3 (mR S3 70) from by first | (exact xB_x (xC_o (W := 75) rp0_S3).2)) (show aS 88 S3 = ab from by first | (exact rp1_S3.trans ((xC_n (c := 91) (k := 5) (x := (0 : Int32)) (xC_n (c := 91) (k := 4) (x := (mI S 66 2)) (xC_n (c := 91) (k := 3) (x := (if (93 : Int32) < ((mI S 66 0) / (mI S 66 1)) then (93 : Int32) else ((mI S 66 0) / (mI S 66 1)))) (xC_n (c := 91) (k := 2) (x := (mI S 66 1)) (xC_o (W := 88) hpre1) ⟨by decide, Or.inr ⟨rfl, Or.inr ⟨rfl, by decide⟩⟩⟩) ⟨by decide, Or.inr ⟨rfl, Or.inr ⟨rfl, by decide⟩⟩⟩) ⟨by decide, Or.inr ⟨rfl, Or.inr ⟨rfl, by decide⟩⟩⟩) ⟨by decide, Or.inr ⟨rfl, Or.inr ⟨rfl, by decide⟩⟩⟩).1.trans hpre2))) (show (mI S3 91 2) = (f 66) 1 ∧ (mI S3 91 3).toInt = (f 66 0).toInt / (f 66 1).toInt ∧ (mI S3 91 4) = (f 66) 2 ∧ (mI S3 91 5) = 0 ∧ ∀ k : Nat, k < 93 → (mI S3 92) k = 0 from by first | (have dv := (i_div (x := (mI S 66 0)) (y := (mI S 66 1)) (by omega) (by omega)).2.2.1; have d9 := i_div16 (x := (mI S 66 0)) (y := (mI S 66 1)) (by omega) (by omega) (by omega); have e0 : (mI S 66 0) = f 66 0 := zG_z hI rfl; have e1 : (mI S 66 1) = f 66 1 := zG_z hI rfl; refine ⟨(congrFun rp2_S3 2).trans (show mI S 66 1 = f 66 1 from zG_z hI rfl), ?_, (congrFun rp2_S3 4).trans (show mI S 66 2 = f 66 2 from zG_z hI rfl), (congrFun rp2_S3 5).trans rfl, rp3_S3⟩; rw [congrFun rp2_S3 3, ← e0, ← e1]; show ((if (93 : Int32) < ((mI S 66 0) / (mI S 66 1)) then (93 : Int32) else ((mI S 66 0) / (mI S 66 1)))).toInt = _; omega))
theorem g_60_80_sn_0 {X : Nat × (Nat → Int32)} {d w : Nat} {S : ma_S} {Q : Option ma_V ⊕ Nat → ma_S → Prop}  (hd : 0 ≤ d) (hw : 0 ≤ w) (hS : zT S) (h : Q (.inl (some (.inl (mI S 80 2)))) S) : ma_wp X d w 60 0 [(0, .inr (.inr (some 80)))] [] S Q := by
  refine zw_push hm_60 dX5_total_0 (v := .inr (.inr (some 80))) rfl ?_
  refine zw_gf hm_60 dX5_total_1 (v := .inl (mI S 80 2)) (zT_is hS s_80) (zT_t hS s_80) rfl f_5_9_5 rfl ?_
  exact zw_iret hm_60 dX5_total_4 h
theorem sp_60_80_sn {X : Nat × (Nat → Int32)} {d w : Nat} {f : Nat → Nat → Int32} {r : Nat → Nat → Option Nat} {C Z N : Nat} {Q : Option ma_V ⊕ Nat → ma_S → Prop} {S : ma_S}  (hd : 0 ≤ d) (hw : 0 ≤ w) (hI : zJ80 f r C Z N S)  (K : ∀ v S₉, S₉ = S → (True) → Q (.inl (some (.inl v))) S₉) : ma_wp X d w 60 0 [(0, .inr (.inr (some 80)))] [] S Q := by
  refine g_60_80_sn_0  (by omega) (by omega) (zG_T hI) ?_
  have f1 := zG_s hI (0) (1500) (c := 80) (k := 2) (by decide)
  exact K ((mI S 80 2)) _ rfl trivial
theorem g_30_81_sn_0 {X : Nat × (Nat → Int32)} {d w : Nat} {S : ma_S} {Q : Option ma_V ⊕ Nat → ma_S → Prop}  (hd : 0 ≤ d) (hw : 0 ≤ w) (hS : zT S) (h : Q (.inl (some (.inl ((2 : Int32) * (mI S 81 2))))) S) : ma_wp X d w 30 0 [(0, .inr (.inr (some 81)))] [] S Q := by
  refine zw_push hm_30 dX3_total_0 (v := .inl (2 : Int32)) rfl ?_
  refine zw_push hm_30 dX3_total_1 (v := .inr (.inr (some 81))) rfl ?_
  refine zw_gf hm_30 dX3_total_2 (v := .inl (mI S 81 2)) (zT_is hS s_81) (zT_t hS s_81) rfl f_3_9_3 rfl ?_
  refine zw_stk hm_30 dX3_total_5 (st₉ := [.inl ((2 : Int32) * (mI S 81 2))]) rfl rfl ?_
  exact zw_iret hm_30 dX3_total_6 h
theorem sp_30_81_sn {X : Nat × (Nat → Int32)} {d w : Nat} {f : Nat → Nat → Int32} {r : Nat → Nat → Option Nat} {C Z N : Nat} {Q : Option ma_V ⊕ Nat → ma_S → Prop} {S : ma_S}  (hd : 0 ≤ d) (hw : 0 ≤ w) (hI : zJ81 f r C Z N S)  (K : ∀ v S₉, S₉ = S → (True) → Q (.inl (some (.inl v))) S₉) : ma_wp X d w 30 0 [(0, .inr (.inr (some 81)))] [] S Q := by
  refine g_30_81_sn_0  (by omega) (by omega) (zG_T hI) ?_
  have li1 : (2 : Int32).toInt = 2 := rfl
  have x2 : 0 ≤ (mI S 81 3).toInt ∧ (mI S 81 3).toInt ≤ (mI S 81 2).toInt := zG_x hI
  have f3 := zG_s hI (0) (1500) (c := 81) (k := 2) (by decide)
  first | have e4 : ((2 : Int32) * (mI S 81 2)).toInt = 2 * (mI S 81 2).toInt := i_mulk2 rfl (by omega) (by omega) | have b5 := i_bd ((2 : Int32) * (mI S 81 2))
  exact K (((2 : Int32) * (mI S 81 2))) _ rfl trivial
theorem g_2_82_sn_0 {X : Nat × (Nat → Int32)} {d w : Nat} {S : ma_S} {Q : Option ma_V ⊕ Nat → ma_S → Prop}  (hd : 0 ≤ d) (hw : 0 ≤ w) (hS : zT S) (h : Q (.inl (some (.inl ((mI S 82 3) + ((2 : Int32) * (mI S 82 2)))))) S) : ma_wp X d w 2 0 [(0, .inr (.inr (some 82)))] [] S Q := by
  refine zw_push hm_2 dX0_total_0 (v := .inr (.inr (some 82))) rfl ?_
  refine zw_gf hm_2 dX0_total_1 (v := .inl (mI S 82 3)) (zT_is hS s_82) (zT_t hS s_82) rfl f_1_19_1 rfl ?_
  refine zw_push hm_2 dX0_total_4 (v := .inl (2 : Int32)) rfl ?_
  refine zw_push hm_2 dX0_total_5 (v := .inr (.inr (some 82))) rfl ?_
  refine zw_gf hm_2 dX0_total_6 (v := .inl (mI S 82 2)) (zT_is hS s_82) (zT_t hS s_82) rfl f_1_15_1 rfl ?_
  refine zw_stk hm_2 dX0_total_9 (st₉ := [.inl ((2 : Int32) * (mI S 82 2)), .inl (mI S 82 3)]) rfl rfl ?_
  refine zw_stk hm_2 dX0_total_10 (st₉ := [.inl ((mI S 82 3) + ((2 : Int32) * (mI S 82 2)))]) rfl rfl ?_
  exact zw_iret hm_2 dX0_total_11 h
theorem sp_2_82_sn {X : Nat × (Nat → Int32)} {d w : Nat} {f : Nat → Nat → Int32} {r : Nat → Nat → Option Nat} {C Z N : Nat} {Q : Option ma_V ⊕ Nat → ma_S → Prop} {S : ma_S}  (hd : 0 ≤ d) (hw : 0 ≤ w) (hI : zJ82 f r C Z N S)  (K : ∀ v S₉, S₉ = S → (True) → Q (.inl (some (.inl v))) S₉) : ma_wp X d w 2 0 [(0, .inr (.inr (some 82)))] [] S Q := by
  refine g_2_82_sn_0  (by omega) (by omega) (zG_T hI) ?_
  have x1 : (mI S 82 3).toInt ≤ (mI S 82 7).toInt ∧ (mI S 82 7).toInt ≤ (mI S 82 3).toInt + (mI S 82 2).toInt := zG_x hI
  have f2 := zG_s hI (0) (1500) (c := 82) (k := 3) (by decide)
  have li3 : (2 : Int32).toInt = 2 := rfl
  have f4 := zG_s hI (0) (1500) (c := 82) (k := 2) (by decide)
  first | have e5 : ((2 : Int32) * (mI S 82 2)).toInt = 2 * (mI S 82 2).toInt := i_mulk2 rfl (by omega) (by omega) | have b6 := i_bd ((2 : Int32) * (mI S 82 2))
  first | have e7 : ((mI S 82 3) + ((2 : Int32) * (mI S 82 2))).toInt = (mI S 82 3).toInt + ((2 : Int32) * (mI S 82 2)).toInt := i_add (by omega) (by omega) | have b8 := i_bd ((mI S 82 3) + ((2 : Int32) * (mI S 82 2)))
  exact K (((mI S 82 3) + ((2 : Int32) * (mI S 82 2)))) _ rfl trivial
theorem g_39_91_sn_0 {X : Nat × (Nat → Int32)} {d w : Nat} {S : ma_S} {Q : Option ma_V ⊕ Nat → ma_S → Prop}  (hd : 0 ≤ d) (hw : 0 ≤ w) (hS : zT S) (h : Q (.inl (some (.inl ((mI S 91 3) * (mI S 91 2))))) S) : ma_wp X d w 39 0 [(0, .inr (.inr (some 91)))] [] S Q := by
  refine zw_push hm_39 dX4_total_0 (v := .inr (.inr (some 91))) rfl ?_
  refine zw_gf hm_39 dX4_total_1 (v := .inl (mI S 91 3)) (zT_is hS s_91) (zT_t hS s_91) rfl f_4_28_4 rfl ?_
  refine zw_push hm_39 dX4_total_4 (v := .inr (.inr (some 91))) rfl ?_
  refine zw_gf hm_39 dX4_total_5 (v := .inl (mI S 91 2)) (zT_is hS s_91) (zT_t hS s_91) rfl f_4_18_4 rfl ?_
  refine zw_stk hm_39 dX4_total_8 (st₉ := [.inl ((mI S 91 3) * (mI S 91 2))]) rfl rfl ?_
  exact zw_iret hm_39 dX4_total_9 h
theorem sp_39_91_sn {X : Nat × (Nat → Int32)} {d w : Nat} {f : Nat → Nat → Int32} {r : Nat → Nat → Option Nat} {C Z N : Nat} {Q : Option ma_V ⊕ Nat → ma_S → Prop} {S : ma_S}  (hd : 0 ≤ d) (hw : 0 ≤ w) (hI : zL91 f r C Z N S)  (K : ∀ v S₉, S₉ = S → (True) → Q (.inl (some (.inl v))) S₉) : ma_wp X d w 39 0 [(0, .inr (.inr (some 91)))] [] S Q := by
  refine g_39_91_sn_0  (by omega) (by omega) (zG_T hI) ?_
  have f1 := zG_s hI (0) (93) (c := 91) (k := 3) (by decide)
  have f2 := zG_s hI (0) (1500) (c := 91) (k := 2) (by decide)
  first | have f3 := i_muln (x := (mI S 91 3)) (y := (mI S 91 2)) (by omega) (by omega) (by omega) (by omega) | have b4 := i_bd ((mI S 91 3) * (mI S 91 2))
  exact K (((mI S 91 3) * (mI S 91 2))) _ rfl trivial

/-! from 95.x15 -/
/-! the class opens a heap (written by wip/tools/gen15h.py) -/
theorem g_127_64_sn_0 {X : Nat × (Nat → Int32)} {d w : Nat} {S : ma_S} {Q : Option ma_V ⊕ Nat → ma_S → Prop}  (hd : 9 ≤ d) (hw : 186 ≤ w) (hS : zT S) (h : ma_wp X (d - 1) (w - 23) 128 0 [(0, .inr (.inr (some 64)))] [] S (zi (fun v2 S1 => zT S1 ∧ (if v2 < 0 then (Q (.inl (some (.inl ((-1 : Int32) - (mI S1 64 2))))) (ma_put S1 64 1 (.inl (0 : Int32)))) else (if v2 < (7 : Int32) then (ma_wp X d w 127 30 [(0, .inr (.inr (some 64))), (1, .inl v2)] [] (ma_put S1 64 1 (.inl (0 : Int32))) Q) else (Q (.inl (some (.inl ((-1 : Int32) - (mI S1 64 2))))) (ma_put S1 64 1 (.inl (0 : Int32))))))) (fun x S9 => Q (.inr x) S9))) : ma_wp X d w 127 0 [(0, .inr (.inr (some 64)))] [] S Q := by
  refine zw_push hm_127 dX11_heap_0 (v := .inr (.inr (some 64))) rfl ?_
  refine zw_cv hm_127 dX11_heap_1 v_11_88_11 hm_128 [] [] rfl (zT_rt hS s_64 rfl) ⟨by omega, by omega⟩ rfl (zw_mono h (zi_go ?_ ?_))
  · intro v2 S1 hv
    obtain ⟨hS1, h⟩ := hv
    refine zw_sto hm_127 dX11_heap_4 [(1, .inl v2), (0, .inr (.inr (some 64)))] rfl rfl rfl ?_
    refine zw_push hm_127 dX11_heap_5 (v := .inr (.inr (some 64))) rfl ?_
    refine zw_push hm_127 dX11_heap_6 (v := .inl (0 : Int32)) rfl ?_
    refine zw_pf hm_127 dX11_heap_7 (zT_is hS1 s_64) (zT_t hS1 s_64) p_11_68_11 zk_int ?_
    refine zw_push hm_127 dX11_heap_10 (v := .inl v2) rfl ?_
    refine zw_if0 hm_127 dX11_heap_11 (t := 23) rfl zc0_lt ?_ ?_
    · intro hc
      rw [if_pos hc] at h
      refine zw_push hm_127 dX11_heap_23 (v := .inl (-1 : Int32)) rfl ?_
      refine zw_push hm_127 dX11_heap_24 (v := .inr (.inr (some 64))) rfl ?_
      refine zw_gf hm_127 dX11_heap_25 (v := .inl (mI S1 64 2)) (zT_is (zT_pi hS1) s_64) (zT_t (zT_pi hS1) s_64) rfl f_11_92_11 rfl ?_
      refine zw_stk hm_127 dX11_heap_28 (st₉ := [.inl ((-1 : Int32) - (mI S1 64 2))]) rfl rfl ?_
      exact zw_iret hm_127 dX11_heap_29 h
    · intro hc
      rw [if_neg hc] at h
      refine zw_push hm_127 dX11_heap_14 (v := .inl v2) rfl ?_
      refine zw_push hm_127 dX11_heap_15 (v := .inr (.inr (some 64))) rfl ?_
      refine zw_gf hm_127 dX11_heap_16 (v := .inr (.inr (some 78))) (zT_is (zT_pi hS1) s_64) (zT_t (zT_pi hS1) s_64) rfl f_11_64_11 (zT_f (zT_pi hS1) r_64_10) ?_
      refine zw_len hm_127 dX11_heap_19 (v := (7 : Int32)) (zT_is (zT_pi hS1) s_78) (zT_h (zT_pi hS1) s_78) rfl rfl ?_
      refine zw_if2 hm_127 dX11_heap_20 (t := 30) rfl zc2_lt ?_ ?_
      · intro hc
        rw [if_pos hc] at h
        exact zw_sub (ma_nd_of (ks := [0, 1]) rfl (by decide)) (ma_nd_of (ks := [1, 0]) rfl (by decide)) (ma_le_cons rfl (ma_le_cons rfl (ma_le_nil _))) h
      · intro hc
        rw [if_neg hc] at h
        refine zw_push hm_127 dX11_heap_23 (v := .inl (-1 : Int32)) rfl ?_
        refine zw_push hm_127 dX11_heap_24 (v := .inr (.inr (some 64))) rfl ?_
        refine zw_gf hm_127 dX11_heap_25 (v := .inl (mI S1 64 2)) (zT_is (zT_pi hS1) s_64) (zT_t (zT_pi hS1) s_64) rfl f_11_92_11 rfl ?_
        refine zw_stk hm_127 dX11_heap_28 (st₉ := [.inl ((-1 : Int32) - (mI S1 64 2))]) rfl rfl ?_
        exact zw_iret hm_127 dX11_heap_29 h
  · intro x S9 hx
    exact ⟨by decide, hx⟩
theorem g_127_64_sn_30 {X : Nat × (Nat → Int32)} {d w : Nat} {S : ma_S} {Q : Option ma_V ⊕ Nat → ma_S → Prop} (l1 : Int32) (hd : 9 ≤ d) (hw : 186 ≤ w) (hS : zT S) (h : ma_wp X (d - 1) (w - 21) 80 0 [(0, .inr (.inr (some 69)))] [] S (zv (fun S1 => zT S1 ∧ (if l1 = (0 : Int32) then (ma_wp X (d - 1) (w - 21) 100 0 [(0, .inr (.inr (some 79))), (1, .inr (.inr (some 66)))] [] (ma_put S1 64 11 (.inr (.inr (some 79)))) (zv (fun S3 => zT S3 ∧ (mR S3 64 11 = some 79 ∧ (ma_wp X (d - 1) (w - 20) 101 0 [(0, .inr (.inr (some 79)))] [] S3 (zi (fun v6 S5 => zT S5 ∧ (Q (.inl (some (.inl v6))) S5)) (fun _ _ => False))))) (fun _ _ => False))) else (if l1 = (1 : Int32) then (ma_wp X (d - 1) (w - 21) 59 0 [(0, .inr (.inr (some 80))), (1, .inr (.inr (some 66)))] [] (ma_put S1 64 11 (.inr (.inr (some 80)))) (zv (fun S7 => zT S7 ∧ (mR S7 64 11 = some 80 ∧ (ma_wp X (d - 1) (w - 20) 60 0 [(0, .inr (.inr (some 80)))] [] S7 (zi (fun v10 S9 => zT S9 ∧ (Q (.inl (some (.inl v10))) S9)) (fun _ _ => False))))) (fun _ _ => False))) else (if l1 = (2 : Int32) then (ma_wp X (d - 1) (w - 21) 29 0 [(0, .inr (.inr (some 81))), (1, .inr (.inr (some 66)))] [] (ma_put S1 64 11 (.inr (.inr (some 81)))) (zv (fun S11 => zT S11 ∧ (mR S11 64 11 = some 81 ∧ (ma_wp X (d - 1) (w - 20) 30 0 [(0, .inr (.inr (some 81)))] [] S11 (zi (fun v14 S13 => zT S13 ∧ (Q (.inl (some (.inl v14))) S13)) (fun _ _ => False))))) (fun _ _ => False))) else (if l1 = (3 : Int32) then (ma_wp X (d - 1) (w - 21) 1 0 [(0, .inr (.inr (some 82))), (1, .inr (.inr (some 66)))] [] (ma_put S1 64 11 (.inr (.inr (some 82)))) (zv (fun S15 => zT S15 ∧ (mR S15 64 11 = some 82 ∧ (ma_wp X (d - 1) (w - 20) 2 0 [(0, .inr (.inr (some 82)))] [] S15 (zi (fun v18 S17 => zT S17 ∧ (Q (.inl (some (.inl v18))) S17)) (fun _ _ => False))))) (fun _ _ => False))) else (if l1 = (4 : Int32) then (ma_wp X (d - 1) (w - 21) 100 0 [(0, .inr (.inr (some 84))), (1, .inr (.inr (some 66)))] [] (ma_put S1 64 11 (.inr (.inr (some 84)))) (zv (fun S19 => zT S19 ∧ (mR S19 64 11 = some 84 ∧ (ma_wp X (d - 1) (w - 20) 101 0 [(0, .inr (.inr (some 84)))] [] S19 (zi (fun v22 S21 => zT S21 ∧ (Q (.inl (some (.inl v22))) S21)) (fun _ _ => False))))) (fun _ _ => False))) else (if l1 = (5 : Int32) then (ma_wp X (d - 1) (w - 21) 66 0 [(0, .inr (.inr (some 87))), (1, .inr (.inr (some 66)))] [] (ma_put S1 64 11 (.inr (.inr (some 87)))) (zv (fun S23 => zT S23 ∧ (mR S23 64 11 = some 87 ∧ (ma_wp X (d - 1) (w - 20) 101 0 [(0, .inr (.inr (some 87)))] [] S23 (zi (fun v26 S25 => zT S25 ∧ (Q (.inl (some (.inl v26))) S25)) (fun _ _ => False))))) (fun _ _ => False))) else (if l1 = (6 : Int32) then (ma_wp X (d - 1) (w - 21) 38 0 [(0, .inr (.inr (some 91))), (1, .inr (.inr (some 66)))] [] (ma_put S1 64 11 (.inr (.inr (some 91)))) (zv (fun S27 => zT S27 ∧ (mR S27 64 11 = some 91 ∧ (ma_wp X (d - 1) (w - 20) 39 0 [(0, .inr (.inr (some 91)))] [] S27 (zi (fun v30 S29 => zT S29 ∧ (Q (.inl (some (.inl v30))) S29)) (fun _ _ => False))))) (fun _ _ => False))) else (False))))))))) (fun x S9 => Q (.inr x) S9))) : ma_wp X d w 127 30 [(0, .inr (.inr (some 64))), (1, .inl l1)] [] S Q := by
  refine zw_push hm_127 dX11_heap_30 (v := .inr (.inr (some 64))) rfl ?_
  refine zw_gf hm_127 dX11_heap_31 (v := .inr (.inr (some 69))) (zT_is hS s_64) (zT_t hS s_64) rfl f_11_26_11 (zT_f hS r_64_8) ?_
  refine zw_cv hm_127 dX11_heap_34 v_11_95_7 hm_80 [] [] rfl (zT_rt hS s_69 rfl) ⟨by omega, by omega⟩ rfl (zw_mono h (zv_go ?_ ?_))
  · intro S1 hv
    obtain ⟨hS1, h⟩ := hv
    refine zw_push hm_127 dX11_heap_37 (v := .inr (.inr (some 64))) rfl ?_
    refine zw_push hm_127 dX11_heap_38 (v := .inr (.inr (some 64))) rfl ?_
    refine zw_gf hm_127 dX11_heap_39 (v := .inr (.inr (some 78))) (zT_is hS1 s_64) (zT_t hS1 s_64) rfl f_11_64_11 (zT_f hS1 r_64_10) ?_
    refine zw_push hm_127 dX11_heap_42 (v := .inl l1) rfl ?_
    by_cases hc0 : l1 = (0 : Int32)
    · rw [if_pos hc0] at h
      have h9 := h
      subst hc0
      have h := h9
      refine zw_aa hm_127 dX11_heap_43 (zT_is hS1 s_78) (zT_h hS1 s_78) rfl rfl ⟨by decide, by decide⟩ (zT_r hS1 r_78_0) ?_
      show ma_wp X d w 127 44 [(0, .inr (.inr (some 64))), (1, .inl (0 : Int32))] [.inr (.inr (some 79)), .inr (.inr (some 64))] S1 _
      refine zw_pf hm_127 dX11_heap_44 (zT_is hS1 s_64) (zT_t hS1 s_64) p_11_98_11 rfl ?_
      refine zw_push hm_127 dX11_heap_47 (v := .inr (.inr (some 64))) rfl ?_
      refine zw_gf hm_127 dX11_heap_48 (v := .inr (.inr (some 79))) (zT_is (zT_pr hS1 rfl) s_64) (zT_t (zT_pr hS1 rfl) s_64) rfl f_11_98_11 rfl ?_
      refine zw_push hm_127 dX11_heap_51 (v := .inr (.inr (some 64))) rfl ?_
      refine zw_gf hm_127 dX11_heap_52 (v := .inr (.inr (some 66))) (zT_is (zT_pr hS1 rfl) s_64) (zT_t (zT_pr hS1 rfl) s_64) rfl f_11_13_11 (zT_f (zT_pr hS1 rfl) r_64_4) ?_
      refine zw_cv hm_127 dX11_heap_55 v_11_102_8 hm_100 [.inr (.inr (some 66))] [] rfl (zT_rt (zT_pr hS1 rfl) s_79 rfl) ⟨by omega, by omega⟩ rfl (zw_mono h (zv_go ?_ ?_))
      · intro S3 hv
        obtain ⟨hS3, h⟩ := hv
        refine zw_push hm_127 dX11_heap_58 (v := .inr (.inr (some 64))) rfl ?_
        obtain ⟨hg, h⟩ := h
        refine zw_gf hm_127 dX11_heap_59 (v := .inr (.inr (some 79))) (zT_is hS3 s_64) (zT_t hS3 s_64) rfl f_11_98_11 (congrArg (fun z => Sum.inr (Sum.inr z)) hg) ?_
        refine zw_cv hm_127 dX11_heap_62 v_11_106_8 hm_101 [] [] rfl (zT_rt hS3 s_79 rfl) ⟨by omega, by omega⟩ rfl (zw_mono h (zi_go ?_ ?_))
        · intro v6 S5 hv
          obtain ⟨hS5, h⟩ := hv
          exact zw_iret hm_127 dX11_heap_65 h
        · intro x S9 hx
          exact hx.elim
      · intro x S9 hx
        exact hx.elim
    rw [if_neg hc0] at h
    by_cases hc1 : l1 = (1 : Int32)
    · rw [if_pos hc1] at h
      have h9 := h
      subst hc1
      have h := h9
      refine zw_aa hm_127 dX11_heap_43 (zT_is hS1 s_78) (zT_h hS1 s_78) rfl rfl ⟨by decide, by decide⟩ (zT_r hS1 r_78_1) ?_
      show ma_wp X d w 127 44 [(0, .inr (.inr (some 64))), (1, .inl (1 : Int32))] [.inr (.inr (some 80)), .inr (.inr (some 64))] S1 _
      refine zw_pf hm_127 dX11_heap_44 (zT_is hS1 s_64) (zT_t hS1 s_64) p_11_98_11 rfl ?_
      refine zw_push hm_127 dX11_heap_47 (v := .inr (.inr (some 64))) rfl ?_
      refine zw_gf hm_127 dX11_heap_48 (v := .inr (.inr (some 80))) (zT_is (zT_pr hS1 rfl) s_64) (zT_t (zT_pr hS1 rfl) s_64) rfl f_11_98_11 rfl ?_
      refine zw_push hm_127 dX11_heap_51 (v := .inr (.inr (some 64))) rfl ?_
      refine zw_gf hm_127 dX11_heap_52 (v := .inr (.inr (some 66))) (zT_is (zT_pr hS1 rfl) s_64) (zT_t (zT_pr hS1 rfl) s_64) rfl f_11_13_11 (zT_f (zT_pr hS1 rfl) r_64_4) ?_
      refine zw_cv hm_127 dX11_heap_55 v_11_102_5 hm_59 [.inr (.inr (some 66))] [] rfl (zT_rt (zT_pr hS1 rfl) s_80 rfl) ⟨by omega, by omega⟩ rfl (zw_mono h (zv_go ?_ ?_))
      · intro S7 hv
        obtain ⟨hS7, h⟩ := hv
        refine zw_push hm_127 dX11_heap_58 (v := .inr (.inr (some 64))) rfl ?_
        obtain ⟨hg, h⟩ := h
        refine zw_gf hm_127 dX11_heap_59 (v := .inr (.inr (some 80))) (zT_is hS7 s_64) (zT_t hS7 s_64) rfl f_11_98_11 (congrArg (fun z => Sum.inr (Sum.inr z)) hg) ?_
        refine zw_cv hm_127 dX11_heap_62 v_11_106_5 hm_60 [] [] rfl (zT_rt hS7 s_80 rfl) ⟨by omega, by omega⟩ rfl (zw_mono h (zi_go ?_ ?_))
        · intro v10 S9 hv
          obtain ⟨hS9, h⟩ := hv
          exact zw_iret hm_127 dX11_heap_65 h
        · intro x S9 hx
          exact hx.elim
      · intro x S9 hx
        exact hx.elim
    rw [if_neg hc1] at h
    by_cases hc2 : l1 = (2 : Int32)
    · rw [if_pos hc2] at h
      have h9 := h
      subst hc2
      have h := h9
      refine zw_aa hm_127 dX11_heap_43 (zT_is hS1 s_78) (zT_h hS1 s_78) rfl rfl ⟨by decide, by decide⟩ (zT_r hS1 r_78_2) ?_
      show ma_wp X d w 127 44 [(0, .inr (.inr (some 64))), (1, .inl (2 : Int32))] [.inr (.inr (some 81)), .inr (.inr (some 64))] S1 _
      refine zw_pf hm_127 dX11_heap_44 (zT_is hS1 s_64) (zT_t hS1 s_64) p_11_98_11 rfl ?_
      refine zw_push hm_127 dX11_heap_47 (v := .inr (.inr (some 64))) rfl ?_
      refine zw_gf hm_127 dX11_heap_48 (v := .inr (.inr (some 81))) (zT_is (zT_pr hS1 rfl) s_64) (zT_t (zT_pr hS1 rfl) s_64) rfl f_11_98_11 rfl ?_
      refine zw_push hm_127 dX11_heap_51 (v := .inr (.inr (some 64))) rfl ?_
      refine zw_gf hm_127 dX11_heap_52 (v := .inr (.inr (some 66))) (zT_is (zT_pr hS1 rfl) s_64) (zT_t (zT_pr hS1 rfl) s_64) rfl f_11_13_11 (zT_f (zT_pr hS1 rfl) r_64_4) ?_
      refine zw_cv hm_127 dX11_heap_55 v_11_102_3 hm_29 [.inr (.inr (some 66))] [] rfl (zT_rt (zT_pr hS1 rfl) s_81 rfl) ⟨by omega, by omega⟩ rfl (zw_mono h (zv_go ?_ ?_))
      · intro S11 hv
        obtain ⟨hS11, h⟩ := hv
        refine zw_push hm_127 dX11_heap_58 (v := .inr (.inr (some 64))) rfl ?_
        obtain ⟨hg, h⟩ := h
        refine zw_gf hm_127 dX11_heap_59 (v := .inr (.inr (some 81))) (zT_is hS11 s_64) (zT_t hS11 s_64) rfl f_11_98_11 (congrArg (fun z => Sum.inr (Sum.inr z)) hg) ?_
        refine zw_cv hm_127 dX11_heap_62 v_11_106_3 hm_30 [] [] rfl (zT_rt hS11 s_81 rfl) ⟨by omega, by omega⟩ rfl (zw_mono h (zi_go ?_ ?_))
        · intro v14 S13 hv
          obtain ⟨hS13, h⟩ := hv
          exact zw_iret hm_127 dX11_heap_65 h
        · intro x S9 hx
          exact hx.elim
      · intro x S9 hx
        exact hx.elim
    rw [if_neg hc2] at h
    by_cases hc3 : l1 = (3 : Int32)
    · rw [if_pos hc3] at h
      have h9 := h
      subst hc3
      have h := h9
      refine zw_aa hm_127 dX11_heap_43 (zT_is hS1 s_78) (zT_h hS1 s_78) rfl rfl ⟨by decide, by decide⟩ (zT_r hS1 r_78_3) ?_
      show ma_wp X d w 127 44 [(0, .inr (.inr (some 64))), (1, .inl (3 : Int32))] [.inr (.inr (some 82)), .inr (.inr (some 64))] S1 _
      refine zw_pf hm_127 dX11_heap_44 (zT_is hS1 s_64) (zT_t hS1 s_64) p_11_98_11 rfl ?_
      refine zw_push hm_127 dX11_heap_47 (v := .inr (.inr (some 64))) rfl ?_
      refine zw_gf hm_127 dX11_heap_48 (v := .inr (.inr (some 82))) (zT_is (zT_pr hS1 rfl) s_64) (zT_t (zT_pr hS1 rfl) s_64) rfl f_11_98_11 rfl ?_
      refine zw_push hm_127 dX11_heap_51 (v := .inr (.inr (some 64))) rfl ?_
      refine zw_gf hm_127 dX11_heap_52 (v := .inr (.inr (some 66))) (zT_is (zT_pr hS1 rfl) s_64) (zT_t (zT_pr hS1 rfl) s_64) rfl f_11_13_11 (zT_f (zT_pr hS1 rfl) r_64_4) ?_
      refine zw_cv hm_127 dX11_heap_55 v_11_102_1 hm_1 [.inr (.inr (some 66))] [] rfl (zT_rt (zT_pr hS1 rfl) s_82 rfl) ⟨by omega, by omega⟩ rfl (zw_mono h (zv_go ?_ ?_))
      · intro S15 hv
        obtain ⟨hS15, h⟩ := hv
        refine zw_push hm_127 dX11_heap_58 (v := .inr (.inr (some 64))) rfl ?_
        obtain ⟨hg, h⟩ := h
        refine zw_gf hm_127 dX11_heap_59 (v := .inr (.inr (some 82))) (zT_is hS15 s_64) (zT_t hS15 s_64) rfl f_11_98_11 (congrArg (fun z => Sum.inr (Sum.inr z)) hg) ?_
        refine zw_cv hm_127 dX11_heap_62 v_11_106_1 hm_2 [] [] rfl (zT_rt hS15 s_82 rfl) ⟨by omega, by omega⟩ rfl (zw_mono h (zi_go ?_ ?_))
        · intro v18 S17 hv
          obtain ⟨hS17, h⟩ := hv
          exact zw_iret hm_127 dX11_heap_65 h
        · intro x S9 hx
          exact hx.elim
      · intro x S9 hx
        exact hx.elim
    rw [if_neg hc3] at h
    by_cases hc4 : l1 = (4 : Int32)
    · rw [if_pos hc4] at h
      have h9 := h
      subst hc4
      have h := h9
      refine zw_aa hm_127 dX11_heap_43 (zT_is hS1 s_78) (zT_h hS1 s_78) rfl rfl ⟨by decide, by decide⟩ (zT_r hS1 r_78_4) ?_
      show ma_wp X d w 127 44 [(0, .inr (.inr (some 64))), (1, .inl (4 : Int32))] [.inr (.inr (some 84)), .inr (.inr (some 64))] S1 _
      refine zw_pf hm_127 dX11_heap_44 (zT_is hS1 s_64) (zT_t hS1 s_64) p_11_98_11 rfl ?_
      refine zw_push hm_127 dX11_heap_47 (v := .inr (.inr (some 64))) rfl ?_
      refine zw_gf hm_127 dX11_heap_48 (v := .inr (.inr (some 84))) (zT_is (zT_pr hS1 rfl) s_64) (zT_t (zT_pr hS1 rfl) s_64) rfl f_11_98_11 rfl ?_
      refine zw_push hm_127 dX11_heap_51 (v := .inr (.inr (some 64))) rfl ?_
      refine zw_gf hm_127 dX11_heap_52 (v := .inr (.inr (some 66))) (zT_is (zT_pr hS1 rfl) s_64) (zT_t (zT_pr hS1 rfl) s_64) rfl f_11_13_11 (zT_f (zT_pr hS1 rfl) r_64_4) ?_
      refine zw_cv hm_127 dX11_heap_55 v_11_102_2 hm_100 [.inr (.inr (some 66))] [] rfl (zT_rt (zT_pr hS1 rfl) s_84 rfl) ⟨by omega, by omega⟩ rfl (zw_mono h (zv_go ?_ ?_))
      · intro S19 hv
        obtain ⟨hS19, h⟩ := hv
        refine zw_push hm_127 dX11_heap_58 (v := .inr (.inr (some 64))) rfl ?_
        obtain ⟨hg, h⟩ := h
        refine zw_gf hm_127 dX11_heap_59 (v := .inr (.inr (some 84))) (zT_is hS19 s_64) (zT_t hS19 s_64) rfl f_11_98_11 (congrArg (fun z => Sum.inr (Sum.inr z)) hg) ?_
        refine zw_cv hm_127 dX11_heap_62 v_11_106_2 hm_101 [] [] rfl (zT_rt hS19 s_84 rfl) ⟨by omega, by omega⟩ rfl (zw_mono h (zi_go ?_ ?_))
        · intro v22 S21 hv
          obtain ⟨hS21, h⟩ := hv
          exact zw_iret hm_127 dX11_heap_65 h
        · intro x S9 hx
          exact hx.elim
      · intro x S9 hx
        exact hx.elim
    rw [if_neg hc4] at h
    by_cases hc5 : l1 = (5 : Int32)
    · rw [if_pos hc5] at h
      have h9 := h
      subst hc5
      have h := h9
      refine zw_aa hm_127 dX11_heap_43 (zT_is hS1 s_78) (zT_h hS1 s_78) rfl rfl ⟨by decide, by decide⟩ (zT_r hS1 r_78_5) ?_
      show ma_wp X d w 127 44 [(0, .inr (.inr (some 64))), (1, .inl (5 : Int32))] [.inr (.inr (some 87)), .inr (.inr (some 64))] S1 _
      refine zw_pf hm_127 dX11_heap_44 (zT_is hS1 s_64) (zT_t hS1 s_64) p_11_98_11 rfl ?_
      refine zw_push hm_127 dX11_heap_47 (v := .inr (.inr (some 64))) rfl ?_
      refine zw_gf hm_127 dX11_heap_48 (v := .inr (.inr (some 87))) (zT_is (zT_pr hS1 rfl) s_64) (zT_t (zT_pr hS1 rfl) s_64) rfl f_11_98_11 rfl ?_
      refine zw_push hm_127 dX11_heap_51 (v := .inr (.inr (some 64))) rfl ?_
      refine zw_gf hm_127 dX11_heap_52 (v := .inr (.inr (some 66))) (zT_is (zT_pr hS1 rfl) s_64) (zT_t (zT_pr hS1 rfl) s_64) rfl f_11_13_11 (zT_f (zT_pr hS1 rfl) r_64_4) ?_
      refine zw_cv hm_127 dX11_heap_55 v_11_102_6 hm_66 [.inr (.inr (some 66))] [] rfl (zT_rt (zT_pr hS1 rfl) s_87 rfl) ⟨by omega, by omega⟩ rfl (zw_mono h (zv_go ?_ ?_))
      · intro S23 hv
        obtain ⟨hS23, h⟩ := hv
        refine zw_push hm_127 dX11_heap_58 (v := .inr (.inr (some 64))) rfl ?_
        obtain ⟨hg, h⟩ := h
        refine zw_gf hm_127 dX11_heap_59 (v := .inr (.inr (some 87))) (zT_is hS23 s_64) (zT_t hS23 s_64) rfl f_11_98_11 (congrArg (fun z => Sum.inr (Sum.inr z)) hg) ?_
        refine zw_cv hm_127 dX11_heap_62 v_11_106_6 hm_101 [] [] rfl (zT_rt hS23 s_87 rfl) ⟨by omega, by omega⟩ rfl (zw_mono h (zi_go ?_ ?_))
        · intro v26 S25 hv
          obtain ⟨hS25, h⟩ := hv
          exact zw_iret hm_127 dX11_heap_65 h
        · intro x S9 hx
          exact hx.elim
      · intro x S9 hx
        exact hx.elim
    rw [if_neg hc5] at h
    by_cases hc6 : l1 = (6 : Int32)
    · rw [if_pos hc6] at h
      have h9 := h
      subst hc6
      have h := h9
      refine zw_aa hm_127 dX11_heap_43 (zT_is hS1 s_78) (zT_h hS1 s_78) rfl rfl ⟨by decide, by decide⟩ (zT_r hS1 r_78_6) ?_
      show ma_wp X d w 127 44 [(0, .inr (.inr (some 64))), (1, .inl (6 : Int32))] [.inr (.inr (some 91)), .inr (.inr (some 64))] S1 _
      refine zw_pf hm_127 dX11_heap_44 (zT_is hS1 s_64) (zT_t hS1 s_64) p_11_98_11 rfl ?_
      refine zw_push hm_127 dX11_heap_47 (v := .inr (.inr (some 64))) rfl ?_
      refine zw_gf hm_127 dX11_heap_48 (v := .inr (.inr (some 91))) (zT_is (zT_pr hS1 rfl) s_64) (zT_t (zT_pr hS1 rfl) s_64) rfl f_11_98_11 rfl ?_
      refine zw_push hm_127 dX11_heap_51 (v := .inr (.inr (some 64))) rfl ?_
      refine zw_gf hm_127 dX11_heap_52 (v := .inr (.inr (some 66))) (zT_is (zT_pr hS1 rfl) s_64) (zT_t (zT_pr hS1 rfl) s_64) rfl f_11_13_11 (zT_f (zT_pr hS1 rfl) r_64_4) ?_
      refine zw_cv hm_127 dX11_heap_55 v_11_102_4 hm_38 [.inr (.inr (some 66))] [] rfl (zT_rt (zT_pr hS1 rfl) s_91 rfl) ⟨by omega, by omega⟩ rfl (zw_mono h (zv_go ?_ ?_))
      · intro S27 hv
        obtain ⟨hS27, h⟩ := hv
        refine zw_push hm_127 dX11_heap_58 (v := .inr (.inr (some 64))) rfl ?_
        obtain ⟨hg, h⟩ := h
        refine zw_gf hm_127 dX11_heap_59 (v := .inr (.inr (some 91))) (zT_is hS27 s_64) (zT_t hS27 s_64) rfl f_11_98_11 (congrArg (fun z => Sum.inr (Sum.inr z)) hg) ?_
        refine zw_cv hm_127 dX11_heap_62 v_11_106_4 hm_39 [] [] rfl (zT_rt hS27 s_91 rfl) ⟨by omega, by omega⟩ rfl (zw_mono h (zi_go ?_ ?_))
        · intro v30 S29 hv
          obtain ⟨hS29, h⟩ := hv
          exact zw_iret hm_127 dX11_heap_65 h
        · intro x S9 hx
          exact hx.elim
      · intro x S9 hx
        exact hx.elim
    rw [if_neg hc6] at h
    exact h.elim
  · intro x S9 hx
    exact ⟨by decide, hx⟩
theorem lp_127_64_sn_30 {X : Nat × (Nat → Int32)} {d w : Nat} {f : Nat → Nat → Int32} {r : Nat → Nat → Option Nat} {C Z N : Nat} {Q : Option ma_V ⊕ Nat → ma_S → Prop} {zt : Nat→Int32} {zn : Int} {a8 : Nat→Nat→Int32} {J0 : Nat→Nat→Int32} {JL : Nat→Nat→Int64} {JR : zRT} {k67 : Nat→Int32} {k68 : Nat→Int32} (hd : 9 ≤ d) (hw : 186 ≤ w) (K : ∀ v S₉ r₉, (r₉ = r ∨ ∃ p, p ∈ zcl7 ∧ r₉ = zrp r p) → zA f r₉ C Z N S₉ → ((mI S₉ 64 1).toInt = 0) → ((zAns zt zn < 0 ∧ r₉ 64 11 = r 64 11 ∧ zFm J0 JL JR S₉) ∨ (0 ≤ zAns zt zn ∧ ((qPo zt zn = 0 ∧ r₉ 64 11 = some 79 ∧ xB S₉ (mR S₉ 70) ∧ aS 88 S₉ = aFg a8 ∧ zfP 79 (mI S₉) 2 = 0 ∧ (zfP 79 (mI S₉) 0).toInt = zVal zt zn 0 1 ∧ (zfP 79 (mI S₉) 1).toInt = zVal zt zn 6 2) ∨ (qPo zt zn = 4 ∧ r₉ 64 11 = some 84 ∧ xB S₉ (mR S₉ 70) ∧ aS 88 S₉ = aFg a8 ∧ zfP 84 (mI S₉) 2 = 0 ∧ (zfP 84 (mI S₉) 0).toInt = zVal zt zn 0 1 ∧ (zfP 84 (mI S₉) 1).toInt = zVal zt zn 6 2) ∨ (qPo zt zn = 5 ∧ r₉ 64 11 = some 87 ∧ xB S₉ (mR S₉ 70) ∧ ∃ t : Nat → Int32, aS 88 S₉ = aO2 (aFg a8) t ∧ (t 0).toInt = zVal zt zn 0 1 ∧ (t 1).toInt = zVal zt zn 6 2 ∧ (t 2).toInt = zVal zt zn 3 3 ∧ (t 3).toInt = zVal zt zn 7 4) ∨ (qPo zt zn = 1 ∧ r₉ 64 11 = some 80 ∧ xB S₉ (mR S₉ 70) ∧ aS 88 S₉ = aFg a8 ∧ ((mI S₉ 80 2)).toInt = zVal zt zn 0 1 ∧ (mI S₉ 80 3) = 0) ∨ (qPo zt zn = 2 ∧ r₉ 64 11 = some 81 ∧ xB S₉ (mR S₉ 70) ∧ aS 88 S₉ = aFg a8 ∧ ((mI S₉ 81 2)).toInt = zVal zt zn 0 1 ∧ (mI S₉ 81 3) = 0 ∧ (mI S₉ 81 4) = 0) ∨ (qPo zt zn = 3 ∧ r₉ 64 11 = some 82 ∧ xB S₉ (mR S₉ 70) ∧ aS 88 S₉ = aFg a8 ∧ ((mI S₉ 82 2)).toInt = zVal zt zn 0 1 ∧ ((mI S₉ 82 3)).toInt = zVal zt zn 0 2 ∧ ((mI S₉ 82 4)).toInt = zVal zt zn 1 3 ∧ ((mI S₉ 82 5)).toInt = zVal zt zn 2 4 ∧ (mI S₉ 82 6) = 0 ∧ ((mI S₉ 82 7)).toInt = zVal zt zn 0 2 ∧ ((mI S₉ 82 8)).toInt = zVal zt zn 0 2 ∧ ∀ k : Nat, k < 375 → (mI S₉ 83) k = 0) ∨ (qPo zt zn = 6 ∧ r₉ 64 11 = some 91 ∧ xB S₉ (mR S₉ 70) ∧ aS 88 S₉ = aFg a8 ∧ ((mI S₉ 91 2)).toInt = zV4 zt zn ∧ ((mI S₉ 91 3)).toInt = zVal zt zn 0 1 / zV4 zt zn ∧ ((mI S₉ 91 4)).toInt = zVal zt zn 5 3 ∧ (mI S₉ 91 5) = 0 ∧ ∀ k : Nat, k < 93 → (mI S₉ 92) k = 0)))) → ((mI S₉ 67) = k67 ∧ (mI S₉ 68) = k68) → Q (.inl (some (.inl v))) S₉) : ∀ (n : Nat) (S : ma_S) (l1 : Int32), ((0 : Int)).toNat = n → zA f r C Z N S → (0 ≤ l1.toInt) → (l1.toInt ≤ 6) → (0 ≤ (mI S 66 0).toInt ∧ (l1.toInt = 3 → 0 ≤ (mI S 66 1).toInt) ∧ (l1.toInt = 6 → 16 ≤ (mI S 66 1).toInt)) → ((mI S 64 1).toInt = 0) → (aS 88 S = a8) → (0 ≤ zAns zt zn ∧ l1.toInt = qPo zt zn ∧ (l1.toInt = 5 → ((mI S 66) 0).toInt = zVal zt zn 0 1 ∧ ((mI S 66) 1).toInt = zVal zt zn 6 2 ∧ ((mI S 66) 2).toInt = zVal zt zn 3 3 ∧ ((mI S 66) 3).toInt = zVal zt zn 7 4)) → ((l1.toInt = 0 ∨ l1.toInt = 4) → ((mI S 66) 0).toInt = zVal zt zn 0 1 ∧ ((mI S 66) 1).toInt = zVal zt zn 6 2) → (qM1 l1 (mI S 66 0) zt zn) → (qM3 l1 (mI S 66 0) (mI S 66 1) (mI S 66 2) (mI S 66 3) zt zn) → (qM6 l1 (mI S 66 0) (mI S 66 1) (mI S 66 2) zt zn) → ((mI S 67) = k67 ∧ (mI S 68) = k68) → ma_wp X d w 127 30 [(0, .inr (.inr (some 64))), (1, .inl l1)] [] S Q := by
  intro n
  induction n using Nat.strongRecOn with
  | _ n IH =>
    intro S l1 hmu hI  hi0 hi1 hi2 hi3 hi4 hi5 hi6 hi7 hi8 hi9 hi10
    refine g_127_64_sn_30 l1 (by omega) (by omega) (zG_T hI) ?_
    have f1 := zG_a hI 4 (-1) (1500) (c := 66) (k := 0) (by decide) (by decide)
    have f2 := zG_a hI 4 (-1) (1500) (c := 66) (k := 1) (by decide) (by decide)
    have f3 := zG_a hI 4 (-1) (1500) (c := 66) (k := 2) (by decide) (by decide)
    have f4 := zG_a hI 4 (-1) (1500) (c := 66) (k := 3) (by decide) (by decide)
    refine sp_80_69_sq (ab := (aS 88 S)) (by omega) (by omega) (zA_dn_zS hI) (show aS 88 S = (aS 88 S) from by first | (exact rfl)) (fun S1 hL_S1 rp0_S1 rp1_S1 => zv_n ⟨zG_T hL_S1, ?_⟩)
    have hI_S1 := zA_up_zS hI hL_S1
    have rp0_S1 : xB S1 (mR S1 70) := by
      have z := rp0_S1
      (try rw [show mI S 65 = f 65 from funext (fun k => zG_z hI rfl)] at z)
      (try rw [show mI S 64 1 = f 64 1 from zG_z hI rfl] at z)
      exact z
    have rp1_S1 : aS 88 S1 = aFg (aS 88 S) := by
      have z := rp1_S1
      (try rw [show mI S 65 = f 65 from funext (fun k => zG_z hI rfl)] at z)
      (try rw [show mI S 64 1 = f 64 1 from zG_z hI rfl] at z)
      exact z
    have b5 := i_bd l1
    have li6 : (0 : Int32).toInt = 0 := rfl
    refine zd (fun h7 => ?_) (fun h7 => ?_)
    · skip
      have g8 := i_eq h7
      have hI9 : zA f (zrp r 79) C Z N (ma_put S1 64 11 (.inr (.inr (some 79)))) := zG_pres hI_S1 (by decide)
      have q10 : (mI S1 66 0).toInt = (mI S 66 0).toInt := zG_zi (f := mI S) hL_S1 rfl
      have f11 := zG_a hI_S1 4 (-1) (1500) (c := 66) (k := 0) (by decide) (by decide)
      refine sp_100_79_66_sh (ab := (aS 88 (ma_put S1 64 11 (.inr (.inr (some 79)))))) (by omega) (by omega) (zA_dn_zJ79 hI9) (show 0 ≤ (mI S1 66 0).toInt ∧ (mI S1 66 0).toInt ≤ 1500 from by omega) (show xB (ma_put S1 64 11 (.inr (.inr (some 79)))) (mR (ma_put S1 64 11 (.inr (.inr (some 79)))) 70) from by first | (exact xB_64 rp0_S1)) (show aS 88 (ma_put S1 64 11 (.inr (.inr (some 79)))) = (aS 88 (ma_put S1 64 11 (.inr (.inr (some 79))))) from by first | (exact rfl)) (fun S3 hL_S3 rp0_S3 rp1_S3 rp2_S3 => zv_n ⟨zG_T hL_S3, ?_⟩)
      have hI_S3 := zA_up_zJ79 hI9 hL_S3
      have rp0_S3 : xB S3 (mR S3 70) := by
        have z := rp0_S3
        (try rw [show mI (ma_put S1 64 11 (.inr (.inr (some 79)))) 65 = f 65 from funext (fun k => zG_z hI9 rfl)] at z)
        (try rw [show mI (ma_put S1 64 11 (.inr (.inr (some 79)))) 64 1 = f 64 1 from zG_z hI9 rfl] at z)
        exact z
      have rp1_S3 : aS 88 S3 = (aS 88 (ma_put S1 64 11 (.inr (.inr (some 79))))) := by
        have z := rp1_S3
        (try rw [show mI (ma_put S1 64 11 (.inr (.inr (some 79)))) 65 = f 65 from funext (fun k => zG_z hI9 rfl)] at z)
        (try rw [show mI (ma_put S1 64 11 (.inr (.inr (some 79)))) 64 1 = f 64 1 from zG_z hI9 rfl] at z)
        exact z
      have rp2_S3 : zfP 79 (mI S3) 0 = (mI (ma_put S1 64 11 (.inr (.inr (some 79)))) 66) 0 ∧ zfP 79 (mI S3) 1 = (mI (ma_put S1 64 11 (.inr (.inr (some 79)))) 66) 1 ∧ zfP 79 (mI S3) 2 = 0 := by
        have z := rp2_S3
        (try rw [show mI (ma_put S1 64 11 (.inr (.inr (some 79)))) 65 = f 65 from funext (fun k => zG_z hI9 rfl)] at z)
        (try rw [show mI (ma_put S1 64 11 (.inr (.inr (some 79)))) 64 1 = f 64 1 from zG_z hI9 rfl] at z)
        exact z
      refine ⟨((zG_r hI_S3 (by decide)).trans rfl), ?_⟩
      refine sp_101_79_sh  (by omega) (by omega) (zA_dn_zJ79 hI_S3)  (fun v6 S5 eS_S5 hp_v6 => zi_n ⟨(by rw [eS_S5]; exact zG_T hI_S3), ?_⟩)
      replace eS_S5 := eS_S5.symm; subst eS_S5
      have b12 := i_bd v6
      have f13 := zG_s hI (0) (100) (c := 64) (k := 1) (by decide)
      have q14 : (mI S1 64 1).toInt = (mI S 64 1).toInt := zG_zi (f := mI S) hL_S1 rfl
      have f15 := zG_s hI_S1 (0) (100) (c := 64) (k := 1) (by decide)
      have q16 : (mI S3 64 1).toInt = (mI S1 64 1).toInt := zG_zi (f := mI (ma_put S1 64 11 (.inr (.inr (some 79))))) hL_S3 rfl
      have f17 := zG_s hI_S3 (0) (100) (c := 64) (k := 1) (by decide)
      have f18 := zG_s hI (0) (1500) (c := 80) (k := 2) (by decide)
      have q19 : (mI S1 80 2).toInt = (mI S 80 2).toInt := zG_zi (f := mI S) hL_S1 rfl
      have f20 := zG_s hI_S1 (0) (1500) (c := 80) (k := 2) (by decide)
      have q21 : (mI S3 80 2).toInt = (mI S1 80 2).toInt := zG_zi (f := mI (ma_put S1 64 11 (.inr (.inr (some 79))))) hL_S3 rfl
      have f22 := zG_s hI_S3 (0) (1500) (c := 80) (k := 2) (by decide)
      have f23 := zG_s hI (0) (400000) (c := 80) (k := 3) (by decide)
      have q24 : (mI S1 80 3).toInt = (mI S 80 3).toInt := zG_zi (f := mI S) hL_S1 rfl
      have f25 := zG_s hI_S1 (0) (400000) (c := 80) (k := 3) (by decide)
      have q26 : (mI S3 80 3).toInt = (mI S1 80 3).toInt := zG_zi (f := mI (ma_put S1 64 11 (.inr (.inr (some 79))))) hL_S3 rfl
      have f27 := zG_s hI_S3 (0) (400000) (c := 80) (k := 3) (by decide)
      have x28 : (0 ≤ (mI S 81 3).toInt ∧ (mI S 81 3).toInt ≤ (mI S 81 2).toInt) ∧ ((mI S 82 3).toInt ≤ (mI S 82 7).toInt ∧ (mI S 82 7).toInt ≤ (mI S 82 3).toInt + (mI S 82 2).toInt) := zG_x hI
      have f29 := zG_s hI (0) (1500) (c := 81) (k := 2) (by decide)
      have q30 : (mI S1 81 2).toInt = (mI S 81 2).toInt := zG_zi (f := mI S) hL_S1 rfl
      have x31 : (0 ≤ (mI S1 81 3).toInt ∧ (mI S1 81 3).toInt ≤ (mI S1 81 2).toInt) ∧ ((mI S1 82 3).toInt ≤ (mI S1 82 7).toInt ∧ (mI S1 82 7).toInt ≤ (mI S1 82 3).toInt + (mI S1 82 2).toInt) := zG_x hI_S1
      have f32 := zG_s hI_S1 (0) (1500) (c := 81) (k := 2) (by decide)
      have q33 : (mI S3 81 2).toInt = (mI S1 81 2).toInt := zG_zi (f := mI (ma_put S1 64 11 (.inr (.inr (some 79))))) hL_S3 rfl
      have x34 : (0 ≤ (mI S3 81 3).toInt ∧ (mI S3 81 3).toInt ≤ (mI S3 81 2).toInt) ∧ ((mI S3 82 3).toInt ≤ (mI S3 82 7).toInt ∧ (mI S3 82 7).toInt ≤ (mI S3 82 3).toInt + (mI S3 82 2).toInt) := zG_x hI_S3
      have f35 := zG_s hI_S3 (0) (1500) (c := 81) (k := 2) (by decide)
      have f36 := zG_s hI (0) (1500) (c := 81) (k := 3) (by decide)
      have q37 : (mI S1 81 3).toInt = (mI S 81 3).toInt := zG_zi (f := mI S) hL_S1 rfl
      have f38 := zG_s hI_S1 (0) (1500) (c := 81) (k := 3) (by decide)
      have q39 : (mI S3 81 3).toInt = (mI S1 81 3).toInt := zG_zi (f := mI (ma_put S1 64 11 (.inr (.inr (some 79))))) hL_S3 rfl
      have f40 := zG_s hI_S3 (0) (1500) (c := 81) (k := 3) (by decide)
      have f41 := zG_s hI (0) (400000) (c := 81) (k := 4) (by decide)
      have q42 : (mI S1 81 4).toInt = (mI S 81 4).toInt := zG_zi (f := mI S) hL_S1 rfl
      have f43 := zG_s hI_S1 (0) (400000) (c := 81) (k := 4) (by decide)
      have q44 : (mI S3 81 4).toInt = (mI S1 81 4).toInt := zG_zi (f := mI (ma_put S1 64 11 (.inr (.inr (some 79))))) hL_S3 rfl
      have f45 := zG_s hI_S3 (0) (400000) (c := 81) (k := 4) (by decide)
      have f46 := zG_s hI (0) (1500) (c := 82) (k := 2) (by decide)
      have q47 : (mI S1 82 2).toInt = (mI S 82 2).toInt := zG_zi (f := mI S) hL_S1 rfl
      have f48 := zG_s hI_S1 (0) (1500) (c := 82) (k := 2) (by decide)
      have q49 : (mI S3 82 2).toInt = (mI S1 82 2).toInt := zG_zi (f := mI (ma_put S1 64 11 (.inr (.inr (some 79))))) hL_S3 rfl
      have f50 := zG_s hI_S3 (0) (1500) (c := 82) (k := 2) (by decide)
      have f51 := zG_s hI (0) (1500) (c := 82) (k := 3) (by decide)
      have q52 : (mI S1 82 3).toInt = (mI S 82 3).toInt := zG_zi (f := mI S) hL_S1 rfl
      have f53 := zG_s hI_S1 (0) (1500) (c := 82) (k := 3) (by decide)
      have q54 : (mI S3 82 3).toInt = (mI S1 82 3).toInt := zG_zi (f := mI (ma_put S1 64 11 (.inr (.inr (some 79))))) hL_S3 rfl
      have f55 := zG_s hI_S3 (0) (1500) (c := 82) (k := 3) (by decide)
      have b56 := i_bd (mI S 82 4)
      have q57 : (mI S1 82 4).toInt = (mI S 82 4).toInt := zG_zi (f := mI S) hL_S1 rfl
      have b58 := i_bd (mI S1 82 4)
      have q59 : (mI S3 82 4).toInt = (mI S1 82 4).toInt := zG_zi (f := mI (ma_put S1 64 11 (.inr (.inr (some 79))))) hL_S3 rfl
      have b60 := i_bd (mI S3 82 4)
      have b61 := i_bd (mI S 82 5)
      have q62 : (mI S1 82 5).toInt = (mI S 82 5).toInt := zG_zi (f := mI S) hL_S1 rfl
      have b63 := i_bd (mI S1 82 5)
      have q64 : (mI S3 82 5).toInt = (mI S1 82 5).toInt := zG_zi (f := mI (ma_put S1 64 11 (.inr (.inr (some 79))))) hL_S3 rfl
      have b65 := i_bd (mI S3 82 5)
      have f66 := zG_s hI (0) (400000) (c := 82) (k := 6) (by decide)
      have q67 : (mI S1 82 6).toInt = (mI S 82 6).toInt := zG_zi (f := mI S) hL_S1 rfl
      have f68 := zG_s hI_S1 (0) (400000) (c := 82) (k := 6) (by decide)
      have q69 : (mI S3 82 6).toInt = (mI S1 82 6).toInt := zG_zi (f := mI (ma_put S1 64 11 (.inr (.inr (some 79))))) hL_S3 rfl
      have f70 := zG_s hI_S3 (0) (400000) (c := 82) (k := 6) (by decide)
      have f71 := zG_s hI (0) (3000) (c := 82) (k := 7) (by decide)
      have q72 : (mI S1 82 7).toInt = (mI S 82 7).toInt := zG_zi (f := mI S) hL_S1 rfl
      have f73 := zG_s hI_S1 (0) (3000) (c := 82) (k := 7) (by decide)
      have q74 : (mI S3 82 7).toInt = (mI S1 82 7).toInt := zG_zi (f := mI (ma_put S1 64 11 (.inr (.inr (some 79))))) hL_S3 rfl
      have f75 := zG_s hI_S3 (0) (3000) (c := 82) (k := 7) (by decide)
      have f76 := zG_s hI (0) (400000) (c := 82) (k := 8) (by decide)
      have q77 : (mI S1 82 8).toInt = (mI S 82 8).toInt := zG_zi (f := mI S) hL_S1 rfl
      have f78 := zG_s hI_S1 (0) (400000) (c := 82) (k := 8) (by decide)
      have q79 : (mI S3 82 8).toInt = (mI S1 82 8).toInt := zG_zi (f := mI (ma_put S1 64 11 (.inr (.inr (some 79))))) hL_S3 rfl
      have f80 := zG_s hI_S3 (0) (400000) (c := 82) (k := 8) (by decide)
      have f81 := zG_s hI (0) (1500) (c := 91) (k := 2) (by decide)
      have q82 : (mI S1 91 2).toInt = (mI S 91 2).toInt := zG_zi (f := mI S) hL_S1 rfl
      have f83 := zG_s hI_S1 (0) (1500) (c := 91) (k := 2) (by decide)
      have q84 : (mI S3 91 2).toInt = (mI S1 91 2).toInt := zG_zi (f := mI (ma_put S1 64 11 (.inr (.inr (some 79))))) hL_S3 rfl
      have f85 := zG_s hI_S3 (0) (1500) (c := 91) (k := 2) (by decide)
      have f86 := zG_s hI (0) (93) (c := 91) (k := 3) (by decide)
      have q87 : (mI S1 91 3).toInt = (mI S 91 3).toInt := zG_zi (f := mI S) hL_S1 rfl
      have f88 := zG_s hI_S1 (0) (93) (c := 91) (k := 3) (by decide)
      have q89 : (mI S3 91 3).toInt = (mI S1 91 3).toInt := zG_zi (f := mI (ma_put S1 64 11 (.inr (.inr (some 79))))) hL_S3 rfl
      have f90 := zG_s hI_S3 (0) (93) (c := 91) (k := 3) (by decide)
      have b91 := i_bd (mI S 91 4)
      have q92 : (mI S1 91 4).toInt = (mI S 91 4).toInt := zG_zi (f := mI S) hL_S1 rfl
      have b93 := i_bd (mI S1 91 4)
      have q94 : (mI S3 91 4).toInt = (mI S1 91 4).toInt := zG_zi (f := mI (ma_put S1 64 11 (.inr (.inr (some 79))))) hL_S3 rfl
      have b95 := i_bd (mI S3 91 4)
      have f96 := zG_s hI (0) (92) (c := 91) (k := 5) (by decide)
      have q97 : (mI S1 91 5).toInt = (mI S 91 5).toInt := zG_zi (f := mI S) hL_S1 rfl
      have f98 := zG_s hI_S1 (0) (92) (c := 91) (k := 5) (by decide)
      have q99 : (mI S3 91 5).toInt = (mI S1 91 5).toInt := zG_zi (f := mI (ma_put S1 64 11 (.inr (.inr (some 79))))) hL_S3 rfl
      have f100 := zG_s hI_S3 (0) (92) (c := 91) (k := 5) (by decide)
      exact K (v6) _ (zrp r 79) (Or.inr ⟨79, by decide, rfl⟩) hI_S3 (show (mI S3 64 1).toInt = 0 from by omega) (show (zAns zt zn < 0 ∧ (zrp r 79) 64 11 = r 64 11 ∧ zFm J0 JL JR S3) ∨ (0 ≤ zAns zt zn ∧ ((qPo zt zn = 0 ∧ (zrp r 79) 64 11 = some 79 ∧ xB S3 (mR S3 70) ∧ aS 88 S3 = aFg a8 ∧ zfP 79 (mI S3) 2 = 0 ∧ (zfP 79 (mI S3) 0).toInt = zVal zt zn 0 1 ∧ (zfP 79 (mI S3) 1).toInt = zVal zt zn 6 2) ∨ (qPo zt zn = 4 ∧ (zrp r 79) 64 11 = some 84 ∧ xB S3 (mR S3 70) ∧ aS 88 S3 = aFg a8 ∧ zfP 84 (mI S3) 2 = 0 ∧ (zfP 84 (mI S3) 0).toInt = zVal zt zn 0 1 ∧ (zfP 84 (mI S3) 1).toInt = zVal zt zn 6 2) ∨ (qPo zt zn = 5 ∧ (zrp r 79) 64 11 = some 87 ∧ xB S3 (mR S3 70) ∧ ∃ t : Nat → Int32, aS 88 S3 = aO2 (aFg a8) t ∧ (t 0).toInt = zVal zt zn 0 1 ∧ (t 1).toInt = zVal zt zn 6 2 ∧ (t 2).toInt = zVal zt zn 3 3 ∧ (t 3).toInt = zVal zt zn 7 4) ∨ (qPo zt zn = 1 ∧ (zrp r 79) 64 11 = some 80 ∧ xB S3 (mR S3 70) ∧ aS 88 S3 = aFg a8 ∧ ((mI S3 80 2)).toInt = zVal zt zn 0 1 ∧ (mI S3 80 3) = 0) ∨ (qPo zt zn = 2 ∧ (zrp r 79) 64 11 = some 81 ∧ xB S3 (mR S3 70) ∧ aS 88 S3 = aFg a8 ∧ ((mI S3 81 2)).toInt = zVal zt zn 0 1 ∧ (mI S3 81 3) = 0 ∧ (mI S3 81 4) = 0) ∨ (qPo zt zn = 3 ∧ (zrp r 79) 64 11 = some 82 ∧ xB S3 (mR S3 70) ∧ aS 88 S3 = aFg a8 ∧ ((mI S3 82 2)).toInt = zVal zt zn 0 1 ∧ ((mI S3 82 3)).toInt = zVal zt zn 0 2 ∧ ((mI S3 82 4)).toInt = zVal zt zn 1 3 ∧ ((mI S3 82 5)).toInt = zVal zt zn 2 4 ∧ (mI S3 82 6) = 0 ∧ ((mI S3 82 7)).toInt = zVal zt zn 0 2 ∧ ((mI S3 82 8)).toInt = zVal zt zn 0 2 ∧ ∀ k : Nat, k < 375 → (mI S3 83) k = 0) ∨ (qPo zt zn = 6 ∧ (zrp r 79) 64 11 = some 91 ∧ xB S3 (mR S3 70) ∧ aS 88 S3 = aFg a8 ∧ ((mI S3 91 2)).toInt = zV4 zt zn ∧ ((mI S3 91 3)).toInt = zVal zt zn 0 1 / zV4 zt zn ∧ ((mI S3 91 4)).toInt = zVal zt zn 5 3 ∧ (mI S3 91 5) = 0 ∧ ∀ k : Nat, k < 93 → (mI S3 92) k = 0))) from by first | (have hk := hi6 (by omega); have o := rp2_S3; exact Or.inr ⟨hi5.1, Or.inl (⟨by have h := hi5.2.1; omega, rfl, rp0_S3, rp1_S3.trans (by rw [aS_64, rp1_S1, hi4]), o.2.2, (by rw [o.1.trans (congrFun (show mI S1 66 = mI S 66 from funext (fun _ => zG_z hL_S1 rfl)) 0)]; exact hk.1), (by rw [o.2.1.trans (congrFun (show mI S1 66 = mI S 66 from funext (fun _ => zG_z hL_S1 rfl)) 1)]; exact hk.2)⟩)⟩)) (show (mI S3 67) = k67 ∧ (mI S3 68) = k68 from by first | (exact ⟨((show mI S3 67 = mI (ma_put S1 64 11 (.inr (.inr (some 79)))) 67 from funext (fun _ => zG_z hL_S3 rfl)).trans ((show mI S1 67 = mI S 67 from funext (fun _ => zG_z hL_S1 rfl)).trans hi10.1)), ((show mI S3 68 = mI (ma_put S1 64 11 (.inr (.inr (some 79)))) 68 from funext (fun _ => zG_z hL_S3 rfl)).trans ((show mI S1 68 = mI S 68 from funext (fun _ => zG_z hL_S1 rfl)).trans hi10.2))⟩))
    · skip
      have g101 := i_ne h7
      have li102 : (1 : Int32).toInt = 1 := rfl
      refine zd (fun h103 => ?_) (fun h103 => ?_)
      · skip
        have g104 := i_eq h103
        have hI105 : zA f (zrp r 80) C Z N (ma_put S1 64 11 (.inr (.inr (some 80)))) := zG_pres hI_S1 (by decide)
        have q106 : (mI S1 66 0).toInt = (mI S 66 0).toInt := zG_zi (f := mI S) hL_S1 rfl
        have f107 := zG_a hI_S1 4 (-1) (1500) (c := 66) (k := 0) (by decide) (by decide)
        refine sp_59_80_66_sn (ab := (aS 88 (ma_put S1 64 11 (.inr (.inr (some 80)))))) (by omega) (by omega) (zA_dn_zJ80 hI105) (show 0 ≤ (mI S1 66 0).toInt ∧ (mI S1 66 0).toInt ≤ 1500 from by omega) (show xB (ma_put S1 64 11 (.inr (.inr (some 80)))) (mR (ma_put S1 64 11 (.inr (.inr (some 80)))) 70) from by first | (exact xB_64 rp0_S1)) (show aS 88 (ma_put S1 64 11 (.inr (.inr (some 80)))) = (aS 88 (ma_put S1 64 11 (.inr (.inr (some 80))))) from by first | (exact rfl)) (fun S7 hL_S7 rp0_S7 rp1_S7 rp2_S7 => zv_n ⟨zG_T hL_S7, ?_⟩)
        have hI_S7 := zA_up_zJ80 hI105 hL_S7
        have rp0_S7 : xB S7 (mR S7 70) := by
          have z := rp0_S7
          (try rw [show mI (ma_put S1 64 11 (.inr (.inr (some 80)))) 65 = f 65 from funext (fun k => zG_z hI105 rfl)] at z)
          (try rw [show mI (ma_put S1 64 11 (.inr (.inr (some 80)))) 64 1 = f 64 1 from zG_z hI105 rfl] at z)
          exact z
        have rp1_S7 : aS 88 S7 = (aS 88 (ma_put S1 64 11 (.inr (.inr (some 80))))) := by
          have z := rp1_S7
          (try rw [show mI (ma_put S1 64 11 (.inr (.inr (some 80)))) 65 = f 65 from funext (fun k => zG_z hI105 rfl)] at z)
          (try rw [show mI (ma_put S1 64 11 (.inr (.inr (some 80)))) 64 1 = f 64 1 from zG_z hI105 rfl] at z)
          exact z
        have f108 := zG_s hI_S7 (0) (1500) (c := 80) (k := 2) (by decide)
        have f109 := zG_s hI_S7 (0) (400000) (c := 80) (k := 3) (by decide)
        have rp2_S7 : (mI S7 80 2) = (mI (ma_put S1 64 11 (.inr (.inr (some 80)))) 66) 0 ∧ (mI S7 80 3) = 0 := by
          have z := rp2_S7
          (try rw [show mI (ma_put S1 64 11 (.inr (.inr (some 80)))) 65 = f 65 from funext (fun k => zG_z hI105 rfl)] at z)
          (try rw [show mI (ma_put S1 64 11 (.inr (.inr (some 80)))) 64 1 = f 64 1 from zG_z hI105 rfl] at z)
          exact z
        refine ⟨((zG_r hI_S7 (by decide)).trans rfl), ?_⟩
        refine sp_60_80_sn  (by omega) (by omega) (zA_dn_zJ80 hI_S7)  (fun v10 S9 eS_S9 hp_v10 => zi_n ⟨(by rw [eS_S9]; exact zG_T hI_S7), ?_⟩)
        replace eS_S9 := eS_S9.symm; subst eS_S9
        have b110 := i_bd v10
        have f111 := zG_s hI (0) (100) (c := 64) (k := 1) (by decide)
        have q112 : (mI S1 64 1).toInt = (mI S 64 1).toInt := zG_zi (f := mI S) hL_S1 rfl
        have f113 := zG_s hI_S1 (0) (100) (c := 64) (k := 1) (by decide)
        have q114 : (mI S7 64 1).toInt = (mI S1 64 1).toInt := zG_zi (f := mI (ma_put S1 64 11 (.inr (.inr (some 80))))) hL_S7 rfl
        have f115 := zG_s hI_S7 (0) (100) (c := 64) (k := 1) (by decide)
        have x116 : (0 ≤ (mI S 81 3).toInt ∧ (mI S 81 3).toInt ≤ (mI S 81 2).toInt) ∧ ((mI S 82 3).toInt ≤ (mI S 82 7).toInt ∧ (mI S 82 7).toInt ≤ (mI S 82 3).toInt + (mI S 82 2).toInt) := zG_x hI
        have f117 := zG_s hI (0) (1500) (c := 81) (k := 2) (by decide)
        have q118 : (mI S1 81 2).toInt = (mI S 81 2).toInt := zG_zi (f := mI S) hL_S1 rfl
        have x119 : (0 ≤ (mI S1 81 3).toInt ∧ (mI S1 81 3).toInt ≤ (mI S1 81 2).toInt) ∧ ((mI S1 82 3).toInt ≤ (mI S1 82 7).toInt ∧ (mI S1 82 7).toInt ≤ (mI S1 82 3).toInt + (mI S1 82 2).toInt) := zG_x hI_S1
        have f120 := zG_s hI_S1 (0) (1500) (c := 81) (k := 2) (by decide)
        have q121 : (mI S7 81 2).toInt = (mI S1 81 2).toInt := zG_zi (f := mI (ma_put S1 64 11 (.inr (.inr (some 80))))) hL_S7 rfl
        have x122 : (0 ≤ (mI S7 81 3).toInt ∧ (mI S7 81 3).toInt ≤ (mI S7 81 2).toInt) ∧ ((mI S7 82 3).toInt ≤ (mI S7 82 7).toInt ∧ (mI S7 82 7).toInt ≤ (mI S7 82 3).toInt + (mI S7 82 2).toInt) := zG_x hI_S7
        have f123 := zG_s hI_S7 (0) (1500) (c := 81) (k := 2) (by decide)
        have f124 := zG_s hI (0) (1500) (c := 81) (k := 3) (by decide)
        have q125 : (mI S1 81 3).toInt = (mI S 81 3).toInt := zG_zi (f := mI S) hL_S1 rfl
        have f126 := zG_s hI_S1 (0) (1500) (c := 81) (k := 3) (by decide)
        have q127 : (mI S7 81 3).toInt = (mI S1 81 3).toInt := zG_zi (f := mI (ma_put S1 64 11 (.inr (.inr (some 80))))) hL_S7 rfl
        have f128 := zG_s hI_S7 (0) (1500) (c := 81) (k := 3) (by decide)
        have f129 := zG_s hI (0) (400000) (c := 81) (k := 4) (by decide)
        have q130 : (mI S1 81 4).toInt = (mI S 81 4).toInt := zG_zi (f := mI S) hL_S1 rfl
        have f131 := zG_s hI_S1 (0) (400000) (c := 81) (k := 4) (by decide)
        have q132 : (mI S7 81 4).toInt = (mI S1 81 4).toInt := zG_zi (f := mI (ma_put S1 64 11 (.inr (.inr (some 80))))) hL_S7 rfl
        have f133 := zG_s hI_S7 (0) (400000) (c := 81) (k := 4) (by decide)
        have f134 := zG_s hI (0) (1500) (c := 82) (k := 2) (by decide)
        have q135 : (mI S1 82 2).toInt = (mI S 82 2).toInt := zG_zi (f := mI S) hL_S1 rfl
        have f136 := zG_s hI_S1 (0) (1500) (c := 82) (k := 2) (by decide)
        have q137 : (mI S7 82 2).toInt = (mI S1 82 2).toInt := zG_zi (f := mI (ma_put S1 64 11 (.inr (.inr (some 80))))) hL_S7 rfl
        have f138 := zG_s hI_S7 (0) (1500) (c := 82) (k := 2) (by decide)
        have f139 := zG_s hI (0) (1500) (c := 82) (k := 3) (by decide)
        have q140 : (mI S1 82 3).toInt = (mI S 82 3).toInt := zG_zi (f := mI S) hL_S1 rfl
        have f141 := zG_s hI_S1 (0) (1500) (c := 82) (k := 3) (by decide)
        have q142 : (mI S7 82 3).toInt = (mI S1 82 3).toInt := zG_zi (f := mI (ma_put S1 64 11 (.inr (.inr (some 80))))) hL_S7 rfl
        have f143 := zG_s hI_S7 (0) (1500) (c := 82) (k := 3) (by decide)
        have b144 := i_bd (mI S 82 4)
        have q145 : (mI S1 82 4).toInt = (mI S 82 4).toInt := zG_zi (f := mI S) hL_S1 rfl
        have b146 := i_bd (mI S1 82 4)
        have q147 : (mI S7 82 4).toInt = (mI S1 82 4).toInt := zG_zi (f := mI (ma_put S1 64 11 (.inr (.inr (some 80))))) hL_S7 rfl
        have b148 := i_bd (mI S7 82 4)
        have b149 := i_bd (mI S 82 5)
        have q150 : (mI S1 82 5).toInt = (mI S 82 5).toInt := zG_zi (f := mI S) hL_S1 rfl
        have b151 := i_bd (mI S1 82 5)
        have q152 : (mI S7 82 5).toInt = (mI S1 82 5).toInt := zG_zi (f := mI (ma_put S1 64 11 (.inr (.inr (some 80))))) hL_S7 rfl
        have b153 := i_bd (mI S7 82 5)
        have f154 := zG_s hI (0) (400000) (c := 82) (k := 6) (by decide)
        have q155 : (mI S1 82 6).toInt = (mI S 82 6).toInt := zG_zi (f := mI S) hL_S1 rfl
        have f156 := zG_s hI_S1 (0) (400000) (c := 82) (k := 6) (by decide)
        have q157 : (mI S7 82 6).toInt = (mI S1 82 6).toInt := zG_zi (f := mI (ma_put S1 64 11 (.inr (.inr (some 80))))) hL_S7 rfl
        have f158 := zG_s hI_S7 (0) (400000) (c := 82) (k := 6) (by decide)
        have f159 := zG_s hI (0) (3000) (c := 82) (k := 7) (by decide)
        have q160 : (mI S1 82 7).toInt = (mI S 82 7).toInt := zG_zi (f := mI S) hL_S1 rfl
        have f161 := zG_s hI_S1 (0) (3000) (c := 82) (k := 7) (by decide)
        have q162 : (mI S7 82 7).toInt = (mI S1 82 7).toInt := zG_zi (f := mI (ma_put S1 64 11 (.inr (.inr (some 80))))) hL_S7 rfl
        have f163 := zG_s hI_S7 (0) (3000) (c := 82) (k := 7) (by decide)
        have f164 := zG_s hI (0) (400000) (c := 82) (k := 8) (by decide)
        have q165 : (mI S1 82 8).toInt = (mI S 82 8).toInt := zG_zi (f := mI S) hL_S1 rfl
        have f166 := zG_s hI_S1 (0) (400000) (c := 82) (k := 8) (by decide)
        have q167 : (mI S7 82 8).toInt = (mI S1 82 8).toInt := zG_zi (f := mI (ma_put S1 64 11 (.inr (.inr (some 80))))) hL_S7 rfl
        have f168 := zG_s hI_S7 (0) (400000) (c := 82) (k := 8) (by decide)
        have f169 := zG_s hI (0) (1500) (c := 91) (k := 2) (by decide)
        have q170 : (mI S1 91 2).toInt = (mI S 91 2).toInt := zG_zi (f := mI S) hL_S1 rfl
        have f171 := zG_s hI_S1 (0) (1500) (c := 91) (k := 2) (by decide)
        have q172 : (mI S7 91 2).toInt = (mI S1 91 2).toInt := zG_zi (f := mI (ma_put S1 64 11 (.inr (.inr (some 80))))) hL_S7 rfl
        have f173 := zG_s hI_S7 (0) (1500) (c := 91) (k := 2) (by decide)
        have f174 := zG_s hI (0) (93) (c := 91) (k := 3) (by decide)
        have q175 : (mI S1 91 3).toInt = (mI S 91 3).toInt := zG_zi (f := mI S) hL_S1 rfl
        have f176 := zG_s hI_S1 (0) (93) (c := 91) (k := 3) (by decide)
        have q177 : (mI S7 91 3).toInt = (mI S1 91 3).toInt := zG_zi (f := mI (ma_put S1 64 11 (.inr (.inr (some 80))))) hL_S7 rfl
        have f178 := zG_s hI_S7 (0) (93) (c := 91) (k := 3) (by decide)
        have b179 := i_bd (mI S 91 4)
        have q180 : (mI S1 91 4).toInt = (mI S 91 4).toInt := zG_zi (f := mI S) hL_S1 rfl
        have b181 := i_bd (mI S1 91 4)
        have q182 : (mI S7 91 4).toInt = (mI S1 91 4).toInt := zG_zi (f := mI (ma_put S1 64 11 (.inr (.inr (some 80))))) hL_S7 rfl
        have b183 := i_bd (mI S7 91 4)
        have f184 := zG_s hI (0) (92) (c := 91) (k := 5) (by decide)
        have q185 : (mI S1 91 5).toInt = (mI S 91 5).toInt := zG_zi (f := mI S) hL_S1 rfl
        have f186 := zG_s hI_S1 (0) (92) (c := 91) (k := 5) (by decide)
        have q187 : (mI S7 91 5).toInt = (mI S1 91 5).toInt := zG_zi (f := mI (ma_put S1 64 11 (.inr (.inr (some 80))))) hL_S7 rfl
        have f188 := zG_s hI_S7 (0) (92) (c := 91) (k := 5) (by decide)
        exact K (v10) _ (zrp r 80) (Or.inr ⟨80, by decide, rfl⟩) hI_S7 (show (mI S7 64 1).toInt = 0 from by omega) (show (zAns zt zn < 0 ∧ (zrp r 80) 64 11 = r 64 11 ∧ zFm J0 JL JR S7) ∨ (0 ≤ zAns zt zn ∧ ((qPo zt zn = 0 ∧ (zrp r 80) 64 11 = some 79 ∧ xB S7 (mR S7 70) ∧ aS 88 S7 = aFg a8 ∧ zfP 79 (mI S7) 2 = 0 ∧ (zfP 79 (mI S7) 0).toInt = zVal zt zn 0 1 ∧ (zfP 79 (mI S7) 1).toInt = zVal zt zn 6 2) ∨ (qPo zt zn = 4 ∧ (zrp r 80) 64 11 = some 84 ∧ xB S7 (mR S7 70) ∧ aS 88 S7 = aFg a8 ∧ zfP 84 (mI S7) 2 = 0 ∧ (zfP 84 (mI S7) 0).toInt = zVal zt zn 0 1 ∧ (zfP 84 (mI S7) 1).toInt = zVal zt zn 6 2) ∨ (qPo zt zn = 5 ∧ (zrp r 80) 64 11 = some 87 ∧ xB S7 (mR S7 70) ∧ ∃ t : Nat → Int32, aS 88 S7 = aO2 (aFg a8) t ∧ (t 0).toInt = zVal zt zn 0 1 ∧ (t 1).toInt = zVal zt zn 6 2 ∧ (t 2).toInt = zVal zt zn 3 3 ∧ (t 3).toInt = zVal zt zn 7 4) ∨ (qPo zt zn = 1 ∧ (zrp r 80) 64 11 = some 80 ∧ xB S7 (mR S7 70) ∧ aS 88 S7 = aFg a8 ∧ ((mI S7 80 2)).toInt = zVal zt zn 0 1 ∧ (mI S7 80 3) = 0) ∨ (qPo zt zn = 2 ∧ (zrp r 80) 64 11 = some 81 ∧ xB S7 (mR S7 70) ∧ aS 88 S7 = aFg a8 ∧ ((mI S7 81 2)).toInt = zVal zt zn 0 1 ∧ (mI S7 81 3) = 0 ∧ (mI S7 81 4) = 0) ∨ (qPo zt zn = 3 ∧ (zrp r 80) 64 11 = some 82 ∧ xB S7 (mR S7 70) ∧ aS 88 S7 = aFg a8 ∧ ((mI S7 82 2)).toInt = zVal zt zn 0 1 ∧ ((mI S7 82 3)).toInt = zVal zt zn 0 2 ∧ ((mI S7 82 4)).toInt = zVal zt zn 1 3 ∧ ((mI S7 82 5)).toInt = zVal zt zn 2 4 ∧ (mI S7 82 6) = 0 ∧ ((mI S7 82 7)).toInt = zVal zt zn 0 2 ∧ ((mI S7 82 8)).toInt = zVal zt zn 0 2 ∧ ∀ k : Nat, k < 375 → (mI S7 83) k = 0) ∨ (qPo zt zn = 6 ∧ (zrp r 80) 64 11 = some 91 ∧ xB S7 (mR S7 70) ∧ aS 88 S7 = aFg a8 ∧ ((mI S7 91 2)).toInt = zV4 zt zn ∧ ((mI S7 91 3)).toInt = zVal zt zn 0 1 / zV4 zt zn ∧ ((mI S7 91 4)).toInt = zVal zt zn 5 3 ∧ (mI S7 91 5) = 0 ∧ ∀ k : Nat, k < 93 → (mI S7 92) k = 0))) from by first | (have hk := hi7 (by omega); have o := rp2_S7; exact Or.inr ⟨hi5.1, Or.inr (Or.inr (Or.inr (Or.inl (⟨by have h := hi5.2.1; omega, rfl, rp0_S7, rp1_S7.trans (by rw [aS_64, rp1_S1, hi4]), (by rw [(o.1).trans (congrFun (show mI S1 66 = mI S 66 from funext (fun _ => zG_z hL_S1 rfl)) 0)]; exact hk), o.2⟩))))⟩)) (show (mI S7 67) = k67 ∧ (mI S7 68) = k68 from by first | (exact ⟨((show mI S7 67 = mI (ma_put S1 64 11 (.inr (.inr (some 80)))) 67 from funext (fun _ => zG_z hL_S7 rfl)).trans ((show mI S1 67 = mI S 67 from funext (fun _ => zG_z hL_S1 rfl)).trans hi10.1)), ((show mI S7 68 = mI (ma_put S1 64 11 (.inr (.inr (some 80)))) 68 from funext (fun _ => zG_z hL_S7 rfl)).trans ((show mI S1 68 = mI S 68 from funext (fun _ => zG_z hL_S1 rfl)).trans hi10.2))⟩))
      · skip
        have g189 := i_ne h103
        have li190 : (2 : Int32).toInt = 2 := rfl
        refine zd (fun h191 => ?_) (fun h191 => ?_)
        · skip
          have g192 := i_eq h191
          have hI193 : zA f (zrp r 81) C Z N (ma_put S1 64 11 (.inr (.inr (some 81)))) := zG_pres hI_S1 (by decide)
          have q194 : (mI S1 66 0).toInt = (mI S 66 0).toInt := zG_zi (f := mI S) hL_S1 rfl
          have f195 := zG_a hI_S1 4 (-1) (1500) (c := 66) (k := 0) (by decide) (by decide)
          refine sp_29_81_66_zK81_sn (ab := (aS 88 (ma_put S1 64 11 (.inr (.inr (some 81)))))) (by omega) (by omega) (zA_dn_zK81 hI193) (show 0 ≤ (mI S1 66 0).toInt ∧ (mI S1 66 0).toInt ≤ 1500 from by omega) (show xB (ma_put S1 64 11 (.inr (.inr (some 81)))) (mR (ma_put S1 64 11 (.inr (.inr (some 81)))) 70) from by first | (exact xB_64 rp0_S1)) (show aS 88 (ma_put S1 64 11 (.inr (.inr (some 81)))) = (aS 88 (ma_put S1 64 11 (.inr (.inr (some 81))))) from by first | (exact rfl)) (fun S11 hL_S11 hp_S11 rp0_S11 rp1_S11 rp2_S11 => zv_n ⟨zG_T hL_S11, ?_⟩)
          have hI_S11 := zA_up_zK81 hI193 hL_S11 hp_S11
          have rp0_S11 : xB S11 (mR S11 70) := by
            have z := rp0_S11
            (try rw [show mI (ma_put S1 64 11 (.inr (.inr (some 81)))) 65 = f 65 from funext (fun k => zG_z hI193 rfl)] at z)
            (try rw [show mI (ma_put S1 64 11 (.inr (.inr (some 81)))) 64 1 = f 64 1 from zG_z hI193 rfl] at z)
            exact z
          have rp1_S11 : aS 88 S11 = (aS 88 (ma_put S1 64 11 (.inr (.inr (some 81))))) := by
            have z := rp1_S11
            (try rw [show mI (ma_put S1 64 11 (.inr (.inr (some 81)))) 65 = f 65 from funext (fun k => zG_z hI193 rfl)] at z)
            (try rw [show mI (ma_put S1 64 11 (.inr (.inr (some 81)))) 64 1 = f 64 1 from zG_z hI193 rfl] at z)
            exact z
          have x196 : (0 ≤ (mI S11 81 3).toInt ∧ (mI S11 81 3).toInt ≤ (mI S11 81 2).toInt) ∧ ((mI S11 82 3).toInt ≤ (mI S11 82 7).toInt ∧ (mI S11 82 7).toInt ≤ (mI S11 82 3).toInt + (mI S11 82 2).toInt) := zG_x hI_S11
          have f197 := zG_s hI_S11 (0) (1500) (c := 81) (k := 2) (by decide)
          have f198 := zG_s hI_S11 (0) (1500) (c := 81) (k := 3) (by decide)
          have f199 := zG_s hI_S11 (0) (400000) (c := 81) (k := 4) (by decide)
          have rp2_S11 : (mI S11 81 2) = (mI (ma_put S1 64 11 (.inr (.inr (some 81)))) 66) 0 ∧ (mI S11 81 3) = 0 ∧ (mI S11 81 4) = 0 := by
            have z := rp2_S11
            (try rw [show mI (ma_put S1 64 11 (.inr (.inr (some 81)))) 65 = f 65 from funext (fun k => zG_z hI193 rfl)] at z)
            (try rw [show mI (ma_put S1 64 11 (.inr (.inr (some 81)))) 64 1 = f 64 1 from zG_z hI193 rfl] at z)
            exact z
          refine ⟨((zG_r hI_S11 (by decide)).trans rfl), ?_⟩
          refine sp_30_81_sn  (by omega) (by omega) (zA_dn_zJ81 hI_S11)  (fun v14 S13 eS_S13 hp_v14 => zi_n ⟨(by rw [eS_S13]; exact zG_T hI_S11), ?_⟩)
          replace eS_S13 := eS_S13.symm; subst eS_S13
          have b200 := i_bd v14
          have f201 := zG_s hI (0) (100) (c := 64) (k := 1) (by decide)
          have q202 : (mI S1 64 1).toInt = (mI S 64 1).toInt := zG_zi (f := mI S) hL_S1 rfl
          have f203 := zG_s hI_S1 (0) (100) (c := 64) (k := 1) (by decide)
          have q204 : (mI S11 64 1).toInt = (mI S1 64 1).toInt := zG_zi (f := mI (ma_put S1 64 11 (.inr (.inr (some 81))))) hL_S11 rfl
          have f205 := zG_s hI_S11 (0) (100) (c := 64) (k := 1) (by decide)
          have f206 := zG_s hI (0) (1500) (c := 80) (k := 2) (by decide)
          have q207 : (mI S1 80 2).toInt = (mI S 80 2).toInt := zG_zi (f := mI S) hL_S1 rfl
          have f208 := zG_s hI_S1 (0) (1500) (c := 80) (k := 2) (by decide)
          have q209 : (mI S11 80 2).toInt = (mI S1 80 2).toInt := zG_zi (f := mI (ma_put S1 64 11 (.inr (.inr (some 81))))) hL_S11 rfl
          have f210 := zG_s hI_S11 (0) (1500) (c := 80) (k := 2) (by decide)
          have f211 := zG_s hI (0) (400000) (c := 80) (k := 3) (by decide)
          have q212 : (mI S1 80 3).toInt = (mI S 80 3).toInt := zG_zi (f := mI S) hL_S1 rfl
          have f213 := zG_s hI_S1 (0) (400000) (c := 80) (k := 3) (by decide)
          have q214 : (mI S11 80 3).toInt = (mI S1 80 3).toInt := zG_zi (f := mI (ma_put S1 64 11 (.inr (.inr (some 81))))) hL_S11 rfl
          have f215 := zG_s hI_S11 (0) (400000) (c := 80) (k := 3) (by decide)
          have x216 : (0 ≤ (mI S 81 3).toInt ∧ (mI S 81 3).toInt ≤ (mI S 81 2).toInt) ∧ ((mI S 82 3).toInt ≤ (mI S 82 7).toInt ∧ (mI S 82 7).toInt ≤ (mI S 82 3).toInt + (mI S 82 2).toInt) := zG_x hI
          have f217 := zG_s hI (0) (1500) (c := 82) (k := 2) (by decide)
          have q218 : (mI S1 82 2).toInt = (mI S 82 2).toInt := zG_zi (f := mI S) hL_S1 rfl
          have x219 : (0 ≤ (mI S1 81 3).toInt ∧ (mI S1 81 3).toInt ≤ (mI S1 81 2).toInt) ∧ ((mI S1 82 3).toInt ≤ (mI S1 82 7).toInt ∧ (mI S1 82 7).toInt ≤ (mI S1 82 3).toInt + (mI S1 82 2).toInt) := zG_x hI_S1
          have f220 := zG_s hI_S1 (0) (1500) (c := 82) (k := 2) (by decide)
          have q221 : (mI S11 82 2).toInt = (mI S1 82 2).toInt := zG_zi (f := mI (ma_put S1 64 11 (.inr (.inr (some 81))))) hL_S11 rfl
          have f222 := zG_s hI_S11 (0) (1500) (c := 82) (k := 2) (by decide)
          have f223 := zG_s hI (0) (1500) (c := 82) (k := 3) (by decide)
          have q224 : (mI S1 82 3).toInt = (mI S 82 3).toInt := zG_zi (f := mI S) hL_S1 rfl
          have f225 := zG_s hI_S1 (0) (1500) (c := 82) (k := 3) (by decide)
          have q226 : (mI S11 82 3).toInt = (mI S1 82 3).toInt := zG_zi (f := mI (ma_put S1 64 11 (.inr (.inr (some 81))))) hL_S11 rfl
          have f227 := zG_s hI_S11 (0) (1500) (c := 82) (k := 3) (by decide)
          have b228 := i_bd (mI S 82 4)
          have q229 : (mI S1 82 4).toInt = (mI S 82 4).toInt := zG_zi (f := mI S) hL_S1 rfl
          have b230 := i_bd (mI S1 82 4)
          have q231 : (mI S11 82 4).toInt = (mI S1 82 4).toInt := zG_zi (f := mI (ma_put S1 64 11 (.inr (.inr (some 81))))) hL_S11 rfl
          have b232 := i_bd (mI S11 82 4)
          have b233 := i_bd (mI S 82 5)
          have q234 : (mI S1 82 5).toInt = (mI S 82 5).toInt := zG_zi (f := mI S) hL_S1 rfl
          have b235 := i_bd (mI S1 82 5)
          have q236 : (mI S11 82 5).toInt = (mI S1 82 5).toInt := zG_zi (f := mI (ma_put S1 64 11 (.inr (.inr (some 81))))) hL_S11 rfl
          have b237 := i_bd (mI S11 82 5)
          have f238 := zG_s hI (0) (400000) (c := 82) (k := 6) (by decide)
          have q239 : (mI S1 82 6).toInt = (mI S 82 6).toInt := zG_zi (f := mI S) hL_S1 rfl
          have f240 := zG_s hI_S1 (0) (400000) (c := 82) (k := 6) (by decide)
          have q241 : (mI S11 82 6).toInt = (mI S1 82 6).toInt := zG_zi (f := mI (ma_put S1 64 11 (.inr (.inr (some 81))))) hL_S11 rfl
          have f242 := zG_s hI_S11 (0) (400000) (c := 82) (k := 6) (by decide)
          have f243 := zG_s hI (0) (3000) (c := 82) (k := 7) (by decide)
          have q244 : (mI S1 82 7).toInt = (mI S 82 7).toInt := zG_zi (f := mI S) hL_S1 rfl
          have f245 := zG_s hI_S1 (0) (3000) (c := 82) (k := 7) (by decide)
          have q246 : (mI S11 82 7).toInt = (mI S1 82 7).toInt := zG_zi (f := mI (ma_put S1 64 11 (.inr (.inr (some 81))))) hL_S11 rfl
          have f247 := zG_s hI_S11 (0) (3000) (c := 82) (k := 7) (by decide)
          have f248 := zG_s hI (0) (400000) (c := 82) (k := 8) (by decide)
          have q249 : (mI S1 82 8).toInt = (mI S 82 8).toInt := zG_zi (f := mI S) hL_S1 rfl
          have f250 := zG_s hI_S1 (0) (400000) (c := 82) (k := 8) (by decide)
          have q251 : (mI S11 82 8).toInt = (mI S1 82 8).toInt := zG_zi (f := mI (ma_put S1 64 11 (.inr (.inr (some 81))))) hL_S11 rfl
          have f252 := zG_s hI_S11 (0) (400000) (c := 82) (k := 8) (by decide)
          have f253 := zG_s hI (0) (1500) (c := 91) (k := 2) (by decide)
          have q254 : (mI S1 91 2).toInt = (mI S 91 2).toInt := zG_zi (f := mI S) hL_S1 rfl
          have f255 := zG_s hI_S1 (0) (1500) (c := 91) (k := 2) (by decide)
          have q256 : (mI S11 91 2).toInt = (mI S1 91 2).toInt := zG_zi (f := mI (ma_put S1 64 11 (.inr (.inr (some 81))))) hL_S11 rfl
          have f257 := zG_s hI_S11 (0) (1500) (c := 91) (k := 2) (by decide)
          have f258 := zG_s hI (0) (93) (c := 91) (k := 3) (by decide)
          have q259 : (mI S1 91 3).toInt = (mI S 91 3).toInt := zG_zi (f := mI S) hL_S1 rfl
          have f260 := zG_s hI_S1 (0) (93) (c := 91) (k := 3) (by decide)
          have q261 : (mI S11 91 3).toInt = (mI S1 91 3).toInt := zG_zi (f := mI (ma_put S1 64 11 (.inr (.inr (some 81))))) hL_S11 rfl
          have f262 := zG_s hI_S11 (0) (93) (c := 91) (k := 3) (by decide)
          have b263 := i_bd (mI S 91 4)
          have q264 : (mI S1 91 4).toInt = (mI S 91 4).toInt := zG_zi (f := mI S) hL_S1 rfl
          have b265 := i_bd (mI S1 91 4)
          have q266 : (mI S11 91 4).toInt = (mI S1 91 4).toInt := zG_zi (f := mI (ma_put S1 64 11 (.inr (.inr (some 81))))) hL_S11 rfl
          have b267 := i_bd (mI S11 91 4)
          have f268 := zG_s hI (0) (92) (c := 91) (k := 5) (by decide)
          have q269 : (mI S1 91 5).toInt = (mI S 91 5).toInt := zG_zi (f := mI S) hL_S1 rfl
          have f270 := zG_s hI_S1 (0) (92) (c := 91) (k := 5) (by decide)
          have q271 : (mI S11 91 5).toInt = (mI S1 91 5).toInt := zG_zi (f := mI (ma_put S1 64 11 (.inr (.inr (some 81))))) hL_S11 rfl
          have f272 := zG_s hI_S11 (0) (92) (c := 91) (k := 5) (by decide)
          exact K (v14) _ (zrp r 81) (Or.inr ⟨81, by decide, rfl⟩) hI_S11 (show (mI S11 64 1).toInt = 0 from by omega) (show (zAns zt zn < 0 ∧ (zrp r 81) 64 11 = r 64 11 ∧ zFm J0 JL JR S11) ∨ (0 ≤ zAns zt zn ∧ ((qPo zt zn = 0 ∧ (zrp r 81) 64 11 = some 79 ∧ xB S11 (mR S11 70) ∧ aS 88 S11 = aFg a8 ∧ zfP 79 (mI S11) 2 = 0 ∧ (zfP 79 (mI S11) 0).toInt = zVal zt zn 0 1 ∧ (zfP 79 (mI S11) 1).toInt = zVal zt zn 6 2) ∨ (qPo zt zn = 4 ∧ (zrp r 81) 64 11 = some 84 ∧ xB S11 (mR S11 70) ∧ aS 88 S11 = aFg a8 ∧ zfP 84 (mI S11) 2 = 0 ∧ (zfP 84 (mI S11) 0).toInt = zVal zt zn 0 1 ∧ (zfP 84 (mI S11) 1).toInt = zVal zt zn 6 2) ∨ (qPo zt zn = 5 ∧ (zrp r 81) 64 11 = some 87 ∧ xB S11 (mR S11 70) ∧ ∃ t : Nat → Int32, aS 88 S11 = aO2 (aFg a8) t ∧ (t 0).toInt = zVal zt zn 0 1 ∧ (t 1).toInt = zVal zt zn 6 2 ∧ (t 2).toInt = zVal zt zn 3 3 ∧ (t 3).toInt = zVal zt zn 7 4) ∨ (qPo zt zn = 1 ∧ (zrp r 81) 64 11 = some 80 ∧ xB S11 (mR S11 70) ∧ aS 88 S11 = aFg a8 ∧ ((mI S11 80 2)).toInt = zVal zt zn 0 1 ∧ (mI S11 80 3) = 0) ∨ (qPo zt zn = 2 ∧ (zrp r 81) 64 11 = some 81 ∧ xB S11 (mR S11 70) ∧ aS 88 S11 = aFg a8 ∧ ((mI S11 81 2)).toInt = zVal zt zn 0 1 ∧ (mI S11 81 3) = 0 ∧ (mI S11 81 4) = 0) ∨ (qPo zt zn = 3 ∧ (zrp r 81) 64 11 = some 82 ∧ xB S11 (mR S11 70) ∧ aS 88 S11 = aFg a8 ∧ ((mI S11 82 2)).toInt = zVal zt zn 0 1 ∧ ((mI S11 82 3)).toInt = zVal zt zn 0 2 ∧ ((mI S11 82 4)).toInt = zVal zt zn 1 3 ∧ ((mI S11 82 5)).toInt = zVal zt zn 2 4 ∧ (mI S11 82 6) = 0 ∧ ((mI S11 82 7)).toInt = zVal zt zn 0 2 ∧ ((mI S11 82 8)).toInt = zVal zt zn 0 2 ∧ ∀ k : Nat, k < 375 → (mI S11 83) k = 0) ∨ (qPo zt zn = 6 ∧ (zrp r 81) 64 11 = some 91 ∧ xB S11 (mR S11 70) ∧ aS 88 S11 = aFg a8 ∧ ((mI S11 91 2)).toInt = zV4 zt zn ∧ ((mI S11 91 3)).toInt = zVal zt zn 0 1 / zV4 zt zn ∧ ((mI S11 91 4)).toInt = zVal zt zn 5 3 ∧ (mI S11 91 5) = 0 ∧ ∀ k : Nat, k < 93 → (mI S11 92) k = 0))) from by first | (have hk := hi7 (by omega); have o := rp2_S11; exact Or.inr ⟨hi5.1, Or.inr (Or.inr (Or.inr (Or.inr (Or.inl (⟨by have h := hi5.2.1; omega, rfl, rp0_S11, rp1_S11.trans (by rw [aS_64, rp1_S1, hi4]), (by rw [(o.1).trans (congrFun (show mI S1 66 = mI S 66 from funext (fun _ => zG_z hL_S1 rfl)) 0)]; exact hk), o.2.1, o.2.2⟩)))))⟩)) (show (mI S11 67) = k67 ∧ (mI S11 68) = k68 from by first | (exact ⟨((show mI S11 67 = mI (ma_put S1 64 11 (.inr (.inr (some 81)))) 67 from funext (fun _ => zG_z hL_S11 rfl)).trans ((show mI S1 67 = mI S 67 from funext (fun _ => zG_z hL_S1 rfl)).trans hi10.1)), ((show mI S11 68 = mI (ma_put S1 64 11 (.inr (.inr (some 81)))) 68 from funext (fun _ => zG_z hL_S11 rfl)).trans ((show mI S1 68 = mI S 68 from funext (fun _ => zG_z hL_S1 rfl)).trans hi10.2))⟩))
        · skip
          have g273 := i_ne h191
          have li274 : (3 : Int32).toInt = 3 := rfl
          refine zd (fun h275 => ?_) (fun h275 => ?_)
          · skip
            have g276 := i_eq h275
            have hI277 : zA f (zrp r 82) C Z N (ma_put S1 64 11 (.inr (.inr (some 82)))) := zG_pres hI_S1 (by decide)
            have q278 : (mI S1 66 0).toInt = (mI S 66 0).toInt := zG_zi (f := mI S) hL_S1 rfl
            have f279 := zG_a hI_S1 4 (-1) (1500) (c := 66) (k := 0) (by decide) (by decide)
            have q280 : (mI S1 66 1).toInt = (mI S 66 1).toInt := zG_zi (f := mI S) hL_S1 rfl
            have f281 := zG_a hI_S1 4 (-1) (1500) (c := 66) (k := 1) (by decide) (by decide)
            refine sp_1_82_66_zK82_sn (ab := (aS 88 (ma_put S1 64 11 (.inr (.inr (some 82)))))) (by omega) (by omega) (zA_dn_zK82 hI277) (show 0 ≤ (mI S1 66 0).toInt ∧ (mI S1 66 0).toInt ≤ 1500 ∧ 0 ≤ (mI S1 66 1).toInt ∧ (mI S1 66 1).toInt ≤ 1500 from by omega) (show xB (ma_put S1 64 11 (.inr (.inr (some 82)))) (mR (ma_put S1 64 11 (.inr (.inr (some 82)))) 70) from by first | (exact xB_64 rp0_S1)) (show aS 88 (ma_put S1 64 11 (.inr (.inr (some 82)))) = (aS 88 (ma_put S1 64 11 (.inr (.inr (some 82))))) from by first | (exact rfl)) (fun S15 hL_S15 hp_S15 rp0_S15 rp1_S15 rp2_S15 => zv_n ⟨zG_T hL_S15, ?_⟩)
            have hI_S15 := zA_up_zK82 hI277 hL_S15 hp_S15
            have rp0_S15 : xB S15 (mR S15 70) := by
              have z := rp0_S15
              (try rw [show mI (ma_put S1 64 11 (.inr (.inr (some 82)))) 65 = f 65 from funext (fun k => zG_z hI277 rfl)] at z)
              (try rw [show mI (ma_put S1 64 11 (.inr (.inr (some 82)))) 64 1 = f 64 1 from zG_z hI277 rfl] at z)
              exact z
            have rp1_S15 : aS 88 S15 = (aS 88 (ma_put S1 64 11 (.inr (.inr (some 82))))) := by
              have z := rp1_S15
              (try rw [show mI (ma_put S1 64 11 (.inr (.inr (some 82)))) 65 = f 65 from funext (fun k => zG_z hI277 rfl)] at z)
              (try rw [show mI (ma_put S1 64 11 (.inr (.inr (some 82)))) 64 1 = f 64 1 from zG_z hI277 rfl] at z)
              exact z
            have x282 : (0 ≤ (mI S15 81 3).toInt ∧ (mI S15 81 3).toInt ≤ (mI S15 81 2).toInt) ∧ ((mI S15 82 3).toInt ≤ (mI S15 82 7).toInt ∧ (mI S15 82 7).toInt ≤ (mI S15 82 3).toInt + (mI S15 82 2).toInt) := zG_x hI_S15
            have f283 := zG_s hI_S15 (0) (1500) (c := 82) (k := 2) (by decide)
            have f284 := zG_s hI_S15 (0) (1500) (c := 82) (k := 3) (by decide)
            have b285 := i_bd (mI S15 82 4)
            have b286 := i_bd (mI S15 82 5)
            have f287 := zG_s hI_S15 (0) (400000) (c := 82) (k := 6) (by decide)
            have f288 := zG_s hI_S15 (0) (3000) (c := 82) (k := 7) (by decide)
            have f289 := zG_s hI_S15 (0) (400000) (c := 82) (k := 8) (by decide)
            have rp2_S15 : (mI S15 82 2) = (mI (ma_put S1 64 11 (.inr (.inr (some 82)))) 66) 0 ∧ (mI S15 82 3) = (mI (ma_put S1 64 11 (.inr (.inr (some 82)))) 66) 1 ∧ (mI S15 82 4) = (mI (ma_put S1 64 11 (.inr (.inr (some 82)))) 66) 2 ∧ (mI S15 82 5) = (mI (ma_put S1 64 11 (.inr (.inr (some 82)))) 66) 3 ∧ (mI S15 82 6) = 0 ∧ (mI S15 82 7) = (mI (ma_put S1 64 11 (.inr (.inr (some 82)))) 66) 1 ∧ (mI S15 82 8) = (mI (ma_put S1 64 11 (.inr (.inr (some 82)))) 66) 1 ∧ ∀ k : Nat, k < 375 → (mI S15 83) k = 0 := by
              have z := rp2_S15
              (try rw [show mI (ma_put S1 64 11 (.inr (.inr (some 82)))) 65 = f 65 from funext (fun k => zG_z hI277 rfl)] at z)
              (try rw [show mI (ma_put S1 64 11 (.inr (.inr (some 82)))) 64 1 = f 64 1 from zG_z hI277 rfl] at z)
              exact z
            refine ⟨((zG_r hI_S15 (by decide)).trans rfl), ?_⟩
            refine sp_2_82_sn  (by omega) (by omega) (zA_dn_zJ82 hI_S15)  (fun v18 S17 eS_S17 hp_v18 => zi_n ⟨(by rw [eS_S17]; exact zG_T hI_S15), ?_⟩)
            replace eS_S17 := eS_S17.symm; subst eS_S17
            have b290 := i_bd v18
            have f291 := zG_s hI (0) (100) (c := 64) (k := 1) (by decide)
            have q292 : (mI S1 64 1).toInt = (mI S 64 1).toInt := zG_zi (f := mI S) hL_S1 rfl
            have f293 := zG_s hI_S1 (0) (100) (c := 64) (k := 1) (by decide)
            have q294 : (mI S15 64 1).toInt = (mI S1 64 1).toInt := zG_zi (f := mI (ma_put S1 64 11 (.inr (.inr (some 82))))) hL_S15 rfl
            have f295 := zG_s hI_S15 (0) (100) (c := 64) (k := 1) (by decide)
            have f296 := zG_s hI (0) (1500) (c := 80) (k := 2) (by decide)
            have q297 : (mI S1 80 2).toInt = (mI S 80 2).toInt := zG_zi (f := mI S) hL_S1 rfl
            have f298 := zG_s hI_S1 (0) (1500) (c := 80) (k := 2) (by decide)
            have q299 : (mI S15 80 2).toInt = (mI S1 80 2).toInt := zG_zi (f := mI (ma_put S1 64 11 (.inr (.inr (some 82))))) hL_S15 rfl
            have f300 := zG_s hI_S15 (0) (1500) (c := 80) (k := 2) (by decide)
            have f301 := zG_s hI (0) (400000) (c := 80) (k := 3) (by decide)
            have q302 : (mI S1 80 3).toInt = (mI S 80 3).toInt := zG_zi (f := mI S) hL_S1 rfl
            have f303 := zG_s hI_S1 (0) (400000) (c := 80) (k := 3) (by decide)
            have q304 : (mI S15 80 3).toInt = (mI S1 80 3).toInt := zG_zi (f := mI (ma_put S1 64 11 (.inr (.inr (some 82))))) hL_S15 rfl
            have f305 := zG_s hI_S15 (0) (400000) (c := 80) (k := 3) (by decide)
            have x306 : (0 ≤ (mI S 81 3).toInt ∧ (mI S 81 3).toInt ≤ (mI S 81 2).toInt) ∧ ((mI S 82 3).toInt ≤ (mI S 82 7).toInt ∧ (mI S 82 7).toInt ≤ (mI S 82 3).toInt + (mI S 82 2).toInt) := zG_x hI
            have f307 := zG_s hI (0) (1500) (c := 81) (k := 2) (by decide)
            have q308 : (mI S1 81 2).toInt = (mI S 81 2).toInt := zG_zi (f := mI S) hL_S1 rfl
            have x309 : (0 ≤ (mI S1 81 3).toInt ∧ (mI S1 81 3).toInt ≤ (mI S1 81 2).toInt) ∧ ((mI S1 82 3).toInt ≤ (mI S1 82 7).toInt ∧ (mI S1 82 7).toInt ≤ (mI S1 82 3).toInt + (mI S1 82 2).toInt) := zG_x hI_S1
            have f310 := zG_s hI_S1 (0) (1500) (c := 81) (k := 2) (by decide)
            have q311 : (mI S15 81 2).toInt = (mI S1 81 2).toInt := zG_zi (f := mI (ma_put S1 64 11 (.inr (.inr (some 82))))) hL_S15 rfl
            have f312 := zG_s hI_S15 (0) (1500) (c := 81) (k := 2) (by decide)
            have f313 := zG_s hI (0) (1500) (c := 81) (k := 3) (by decide)
            have q314 : (mI S1 81 3).toInt = (mI S 81 3).toInt := zG_zi (f := mI S) hL_S1 rfl
            have f315 := zG_s hI_S1 (0) (1500) (c := 81) (k := 3) (by decide)
            have q316 : (mI S15 81 3).toInt = (mI S1 81 3).toInt := zG_zi (f := mI (ma_put S1 64 11 (.inr (.inr (some 82))))) hL_S15 rfl
            have f317 := zG_s hI_S15 (0) (1500) (c := 81) (k := 3) (by decide)
            have f318 := zG_s hI (0) (400000) (c := 81) (k := 4) (by decide)
            have q319 : (mI S1 81 4).toInt = (mI S 81 4).toInt := zG_zi (f := mI S) hL_S1 rfl
            have f320 := zG_s hI_S1 (0) (400000) (c := 81) (k := 4) (by decide)
            have q321 : (mI S15 81 4).toInt = (mI S1 81 4).toInt := zG_zi (f := mI (ma_put S1 64 11 (.inr (.inr (some 82))))) hL_S15 rfl
            have f322 := zG_s hI_S15 (0) (400000) (c := 81) (k := 4) (by decide)
            have f323 := zG_s hI (0) (1500) (c := 91) (k := 2) (by decide)
            have q324 : (mI S1 91 2).toInt = (mI S 91 2).toInt := zG_zi (f := mI S) hL_S1 rfl
            have f325 := zG_s hI_S1 (0) (1500) (c := 91) (k := 2) (by decide)
            have q326 : (mI S15 91 2).toInt = (mI S1 91 2).toInt := zG_zi (f := mI (ma_put S1 64 11 (.inr (.inr (some 82))))) hL_S15 rfl
            have f327 := zG_s hI_S15 (0) (1500) (c := 91) (k := 2) (by decide)
            have f328 := zG_s hI (0) (93) (c := 91) (k := 3) (by decide)
            have q329 : (mI S1 91 3).toInt = (mI S 91 3).toInt := zG_zi (f := mI S) hL_S1 rfl
            have f330 := zG_s hI_S1 (0) (93) (c := 91) (k := 3) (by decide)
            have q331 : (mI S15 91 3).toInt = (mI S1 91 3).toInt := zG_zi (f := mI (ma_put S1 64 11 (.inr (.inr (some 82))))) hL_S15 rfl
            have f332 := zG_s hI_S15 (0) (93) (c := 91) (k := 3) (by decide)
            have b333 := i_bd (mI S 91 4)
            have q334 : (mI S1 91 4).toInt = (mI S 91 4).toInt := zG_zi (f := mI S) hL_S1 rfl
            have b335 := i_bd (mI S1 91 4)
            have q336 : (mI S15 91 4).toInt = (mI S1 91 4).toInt := zG_zi (f := mI (ma_put S1 64 11 (.inr (.inr (some 82))))) hL_S15 rfl
            have b337 := i_bd (mI S15 91 4)
            have f338 := zG_s hI (0) (92) (c := 91) (k := 5) (by decide)
            have q339 : (mI S1 91 5).toInt = (mI S 91 5).toInt := zG_zi (f := mI S) hL_S1 rfl
            have f340 := zG_s hI_S1 (0) (92) (c := 91) (k := 5) (by decide)
            have q341 : (mI S15 91 5).toInt = (mI S1 91 5).toInt := zG_zi (f := mI (ma_put S1 64 11 (.inr (.inr (some 82))))) hL_S15 rfl
            have f342 := zG_s hI_S15 (0) (92) (c := 91) (k := 5) (by decide)
            exact K (v18) _ (zrp r 82) (Or.inr ⟨82, by decide, rfl⟩) hI_S15 (show (mI S15 64 1).toInt = 0 from by omega) (show (zAns zt zn < 0 ∧ (zrp r 82) 64 11 = r 64 11 ∧ zFm J0 JL JR S15) ∨ (0 ≤ zAns zt zn ∧ ((qPo zt zn = 0 ∧ (zrp r 82) 64 11 = some 79 ∧ xB S15 (mR S15 70) ∧ aS 88 S15 = aFg a8 ∧ zfP 79 (mI S15) 2 = 0 ∧ (zfP 79 (mI S15) 0).toInt = zVal zt zn 0 1 ∧ (zfP 79 (mI S15) 1).toInt = zVal zt zn 6 2) ∨ (qPo zt zn = 4 ∧ (zrp r 82) 64 11 = some 84 ∧ xB S15 (mR S15 70) ∧ aS 88 S15 = aFg a8 ∧ zfP 84 (mI S15) 2 = 0 ∧ (zfP 84 (mI S15) 0).toInt = zVal zt zn 0 1 ∧ (zfP 84 (mI S15) 1).toInt = zVal zt zn 6 2) ∨ (qPo zt zn = 5 ∧ (zrp r 82) 64 11 = some 87 ∧ xB S15 (mR S15 70) ∧ ∃ t : Nat → Int32, aS 88 S15 = aO2 (aFg a8) t ∧ (t 0).toInt = zVal zt zn 0 1 ∧ (t 1).toInt = zVal zt zn 6 2 ∧ (t 2).toInt = zVal zt zn 3 3 ∧ (t 3).toInt = zVal zt zn 7 4) ∨ (qPo zt zn = 1 ∧ (zrp r 82) 64 11 = some 80 ∧ xB S15 (mR S15 70) ∧ aS 88 S15 = aFg a8 ∧ ((mI S15 80 2)).toInt = zVal zt zn 0 1 ∧ (mI S15 80 3) = 0) ∨ (qPo zt zn = 2 ∧ (zrp r 82) 64 11 = some 81 ∧ xB S15 (mR S15 70) ∧ aS 88 S15 = aFg a8 ∧ ((mI S15 81 2)).toInt = zVal zt zn 0 1 ∧ (mI S15 81 3) = 0 ∧ (mI S15 81 4) = 0) ∨ (qPo zt zn = 3 ∧ (zrp r 82) 64 11 = some 82 ∧ xB S15 (mR S15 70) ∧ aS 88 S15 = aFg a8 ∧ ((mI S15 82 2)).toInt = zVal zt zn 0 1 ∧ ((mI S15 82 3)).toInt = zVal zt zn 0 2 ∧ ((mI S15 82 4)).toInt = zVal zt zn 1 3 ∧ ((mI S15 82 5)).toInt = zVal zt zn 2 4 ∧ (mI S15 82 6) = 0 ∧ ((mI S15 82 7)).toInt = zVal zt zn 0 2 ∧ ((mI S15 82 8)).toInt = zVal zt zn 0 2 ∧ ∀ k : Nat, k < 375 → (mI S15 83) k = 0) ∨ (qPo zt zn = 6 ∧ (zrp r 82) 64 11 = some 91 ∧ xB S15 (mR S15 70) ∧ aS 88 S15 = aFg a8 ∧ ((mI S15 91 2)).toInt = zV4 zt zn ∧ ((mI S15 91 3)).toInt = zVal zt zn 0 1 / zV4 zt zn ∧ ((mI S15 91 4)).toInt = zVal zt zn 5 3 ∧ (mI S15 91 5) = 0 ∧ ∀ k : Nat, k < 93 → (mI S15 92) k = 0))) from by first | (have hk := hi8 (by omega); have o := rp2_S15; exact Or.inr ⟨hi5.1, Or.inr (Or.inr (Or.inr (Or.inr (Or.inr (Or.inl (⟨by have h := hi5.2.1; omega, rfl, rp0_S15, rp1_S15.trans (by rw [aS_64, rp1_S1, hi4]), (by rw [(o.1).trans (congrFun (show mI S1 66 = mI S 66 from funext (fun _ => zG_z hL_S1 rfl)) 0)]; exact hk.1), (by rw [(o.2.1).trans (congrFun (show mI S1 66 = mI S 66 from funext (fun _ => zG_z hL_S1 rfl)) 1)]; exact hk.2.1), (by rw [(o.2.2.1).trans (congrFun (show mI S1 66 = mI S 66 from funext (fun _ => zG_z hL_S1 rfl)) 2)]; exact hk.2.2.1), (by rw [(o.2.2.2.1).trans (congrFun (show mI S1 66 = mI S 66 from funext (fun _ => zG_z hL_S1 rfl)) 3)]; exact hk.2.2.2), o.2.2.2.2.1, (by rw [(o.2.2.2.2.2.1).trans (congrFun (show mI S1 66 = mI S 66 from funext (fun _ => zG_z hL_S1 rfl)) 1)]; exact hk.2.1), (by rw [(o.2.2.2.2.2.2.1).trans (congrFun (show mI S1 66 = mI S 66 from funext (fun _ => zG_z hL_S1 rfl)) 1)]; exact hk.2.1), o.2.2.2.2.2.2.2⟩))))))⟩)) (show (mI S15 67) = k67 ∧ (mI S15 68) = k68 from by first | (exact ⟨((show mI S15 67 = mI (ma_put S1 64 11 (.inr (.inr (some 82)))) 67 from funext (fun _ => zG_z hL_S15 rfl)).trans ((show mI S1 67 = mI S 67 from funext (fun _ => zG_z hL_S1 rfl)).trans hi10.1)), ((show mI S15 68 = mI (ma_put S1 64 11 (.inr (.inr (some 82)))) 68 from funext (fun _ => zG_z hL_S15 rfl)).trans ((show mI S1 68 = mI S 68 from funext (fun _ => zG_z hL_S1 rfl)).trans hi10.2))⟩))
          · skip
            have g343 := i_ne h275
            have li344 : (4 : Int32).toInt = 4 := rfl
            refine zd (fun h345 => ?_) (fun h345 => ?_)
            · skip
              have g346 := i_eq h345
              have hI347 : zA f (zrp r 84) C Z N (ma_put S1 64 11 (.inr (.inr (some 84)))) := zG_pres hI_S1 (by decide)
              have q348 : (mI S1 66 0).toInt = (mI S 66 0).toInt := zG_zi (f := mI S) hL_S1 rfl
              have f349 := zG_a hI_S1 4 (-1) (1500) (c := 66) (k := 0) (by decide) (by decide)
              refine sp_100_84_66_sh (ab := (aS 88 (ma_put S1 64 11 (.inr (.inr (some 84)))))) (by omega) (by omega) (zA_dn_zJ84 hI347) (show 0 ≤ (mI S1 66 0).toInt ∧ (mI S1 66 0).toInt ≤ 1500 from by omega) (show xB (ma_put S1 64 11 (.inr (.inr (some 84)))) (mR (ma_put S1 64 11 (.inr (.inr (some 84)))) 70) from by first | (exact xB_64 rp0_S1)) (show aS 88 (ma_put S1 64 11 (.inr (.inr (some 84)))) = (aS 88 (ma_put S1 64 11 (.inr (.inr (some 84))))) from by first | (exact rfl)) (fun S19 hL_S19 rp0_S19 rp1_S19 rp2_S19 => zv_n ⟨zG_T hL_S19, ?_⟩)
              have hI_S19 := zA_up_zJ84 hI347 hL_S19
              have rp0_S19 : xB S19 (mR S19 70) := by
                have z := rp0_S19
                (try rw [show mI (ma_put S1 64 11 (.inr (.inr (some 84)))) 65 = f 65 from funext (fun k => zG_z hI347 rfl)] at z)
                (try rw [show mI (ma_put S1 64 11 (.inr (.inr (some 84)))) 64 1 = f 64 1 from zG_z hI347 rfl] at z)
                exact z
              have rp1_S19 : aS 88 S19 = (aS 88 (ma_put S1 64 11 (.inr (.inr (some 84))))) := by
                have z := rp1_S19
                (try rw [show mI (ma_put S1 64 11 (.inr (.inr (some 84)))) 65 = f 65 from funext (fun k => zG_z hI347 rfl)] at z)
                (try rw [show mI (ma_put S1 64 11 (.inr (.inr (some 84)))) 64 1 = f 64 1 from zG_z hI347 rfl] at z)
                exact z
              have rp2_S19 : zfP 84 (mI S19) 0 = (mI (ma_put S1 64 11 (.inr (.inr (some 84)))) 66) 0 ∧ zfP 84 (mI S19) 1 = (mI (ma_put S1 64 11 (.inr (.inr (some 84)))) 66) 1 ∧ zfP 84 (mI S19) 2 = 0 := by
                have z := rp2_S19
                (try rw [show mI (ma_put S1 64 11 (.inr (.inr (some 84)))) 65 = f 65 from funext (fun k => zG_z hI347 rfl)] at z)
                (try rw [show mI (ma_put S1 64 11 (.inr (.inr (some 84)))) 64 1 = f 64 1 from zG_z hI347 rfl] at z)
                exact z
              refine ⟨((zG_r hI_S19 (by decide)).trans rfl), ?_⟩
              refine sp_101_84_sh  (by omega) (by omega) (zA_dn_zJ84 hI_S19)  (fun v22 S21 eS_S21 hp_v22 => zi_n ⟨(by rw [eS_S21]; exact zG_T hI_S19), ?_⟩)
              replace eS_S21 := eS_S21.symm; subst eS_S21
              have b350 := i_bd v22
              have f351 := zG_s hI (0) (100) (c := 64) (k := 1) (by decide)
              have q352 : (mI S1 64 1).toInt = (mI S 64 1).toInt := zG_zi (f := mI S) hL_S1 rfl
              have f353 := zG_s hI_S1 (0) (100) (c := 64) (k := 1) (by decide)
              have q354 : (mI S19 64 1).toInt = (mI S1 64 1).toInt := zG_zi (f := mI (ma_put S1 64 11 (.inr (.inr (some 84))))) hL_S19 rfl
              have f355 := zG_s hI_S19 (0) (100) (c := 64) (k := 1) (by decide)
              have f356 := zG_s hI (0) (1500) (c := 80) (k := 2) (by decide)
              have q357 : (mI S1 80 2).toInt = (mI S 80 2).toInt := zG_zi (f := mI S) hL_S1 rfl
              have f358 := zG_s hI_S1 (0) (1500) (c := 80) (k := 2) (by decide)
              have q359 : (mI S19 80 2).toInt = (mI S1 80 2).toInt := zG_zi (f := mI (ma_put S1 64 11 (.inr (.inr (some 84))))) hL_S19 rfl
              have f360 := zG_s hI_S19 (0) (1500) (c := 80) (k := 2) (by decide)
              have f361 := zG_s hI (0) (400000) (c := 80) (k := 3) (by decide)
              have q362 : (mI S1 80 3).toInt = (mI S 80 3).toInt := zG_zi (f := mI S) hL_S1 rfl
              have f363 := zG_s hI_S1 (0) (400000) (c := 80) (k := 3) (by decide)
              have q364 : (mI S19 80 3).toInt = (mI S1 80 3).toInt := zG_zi (f := mI (ma_put S1 64 11 (.inr (.inr (some 84))))) hL_S19 rfl
              have f365 := zG_s hI_S19 (0) (400000) (c := 80) (k := 3) (by decide)
              have x366 : (0 ≤ (mI S 81 3).toInt ∧ (mI S 81 3).toInt ≤ (mI S 81 2).toInt) ∧ ((mI S 82 3).toInt ≤ (mI S 82 7).toInt ∧ (mI S 82 7).toInt ≤ (mI S 82 3).toInt + (mI S 82 2).toInt) := zG_x hI
              have f367 := zG_s hI (0) (1500) (c := 81) (k := 2) (by decide)
              have q368 : (mI S1 81 2).toInt = (mI S 81 2).toInt := zG_zi (f := mI S) hL_S1 rfl
              have x369 : (0 ≤ (mI S1 81 3).toInt ∧ (mI S1 81 3).toInt ≤ (mI S1 81 2).toInt) ∧ ((mI S1 82 3).toInt ≤ (mI S1 82 7).toInt ∧ (mI S1 82 7).toInt ≤ (mI S1 82 3).toInt + (mI S1 82 2).toInt) := zG_x hI_S1
              have f370 := zG_s hI_S1 (0) (1500) (c := 81) (k := 2) (by decide)
              have q371 : (mI S19 81 2).toInt = (mI S1 81 2).toInt := zG_zi (f := mI (ma_put S1 64 11 (.inr (.inr (some 84))))) hL_S19 rfl
              have x372 : (0 ≤ (mI S19 81 3).toInt ∧ (mI S19 81 3).toInt ≤ (mI S19 81 2).toInt) ∧ ((mI S19 82 3).toInt ≤ (mI S19 82 7).toInt ∧ (mI S19 82 7).toInt ≤ (mI S19 82 3).toInt + (mI S19 82 2).toInt) := zG_x hI_S19
              have f373 := zG_s hI_S19 (0) (1500) (c := 81) (k := 2) (by decide)
              have f374 := zG_s hI (0) (1500) (c := 81) (k := 3) (by decide)
              have q375 : (mI S1 81 3).toInt = (mI S 81 3).toInt := zG_zi (f := mI S) hL_S1 rfl
              have f376 := zG_s hI_S1 (0) (1500) (c := 81) (k := 3) (by decide)
              have q377 : (mI S19 81 3).toInt = (mI S1 81 3).toInt := zG_zi (f := mI (ma_put S1 64 11 (.inr (.inr (some 84))))) hL_S19 rfl
              have f378 := zG_s hI_S19 (0) (1500) (c := 81) (k := 3) (by decide)
              have f379 := zG_s hI (0) (400000) (c := 81) (k := 4) (by decide)
              have q380 : (mI S1 81 4).toInt = (mI S 81 4).toInt := zG_zi (f := mI S) hL_S1 rfl
              have f381 := zG_s hI_S1 (0) (400000) (c := 81) (k := 4) (by decide)
              have q382 : (mI S19 81 4).toInt = (mI S1 81 4).toInt := zG_zi (f := mI (ma_put S1 64 11 (.inr (.inr (some 84))))) hL_S19 rfl
              have f383 := zG_s hI_S19 (0) (400000) (c := 81) (k := 4) (by decide)
              have f384 := zG_s hI (0) (1500) (c := 82) (k := 2) (by decide)
              have q385 : (mI S1 82 2).toInt = (mI S 82 2).toInt := zG_zi (f := mI S) hL_S1 rfl
              have f386 := zG_s hI_S1 (0) (1500) (c := 82) (k := 2) (by decide)
              have q387 : (mI S19 82 2).toInt = (mI S1 82 2).toInt := zG_zi (f := mI (ma_put S1 64 11 (.inr (.inr (some 84))))) hL_S19 rfl
              have f388 := zG_s hI_S19 (0) (1500) (c := 82) (k := 2) (by decide)
              have f389 := zG_s hI (0) (1500) (c := 82) (k := 3) (by decide)
              have q390 : (mI S1 82 3).toInt = (mI S 82 3).toInt := zG_zi (f := mI S) hL_S1 rfl
              have f391 := zG_s hI_S1 (0) (1500) (c := 82) (k := 3) (by decide)
              have q392 : (mI S19 82 3).toInt = (mI S1 82 3).toInt := zG_zi (f := mI (ma_put S1 64 11 (.inr (.inr (some 84))))) hL_S19 rfl
              have f393 := zG_s hI_S19 (0) (1500) (c := 82) (k := 3) (by decide)
              have b394 := i_bd (mI S 82 4)
              have q395 : (mI S1 82 4).toInt = (mI S 82 4).toInt := zG_zi (f := mI S) hL_S1 rfl
              have b396 := i_bd (mI S1 82 4)
              have q397 : (mI S19 82 4).toInt = (mI S1 82 4).toInt := zG_zi (f := mI (ma_put S1 64 11 (.inr (.inr (some 84))))) hL_S19 rfl
              have b398 := i_bd (mI S19 82 4)
              have b399 := i_bd (mI S 82 5)
              have q400 : (mI S1 82 5).toInt = (mI S 82 5).toInt := zG_zi (f := mI S) hL_S1 rfl
              have b401 := i_bd (mI S1 82 5)
              have q402 : (mI S19 82 5).toInt = (mI S1 82 5).toInt := zG_zi (f := mI (ma_put S1 64 11 (.inr (.inr (some 84))))) hL_S19 rfl
              have b403 := i_bd (mI S19 82 5)
              have f404 := zG_s hI (0) (400000) (c := 82) (k := 6) (by decide)
              have q405 : (mI S1 82 6).toInt = (mI S 82 6).toInt := zG_zi (f := mI S) hL_S1 rfl
              have f406 := zG_s hI_S1 (0) (400000) (c := 82) (k := 6) (by decide)
              have q407 : (mI S19 82 6).toInt = (mI S1 82 6).toInt := zG_zi (f := mI (ma_put S1 64 11 (.inr (.inr (some 84))))) hL_S19 rfl
              have f408 := zG_s hI_S19 (0) (400000) (c := 82) (k := 6) (by decide)
              have f409 := zG_s hI (0) (3000) (c := 82) (k := 7) (by decide)
              have q410 : (mI S1 82 7).toInt = (mI S 82 7).toInt := zG_zi (f := mI S) hL_S1 rfl
              have f411 := zG_s hI_S1 (0) (3000) (c := 82) (k := 7) (by decide)
              have q412 : (mI S19 82 7).toInt = (mI S1 82 7).toInt := zG_zi (f := mI (ma_put S1 64 11 (.inr (.inr (some 84))))) hL_S19 rfl
              have f413 := zG_s hI_S19 (0) (3000) (c := 82) (k := 7) (by decide)
              have f414 := zG_s hI (0) (400000) (c := 82) (k := 8) (by decide)
              have q415 : (mI S1 82 8).toInt = (mI S 82 8).toInt := zG_zi (f := mI S) hL_S1 rfl
              have f416 := zG_s hI_S1 (0) (400000) (c := 82) (k := 8) (by decide)
              have q417 : (mI S19 82 8).toInt = (mI S1 82 8).toInt := zG_zi (f := mI (ma_put S1 64 11 (.inr (.inr (some 84))))) hL_S19 rfl
              have f418 := zG_s hI_S19 (0) (400000) (c := 82) (k := 8) (by decide)
              have f419 := zG_s hI (0) (1500) (c := 91) (k := 2) (by decide)
              have q420 : (mI S1 91 2).toInt = (mI S 91 2).toInt := zG_zi (f := mI S) hL_S1 rfl
              have f421 := zG_s hI_S1 (0) (1500) (c := 91) (k := 2) (by decide)
              have q422 : (mI S19 91 2).toInt = (mI S1 91 2).toInt := zG_zi (f := mI (ma_put S1 64 11 (.inr (.inr (some 84))))) hL_S19 rfl
              have f423 := zG_s hI_S19 (0) (1500) (c := 91) (k := 2) (by decide)
              have f424 := zG_s hI (0) (93) (c := 91) (k := 3) (by decide)
              have q425 : (mI S1 91 3).toInt = (mI S 91 3).toInt := zG_zi (f := mI S) hL_S1 rfl
              have f426 := zG_s hI_S1 (0) (93) (c := 91) (k := 3) (by decide)
              have q427 : (mI S19 91 3).toInt = (mI S1 91 3).toInt := zG_zi (f := mI (ma_put S1 64 11 (.inr (.inr (some 84))))) hL_S19 rfl
              have f428 := zG_s hI_S19 (0) (93) (c := 91) (k := 3) (by decide)
              have b429 := i_bd (mI S 91 4)
              have q430 : (mI S1 91 4).toInt = (mI S 91 4).toInt := zG_zi (f := mI S) hL_S1 rfl
              have b431 := i_bd (mI S1 91 4)
              have q432 : (mI S19 91 4).toInt = (mI S1 91 4).toInt := zG_zi (f := mI (ma_put S1 64 11 (.inr (.inr (some 84))))) hL_S19 rfl
              have b433 := i_bd (mI S19 91 4)
              have f434 := zG_s hI (0) (92) (c := 91) (k := 5) (by decide)
              have q435 : (mI S1 91 5).toInt = (mI S 91 5).toInt := zG_zi (f := mI S) hL_S1 rfl
              have f436 := zG_s hI_S1 (0) (92) (c := 91) (k := 5) (by decide)
              have q437 : (mI S19 91 5).toInt = (mI S1 91 5).toInt := zG_zi (f := mI (ma_put S1 64 11 (.inr (.inr (some 84))))) hL_S19 rfl
              have f438 := zG_s hI_S19 (0) (92) (c := 91) (k := 5) (by decide)
              exact K (v22) _ (zrp r 84) (Or.inr ⟨84, by decide, rfl⟩) hI_S19 (show (mI S19 64 1).toInt = 0 from by omega) (show (zAns zt zn < 0 ∧ (zrp r 84) 64 11 = r 64 11 ∧ zFm J0 JL JR S19) ∨ (0 ≤ zAns zt zn ∧ ((qPo zt zn = 0 ∧ (zrp r 84) 64 11 = some 79 ∧ xB S19 (mR S19 70) ∧ aS 88 S19 = aFg a8 ∧ zfP 79 (mI S19) 2 = 0 ∧ (zfP 79 (mI S19) 0).toInt = zVal zt zn 0 1 ∧ (zfP 79 (mI S19) 1).toInt = zVal zt zn 6 2) ∨ (qPo zt zn = 4 ∧ (zrp r 84) 64 11 = some 84 ∧ xB S19 (mR S19 70) ∧ aS 88 S19 = aFg a8 ∧ zfP 84 (mI S19) 2 = 0 ∧ (zfP 84 (mI S19) 0).toInt = zVal zt zn 0 1 ∧ (zfP 84 (mI S19) 1).toInt = zVal zt zn 6 2) ∨ (qPo zt zn = 5 ∧ (zrp r 84) 64 11 = some 87 ∧ xB S19 (mR S19 70) ∧ ∃ t : Nat → Int32, aS 88 S19 = aO2 (aFg a8) t ∧ (t 0).toInt = zVal zt zn 0 1 ∧ (t 1).toInt = zVal zt zn 6 2 ∧ (t 2).toInt = zVal zt zn 3 3 ∧ (t 3).toInt = zVal zt zn 7 4) ∨ (qPo zt zn = 1 ∧ (zrp r 84) 64 11 = some 80 ∧ xB S19 (mR S19 70) ∧ aS 88 S19 = aFg a8 ∧ ((mI S19 80 2)).toInt = zVal zt zn 0 1 ∧ (mI S19 80 3) = 0) ∨ (qPo zt zn = 2 ∧ (zrp r 84) 64 11 = some 81 ∧ xB S19 (mR S19 70) ∧ aS 88 S19 = aFg a8 ∧ ((mI S19 81 2)).toInt = zVal zt zn 0 1 ∧ (mI S19 81 3) = 0 ∧ (mI S19 81 4) = 0) ∨ (qPo zt zn = 3 ∧ (zrp r 84) 64 11 = some 82 ∧ xB S19 (mR S19 70) ∧ aS 88 S19 = aFg a8 ∧ ((mI S19 82 2)).toInt = zVal zt zn 0 1 ∧ ((mI S19 82 3)).toInt = zVal zt zn 0 2 ∧ ((mI S19 82 4)).toInt = zVal zt zn 1 3 ∧ ((mI S19 82 5)).toInt = zVal zt zn 2 4 ∧ (mI S19 82 6) = 0 ∧ ((mI S19 82 7)).toInt = zVal zt zn 0 2 ∧ ((mI S19 82 8)).toInt = zVal zt zn 0 2 ∧ ∀ k : Nat, k < 375 → (mI S19 83) k = 0) ∨ (qPo zt zn = 6 ∧ (zrp r 84) 64 11 = some 91 ∧ xB S19 (mR S19 70) ∧ aS 88 S19 = aFg a8 ∧ ((mI S19 91 2)).toInt = zV4 zt zn ∧ ((mI S19 91 3)).toInt = zVal zt zn 0 1 / zV4 zt zn ∧ ((mI S19 91 4)).toInt = zVal zt zn 5 3 ∧ (mI S19 91 5) = 0 ∧ ∀ k : Nat, k < 93 → (mI S19 92) k = 0))) from by first | (have hk := hi6 (by omega); have o := rp2_S19; exact Or.inr ⟨hi5.1, Or.inr (Or.inl (⟨by have h := hi5.2.1; omega, rfl, rp0_S19, rp1_S19.trans (by rw [aS_64, rp1_S1, hi4]), o.2.2, (by rw [o.1.trans (congrFun (show mI S1 66 = mI S 66 from funext (fun _ => zG_z hL_S1 rfl)) 0)]; exact hk.1), (by rw [o.2.1.trans (congrFun (show mI S1 66 = mI S 66 from funext (fun _ => zG_z hL_S1 rfl)) 1)]; exact hk.2)⟩))⟩)) (show (mI S19 67) = k67 ∧ (mI S19 68) = k68 from by first | (exact ⟨((show mI S19 67 = mI (ma_put S1 64 11 (.inr (.inr (some 84)))) 67 from funext (fun _ => zG_z hL_S19 rfl)).trans ((show mI S1 67 = mI S 67 from funext (fun _ => zG_z hL_S1 rfl)).trans hi10.1)), ((show mI S19 68 = mI (ma_put S1 64 11 (.inr (.inr (some 84)))) 68 from funext (fun _ => zG_z hL_S19 rfl)).trans ((show mI S1 68 = mI S 68 from funext (fun _ => zG_z hL_S1 rfl)).trans hi10.2))⟩))
            · skip
              have g439 := i_ne h345
              have li440 : (5 : Int32).toInt = 5 := rfl
              refine zd (fun h441 => ?_) (fun h441 => ?_)
              · skip
                have g442 := i_eq h441
                have hI443 : zA f (zrp r 87) C Z N (ma_put S1 64 11 (.inr (.inr (some 87)))) := zG_pres hI_S1 (by decide)
                have q444 : (mI S1 66 0).toInt = (mI S 66 0).toInt := zG_zi (f := mI S) hL_S1 rfl
                have f445 := zG_a hI_S1 4 (-1) (1500) (c := 66) (k := 0) (by decide) (by decide)
                have q446 : (mI S1 66 2).toInt = (mI S 66 2).toInt := zG_zi (f := mI S) hL_S1 rfl
                have f447 := zG_a hI_S1 4 (-1) (1500) (c := 66) (k := 2) (by decide) (by decide)
                refine sp_66_87_66_s (ab := (aS 88 (ma_put S1 64 11 (.inr (.inr (some 87)))))) (by omega) (by omega) (zA_dn_zJ87 hI443) (show 0 ≤ (mI S1 66 0).toInt ∧ (mI S1 66 0).toInt ≤ 1500 ∧ -1 ≤ (mI S1 66 2).toInt ∧ (mI S1 66 2).toInt ≤ 1500 from by omega) (show xB (ma_put S1 64 11 (.inr (.inr (some 87)))) (mR (ma_put S1 64 11 (.inr (.inr (some 87)))) 70) from by first | (exact xB_64 rp0_S1)) (show aS 88 (ma_put S1 64 11 (.inr (.inr (some 87)))) = (aS 88 (ma_put S1 64 11 (.inr (.inr (some 87))))) from by first | (exact rfl)) (fun S23 hL_S23 rp0_S23 rp1_S23 => zv_n ⟨zG_T hL_S23, ?_⟩)
                have hI_S23 := zA_up_zJ87 hI443 hL_S23
                have rp0_S23 : xB S23 (mR S23 70) := by
                  have z := rp0_S23
                  (try rw [show mI (ma_put S1 64 11 (.inr (.inr (some 87)))) 65 = f 65 from funext (fun k => zG_z hI443 rfl)] at z)
                  (try rw [show mI (ma_put S1 64 11 (.inr (.inr (some 87)))) 64 1 = f 64 1 from zG_z hI443 rfl] at z)
                  exact z
                have rp1_S23 : aS 88 S23 = aO2 (aS 88 (ma_put S1 64 11 (.inr (.inr (some 87))))) (mI (ma_put S1 64 11 (.inr (.inr (some 87)))) 66) := by
                  have z := rp1_S23
                  (try rw [show mI (ma_put S1 64 11 (.inr (.inr (some 87)))) 65 = f 65 from funext (fun k => zG_z hI443 rfl)] at z)
                  (try rw [show mI (ma_put S1 64 11 (.inr (.inr (some 87)))) 64 1 = f 64 1 from zG_z hI443 rfl] at z)
                  exact z
                refine ⟨((zG_r hI_S23 (by decide)).trans rfl), ?_⟩
                refine sp_101_87_sq  (by omega) (by omega) (zA_dn_zJ87 hI_S23)  (fun v26 S25 eS_S25 hp_v26 => zi_n ⟨(by rw [eS_S25]; exact zG_T hI_S23), ?_⟩)
                replace eS_S25 := eS_S25.symm; subst eS_S25
                have b448 := i_bd v26
                have f449 := zG_s hI (0) (100) (c := 64) (k := 1) (by decide)
                have q450 : (mI S1 64 1).toInt = (mI S 64 1).toInt := zG_zi (f := mI S) hL_S1 rfl
                have f451 := zG_s hI_S1 (0) (100) (c := 64) (k := 1) (by decide)
                have q452 : (mI S23 64 1).toInt = (mI S1 64 1).toInt := zG_zi (f := mI (ma_put S1 64 11 (.inr (.inr (some 87))))) hL_S23 rfl
                have f453 := zG_s hI_S23 (0) (100) (c := 64) (k := 1) (by decide)
                have f454 := zG_s hI (0) (1500) (c := 80) (k := 2) (by decide)
                have q455 : (mI S1 80 2).toInt = (mI S 80 2).toInt := zG_zi (f := mI S) hL_S1 rfl
                have f456 := zG_s hI_S1 (0) (1500) (c := 80) (k := 2) (by decide)
                have q457 : (mI S23 80 2).toInt = (mI S1 80 2).toInt := zG_zi (f := mI (ma_put S1 64 11 (.inr (.inr (some 87))))) hL_S23 rfl
                have f458 := zG_s hI_S23 (0) (1500) (c := 80) (k := 2) (by decide)
                have f459 := zG_s hI (0) (400000) (c := 80) (k := 3) (by decide)
                have q460 : (mI S1 80 3).toInt = (mI S 80 3).toInt := zG_zi (f := mI S) hL_S1 rfl
                have f461 := zG_s hI_S1 (0) (400000) (c := 80) (k := 3) (by decide)
                have q462 : (mI S23 80 3).toInt = (mI S1 80 3).toInt := zG_zi (f := mI (ma_put S1 64 11 (.inr (.inr (some 87))))) hL_S23 rfl
                have f463 := zG_s hI_S23 (0) (400000) (c := 80) (k := 3) (by decide)
                have x464 : (0 ≤ (mI S 81 3).toInt ∧ (mI S 81 3).toInt ≤ (mI S 81 2).toInt) ∧ ((mI S 82 3).toInt ≤ (mI S 82 7).toInt ∧ (mI S 82 7).toInt ≤ (mI S 82 3).toInt + (mI S 82 2).toInt) := zG_x hI
                have f465 := zG_s hI (0) (1500) (c := 81) (k := 2) (by decide)
                have q466 : (mI S1 81 2).toInt = (mI S 81 2).toInt := zG_zi (f := mI S) hL_S1 rfl
                have x467 : (0 ≤ (mI S1 81 3).toInt ∧ (mI S1 81 3).toInt ≤ (mI S1 81 2).toInt) ∧ ((mI S1 82 3).toInt ≤ (mI S1 82 7).toInt ∧ (mI S1 82 7).toInt ≤ (mI S1 82 3).toInt + (mI S1 82 2).toInt) := zG_x hI_S1
                have f468 := zG_s hI_S1 (0) (1500) (c := 81) (k := 2) (by decide)
                have q469 : (mI S23 81 2).toInt = (mI S1 81 2).toInt := zG_zi (f := mI (ma_put S1 64 11 (.inr (.inr (some 87))))) hL_S23 rfl
                have x470 : (0 ≤ (mI S23 81 3).toInt ∧ (mI S23 81 3).toInt ≤ (mI S23 81 2).toInt) ∧ ((mI S23 82 3).toInt ≤ (mI S23 82 7).toInt ∧ (mI S23 82 7).toInt ≤ (mI S23 82 3).toInt + (mI S23 82 2).toInt) := zG_x hI_S23
                have f471 := zG_s hI_S23 (0) (1500) (c := 81) (k := 2) (by decide)
                have f472 := zG_s hI (0) (1500) (c := 81) (k := 3) (by decide)
                have q473 : (mI S1 81 3).toInt = (mI S 81 3).toInt := zG_zi (f := mI S) hL_S1 rfl
                have f474 := zG_s hI_S1 (0) (1500) (c := 81) (k := 3) (by decide)
                have q475 : (mI S23 81 3).toInt = (mI S1 81 3).toInt := zG_zi (f := mI (ma_put S1 64 11 (.inr (.inr (some 87))))) hL_S23 rfl
                have f476 := zG_s hI_S23 (0) (1500) (c := 81) (k := 3) (by decide)
                have f477 := zG_s hI (0) (400000) (c := 81) (k := 4) (by decide)
                have q478 : (mI S1 81 4).toInt = (mI S 81 4).toInt := zG_zi (f := mI S) hL_S1 rfl
                have f479 := zG_s hI_S1 (0) (400000) (c := 81) (k := 4) (by decide)
                have q480 : (mI S23 81 4).toInt = (mI S1 81 4).toInt := zG_zi (f := mI (ma_put S1 64 11 (.inr (.inr (some 87))))) hL_S23 rfl
                have f481 := zG_s hI_S23 (0) (400000) (c := 81) (k := 4) (by decide)
                have f482 := zG_s hI (0) (1500) (c := 82) (k := 2) (by decide)
                have q483 : (mI S1 82 2).toInt = (mI S 82 2).toInt := zG_zi (f := mI S) hL_S1 rfl
                have f484 := zG_s hI_S1 (0) (1500) (c := 82) (k := 2) (by decide)
                have q485 : (mI S23 82 2).toInt = (mI S1 82 2).toInt := zG_zi (f := mI (ma_put S1 64 11 (.inr (.inr (some 87))))) hL_S23 rfl
                have f486 := zG_s hI_S23 (0) (1500) (c := 82) (k := 2) (by decide)
                have f487 := zG_s hI (0) (1500) (c := 82) (k := 3) (by decide)
                have q488 : (mI S1 82 3).toInt = (mI S 82 3).toInt := zG_zi (f := mI S) hL_S1 rfl
                have f489 := zG_s hI_S1 (0) (1500) (c := 82) (k := 3) (by decide)
                have q490 : (mI S23 82 3).toInt = (mI S1 82 3).toInt := zG_zi (f := mI (ma_put S1 64 11 (.inr (.inr (some 87))))) hL_S23 rfl
                have f491 := zG_s hI_S23 (0) (1500) (c := 82) (k := 3) (by decide)
                have b492 := i_bd (mI S 82 4)
                have q493 : (mI S1 82 4).toInt = (mI S 82 4).toInt := zG_zi (f := mI S) hL_S1 rfl
                have b494 := i_bd (mI S1 82 4)
                have q495 : (mI S23 82 4).toInt = (mI S1 82 4).toInt := zG_zi (f := mI (ma_put S1 64 11 (.inr (.inr (some 87))))) hL_S23 rfl
                have b496 := i_bd (mI S23 82 4)
                have b497 := i_bd (mI S 82 5)
                have q498 : (mI S1 82 5).toInt = (mI S 82 5).toInt := zG_zi (f := mI S) hL_S1 rfl
                have b499 := i_bd (mI S1 82 5)
                have q500 : (mI S23 82 5).toInt = (mI S1 82 5).toInt := zG_zi (f := mI (ma_put S1 64 11 (.inr (.inr (some 87))))) hL_S23 rfl
                have b501 := i_bd (mI S23 82 5)
                have f502 := zG_s hI (0) (400000) (c := 82) (k := 6) (by decide)
                have q503 : (mI S1 82 6).toInt = (mI S 82 6).toInt := zG_zi (f := mI S) hL_S1 rfl
                have f504 := zG_s hI_S1 (0) (400000) (c := 82) (k := 6) (by decide)
                have q505 : (mI S23 82 6).toInt = (mI S1 82 6).toInt := zG_zi (f := mI (ma_put S1 64 11 (.inr (.inr (some 87))))) hL_S23 rfl
                have f506 := zG_s hI_S23 (0) (400000) (c := 82) (k := 6) (by decide)
                have f507 := zG_s hI (0) (3000) (c := 82) (k := 7) (by decide)
                have q508 : (mI S1 82 7).toInt = (mI S 82 7).toInt := zG_zi (f := mI S) hL_S1 rfl
                have f509 := zG_s hI_S1 (0) (3000) (c := 82) (k := 7) (by decide)
                have q510 : (mI S23 82 7).toInt = (mI S1 82 7).toInt := zG_zi (f := mI (ma_put S1 64 11 (.inr (.inr (some 87))))) hL_S23 rfl
                have f511 := zG_s hI_S23 (0) (3000) (c := 82) (k := 7) (by decide)
                have f512 := zG_s hI (0) (400000) (c := 82) (k := 8) (by decide)
                have q513 : (mI S1 82 8).toInt = (mI S 82 8).toInt := zG_zi (f := mI S) hL_S1 rfl
                have f514 := zG_s hI_S1 (0) (400000) (c := 82) (k := 8) (by decide)
                have q515 : (mI S23 82 8).toInt = (mI S1 82 8).toInt := zG_zi (f := mI (ma_put S1 64 11 (.inr (.inr (some 87))))) hL_S23 rfl
                have f516 := zG_s hI_S23 (0) (400000) (c := 82) (k := 8) (by decide)
                have f517 := zG_s hI (0) (1500) (c := 91) (k := 2) (by decide)
                have q518 : (mI S1 91 2).toInt = (mI S 91 2).toInt := zG_zi (f := mI S) hL_S1 rfl
                have f519 := zG_s hI_S1 (0) (1500) (c := 91) (k := 2) (by decide)
                have q520 : (mI S23 91 2).toInt = (mI S1 91 2).toInt := zG_zi (f := mI (ma_put S1 64 11 (.inr (.inr (some 87))))) hL_S23 rfl
                have f521 := zG_s hI_S23 (0) (1500) (c := 91) (k := 2) (by decide)
                have f522 := zG_s hI (0) (93) (c := 91) (k := 3) (by decide)
                have q523 : (mI S1 91 3).toInt = (mI S 91 3).toInt := zG_zi (f := mI S) hL_S1 rfl
                have f524 := zG_s hI_S1 (0) (93) (c := 91) (k := 3) (by decide)
                have q525 : (mI S23 91 3).toInt = (mI S1 91 3).toInt := zG_zi (f := mI (ma_put S1 64 11 (.inr (.inr (some 87))))) hL_S23 rfl
                have f526 := zG_s hI_S23 (0) (93) (c := 91) (k := 3) (by decide)
                have b527 := i_bd (mI S 91 4)
                have q528 : (mI S1 91 4).toInt = (mI S 91 4).toInt := zG_zi (f := mI S) hL_S1 rfl
                have b529 := i_bd (mI S1 91 4)
                have q530 : (mI S23 91 4).toInt = (mI S1 91 4).toInt := zG_zi (f := mI (ma_put S1 64 11 (.inr (.inr (some 87))))) hL_S23 rfl
                have b531 := i_bd (mI S23 91 4)
                have f532 := zG_s hI (0) (92) (c := 91) (k := 5) (by decide)
                have q533 : (mI S1 91 5).toInt = (mI S 91 5).toInt := zG_zi (f := mI S) hL_S1 rfl
                have f534 := zG_s hI_S1 (0) (92) (c := 91) (k := 5) (by decide)
                have q535 : (mI S23 91 5).toInt = (mI S1 91 5).toInt := zG_zi (f := mI (ma_put S1 64 11 (.inr (.inr (some 87))))) hL_S23 rfl
                have f536 := zG_s hI_S23 (0) (92) (c := 91) (k := 5) (by decide)
                exact K (v26) _ (zrp r 87) (Or.inr ⟨87, by decide, rfl⟩) hI_S23 (show (mI S23 64 1).toInt = 0 from by omega) (show (zAns zt zn < 0 ∧ (zrp r 87) 64 11 = r 64 11 ∧ zFm J0 JL JR S23) ∨ (0 ≤ zAns zt zn ∧ ((qPo zt zn = 0 ∧ (zrp r 87) 64 11 = some 79 ∧ xB S23 (mR S23 70) ∧ aS 88 S23 = aFg a8 ∧ zfP 79 (mI S23) 2 = 0 ∧ (zfP 79 (mI S23) 0).toInt = zVal zt zn 0 1 ∧ (zfP 79 (mI S23) 1).toInt = zVal zt zn 6 2) ∨ (qPo zt zn = 4 ∧ (zrp r 87) 64 11 = some 84 ∧ xB S23 (mR S23 70) ∧ aS 88 S23 = aFg a8 ∧ zfP 84 (mI S23) 2 = 0 ∧ (zfP 84 (mI S23) 0).toInt = zVal zt zn 0 1 ∧ (zfP 84 (mI S23) 1).toInt = zVal zt zn 6 2) ∨ (qPo zt zn = 5 ∧ (zrp r 87) 64 11 = some 87 ∧ xB S23 (mR S23 70) ∧ ∃ t : Nat → Int32, aS 88 S23 = aO2 (aFg a8) t ∧ (t 0).toInt = zVal zt zn 0 1 ∧ (t 1).toInt = zVal zt zn 6 2 ∧ (t 2).toInt = zVal zt zn 3 3 ∧ (t 3).toInt = zVal zt zn 7 4) ∨ (qPo zt zn = 1 ∧ (zrp r 87) 64 11 = some 80 ∧ xB S23 (mR S23 70) ∧ aS 88 S23 = aFg a8 ∧ ((mI S23 80 2)).toInt = zVal zt zn 0 1 ∧ (mI S23 80 3) = 0) ∨ (qPo zt zn = 2 ∧ (zrp r 87) 64 11 = some 81 ∧ xB S23 (mR S23 70) ∧ aS 88 S23 = aFg a8 ∧ ((mI S23 81 2)).toInt = zVal zt zn 0 1 ∧ (mI S23 81 3) = 0 ∧ (mI S23 81 4) = 0) ∨ (qPo zt zn = 3 ∧ (zrp r 87) 64 11 = some 82 ∧ xB S23 (mR S23 70) ∧ aS 88 S23 = aFg a8 ∧ ((mI S23 82 2)).toInt = zVal zt zn 0 1 ∧ ((mI S23 82 3)).toInt = zVal zt zn 0 2 ∧ ((mI S23 82 4)).toInt = zVal zt zn 1 3 ∧ ((mI S23 82 5)).toInt = zVal zt zn 2 4 ∧ (mI S23 82 6) = 0 ∧ ((mI S23 82 7)).toInt = zVal zt zn 0 2 ∧ ((mI S23 82 8)).toInt = zVal zt zn 0 2 ∧ ∀ k : Nat, k < 375 → (mI S23 83) k = 0) ∨ (qPo zt zn = 6 ∧ (zrp r 87) 64 11 = some 91 ∧ xB S23 (mR S23 70) ∧ aS 88 S23 = aFg a8 ∧ ((mI S23 91 2)).toInt = zV4 zt zn ∧ ((mI S23 91 3)).toInt = zVal zt zn 0 1 / zV4 zt zn ∧ ((mI S23 91 4)).toInt = zVal zt zn 5 3 ∧ (mI S23 91 5) = 0 ∧ ∀ k : Nat, k < 93 → (mI S23 92) k = 0))) from by first | (exact Or.inr ⟨hi5.1, Or.inr (Or.inr (Or.inl (⟨by have h := hi5.2.1; omega, rfl, rp0_S23, (mI S 66), rp1_S23.trans (by rw [aS_64, rp1_S1, hi4]; exact congrArg (aO2 (aFg a8)) (show mI S1 66 = mI S 66 from funext (fun _ => zG_z hL_S1 rfl))), hi5.2.2 (by omega)⟩)))⟩)) (show (mI S23 67) = k67 ∧ (mI S23 68) = k68 from by first | (exact ⟨((show mI S23 67 = mI (ma_put S1 64 11 (.inr (.inr (some 87)))) 67 from funext (fun _ => zG_z hL_S23 rfl)).trans ((show mI S1 67 = mI S 67 from funext (fun _ => zG_z hL_S1 rfl)).trans hi10.1)), ((show mI S23 68 = mI (ma_put S1 64 11 (.inr (.inr (some 87)))) 68 from funext (fun _ => zG_z hL_S23 rfl)).trans ((show mI S1 68 = mI S 68 from funext (fun _ => zG_z hL_S1 rfl)).trans hi10.2))⟩))
              · skip
                have g537 := i_ne h441
                have li538 : (6 : Int32).toInt = 6 := rfl
                refine zd (fun h539 => ?_) (fun h539 => ?_)
                · skip
                  have g540 := i_eq h539
                  have hI541 : zA f (zrp r 91) C Z N (ma_put S1 64 11 (.inr (.inr (some 91)))) := zG_pres hI_S1 (by decide)
                  have q542 : (mI S1 66 0).toInt = (mI S 66 0).toInt := zG_zi (f := mI S) hL_S1 rfl
                  have f543 := zG_a hI_S1 4 (-1) (1500) (c := 66) (k := 0) (by decide) (by decide)
                  have q544 : (mI S1 66 1).toInt = (mI S 66 1).toInt := zG_zi (f := mI S) hL_S1 rfl
                  have f545 := zG_a hI_S1 4 (-1) (1500) (c := 66) (k := 1) (by decide) (by decide)
                  refine sp_38_91_66_sn (ab := (aS 88 (ma_put S1 64 11 (.inr (.inr (some 91)))))) (by omega) (by omega) (zA_dn_zL91 hI541) (show 0 ≤ (mI S1 66 0).toInt ∧ (mI S1 66 0).toInt ≤ 1500 ∧ 16 ≤ (mI S1 66 1).toInt ∧ (mI S1 66 1).toInt ≤ 1500 from by omega) (show xB (ma_put S1 64 11 (.inr (.inr (some 91)))) (mR (ma_put S1 64 11 (.inr (.inr (some 91)))) 70) from by first | (exact xB_64 rp0_S1)) (show aS 88 (ma_put S1 64 11 (.inr (.inr (some 91)))) = (aS 88 (ma_put S1 64 11 (.inr (.inr (some 91))))) from by first | (exact rfl)) (fun S27 hL_S27 rp0_S27 rp1_S27 rp2_S27 => zv_n ⟨zG_T hL_S27, ?_⟩)
                  have hI_S27 := zA_up_zL91 hI541 hL_S27
                  have rp0_S27 : xB S27 (mR S27 70) := by
                    have z := rp0_S27
                    (try rw [show mI (ma_put S1 64 11 (.inr (.inr (some 91)))) 65 = f 65 from funext (fun k => zG_z hI541 rfl)] at z)
                    (try rw [show mI (ma_put S1 64 11 (.inr (.inr (some 91)))) 64 1 = f 64 1 from zG_z hI541 rfl] at z)
                    exact z
                  have rp1_S27 : aS 88 S27 = (aS 88 (ma_put S1 64 11 (.inr (.inr (some 91))))) := by
                    have z := rp1_S27
                    (try rw [show mI (ma_put S1 64 11 (.inr (.inr (some 91)))) 65 = f 65 from funext (fun k => zG_z hI541 rfl)] at z)
                    (try rw [show mI (ma_put S1 64 11 (.inr (.inr (some 91)))) 64 1 = f 64 1 from zG_z hI541 rfl] at z)
                    exact z
                  have f546 := zG_s hI_S27 (0) (1500) (c := 91) (k := 2) (by decide)
                  have f547 := zG_s hI_S27 (0) (93) (c := 91) (k := 3) (by decide)
                  have b548 := i_bd (mI S27 91 4)
                  have f549 := zG_s hI_S27 (0) (92) (c := 91) (k := 5) (by decide)
                  have rp2_S27 : (mI S27 91 2) = (mI (ma_put S1 64 11 (.inr (.inr (some 91)))) 66) 1 ∧ (mI S27 91 3).toInt = (mI S1 66 0).toInt / (mI S1 66 1).toInt ∧ (mI S27 91 4) = (mI (ma_put S1 64 11 (.inr (.inr (some 91)))) 66) 2 ∧ (mI S27 91 5) = 0 ∧ ∀ k : Nat, k < 93 → (mI S27 92) k = 0 := by
                    have z := rp2_S27
                    (try rw [show mI (ma_put S1 64 11 (.inr (.inr (some 91)))) 65 = f 65 from funext (fun k => zG_z hI541 rfl)] at z)
                    (try rw [show mI (ma_put S1 64 11 (.inr (.inr (some 91)))) 64 1 = f 64 1 from zG_z hI541 rfl] at z)
                    exact z
                  refine ⟨((zG_r hI_S27 (by decide)).trans rfl), ?_⟩
                  refine sp_39_91_sn  (by omega) (by omega) (zA_dn_zL91 hI_S27)  (fun v30 S29 eS_S29 hp_v30 => zi_n ⟨(by rw [eS_S29]; exact zG_T hI_S27), ?_⟩)
                  replace eS_S29 := eS_S29.symm; subst eS_S29
                  have b550 := i_bd v30
                  have f551 := zG_s hI (0) (100) (c := 64) (k := 1) (by decide)
                  have q552 : (mI S1 64 1).toInt = (mI S 64 1).toInt := zG_zi (f := mI S) hL_S1 rfl
                  have f553 := zG_s hI_S1 (0) (100) (c := 64) (k := 1) (by decide)
                  have q554 : (mI S27 64 1).toInt = (mI S1 64 1).toInt := zG_zi (f := mI (ma_put S1 64 11 (.inr (.inr (some 91))))) hL_S27 rfl
                  have f555 := zG_s hI_S27 (0) (100) (c := 64) (k := 1) (by decide)
                  have f556 := zG_s hI (0) (1500) (c := 80) (k := 2) (by decide)
                  have q557 : (mI S1 80 2).toInt = (mI S 80 2).toInt := zG_zi (f := mI S) hL_S1 rfl
                  have f558 := zG_s hI_S1 (0) (1500) (c := 80) (k := 2) (by decide)
                  have q559 : (mI S27 80 2).toInt = (mI S1 80 2).toInt := zG_zi (f := mI (ma_put S1 64 11 (.inr (.inr (some 91))))) hL_S27 rfl
                  have f560 := zG_s hI_S27 (0) (1500) (c := 80) (k := 2) (by decide)
                  have f561 := zG_s hI (0) (400000) (c := 80) (k := 3) (by decide)
                  have q562 : (mI S1 80 3).toInt = (mI S 80 3).toInt := zG_zi (f := mI S) hL_S1 rfl
                  have f563 := zG_s hI_S1 (0) (400000) (c := 80) (k := 3) (by decide)
                  have q564 : (mI S27 80 3).toInt = (mI S1 80 3).toInt := zG_zi (f := mI (ma_put S1 64 11 (.inr (.inr (some 91))))) hL_S27 rfl
                  have f565 := zG_s hI_S27 (0) (400000) (c := 80) (k := 3) (by decide)
                  have x566 : (0 ≤ (mI S 81 3).toInt ∧ (mI S 81 3).toInt ≤ (mI S 81 2).toInt) ∧ ((mI S 82 3).toInt ≤ (mI S 82 7).toInt ∧ (mI S 82 7).toInt ≤ (mI S 82 3).toInt + (mI S 82 2).toInt) := zG_x hI
                  have f567 := zG_s hI (0) (1500) (c := 81) (k := 2) (by decide)
                  have q568 : (mI S1 81 2).toInt = (mI S 81 2).toInt := zG_zi (f := mI S) hL_S1 rfl
                  have x569 : (0 ≤ (mI S1 81 3).toInt ∧ (mI S1 81 3).toInt ≤ (mI S1 81 2).toInt) ∧ ((mI S1 82 3).toInt ≤ (mI S1 82 7).toInt ∧ (mI S1 82 7).toInt ≤ (mI S1 82 3).toInt + (mI S1 82 2).toInt) := zG_x hI_S1
                  have f570 := zG_s hI_S1 (0) (1500) (c := 81) (k := 2) (by decide)
                  have q571 : (mI S27 81 2).toInt = (mI S1 81 2).toInt := zG_zi (f := mI (ma_put S1 64 11 (.inr (.inr (some 91))))) hL_S27 rfl
                  have x572 : (0 ≤ (mI S27 81 3).toInt ∧ (mI S27 81 3).toInt ≤ (mI S27 81 2).toInt) ∧ ((mI S27 82 3).toInt ≤ (mI S27 82 7).toInt ∧ (mI S27 82 7).toInt ≤ (mI S27 82 3).toInt + (mI S27 82 2).toInt) := zG_x hI_S27
                  have f573 := zG_s hI_S27 (0) (1500) (c := 81) (k := 2) (by decide)
                  have f574 := zG_s hI (0) (1500) (c := 81) (k := 3) (by decide)
                  have q575 : (mI S1 81 3).toInt = (mI S 81 3).toInt := zG_zi (f := mI S) hL_S1 rfl
                  have f576 := zG_s hI_S1 (0) (1500) (c := 81) (k := 3) (by decide)
                  have q577 : (mI S27 81 3).toInt = (mI S1 81 3).toInt := zG_zi (f := mI (ma_put S1 64 11 (.inr (.inr (some 91))))) hL_S27 rfl
                  have f578 := zG_s hI_S27 (0) (1500) (c := 81) (k := 3) (by decide)
                  have f579 := zG_s hI (0) (400000) (c := 81) (k := 4) (by decide)
                  have q580 : (mI S1 81 4).toInt = (mI S 81 4).toInt := zG_zi (f := mI S) hL_S1 rfl
                  have f581 := zG_s hI_S1 (0) (400000) (c := 81) (k := 4) (by decide)
                  have q582 : (mI S27 81 4).toInt = (mI S1 81 4).toInt := zG_zi (f := mI (ma_put S1 64 11 (.inr (.inr (some 91))))) hL_S27 rfl
                  have f583 := zG_s hI_S27 (0) (400000) (c := 81) (k := 4) (by decide)
                  have f584 := zG_s hI (0) (1500) (c := 82) (k := 2) (by decide)
                  have q585 : (mI S1 82 2).toInt = (mI S 82 2).toInt := zG_zi (f := mI S) hL_S1 rfl
                  have f586 := zG_s hI_S1 (0) (1500) (c := 82) (k := 2) (by decide)
                  have q587 : (mI S27 82 2).toInt = (mI S1 82 2).toInt := zG_zi (f := mI (ma_put S1 64 11 (.inr (.inr (some 91))))) hL_S27 rfl
                  have f588 := zG_s hI_S27 (0) (1500) (c := 82) (k := 2) (by decide)
                  have f589 := zG_s hI (0) (1500) (c := 82) (k := 3) (by decide)
                  have q590 : (mI S1 82 3).toInt = (mI S 82 3).toInt := zG_zi (f := mI S) hL_S1 rfl
                  have f591 := zG_s hI_S1 (0) (1500) (c := 82) (k := 3) (by decide)
                  have q592 : (mI S27 82 3).toInt = (mI S1 82 3).toInt := zG_zi (f := mI (ma_put S1 64 11 (.inr (.inr (some 91))))) hL_S27 rfl
                  have f593 := zG_s hI_S27 (0) (1500) (c := 82) (k := 3) (by decide)
                  have b594 := i_bd (mI S 82 4)
                  have q595 : (mI S1 82 4).toInt = (mI S 82 4).toInt := zG_zi (f := mI S) hL_S1 rfl
                  have b596 := i_bd (mI S1 82 4)
                  have q597 : (mI S27 82 4).toInt = (mI S1 82 4).toInt := zG_zi (f := mI (ma_put S1 64 11 (.inr (.inr (some 91))))) hL_S27 rfl
                  have b598 := i_bd (mI S27 82 4)
                  have b599 := i_bd (mI S 82 5)
                  have q600 : (mI S1 82 5).toInt = (mI S 82 5).toInt := zG_zi (f := mI S) hL_S1 rfl
                  have b601 := i_bd (mI S1 82 5)
                  have q602 : (mI S27 82 5).toInt = (mI S1 82 5).toInt := zG_zi (f := mI (ma_put S1 64 11 (.inr (.inr (some 91))))) hL_S27 rfl
                  have b603 := i_bd (mI S27 82 5)
                  have f604 := zG_s hI (0) (400000) (c := 82) (k := 6) (by decide)
                  have q605 : (mI S1 82 6).toInt = (mI S 82 6).toInt := zG_zi (f := mI S) hL_S1 rfl
                  have f606 := zG_s hI_S1 (0) (400000) (c := 82) (k := 6) (by decide)
                  have q607 : (mI S27 82 6).toInt = (mI S1 82 6).toInt := zG_zi (f := mI (ma_put S1 64 11 (.inr (.inr (some 91))))) hL_S27 rfl
                  have f608 := zG_s hI_S27 (0) (400000) (c := 82) (k := 6) (by decide)
                  have f609 := zG_s hI (0) (3000) (c := 82) (k := 7) (by decide)
                  have q610 : (mI S1 82 7).toInt = (mI S 82 7).toInt := zG_zi (f := mI S) hL_S1 rfl
                  have f611 := zG_s hI_S1 (0) (3000) (c := 82) (k := 7) (by decide)
                  have q612 : (mI S27 82 7).toInt = (mI S1 82 7).toInt := zG_zi (f := mI (ma_put S1 64 11 (.inr (.inr (some 91))))) hL_S27 rfl
                  have f613 := zG_s hI_S27 (0) (3000) (c := 82) (k := 7) (by decide)
                  have f614 := zG_s hI (0) (400000) (c := 82) (k := 8) (by decide)
                  have q615 : (mI S1 82 8).toInt = (mI S 82 8).toInt := zG_zi (f := mI S) hL_S1 rfl
                  have f616 := zG_s hI_S1 (0) (400000) (c := 82) (k := 8) (by decide)
                  have q617 : (mI S27 82 8).toInt = (mI S1 82 8).toInt := zG_zi (f := mI (ma_put S1 64 11 (.inr (.inr (some 91))))) hL_S27 rfl
                  have f618 := zG_s hI_S27 (0) (400000) (c := 82) (k := 8) (by decide)
                  exact K (v30) _ (zrp r 91) (Or.inr ⟨91, by decide, rfl⟩) hI_S27 (show (mI S27 64 1).toInt = 0 from by omega) (show (zAns zt zn < 0 ∧ (zrp r 91) 64 11 = r 64 11 ∧ zFm J0 JL JR S27) ∨ (0 ≤ zAns zt zn ∧ ((qPo zt zn = 0 ∧ (zrp r 91) 64 11 = some 79 ∧ xB S27 (mR S27 70) ∧ aS 88 S27 = aFg a8 ∧ zfP 79 (mI S27) 2 = 0 ∧ (zfP 79 (mI S27) 0).toInt = zVal zt zn 0 1 ∧ (zfP 79 (mI S27) 1).toInt = zVal zt zn 6 2) ∨ (qPo zt zn = 4 ∧ (zrp r 91) 64 11 = some 84 ∧ xB S27 (mR S27 70) ∧ aS 88 S27 = aFg a8 ∧ zfP 84 (mI S27) 2 = 0 ∧ (zfP 84 (mI S27) 0).toInt = zVal zt zn 0 1 ∧ (zfP 84 (mI S27) 1).toInt = zVal zt zn 6 2) ∨ (qPo zt zn = 5 ∧ (zrp r 91) 64 11 = some 87 ∧ xB S27 (mR S27 70) ∧ ∃ t : Nat → Int32, aS 88 S27 = aO2 (aFg a8) t ∧ (t 0).toInt = zVal zt zn 0 1 ∧ (t 1).toInt = zVal zt zn 6 2 ∧ (t 2).toInt = zVal zt zn 3 3 ∧ (t 3).toInt = zVal zt zn 7 4) ∨ (qPo zt zn = 1 ∧ (zrp r 91) 64 11 = some 80 ∧ xB S27 (mR S27 70) ∧ aS 88 S27 = aFg a8 ∧ ((mI S27 80 2)).toInt = zVal zt zn 0 1 ∧ (mI S27 80 3) = 0) ∨ (qPo zt zn = 2 ∧ (zrp r 91) 64 11 = some 81 ∧ xB S27 (mR S27 70) ∧ aS 88 S27 = aFg a8 ∧ ((mI S27 81 2)).toInt = zVal zt zn 0 1 ∧ (mI S27 81 3) = 0 ∧ (mI S27 81 4) = 0) ∨ (qPo zt zn = 3 ∧ (zrp r 91) 64 11 = some 82 ∧ xB S27 (mR S27 70) ∧ aS 88 S27 = aFg a8 ∧ ((mI S27 82 2)).toInt = zVal zt zn 0 1 ∧ ((mI S27 82 3)).toInt = zVal zt zn 0 2 ∧ ((mI S27 82 4)).toInt = zVal zt zn 1 3 ∧ ((mI S27 82 5)).toInt = zVal zt zn 2 4 ∧ (mI S27 82 6) = 0 ∧ ((mI S27 82 7)).toInt = zVal zt zn 0 2 ∧ ((mI S27 82 8)).toInt = zVal zt zn 0 2 ∧ ∀ k : Nat, k < 375 → (mI S27 83) k = 0) ∨ (qPo zt zn = 6 ∧ (zrp r 91) 64 11 = some 91 ∧ xB S27 (mR S27 70) ∧ aS 88 S27 = aFg a8 ∧ ((mI S27 91 2)).toInt = zV4 zt zn ∧ ((mI S27 91 3)).toInt = zVal zt zn 0 1 / zV4 zt zn ∧ ((mI S27 91 4)).toInt = zVal zt zn 5 3 ∧ (mI S27 91 5) = 0 ∧ ∀ k : Nat, k < 93 → (mI S27 92) k = 0))) from by first | (have hk := hi9 (by omega); have o := rp2_S27; exact Or.inr ⟨hi5.1, Or.inr (Or.inr (Or.inr (Or.inr (Or.inr (Or.inr (⟨by have h := hi5.2.1; omega, rfl, rp0_S27, rp1_S27.trans (by rw [aS_64, rp1_S1, hi4]), (by rw [o.1.trans (congrFun (show mI S1 66 = mI S 66 from funext (fun _ => zG_z hL_S1 rfl)) 1)]; exact hk.2.1), (by rw [o.2.1, congrFun (show mI S1 66 = mI S 66 from funext (fun _ => zG_z hL_S1 rfl)) 0, congrFun (show mI S1 66 = mI S 66 from funext (fun _ => zG_z hL_S1 rfl)) 1, hk.1, hk.2.1]), (by rw [o.2.2.1.trans (congrFun (show mI S1 66 = mI S 66 from funext (fun _ => zG_z hL_S1 rfl)) 2)]; exact hk.2.2), o.2.2.2.1, o.2.2.2.2⟩))))))⟩)) (show (mI S27 67) = k67 ∧ (mI S27 68) = k68 from by first | (exact ⟨((show mI S27 67 = mI (ma_put S1 64 11 (.inr (.inr (some 91)))) 67 from funext (fun _ => zG_z hL_S27 rfl)).trans ((show mI S1 67 = mI S 67 from funext (fun _ => zG_z hL_S1 rfl)).trans hi10.1)), ((show mI S27 68 = mI (ma_put S1 64 11 (.inr (.inr (some 91)))) 68 from funext (fun _ => zG_z hL_S27 rfl)).trans ((show mI S1 68 = mI S 68 from funext (fun _ => zG_z hL_S1 rfl)).trans hi10.2))⟩))
                · skip
                  have g619 := i_ne h539
                  exact (by omega : False)
theorem sp_127_64_sn {X : Nat × (Nat → Int32)} {d w : Nat} {f : Nat → Nat → Int32} {r : Nat → Nat → Option Nat} {C Z N : Nat} {Q : Option ma_V ⊕ Nat → ma_S → Prop} {zt : Nat→Int32} {zn : Int} {a8 : Nat→Nat→Int32} {J0 : Nat→Nat→Int32} {JL : Nat→Nat→Int64} {JR : zRT} {k67 : Nat→Int32} {k68 : Nat→Int32} {S : ma_S}  (hd : 9 ≤ d) (hw : 186 ≤ w) (hI : zA f r C Z N S) (hpre0 : (mI S 65) = zt) (hpre1 : (mI S 64 1).toInt = zn) (hpre2 : aS 88 S = a8) (hpre3 : zFm J0 JL JR S) (hpre4 : (mI S 67) = k67 ∧ (mI S 68) = k68) (K : ∀ v S₉ r₉, (r₉ = r ∨ ∃ p, p ∈ zcl7 ∧ r₉ = zrp r p) → zA f r₉ C Z N S₉ → ((mI S₉ 64 1).toInt = 0) → ((zAns zt zn < 0 ∧ r₉ 64 11 = r 64 11 ∧ zFm J0 JL JR S₉) ∨ (0 ≤ zAns zt zn ∧ ((qPo zt zn = 0 ∧ r₉ 64 11 = some 79 ∧ xB S₉ (mR S₉ 70) ∧ aS 88 S₉ = aFg a8 ∧ zfP 79 (mI S₉) 2 = 0 ∧ (zfP 79 (mI S₉) 0).toInt = zVal zt zn 0 1 ∧ (zfP 79 (mI S₉) 1).toInt = zVal zt zn 6 2) ∨ (qPo zt zn = 4 ∧ r₉ 64 11 = some 84 ∧ xB S₉ (mR S₉ 70) ∧ aS 88 S₉ = aFg a8 ∧ zfP 84 (mI S₉) 2 = 0 ∧ (zfP 84 (mI S₉) 0).toInt = zVal zt zn 0 1 ∧ (zfP 84 (mI S₉) 1).toInt = zVal zt zn 6 2) ∨ (qPo zt zn = 5 ∧ r₉ 64 11 = some 87 ∧ xB S₉ (mR S₉ 70) ∧ ∃ t : Nat → Int32, aS 88 S₉ = aO2 (aFg a8) t ∧ (t 0).toInt = zVal zt zn 0 1 ∧ (t 1).toInt = zVal zt zn 6 2 ∧ (t 2).toInt = zVal zt zn 3 3 ∧ (t 3).toInt = zVal zt zn 7 4) ∨ (qPo zt zn = 1 ∧ r₉ 64 11 = some 80 ∧ xB S₉ (mR S₉ 70) ∧ aS 88 S₉ = aFg a8 ∧ ((mI S₉ 80 2)).toInt = zVal zt zn 0 1 ∧ (mI S₉ 80 3) = 0) ∨ (qPo zt zn = 2 ∧ r₉ 64 11 = some 81 ∧ xB S₉ (mR S₉ 70) ∧ aS 88 S₉ = aFg a8 ∧ ((mI S₉ 81 2)).toInt = zVal zt zn 0 1 ∧ (mI S₉ 81 3) = 0 ∧ (mI S₉ 81 4) = 0) ∨ (qPo zt zn = 3 ∧ r₉ 64 11 = some 82 ∧ xB S₉ (mR S₉ 70) ∧ aS 88 S₉ = aFg a8 ∧ ((mI S₉ 82 2)).toInt = zVal zt zn 0 1 ∧ ((mI S₉ 82 3)).toInt = zVal zt zn 0 2 ∧ ((mI S₉ 82 4)).toInt = zVal zt zn 1 3 ∧ ((mI S₉ 82 5)).toInt = zVal zt zn 2 4 ∧ (mI S₉ 82 6) = 0 ∧ ((mI S₉ 82 7)).toInt = zVal zt zn 0 2 ∧ ((mI S₉ 82 8)).toInt = zVal zt zn 0 2 ∧ ∀ k : Nat, k < 375 → (mI S₉ 83) k = 0) ∨ (qPo zt zn = 6 ∧ r₉ 64 11 = some 91 ∧ xB S₉ (mR S₉ 70) ∧ aS 88 S₉ = aFg a8 ∧ ((mI S₉ 91 2)).toInt = zV4 zt zn ∧ ((mI S₉ 91 3)).toInt = zVal zt zn 0 1 / zV4 zt zn ∧ ((mI S₉ 91 4)).toInt = zVal zt zn 5 3 ∧ (mI S₉ 91 5) = 0 ∧ ∀ k : Nat, k < 93 → (mI S₉ 92) k = 0)))) → ((mI S₉ 67) = k67 ∧ (mI S₉ 68) = k68) → Q (.inl (some (.inl v))) S₉) : ma_wp X d w 127 0 [(0, .inr (.inr (some 64)))] [] S Q := by
  refine g_127_64_sn_0  (by omega) (by omega) (zG_T hI) ?_
  refine sp_128_64_sn (I0 := (mI S)) (L0 := (mL S)) (R0 := (mR S 70)) (by omega) (by omega) (zA_dn_zR hI) (show zFm (mI S) (mL S) (mR S 70) S from by first | (exact fn9_0)) (fun v2 S1 hL_S1 hp_v2 rp0_S1 rp1_S1 rp2_S1 rp3_S1 rp4_S1 rp5_S1 rp6_S1 rp7_S1 => zi_n ⟨zG_T hL_S1, ?_⟩)
  have hI_S1 := zA_up_zR hI hL_S1
  have f1 := zG_s hI_S1 (0) (100) (c := 64) (k := 2) (by decide)
  have f2 := zG_s hI (0) (100) (c := 64) (k := 1) (by decide)
  have f3 := zG_a hI_S1 4 (-1) (1500) (c := 66) (k := 0) (by decide) (by decide)
  have f4 := zG_a hI_S1 4 (-1) (1500) (c := 66) (k := 1) (by decide) (by decide)
  have rp0_S1 : (v2.toInt = -1 ∧ -1 - (mI S1 64 2).toInt = zAns (mI S 65) (mI S 64 1).toInt) ∨ (v2.toInt ≠ -1 ∧ zFin v2.toInt (mI S1 66 0).toInt (mI S1 66 1).toInt = zAns (mI S 65) (mI S 64 1).toInt) := by
    have z := rp0_S1
    (try rw [show mI S 65 = f 65 from funext (fun k => zG_z hI rfl)] at z)
    (try rw [show mI S 64 1 = f 64 1 from zG_z hI rfl] at z)
    exact z
  have f5 := zG_a hI_S1 4 (-1) (1500) (c := 66) (k := 2) (by decide) (by decide)
  have f6 := zG_a hI_S1 4 (-1) (1500) (c := 66) (k := 3) (by decide) (by decide)
  have rp1_S1 : v2.toInt = 5 → ((mI S1 66 0).toInt = zVal (mI S 65) (mI S 64 1).toInt 0 1 ∧ (mI S1 66 1).toInt = zVal (mI S 65) (mI S 64 1).toInt 6 2 ∧ (mI S1 66 2).toInt = zVal (mI S 65) (mI S 64 1).toInt 3 3 ∧ (mI S1 66 3).toInt = zVal (mI S 65) (mI S 64 1).toInt 7 4) := by
    have z := rp1_S1
    (try rw [show mI S 65 = f 65 from funext (fun k => zG_z hI rfl)] at z)
    (try rw [show mI S 64 1 = f 64 1 from zG_z hI rfl] at z)
    exact z
  have rp2_S1 : (v2.toInt = 0 ∨ v2.toInt = 4) → ((mI S1 66 0).toInt = zVal (mI S 65) (mI S 64 1).toInt 0 1 ∧ (mI S1 66 1).toInt = zVal (mI S 65) (mI S 64 1).toInt 6 2) := by
    have z := rp2_S1
    (try rw [show mI S 65 = f 65 from funext (fun k => zG_z hI rfl)] at z)
    (try rw [show mI S 64 1 = f 64 1 from zG_z hI rfl] at z)
    exact z
  have rp3_S1 : qM1 v2 (mI S1 66 0) (mI S 65) (mI S 64 1).toInt := by
    have z := rp3_S1
    (try rw [show mI S 65 = f 65 from funext (fun k => zG_z hI rfl)] at z)
    (try rw [show mI S 64 1 = f 64 1 from zG_z hI rfl] at z)
    exact z
  have rp4_S1 : qM3 v2 (mI S1 66 0) (mI S1 66 1) (mI S1 66 2) (mI S1 66 3) (mI S 65) (mI S 64 1).toInt := by
    have z := rp4_S1
    (try rw [show mI S 65 = f 65 from funext (fun k => zG_z hI rfl)] at z)
    (try rw [show mI S 64 1 = f 64 1 from zG_z hI rfl] at z)
    exact z
  have rp5_S1 : qM6 v2 (mI S1 66 0) (mI S1 66 1) (mI S1 66 2) (mI S 65) (mI S 64 1).toInt := by
    have z := rp5_S1
    (try rw [show mI S 65 = f 65 from funext (fun k => zG_z hI rfl)] at z)
    (try rw [show mI S 64 1 = f 64 1 from zG_z hI rfl] at z)
    exact z
  have rp6_S1 : v2.toInt = -1 ∨ v2.toInt = zPol (mI S 65) (Int32.ofInt (zts (mI S 65) (mI S 64 1).toInt 0)) (zte (mI S 65) (mI S 64 1).toInt 0 - zts (mI S 65) (mI S 64 1).toInt 0) := by
    have z := rp6_S1
    (try rw [show mI S 65 = f 65 from funext (fun k => zG_z hI rfl)] at z)
    (try rw [show mI S 64 1 = f 64 1 from zG_z hI rfl] at z)
    exact z
  have rp7_S1 : zFm (mI S) (mL S) (mR S 70) S1 := by
    have z := rp7_S1
    (try rw [show mI S 65 = f 65 from funext (fun k => zG_z hI rfl)] at z)
    (try rw [show mI S 64 1 = f 64 1 from zG_z hI rfl] at z)
    exact z
  have b7 := i_bd v2
  have li8 : (0 : Int32).toInt = 0 := rfl
  refine zd (fun h9 => ?_) (fun h9 => ?_)
  · skip
    have g10 := i_lt h9
    have hI11 : zA f r C Z N (ma_put S1 64 1 (.inl (0 : Int32))) := zG_sp hI_S1 (0) (100) rfl (by decide) (by decide) (by decide) (show zA_x (mI S1) from zG_x hI_S1) (by omega) (by omega)
    have li12 : (-1 : Int32).toInt = -1 := rfl
    first | have e13 : ((-1 : Int32) - (mI S1 64 2)).toInt = (-1 : Int32).toInt - (mI S1 64 2).toInt := i_sub (by omega) (by omega) | have b14 := i_bd ((-1 : Int32) - (mI S1 64 2))
    have f15 := zG_s hI (0) (1500) (c := 80) (k := 2) (by decide)
    have q16 : (mI S1 80 2).toInt = (mI S 80 2).toInt := zG_zi (f := mI S) hL_S1 rfl
    have f17 := zG_s hI_S1 (0) (1500) (c := 80) (k := 2) (by decide)
    have f18 := zG_s hI (0) (400000) (c := 80) (k := 3) (by decide)
    have q19 : (mI S1 80 3).toInt = (mI S 80 3).toInt := zG_zi (f := mI S) hL_S1 rfl
    have f20 := zG_s hI_S1 (0) (400000) (c := 80) (k := 3) (by decide)
    have x21 : (0 ≤ (mI S 81 3).toInt ∧ (mI S 81 3).toInt ≤ (mI S 81 2).toInt) ∧ ((mI S 82 3).toInt ≤ (mI S 82 7).toInt ∧ (mI S 82 7).toInt ≤ (mI S 82 3).toInt + (mI S 82 2).toInt) := zG_x hI
    have f22 := zG_s hI (0) (1500) (c := 81) (k := 2) (by decide)
    have q23 : (mI S1 81 2).toInt = (mI S 81 2).toInt := zG_zi (f := mI S) hL_S1 rfl
    have x24 : (0 ≤ (mI S1 81 3).toInt ∧ (mI S1 81 3).toInt ≤ (mI S1 81 2).toInt) ∧ ((mI S1 82 3).toInt ≤ (mI S1 82 7).toInt ∧ (mI S1 82 7).toInt ≤ (mI S1 82 3).toInt + (mI S1 82 2).toInt) := zG_x hI_S1
    have f25 := zG_s hI_S1 (0) (1500) (c := 81) (k := 2) (by decide)
    have f26 := zG_s hI (0) (1500) (c := 81) (k := 3) (by decide)
    have q27 : (mI S1 81 3).toInt = (mI S 81 3).toInt := zG_zi (f := mI S) hL_S1 rfl
    have f28 := zG_s hI_S1 (0) (1500) (c := 81) (k := 3) (by decide)
    have f29 := zG_s hI (0) (400000) (c := 81) (k := 4) (by decide)
    have q30 : (mI S1 81 4).toInt = (mI S 81 4).toInt := zG_zi (f := mI S) hL_S1 rfl
    have f31 := zG_s hI_S1 (0) (400000) (c := 81) (k := 4) (by decide)
    have f32 := zG_s hI (0) (1500) (c := 82) (k := 2) (by decide)
    have q33 : (mI S1 82 2).toInt = (mI S 82 2).toInt := zG_zi (f := mI S) hL_S1 rfl
    have f34 := zG_s hI_S1 (0) (1500) (c := 82) (k := 2) (by decide)
    have f35 := zG_s hI (0) (1500) (c := 82) (k := 3) (by decide)
    have q36 : (mI S1 82 3).toInt = (mI S 82 3).toInt := zG_zi (f := mI S) hL_S1 rfl
    have f37 := zG_s hI_S1 (0) (1500) (c := 82) (k := 3) (by decide)
    have b38 := i_bd (mI S 82 4)
    have q39 : (mI S1 82 4).toInt = (mI S 82 4).toInt := zG_zi (f := mI S) hL_S1 rfl
    have b40 := i_bd (mI S1 82 4)
    have b41 := i_bd (mI S 82 5)
    have q42 : (mI S1 82 5).toInt = (mI S 82 5).toInt := zG_zi (f := mI S) hL_S1 rfl
    have b43 := i_bd (mI S1 82 5)
    have f44 := zG_s hI (0) (400000) (c := 82) (k := 6) (by decide)
    have q45 : (mI S1 82 6).toInt = (mI S 82 6).toInt := zG_zi (f := mI S) hL_S1 rfl
    have f46 := zG_s hI_S1 (0) (400000) (c := 82) (k := 6) (by decide)
    have f47 := zG_s hI (0) (3000) (c := 82) (k := 7) (by decide)
    have q48 : (mI S1 82 7).toInt = (mI S 82 7).toInt := zG_zi (f := mI S) hL_S1 rfl
    have f49 := zG_s hI_S1 (0) (3000) (c := 82) (k := 7) (by decide)
    have f50 := zG_s hI (0) (400000) (c := 82) (k := 8) (by decide)
    have q51 : (mI S1 82 8).toInt = (mI S 82 8).toInt := zG_zi (f := mI S) hL_S1 rfl
    have f52 := zG_s hI_S1 (0) (400000) (c := 82) (k := 8) (by decide)
    have f53 := zG_s hI (0) (1500) (c := 91) (k := 2) (by decide)
    have q54 : (mI S1 91 2).toInt = (mI S 91 2).toInt := zG_zi (f := mI S) hL_S1 rfl
    have f55 := zG_s hI_S1 (0) (1500) (c := 91) (k := 2) (by decide)
    have f56 := zG_s hI (0) (93) (c := 91) (k := 3) (by decide)
    have q57 : (mI S1 91 3).toInt = (mI S 91 3).toInt := zG_zi (f := mI S) hL_S1 rfl
    have f58 := zG_s hI_S1 (0) (93) (c := 91) (k := 3) (by decide)
    have b59 := i_bd (mI S 91 4)
    have q60 : (mI S1 91 4).toInt = (mI S 91 4).toInt := zG_zi (f := mI S) hL_S1 rfl
    have b61 := i_bd (mI S1 91 4)
    have f62 := zG_s hI (0) (92) (c := 91) (k := 5) (by decide)
    have q63 : (mI S1 91 5).toInt = (mI S 91 5).toInt := zG_zi (f := mI S) hL_S1 rfl
    have f64 := zG_s hI_S1 (0) (92) (c := 91) (k := 5) (by decide)
    exact K (((-1 : Int32) - (mI S1 64 2))) _ r (Or.inl rfl) hI11 (show (0 : Int32).toInt = 0 from by omega) (show (zAns zt zn < 0 ∧ r 64 11 = r 64 11 ∧ zFm J0 JL JR (ma_put S1 64 1 (.inl (0 : Int32)))) ∨ (0 ≤ zAns zt zn ∧ ((qPo zt zn = 0 ∧ r 64 11 = some 79 ∧ xB (ma_put S1 64 1 (.inl (0 : Int32))) (mR (ma_put S1 64 1 (.inl (0 : Int32))) 70) ∧ aS 88 (ma_put S1 64 1 (.inl (0 : Int32))) = aFg a8 ∧ zfP 79 (mI (ma_put S1 64 1 (.inl (0 : Int32)))) 2 = 0 ∧ (zfP 79 (mI (ma_put S1 64 1 (.inl (0 : Int32)))) 0).toInt = zVal zt zn 0 1 ∧ (zfP 79 (mI (ma_put S1 64 1 (.inl (0 : Int32)))) 1).toInt = zVal zt zn 6 2) ∨ (qPo zt zn = 4 ∧ r 64 11 = some 84 ∧ xB (ma_put S1 64 1 (.inl (0 : Int32))) (mR (ma_put S1 64 1 (.inl (0 : Int32))) 70) ∧ aS 88 (ma_put S1 64 1 (.inl (0 : Int32))) = aFg a8 ∧ zfP 84 (mI (ma_put S1 64 1 (.inl (0 : Int32)))) 2 = 0 ∧ (zfP 84 (mI (ma_put S1 64 1 (.inl (0 : Int32)))) 0).toInt = zVal zt zn 0 1 ∧ (zfP 84 (mI (ma_put S1 64 1 (.inl (0 : Int32)))) 1).toInt = zVal zt zn 6 2) ∨ (qPo zt zn = 5 ∧ r 64 11 = some 87 ∧ xB (ma_put S1 64 1 (.inl (0 : Int32))) (mR (ma_put S1 64 1 (.inl (0 : Int32))) 70) ∧ ∃ t : Nat → Int32, aS 88 (ma_put S1 64 1 (.inl (0 : Int32))) = aO2 (aFg a8) t ∧ (t 0).toInt = zVal zt zn 0 1 ∧ (t 1).toInt = zVal zt zn 6 2 ∧ (t 2).toInt = zVal zt zn 3 3 ∧ (t 3).toInt = zVal zt zn 7 4) ∨ (qPo zt zn = 1 ∧ r 64 11 = some 80 ∧ xB (ma_put S1 64 1 (.inl (0 : Int32))) (mR (ma_put S1 64 1 (.inl (0 : Int32))) 70) ∧ aS 88 (ma_put S1 64 1 (.inl (0 : Int32))) = aFg a8 ∧ ((mI S1 80 2)).toInt = zVal zt zn 0 1 ∧ (mI S1 80 3) = 0) ∨ (qPo zt zn = 2 ∧ r 64 11 = some 81 ∧ xB (ma_put S1 64 1 (.inl (0 : Int32))) (mR (ma_put S1 64 1 (.inl (0 : Int32))) 70) ∧ aS 88 (ma_put S1 64 1 (.inl (0 : Int32))) = aFg a8 ∧ ((mI S1 81 2)).toInt = zVal zt zn 0 1 ∧ (mI S1 81 3) = 0 ∧ (mI S1 81 4) = 0) ∨ (qPo zt zn = 3 ∧ r 64 11 = some 82 ∧ xB (ma_put S1 64 1 (.inl (0 : Int32))) (mR (ma_put S1 64 1 (.inl (0 : Int32))) 70) ∧ aS 88 (ma_put S1 64 1 (.inl (0 : Int32))) = aFg a8 ∧ ((mI S1 82 2)).toInt = zVal zt zn 0 1 ∧ ((mI S1 82 3)).toInt = zVal zt zn 0 2 ∧ ((mI S1 82 4)).toInt = zVal zt zn 1 3 ∧ ((mI S1 82 5)).toInt = zVal zt zn 2 4 ∧ (mI S1 82 6) = 0 ∧ ((mI S1 82 7)).toInt = zVal zt zn 0 2 ∧ ((mI S1 82 8)).toInt = zVal zt zn 0 2 ∧ ∀ k : Nat, k < 375 → (mI (ma_put S1 64 1 (.inl (0 : Int32))) 83) k = 0) ∨ (qPo zt zn = 6 ∧ r 64 11 = some 91 ∧ xB (ma_put S1 64 1 (.inl (0 : Int32))) (mR (ma_put S1 64 1 (.inl (0 : Int32))) 70) ∧ aS 88 (ma_put S1 64 1 (.inl (0 : Int32))) = aFg a8 ∧ ((mI S1 91 2)).toInt = zV4 zt zn ∧ ((mI S1 91 3)).toInt = zVal zt zn 0 1 / zV4 zt zn ∧ ((mI S1 91 4)).toInt = zVal zt zn 5 3 ∧ (mI S1 91 5) = 0 ∧ ∀ k : Nat, k < 93 → (mI (ma_put S1 64 1 (.inl (0 : Int32))) 92) k = 0))) from by first | (exact Or.inl ⟨hp_ng (by have z := rp0_S1; rw [hpre0, hpre1] at z; exact z) (hp_neg hp_v2 (by first | exact Or.inl (by assumption) | omega)) (zG_s hI_S1 (0) (100) (c := 64) (k := 2) (by decide)).1, rfl, fn9_t hpre3 (fn9_p rp7_S1 (by decide))⟩)) (show (mI (ma_put S1 64 1 (.inl (0 : Int32))) 67) = k67 ∧ (mI (ma_put S1 64 1 (.inl (0 : Int32))) 68) = k68 from by first | (exact ⟨((show mI S1 67 = mI S 67 from funext (fun _ => zG_z hL_S1 rfl)).trans hpre4.1), ((show mI S1 68 = mI S 68 from funext (fun _ => zG_z hL_S1 rfl)).trans hpre4.2)⟩))
  · skip
    have g65 := i_nlt h9
    have li66 : (7 : Int32).toInt = 7 := rfl
    refine zd (fun h67 => ?_) (fun h67 => ?_)
    · skip
      have g68 := i_lt h67
      have hI69 : zA f r C Z N (ma_put S1 64 1 (.inl (0 : Int32))) := zG_sp hI_S1 (0) (100) rfl (by decide) (by decide) (by decide) (show zA_x (mI S1) from zG_x hI_S1) (by omega) (by omega)
      exact lp_127_64_sn_30 (by omega) (by omega) K _ _ (v2) rfl hI69 (by omega) (by omega) (show 0 ≤ (mI S1 66 0).toInt ∧ ((v2).toInt = 3 → 0 ≤ (mI S1 66 1).toInt) ∧ ((v2).toInt = 6 → 16 ≤ (mI S1 66 1).toInt) from by omega) (show (0 : Int32).toInt = 0 from by omega) (show aS 88 (ma_put S1 64 1 (.inl (0 : Int32))) = a8 from by first | (exact (fn9_aS (fn9_p rp7_S1 (by decide)) (fun _ _ z => (zG_70 hI (c := 70) (by decide) z).1)).trans hpre2)) (show 0 ≤ zAns zt zn ∧ (v2).toInt = qPo zt zn ∧ ((v2).toInt = 5 → ((mI (ma_put S1 64 1 (.inl (0 : Int32))) 66) 0).toInt = zVal zt zn 0 1 ∧ ((mI (ma_put S1 64 1 (.inl (0 : Int32))) 66) 1).toInt = zVal zt zn 6 2 ∧ ((mI (ma_put S1 64 1 (.inl (0 : Int32))) 66) 2).toInt = zVal zt zn 3 3 ∧ ((mI (ma_put S1 64 1 (.inl (0 : Int32))) 66) 3).toInt = zVal zt zn 7 4) from by first | (have z := rp0_S1; have z5 := rp1_S1; have zp := rp6_S1; rw [hpre0, hpre1] at z z5 zp; exact ⟨by have q := hp_good z (by omega); rw [← q]; exact Fin_nn (by omega) (fun w => by omega) (fun w => by omega), zp.elim (fun w => by omega) id, z5⟩)) (show ((v2).toInt = 0 ∨ (v2).toInt = 4) → ((mI (ma_put S1 64 1 (.inl (0 : Int32))) 66) 0).toInt = zVal zt zn 0 1 ∧ ((mI (ma_put S1 64 1 (.inl (0 : Int32))) 66) 1).toInt = zVal zt zn 6 2 from by first | (have z := rp2_S1; rw [hpre0, hpre1] at z; exact z)) (show qM1 (v2) (mI S1 66 0) zt zn from by first | (have z := rp3_S1; rw [hpre0, hpre1] at z; exact z)) (show qM3 (v2) (mI S1 66 0) (mI S1 66 1) (mI S1 66 2) (mI S1 66 3) zt zn from by first | (have z := rp4_S1; rw [hpre0, hpre1] at z; exact z)) (show qM6 (v2) (mI S1 66 0) (mI S1 66 1) (mI S1 66 2) zt zn from by first | (have z := rp5_S1; rw [hpre0, hpre1] at z; exact z)) (show (mI (ma_put S1 64 1 (.inl (0 : Int32))) 67) = k67 ∧ (mI (ma_put S1 64 1 (.inl (0 : Int32))) 68) = k68 from by first | (exact ⟨((show mI S1 67 = mI S 67 from funext (fun _ => zG_z hL_S1 rfl)).trans hpre4.1), ((show mI S1 68 = mI S 68 from funext (fun _ => zG_z hL_S1 rfl)).trans hpre4.2)⟩))
    · skip
      have g70 := i_nlt h67
      have hI71 : zA f r C Z N (ma_put S1 64 1 (.inl (0 : Int32))) := zG_sp hI_S1 (0) (100) rfl (by decide) (by decide) (by decide) (show zA_x (mI S1) from zG_x hI_S1) (by omega) (by omega)
      have li72 : (-1 : Int32).toInt = -1 := rfl
      first | have e73 : ((-1 : Int32) - (mI S1 64 2)).toInt = (-1 : Int32).toInt - (mI S1 64 2).toInt := i_sub (by omega) (by omega) | have b74 := i_bd ((-1 : Int32) - (mI S1 64 2))
      have f75 := zG_s hI (0) (1500) (c := 80) (k := 2) (by decide)
      have q76 : (mI S1 80 2).toInt = (mI S 80 2).toInt := zG_zi (f := mI S) hL_S1 rfl
      have f77 := zG_s hI_S1 (0) (1500) (c := 80) (k := 2) (by decide)
      have f78 := zG_s hI (0) (400000) (c := 80) (k := 3) (by decide)
      have q79 : (mI S1 80 3).toInt = (mI S 80 3).toInt := zG_zi (f := mI S) hL_S1 rfl
      have f80 := zG_s hI_S1 (0) (400000) (c := 80) (k := 3) (by decide)
      have x81 : (0 ≤ (mI S 81 3).toInt ∧ (mI S 81 3).toInt ≤ (mI S 81 2).toInt) ∧ ((mI S 82 3).toInt ≤ (mI S 82 7).toInt ∧ (mI S 82 7).toInt ≤ (mI S 82 3).toInt + (mI S 82 2).toInt) := zG_x hI
      have f82 := zG_s hI (0) (1500) (c := 81) (k := 2) (by decide)
      have q83 : (mI S1 81 2).toInt = (mI S 81 2).toInt := zG_zi (f := mI S) hL_S1 rfl
      have x84 : (0 ≤ (mI S1 81 3).toInt ∧ (mI S1 81 3).toInt ≤ (mI S1 81 2).toInt) ∧ ((mI S1 82 3).toInt ≤ (mI S1 82 7).toInt ∧ (mI S1 82 7).toInt ≤ (mI S1 82 3).toInt + (mI S1 82 2).toInt) := zG_x hI_S1
      have f85 := zG_s hI_S1 (0) (1500) (c := 81) (k := 2) (by decide)
      have f86 := zG_s hI (0) (1500) (c := 81) (k := 3) (by decide)
      have q87 : (mI S1 81 3).toInt = (mI S 81 3).toInt := zG_zi (f := mI S) hL_S1 rfl
      have f88 := zG_s hI_S1 (0) (1500) (c := 81) (k := 3) (by decide)
      have f89 := zG_s hI (0) (400000) (c := 81) (k := 4) (by decide)
      have q90 : (mI S1 81 4).toInt = (mI S 81 4).toInt := zG_zi (f := mI S) hL_S1 rfl
      have f91 := zG_s hI_S1 (0) (400000) (c := 81) (k := 4) (by decide)
      have f92 := zG_s hI (0) (1500) (c := 82) (k := 2) (by decide)
      have q93 : (mI S1 82 2).toInt = (mI S 82 2).toInt := zG_zi (f := mI S) hL_S1 rfl
      have f94 := zG_s hI_S1 (0) (1500) (c := 82) (k := 2) (by decide)
      have f95 := zG_s hI (0) (1500) (c := 82) (k := 3) (by decide)
      have q96 : (mI S1 82 3).toInt = (mI S 82 3).toInt := zG_zi (f := mI S) hL_S1 rfl
      have f97 := zG_s hI_S1 (0) (1500) (c := 82) (k := 3) (by decide)
      have b98 := i_bd (mI S 82 4)
      have q99 : (mI S1 82 4).toInt = (mI S 82 4).toInt := zG_zi (f := mI S) hL_S1 rfl
      have b100 := i_bd (mI S1 82 4)
      have b101 := i_bd (mI S 82 5)
      have q102 : (mI S1 82 5).toInt = (mI S 82 5).toInt := zG_zi (f := mI S) hL_S1 rfl
      have b103 := i_bd (mI S1 82 5)
      have f104 := zG_s hI (0) (400000) (c := 82) (k := 6) (by decide)
      have q105 : (mI S1 82 6).toInt = (mI S 82 6).toInt := zG_zi (f := mI S) hL_S1 rfl
      have f106 := zG_s hI_S1 (0) (400000) (c := 82) (k := 6) (by decide)
      have f107 := zG_s hI (0) (3000) (c := 82) (k := 7) (by decide)
      have q108 : (mI S1 82 7).toInt = (mI S 82 7).toInt := zG_zi (f := mI S) hL_S1 rfl
      have f109 := zG_s hI_S1 (0) (3000) (c := 82) (k := 7) (by decide)
      have f110 := zG_s hI (0) (400000) (c := 82) (k := 8) (by decide)
      have q111 : (mI S1 82 8).toInt = (mI S 82 8).toInt := zG_zi (f := mI S) hL_S1 rfl
      have f112 := zG_s hI_S1 (0) (400000) (c := 82) (k := 8) (by decide)
      have f113 := zG_s hI (0) (1500) (c := 91) (k := 2) (by decide)
      have q114 : (mI S1 91 2).toInt = (mI S 91 2).toInt := zG_zi (f := mI S) hL_S1 rfl
      have f115 := zG_s hI_S1 (0) (1500) (c := 91) (k := 2) (by decide)
      have f116 := zG_s hI (0) (93) (c := 91) (k := 3) (by decide)
      have q117 : (mI S1 91 3).toInt = (mI S 91 3).toInt := zG_zi (f := mI S) hL_S1 rfl
      have f118 := zG_s hI_S1 (0) (93) (c := 91) (k := 3) (by decide)
      have b119 := i_bd (mI S 91 4)
      have q120 : (mI S1 91 4).toInt = (mI S 91 4).toInt := zG_zi (f := mI S) hL_S1 rfl
      have b121 := i_bd (mI S1 91 4)
      have f122 := zG_s hI (0) (92) (c := 91) (k := 5) (by decide)
      have q123 : (mI S1 91 5).toInt = (mI S 91 5).toInt := zG_zi (f := mI S) hL_S1 rfl
      have f124 := zG_s hI_S1 (0) (92) (c := 91) (k := 5) (by decide)
      exact K (((-1 : Int32) - (mI S1 64 2))) _ r (Or.inl rfl) hI71 (show (0 : Int32).toInt = 0 from by omega) (show (zAns zt zn < 0 ∧ r 64 11 = r 64 11 ∧ zFm J0 JL JR (ma_put S1 64 1 (.inl (0 : Int32)))) ∨ (0 ≤ zAns zt zn ∧ ((qPo zt zn = 0 ∧ r 64 11 = some 79 ∧ xB (ma_put S1 64 1 (.inl (0 : Int32))) (mR (ma_put S1 64 1 (.inl (0 : Int32))) 70) ∧ aS 88 (ma_put S1 64 1 (.inl (0 : Int32))) = aFg a8 ∧ zfP 79 (mI (ma_put S1 64 1 (.inl (0 : Int32)))) 2 = 0 ∧ (zfP 79 (mI (ma_put S1 64 1 (.inl (0 : Int32)))) 0).toInt = zVal zt zn 0 1 ∧ (zfP 79 (mI (ma_put S1 64 1 (.inl (0 : Int32)))) 1).toInt = zVal zt zn 6 2) ∨ (qPo zt zn = 4 ∧ r 64 11 = some 84 ∧ xB (ma_put S1 64 1 (.inl (0 : Int32))) (mR (ma_put S1 64 1 (.inl (0 : Int32))) 70) ∧ aS 88 (ma_put S1 64 1 (.inl (0 : Int32))) = aFg a8 ∧ zfP 84 (mI (ma_put S1 64 1 (.inl (0 : Int32)))) 2 = 0 ∧ (zfP 84 (mI (ma_put S1 64 1 (.inl (0 : Int32)))) 0).toInt = zVal zt zn 0 1 ∧ (zfP 84 (mI (ma_put S1 64 1 (.inl (0 : Int32)))) 1).toInt = zVal zt zn 6 2) ∨ (qPo zt zn = 5 ∧ r 64 11 = some 87 ∧ xB (ma_put S1 64 1 (.inl (0 : Int32))) (mR (ma_put S1 64 1 (.inl (0 : Int32))) 70) ∧ ∃ t : Nat → Int32, aS 88 (ma_put S1 64 1 (.inl (0 : Int32))) = aO2 (aFg a8) t ∧ (t 0).toInt = zVal zt zn 0 1 ∧ (t 1).toInt = zVal zt zn 6 2 ∧ (t 2).toInt = zVal zt zn 3 3 ∧ (t 3).toInt = zVal zt zn 7 4) ∨ (qPo zt zn = 1 ∧ r 64 11 = some 80 ∧ xB (ma_put S1 64 1 (.inl (0 : Int32))) (mR (ma_put S1 64 1 (.inl (0 : Int32))) 70) ∧ aS 88 (ma_put S1 64 1 (.inl (0 : Int32))) = aFg a8 ∧ ((mI S1 80 2)).toInt = zVal zt zn 0 1 ∧ (mI S1 80 3) = 0) ∨ (qPo zt zn = 2 ∧ r 64 11 = some 81 ∧ xB (ma_put S1 64 1 (.inl (0 : Int32))) (mR (ma_put S1 64 1 (.inl (0 : Int32))) 70) ∧ aS 88 (ma_put S1 64 1 (.inl (0 : Int32))) = aFg a8 ∧ ((mI S1 81 2)).toInt = zVal zt zn 0 1 ∧ (mI S1 81 3) = 0 ∧ (mI S1 81 4) = 0) ∨ (qPo zt zn = 3 ∧ r 64 11 = some 82 ∧ xB (ma_put S1 64 1 (.inl (0 : Int32))) (mR (ma_put S1 64 1 (.inl (0 : Int32))) 70) ∧ aS 88 (ma_put S1 64 1 (.inl (0 : Int32))) = aFg a8 ∧ ((mI S1 82 2)).toInt = zVal zt zn 0 1 ∧ ((mI S1 82 3)).toInt = zVal zt zn 0 2 ∧ ((mI S1 82 4)).toInt = zVal zt zn 1 3 ∧ ((mI S1 82 5)).toInt = zVal zt zn 2 4 ∧ (mI S1 82 6) = 0 ∧ ((mI S1 82 7)).toInt = zVal zt zn 0 2 ∧ ((mI S1 82 8)).toInt = zVal zt zn 0 2 ∧ ∀ k : Nat, k < 375 → (mI (ma_put S1 64 1 (.inl (0 : Int32))) 83) k = 0) ∨ (qPo zt zn = 6 ∧ r 64 11 = some 91 ∧ xB (ma_put S1 64 1 (.inl (0 : Int32))) (mR (ma_put S1 64 1 (.inl (0 : Int32))) 70) ∧ aS 88 (ma_put S1 64 1 (.inl (0 : Int32))) = aFg a8 ∧ ((mI S1 91 2)).toInt = zV4 zt zn ∧ ((mI S1 91 3)).toInt = zVal zt zn 0 1 / zV4 zt zn ∧ ((mI S1 91 4)).toInt = zVal zt zn 5 3 ∧ (mI S1 91 5) = 0 ∧ ∀ k : Nat, k < 93 → (mI (ma_put S1 64 1 (.inl (0 : Int32))) 92) k = 0))) from by first | (exact Or.inl ⟨hp_ng (by have z := rp0_S1; rw [hpre0, hpre1] at z; exact z) (hp_neg hp_v2 (by first | exact Or.inl (by assumption) | omega)) (zG_s hI_S1 (0) (100) (c := 64) (k := 2) (by decide)).1, rfl, fn9_t hpre3 (fn9_p rp7_S1 (by decide))⟩)) (show (mI (ma_put S1 64 1 (.inl (0 : Int32))) 67) = k67 ∧ (mI (ma_put S1 64 1 (.inl (0 : Int32))) 68) = k68 from by first | (exact ⟨((show mI S1 67 = mI S 67 from funext (fun _ => zG_z hL_S1 rfl)).trans hpre4.1), ((show mI S1 68 = mI S 68 from funext (fun _ => zG_z hL_S1 rfl)).trans hpre4.2)⟩))

/-! from 95.x16 -/
/-! the class opens a heap (written by wip/tools/gen15h.py) -/
theorem g_160_64_sn_p80_0 {X : Nat × (Nat → Int32)} {d w : Nat} {S : ma_S} {Q : Option ma_V ⊕ Nat → ma_S → Prop} (n : Int32) (hd : 7 ≤ d) (hw : 114 ≤ w) (hS : zT S) (h : if n < 0 then (Q (.inr 2) (ma_bump S)) else (if n ≤ (1000 : Int32) then (mR S 64 11 = some 80 ∧ (mR S 64 11 = some 80 ∧ (Q (.inr 6) (ma_bump S)))) else (Q (.inr 2) (ma_bump S)))) : ma_wp X d w 160 0 [(0, .inr (.inr (some 64))), (1, .inl n)] [] S Q := by
  refine zw_push hm_160 dX11_step_0 (v := .inl n) rfl ?_
  refine zw_if0 hm_160 dX11_step_1 (t := 11) rfl zc0_lt ?_ ?_
  · intro hc
    rw [if_pos hc] at h
    exact zw_thr hm_160 dX11_step_11 dX11_step_14 dX11_step_15 dX11_step_18 x_11_79_81 n_11_79 (by omega) (by show 0 + 81 ≤ w; omega) h
  · intro hc
    rw [if_neg hc] at h
    refine zw_push hm_160 dX11_step_4 (v := .inl n) rfl ?_
    refine zw_push hm_160 dX11_step_5 (v := .inl (1000 : Int32)) rfl ?_
    refine zw_if2 hm_160 dX11_step_8 (t := 19) rfl zc2_le ?_ ?_
    · intro hc
      rw [if_pos hc] at h
      refine zw_push hm_160 dX11_step_19 (v := .inr (.inr (some 64))) rfl ?_
      refine zw_cv hm_160 dX11_step_20 v_11_119_11 hm_144 [] [] rfl (zT_rt hS s_64 rfl) ⟨by omega, by omega⟩ rfl ?_
      show ma_wp X (d - 1) (w - 20) 144 0 [(0, .inr (.inr (some 64)))] [] S _
      refine zw_push hm_144 dX11_needCollector_0 (v := .inr (.inr (some 64))) rfl ?_
      obtain ⟨hg, h⟩ := h
      refine zw_gf hm_144 dX11_needCollector_1 (v := .inr (.inr (some 80))) (zT_is hS s_64) (zT_t hS s_64) rfl f_11_98_11 (congrArg (fun z => Sum.inr (Sum.inr z)) hg) ?_
      refine zw_ifnonnull hm_144 dX11_needCollector_4 (t := 15) rfl (fun z => by cases z) (fun _ _ => ?_)
      refine zw_push hm_144 dX11_needCollector_15 (v := .inr (.inr (some 64))) rfl ?_
      obtain ⟨hg, h⟩ := h
      refine zw_gf hm_144 dX11_needCollector_16 (v := .inr (.inr (some 80))) (zT_is hS s_64) (zT_t hS s_64) rfl f_11_98_11 (congrArg (fun z => Sum.inr (Sum.inr z)) hg) ?_
      refine zw_aret hm_144 dX11_needCollector_19 ?_
      show ma_wp X d w 160 23 [(0, .inr (.inr (some 64))), (1, .inl n)] [.inr (.inr (some 80))] S _
      refine zw_sto hm_160 dX11_step_23 [(3, .inr (.inr (some 80))), (0, .inr (.inr (some 64))), (1, .inl n)] rfl rfl rfl ?_
      refine zw_push hm_160 dX11_step_24 (v := .inr (.inr (some 80))) rfl ?_
      refine zw_iof hm_160 dX11_step_25 (zT_is hS s_80) (zT_t hS s_80) rfl ct_11_58_5 (v := (0 : Int32)) rfl ?_
      refine zw_if0 hm_160 dX11_step_28 (t := 42) rfl zc0_eq (fun _ => ?_) (fun hc => absurd (by decide) hc)
      exact zw_thr hm_160 dX11_step_42 dX11_step_45 dX11_step_46 dX11_step_49 x_11_192_194 n_11_192 (by omega) (by show 0 + 81 ≤ w; omega) h
    · intro hc
      rw [if_neg hc] at h
      exact zw_thr hm_160 dX11_step_11 dX11_step_14 dX11_step_15 dX11_step_18 x_11_79_81 n_11_79 (by omega) (by show 0 + 81 ≤ w; omega) h
theorem sp_160_64_sn_p80 {X : Nat × (Nat → Int32)} {d w : Nat} {f : Nat → Nat → Int32} {r : Nat → Nat → Option Nat} {C Z N : Nat} {Q : Option ma_V ⊕ Nat → ma_S → Prop} {I0 : Nat→Nat→Int32} {L0 : Nat→Nat→Int64} {R0 : zRT} {S : ma_S} (n : Int32) (hd : 7 ≤ d) (hw : 114 ≤ w) (hI : zB f r C Z N S) (hr : r 64 11 = some 80) (hpre0 : zFm I0 L0 R0 S) (K : ∀ v S₉, zB f r C Z N S₉ → ((0 : Int) = 1) → Q (.inl (some (.inl v))) S₉) (KX : ∀ x S₉, (x = 2 ∨ x = 6) → zB f r C Z N S₉ → ((x = 2 ∧ (n.toInt < 0 ∨ 1000 < n.toInt)) ∨ (x = 6 ∧ 0 ≤ n.toInt ∧ n.toInt ≤ 1000)) → (zFm I0 L0 R0 S₉) → Q (.inr x) (ma_bump S₉)) : ma_wp X d w 160 0 [(0, .inr (.inr (some 64))), (1, .inl n)] [] S Q := by
  refine g_160_64_sn_p80_0 n (by omega) (by omega) (zG_T hI) ?_
  have b1 := i_bd n
  have li2 : (0 : Int32).toInt = 0 := rfl
  refine zd (fun h3 => ?_) (fun h3 => ?_)
  · skip
    have g4 := i_lt h3
    exact KX 2 _ (by decide) hI (show (2 = 2 ∧ (n.toInt < 0 ∨ 1000 < n.toInt)) ∨ (2 = 6 ∧ 0 ≤ n.toInt ∧ n.toInt ≤ 1000) from by omega) (show zFm I0 L0 R0 S from by first | (exact hpre0))
  · skip
    have g5 := i_nlt h3
    have li6 : (1000 : Int32).toInt = 1000 := rfl
    refine zd (fun h7 => ?_) (fun h7 => ?_)
    · skip
      have g8 := i_le h7
      refine ⟨((zG_r hI (by decide)).trans hr), ?_⟩
      refine ⟨((zG_r hI (by decide)).trans hr), ?_⟩
      exact KX 6 _ (by decide) hI (show (6 = 2 ∧ (n.toInt < 0 ∨ 1000 < n.toInt)) ∨ (6 = 6 ∧ 0 ≤ n.toInt ∧ n.toInt ≤ 1000) from by omega) (show zFm I0 L0 R0 S from by first | (exact hpre0))
    · skip
      have g9 := i_nle h7
      exact KX 2 _ (by decide) hI (show (2 = 2 ∧ (n.toInt < 0 ∨ 1000 < n.toInt)) ∨ (2 = 6 ∧ 0 ≤ n.toInt ∧ n.toInt ≤ 1000) from by omega) (show zFm I0 L0 R0 S from by first | (exact hpre0))
theorem g_162_64_sn_p80_0 {X : Nat × (Nat → Int32)} {d w : Nat} {S : ma_S} {Q : Option ma_V ⊕ Nat → ma_S → Prop} (ix : Int32) (pa : Int32) (hd : 7 ≤ d) (hw : 109 ≤ w) (hS : zT S) (h : if pa < 0 then (Q (.inr 2) (ma_bump S)) else (if pa ≤ (1 : Int32) then (mR S 64 11 = some 80 ∧ (mR S 64 11 = some 80 ∧ (Q (.inr 6) (ma_bump S)))) else (Q (.inr 2) (ma_bump S)))) : ma_wp X d w 162 0 [(0, .inr (.inr (some 64))), (1, .inl ix), (2, .inl pa)] [] S Q := by
  refine zw_push hm_162 dX11_block_0 (v := .inl pa) rfl ?_
  refine zw_if0 hm_162 dX11_block_1 (t := 9) rfl zc0_lt ?_ ?_
  · intro hc
    rw [if_pos hc] at h
    exact zw_thr hm_162 dX11_block_9 dX11_block_12 dX11_block_13 dX11_block_16 x_11_79_81 n_11_79 (by omega) (by show 0 + 81 ≤ w; omega) h
  · intro hc
    rw [if_neg hc] at h
    refine zw_push hm_162 dX11_block_4 (v := .inl pa) rfl ?_
    refine zw_push hm_162 dX11_block_5 (v := .inl (1 : Int32)) rfl ?_
    refine zw_if2 hm_162 dX11_block_6 (t := 17) rfl zc2_le ?_ ?_
    · intro hc
      rw [if_pos hc] at h
      refine zw_push hm_162 dX11_block_17 (v := .inr (.inr (some 64))) rfl ?_
      refine zw_cv hm_162 dX11_block_18 v_11_119_11 hm_144 [] [] rfl (zT_rt hS s_64 rfl) ⟨by omega, by omega⟩ rfl ?_
      show ma_wp X (d - 1) (w - 20) 144 0 [(0, .inr (.inr (some 64)))] [] S _
      refine zw_push hm_144 dX11_needCollector_0 (v := .inr (.inr (some 64))) rfl ?_
      obtain ⟨hg, h⟩ := h
      refine zw_gf hm_144 dX11_needCollector_1 (v := .inr (.inr (some 80))) (zT_is hS s_64) (zT_t hS s_64) rfl f_11_98_11 (congrArg (fun z => Sum.inr (Sum.inr z)) hg) ?_
      refine zw_ifnonnull hm_144 dX11_needCollector_4 (t := 15) rfl (fun z => by cases z) (fun _ _ => ?_)
      refine zw_push hm_144 dX11_needCollector_15 (v := .inr (.inr (some 64))) rfl ?_
      obtain ⟨hg, h⟩ := h
      refine zw_gf hm_144 dX11_needCollector_16 (v := .inr (.inr (some 80))) (zT_is hS s_64) (zT_t hS s_64) rfl f_11_98_11 (congrArg (fun z => Sum.inr (Sum.inr z)) hg) ?_
      refine zw_aret hm_144 dX11_needCollector_19 ?_
      show ma_wp X d w 162 21 [(0, .inr (.inr (some 64))), (1, .inl ix), (2, .inl pa)] [.inr (.inr (some 80))] S _
      refine zw_sto hm_162 dX11_block_21 [(4, .inr (.inr (some 80))), (0, .inr (.inr (some 64))), (1, .inl ix), (2, .inl pa)] rfl rfl rfl ?_
      refine zw_push hm_162 dX11_block_23 (v := .inr (.inr (some 80))) rfl ?_
      refine zw_iof hm_162 dX11_block_25 (zT_is hS s_80) (zT_t hS s_80) rfl ct_11_41_5 (v := (0 : Int32)) rfl ?_
      refine zw_if0 hm_162 dX11_block_28 (t := 77) rfl zc0_eq (fun _ => ?_) (fun hc => absurd (by decide) hc)
      exact zw_thr hm_162 dX11_block_77 dX11_block_80 dX11_block_81 dX11_block_84 x_11_192_194 n_11_192 (by omega) (by show 0 + 81 ≤ w; omega) h
    · intro hc
      rw [if_neg hc] at h
      exact zw_thr hm_162 dX11_block_9 dX11_block_12 dX11_block_13 dX11_block_16 x_11_79_81 n_11_79 (by omega) (by show 0 + 81 ≤ w; omega) h
theorem sp_162_64_sn_p80 {X : Nat × (Nat → Int32)} {d w : Nat} {f : Nat → Nat → Int32} {r : Nat → Nat → Option Nat} {C Z N : Nat} {Q : Option ma_V ⊕ Nat → ma_S → Prop} {I0 : Nat→Nat→Int32} {L0 : Nat→Nat→Int64} {R0 : zRT} {S : ma_S} (ix : Int32) (pa : Int32) (hd : 7 ≤ d) (hw : 109 ≤ w) (hI : zB f r C Z N S) (hr : r 64 11 = some 80) (hpre0 : zFm I0 L0 R0 S) (K : ∀ v S₉, zB f r C Z N S₉ → ((0 : Int) = 1) → Q (.inl (some (.inl v))) S₉) (KX : ∀ x S₉, (x = 2 ∨ x = 6) → zB f r C Z N S₉ → ((x = 2 ∧ (pa.toInt < 0 ∨ 1 < pa.toInt)) ∨ (x = 6 ∧ 0 ≤ pa.toInt ∧ pa.toInt ≤ 1)) → (zFm I0 L0 R0 S₉) → Q (.inr x) (ma_bump S₉)) : ma_wp X d w 162 0 [(0, .inr (.inr (some 64))), (1, .inl ix), (2, .inl pa)] [] S Q := by
  refine g_162_64_sn_p80_0 ix pa (by omega) (by omega) (zG_T hI) ?_
  have b1 := i_bd pa
  have li2 : (0 : Int32).toInt = 0 := rfl
  refine zd (fun h3 => ?_) (fun h3 => ?_)
  · skip
    have g4 := i_lt h3
    exact KX 2 _ (by decide) hI (show (2 = 2 ∧ (pa.toInt < 0 ∨ 1 < pa.toInt)) ∨ (2 = 6 ∧ 0 ≤ pa.toInt ∧ pa.toInt ≤ 1) from by omega) (show zFm I0 L0 R0 S from by first | (exact hpre0))
  · skip
    have g5 := i_nlt h3
    have li6 : (1 : Int32).toInt = 1 := rfl
    refine zd (fun h7 => ?_) (fun h7 => ?_)
    · skip
      have g8 := i_le h7
      refine ⟨((zG_r hI (by decide)).trans hr), ?_⟩
      refine ⟨((zG_r hI (by decide)).trans hr), ?_⟩
      exact KX 6 _ (by decide) hI (show (6 = 2 ∧ (pa.toInt < 0 ∨ 1 < pa.toInt)) ∨ (6 = 6 ∧ 0 ≤ pa.toInt ∧ pa.toInt ≤ 1) from by omega) (show zFm I0 L0 R0 S from by first | (exact hpre0))
    · skip
      have g9 := i_nle h7
      exact KX 2 _ (by decide) hI (show (2 = 2 ∧ (pa.toInt < 0 ∨ 1 < pa.toInt)) ∨ (2 = 6 ∧ 0 ≤ pa.toInt ∧ pa.toInt ≤ 1) from by omega) (show zFm I0 L0 R0 S from by first | (exact hpre0))
theorem g_160_64_sn_p81_0 {X : Nat × (Nat → Int32)} {d w : Nat} {S : ma_S} {Q : Option ma_V ⊕ Nat → ma_S → Prop} (n : Int32) (hd : 7 ≤ d) (hw : 114 ≤ w) (hS : zT S) (h : if n < 0 then (Q (.inr 2) (ma_bump S)) else (if n ≤ (1000 : Int32) then (mR S 64 11 = some 81 ∧ (mR S 64 11 = some 81 ∧ (Q (.inr 6) (ma_bump S)))) else (Q (.inr 2) (ma_bump S)))) : ma_wp X d w 160 0 [(0, .inr (.inr (some 64))), (1, .inl n)] [] S Q := by
  refine zw_push hm_160 dX11_step_0 (v := .inl n) rfl ?_
  refine zw_if0 hm_160 dX11_step_1 (t := 11) rfl zc0_lt ?_ ?_
  · intro hc
    rw [if_pos hc] at h
    exact zw_thr hm_160 dX11_step_11 dX11_step_14 dX11_step_15 dX11_step_18 x_11_79_81 n_11_79 (by omega) (by show 0 + 81 ≤ w; omega) h
  · intro hc
    rw [if_neg hc] at h
    refine zw_push hm_160 dX11_step_4 (v := .inl n) rfl ?_
    refine zw_push hm_160 dX11_step_5 (v := .inl (1000 : Int32)) rfl ?_
    refine zw_if2 hm_160 dX11_step_8 (t := 19) rfl zc2_le ?_ ?_
    · intro hc
      rw [if_pos hc] at h
      refine zw_push hm_160 dX11_step_19 (v := .inr (.inr (some 64))) rfl ?_
      refine zw_cv hm_160 dX11_step_20 v_11_119_11 hm_144 [] [] rfl (zT_rt hS s_64 rfl) ⟨by omega, by omega⟩ rfl ?_
      show ma_wp X (d - 1) (w - 20) 144 0 [(0, .inr (.inr (some 64)))] [] S _
      refine zw_push hm_144 dX11_needCollector_0 (v := .inr (.inr (some 64))) rfl ?_
      obtain ⟨hg, h⟩ := h
      refine zw_gf hm_144 dX11_needCollector_1 (v := .inr (.inr (some 81))) (zT_is hS s_64) (zT_t hS s_64) rfl f_11_98_11 (congrArg (fun z => Sum.inr (Sum.inr z)) hg) ?_
      refine zw_ifnonnull hm_144 dX11_needCollector_4 (t := 15) rfl (fun z => by cases z) (fun _ _ => ?_)
      refine zw_push hm_144 dX11_needCollector_15 (v := .inr (.inr (some 64))) rfl ?_
      obtain ⟨hg, h⟩ := h
      refine zw_gf hm_144 dX11_needCollector_16 (v := .inr (.inr (some 81))) (zT_is hS s_64) (zT_t hS s_64) rfl f_11_98_11 (congrArg (fun z => Sum.inr (Sum.inr z)) hg) ?_
      refine zw_aret hm_144 dX11_needCollector_19 ?_
      show ma_wp X d w 160 23 [(0, .inr (.inr (some 64))), (1, .inl n)] [.inr (.inr (some 81))] S _
      refine zw_sto hm_160 dX11_step_23 [(3, .inr (.inr (some 81))), (0, .inr (.inr (some 64))), (1, .inl n)] rfl rfl rfl ?_
      refine zw_push hm_160 dX11_step_24 (v := .inr (.inr (some 81))) rfl ?_
      refine zw_iof hm_160 dX11_step_25 (zT_is hS s_81) (zT_t hS s_81) rfl ct_11_58_3 (v := (0 : Int32)) rfl ?_
      refine zw_if0 hm_160 dX11_step_28 (t := 42) rfl zc0_eq (fun _ => ?_) (fun hc => absurd (by decide) hc)
      exact zw_thr hm_160 dX11_step_42 dX11_step_45 dX11_step_46 dX11_step_49 x_11_192_194 n_11_192 (by omega) (by show 0 + 81 ≤ w; omega) h
    · intro hc
      rw [if_neg hc] at h
      exact zw_thr hm_160 dX11_step_11 dX11_step_14 dX11_step_15 dX11_step_18 x_11_79_81 n_11_79 (by omega) (by show 0 + 81 ≤ w; omega) h
theorem sp_160_64_sn_p81 {X : Nat × (Nat → Int32)} {d w : Nat} {f : Nat → Nat → Int32} {r : Nat → Nat → Option Nat} {C Z N : Nat} {Q : Option ma_V ⊕ Nat → ma_S → Prop} {I0 : Nat→Nat→Int32} {L0 : Nat→Nat→Int64} {R0 : zRT} {S : ma_S} (n : Int32) (hd : 7 ≤ d) (hw : 114 ≤ w) (hI : zB f r C Z N S) (hr : r 64 11 = some 81) (hpre0 : zFm I0 L0 R0 S) (K : ∀ v S₉, zB f r C Z N S₉ → ((0 : Int) = 1) → Q (.inl (some (.inl v))) S₉) (KX : ∀ x S₉, (x = 2 ∨ x = 6) → zB f r C Z N S₉ → ((x = 2 ∧ (n.toInt < 0 ∨ 1000 < n.toInt)) ∨ (x = 6 ∧ 0 ≤ n.toInt ∧ n.toInt ≤ 1000)) → (zFm I0 L0 R0 S₉) → Q (.inr x) (ma_bump S₉)) : ma_wp X d w 160 0 [(0, .inr (.inr (some 64))), (1, .inl n)] [] S Q := by
  refine g_160_64_sn_p81_0 n (by omega) (by omega) (zG_T hI) ?_
  have b1 := i_bd n
  have li2 : (0 : Int32).toInt = 0 := rfl
  refine zd (fun h3 => ?_) (fun h3 => ?_)
  · skip
    have g4 := i_lt h3
    exact KX 2 _ (by decide) hI (show (2 = 2 ∧ (n.toInt < 0 ∨ 1000 < n.toInt)) ∨ (2 = 6 ∧ 0 ≤ n.toInt ∧ n.toInt ≤ 1000) from by omega) (show zFm I0 L0 R0 S from by first | (exact hpre0))
  · skip
    have g5 := i_nlt h3
    have li6 : (1000 : Int32).toInt = 1000 := rfl
    refine zd (fun h7 => ?_) (fun h7 => ?_)
    · skip
      have g8 := i_le h7
      refine ⟨((zG_r hI (by decide)).trans hr), ?_⟩
      refine ⟨((zG_r hI (by decide)).trans hr), ?_⟩
      exact KX 6 _ (by decide) hI (show (6 = 2 ∧ (n.toInt < 0 ∨ 1000 < n.toInt)) ∨ (6 = 6 ∧ 0 ≤ n.toInt ∧ n.toInt ≤ 1000) from by omega) (show zFm I0 L0 R0 S from by first | (exact hpre0))
    · skip
      have g9 := i_nle h7
      exact KX 2 _ (by decide) hI (show (2 = 2 ∧ (n.toInt < 0 ∨ 1000 < n.toInt)) ∨ (2 = 6 ∧ 0 ≤ n.toInt ∧ n.toInt ≤ 1000) from by omega) (show zFm I0 L0 R0 S from by first | (exact hpre0))
theorem g_162_64_sn_p81_0 {X : Nat × (Nat → Int32)} {d w : Nat} {S : ma_S} {Q : Option ma_V ⊕ Nat → ma_S → Prop} (ix : Int32) (pa : Int32) (hd : 7 ≤ d) (hw : 109 ≤ w) (hS : zT S) (h : if pa < 0 then (Q (.inr 2) (ma_bump S)) else (if pa ≤ (1 : Int32) then (mR S 64 11 = some 81 ∧ (mR S 64 11 = some 81 ∧ (Q (.inr 6) (ma_bump S)))) else (Q (.inr 2) (ma_bump S)))) : ma_wp X d w 162 0 [(0, .inr (.inr (some 64))), (1, .inl ix), (2, .inl pa)] [] S Q := by
  refine zw_push hm_162 dX11_block_0 (v := .inl pa) rfl ?_
  refine zw_if0 hm_162 dX11_block_1 (t := 9) rfl zc0_lt ?_ ?_
  · intro hc
    rw [if_pos hc] at h
    exact zw_thr hm_162 dX11_block_9 dX11_block_12 dX11_block_13 dX11_block_16 x_11_79_81 n_11_79 (by omega) (by show 0 + 81 ≤ w; omega) h
  · intro hc
    rw [if_neg hc] at h
    refine zw_push hm_162 dX11_block_4 (v := .inl pa) rfl ?_
    refine zw_push hm_162 dX11_block_5 (v := .inl (1 : Int32)) rfl ?_
    refine zw_if2 hm_162 dX11_block_6 (t := 17) rfl zc2_le ?_ ?_
    · intro hc
      rw [if_pos hc] at h
      refine zw_push hm_162 dX11_block_17 (v := .inr (.inr (some 64))) rfl ?_
      refine zw_cv hm_162 dX11_block_18 v_11_119_11 hm_144 [] [] rfl (zT_rt hS s_64 rfl) ⟨by omega, by omega⟩ rfl ?_
      show ma_wp X (d - 1) (w - 20) 144 0 [(0, .inr (.inr (some 64)))] [] S _
      refine zw_push hm_144 dX11_needCollector_0 (v := .inr (.inr (some 64))) rfl ?_
      obtain ⟨hg, h⟩ := h
      refine zw_gf hm_144 dX11_needCollector_1 (v := .inr (.inr (some 81))) (zT_is hS s_64) (zT_t hS s_64) rfl f_11_98_11 (congrArg (fun z => Sum.inr (Sum.inr z)) hg) ?_
      refine zw_ifnonnull hm_144 dX11_needCollector_4 (t := 15) rfl (fun z => by cases z) (fun _ _ => ?_)
      refine zw_push hm_144 dX11_needCollector_15 (v := .inr (.inr (some 64))) rfl ?_
      obtain ⟨hg, h⟩ := h
      refine zw_gf hm_144 dX11_needCollector_16 (v := .inr (.inr (some 81))) (zT_is hS s_64) (zT_t hS s_64) rfl f_11_98_11 (congrArg (fun z => Sum.inr (Sum.inr z)) hg) ?_
      refine zw_aret hm_144 dX11_needCollector_19 ?_
      show ma_wp X d w 162 21 [(0, .inr (.inr (some 64))), (1, .inl ix), (2, .inl pa)] [.inr (.inr (some 81))] S _
      refine zw_sto hm_162 dX11_block_21 [(4, .inr (.inr (some 81))), (0, .inr (.inr (some 64))), (1, .inl ix), (2, .inl pa)] rfl rfl rfl ?_
      refine zw_push hm_162 dX11_block_23 (v := .inr (.inr (some 81))) rfl ?_
      refine zw_iof hm_162 dX11_block_25 (zT_is hS s_81) (zT_t hS s_81) rfl ct_11_41_3 (v := (0 : Int32)) rfl ?_
      refine zw_if0 hm_162 dX11_block_28 (t := 77) rfl zc0_eq (fun _ => ?_) (fun hc => absurd (by decide) hc)
      exact zw_thr hm_162 dX11_block_77 dX11_block_80 dX11_block_81 dX11_block_84 x_11_192_194 n_11_192 (by omega) (by show 0 + 81 ≤ w; omega) h
    · intro hc
      rw [if_neg hc] at h
      exact zw_thr hm_162 dX11_block_9 dX11_block_12 dX11_block_13 dX11_block_16 x_11_79_81 n_11_79 (by omega) (by show 0 + 81 ≤ w; omega) h
theorem sp_162_64_sn_p81 {X : Nat × (Nat → Int32)} {d w : Nat} {f : Nat → Nat → Int32} {r : Nat → Nat → Option Nat} {C Z N : Nat} {Q : Option ma_V ⊕ Nat → ma_S → Prop} {I0 : Nat→Nat→Int32} {L0 : Nat→Nat→Int64} {R0 : zRT} {S : ma_S} (ix : Int32) (pa : Int32) (hd : 7 ≤ d) (hw : 109 ≤ w) (hI : zB f r C Z N S) (hr : r 64 11 = some 81) (hpre0 : zFm I0 L0 R0 S) (K : ∀ v S₉, zB f r C Z N S₉ → ((0 : Int) = 1) → Q (.inl (some (.inl v))) S₉) (KX : ∀ x S₉, (x = 2 ∨ x = 6) → zB f r C Z N S₉ → ((x = 2 ∧ (pa.toInt < 0 ∨ 1 < pa.toInt)) ∨ (x = 6 ∧ 0 ≤ pa.toInt ∧ pa.toInt ≤ 1)) → (zFm I0 L0 R0 S₉) → Q (.inr x) (ma_bump S₉)) : ma_wp X d w 162 0 [(0, .inr (.inr (some 64))), (1, .inl ix), (2, .inl pa)] [] S Q := by
  refine g_162_64_sn_p81_0 ix pa (by omega) (by omega) (zG_T hI) ?_
  have b1 := i_bd pa
  have li2 : (0 : Int32).toInt = 0 := rfl
  refine zd (fun h3 => ?_) (fun h3 => ?_)
  · skip
    have g4 := i_lt h3
    exact KX 2 _ (by decide) hI (show (2 = 2 ∧ (pa.toInt < 0 ∨ 1 < pa.toInt)) ∨ (2 = 6 ∧ 0 ≤ pa.toInt ∧ pa.toInt ≤ 1) from by omega) (show zFm I0 L0 R0 S from by first | (exact hpre0))
  · skip
    have g5 := i_nlt h3
    have li6 : (1 : Int32).toInt = 1 := rfl
    refine zd (fun h7 => ?_) (fun h7 => ?_)
    · skip
      have g8 := i_le h7
      refine ⟨((zG_r hI (by decide)).trans hr), ?_⟩
      refine ⟨((zG_r hI (by decide)).trans hr), ?_⟩
      exact KX 6 _ (by decide) hI (show (6 = 2 ∧ (pa.toInt < 0 ∨ 1 < pa.toInt)) ∨ (6 = 6 ∧ 0 ≤ pa.toInt ∧ pa.toInt ≤ 1) from by omega) (show zFm I0 L0 R0 S from by first | (exact hpre0))
    · skip
      have g9 := i_nle h7
      exact KX 2 _ (by decide) hI (show (2 = 2 ∧ (pa.toInt < 0 ∨ 1 < pa.toInt)) ∨ (2 = 6 ∧ 0 ≤ pa.toInt ∧ pa.toInt ≤ 1) from by omega) (show zFm I0 L0 R0 S from by first | (exact hpre0))
theorem g_160_64_sn_p82_0 {X : Nat × (Nat → Int32)} {d w : Nat} {S : ma_S} {Q : Option ma_V ⊕ Nat → ma_S → Prop} (n : Int32) (hd : 7 ≤ d) (hw : 114 ≤ w) (hS : zT S) (h : if n < 0 then (Q (.inr 2) (ma_bump S)) else (if n ≤ (1000 : Int32) then (mR S 64 11 = some 82 ∧ (mR S 64 11 = some 82 ∧ (Q (.inr 6) (ma_bump S)))) else (Q (.inr 2) (ma_bump S)))) : ma_wp X d w 160 0 [(0, .inr (.inr (some 64))), (1, .inl n)] [] S Q := by
  refine zw_push hm_160 dX11_step_0 (v := .inl n) rfl ?_
  refine zw_if0 hm_160 dX11_step_1 (t := 11) rfl zc0_lt ?_ ?_
  · intro hc
    rw [if_pos hc] at h
    exact zw_thr hm_160 dX11_step_11 dX11_step_14 dX11_step_15 dX11_step_18 x_11_79_81 n_11_79 (by omega) (by show 0 + 81 ≤ w; omega) h
  · intro hc
    rw [if_neg hc] at h
    refine zw_push hm_160 dX11_step_4 (v := .inl n) rfl ?_
    refine zw_push hm_160 dX11_step_5 (v := .inl (1000 : Int32)) rfl ?_
    refine zw_if2 hm_160 dX11_step_8 (t := 19) rfl zc2_le ?_ ?_
    · intro hc
      rw [if_pos hc] at h
      refine zw_push hm_160 dX11_step_19 (v := .inr (.inr (some 64))) rfl ?_
      refine zw_cv hm_160 dX11_step_20 v_11_119_11 hm_144 [] [] rfl (zT_rt hS s_64 rfl) ⟨by omega, by omega⟩ rfl ?_
      show ma_wp X (d - 1) (w - 20) 144 0 [(0, .inr (.inr (some 64)))] [] S _
      refine zw_push hm_144 dX11_needCollector_0 (v := .inr (.inr (some 64))) rfl ?_
      obtain ⟨hg, h⟩ := h
      refine zw_gf hm_144 dX11_needCollector_1 (v := .inr (.inr (some 82))) (zT_is hS s_64) (zT_t hS s_64) rfl f_11_98_11 (congrArg (fun z => Sum.inr (Sum.inr z)) hg) ?_
      refine zw_ifnonnull hm_144 dX11_needCollector_4 (t := 15) rfl (fun z => by cases z) (fun _ _ => ?_)
      refine zw_push hm_144 dX11_needCollector_15 (v := .inr (.inr (some 64))) rfl ?_
      obtain ⟨hg, h⟩ := h
      refine zw_gf hm_144 dX11_needCollector_16 (v := .inr (.inr (some 82))) (zT_is hS s_64) (zT_t hS s_64) rfl f_11_98_11 (congrArg (fun z => Sum.inr (Sum.inr z)) hg) ?_
      refine zw_aret hm_144 dX11_needCollector_19 ?_
      show ma_wp X d w 160 23 [(0, .inr (.inr (some 64))), (1, .inl n)] [.inr (.inr (some 82))] S _
      refine zw_sto hm_160 dX11_step_23 [(3, .inr (.inr (some 82))), (0, .inr (.inr (some 64))), (1, .inl n)] rfl rfl rfl ?_
      refine zw_push hm_160 dX11_step_24 (v := .inr (.inr (some 82))) rfl ?_
      refine zw_iof hm_160 dX11_step_25 (zT_is hS s_82) (zT_t hS s_82) rfl ct_11_58_1 (v := (0 : Int32)) rfl ?_
      refine zw_if0 hm_160 dX11_step_28 (t := 42) rfl zc0_eq (fun _ => ?_) (fun hc => absurd (by decide) hc)
      exact zw_thr hm_160 dX11_step_42 dX11_step_45 dX11_step_46 dX11_step_49 x_11_192_194 n_11_192 (by omega) (by show 0 + 81 ≤ w; omega) h
    · intro hc
      rw [if_neg hc] at h
      exact zw_thr hm_160 dX11_step_11 dX11_step_14 dX11_step_15 dX11_step_18 x_11_79_81 n_11_79 (by omega) (by show 0 + 81 ≤ w; omega) h
theorem sp_160_64_sn_p82 {X : Nat × (Nat → Int32)} {d w : Nat} {f : Nat → Nat → Int32} {r : Nat → Nat → Option Nat} {C Z N : Nat} {Q : Option ma_V ⊕ Nat → ma_S → Prop} {I0 : Nat→Nat→Int32} {L0 : Nat→Nat→Int64} {R0 : zRT} {S : ma_S} (n : Int32) (hd : 7 ≤ d) (hw : 114 ≤ w) (hI : zB f r C Z N S) (hr : r 64 11 = some 82) (hpre0 : zFm I0 L0 R0 S) (K : ∀ v S₉, zB f r C Z N S₉ → ((0 : Int) = 1) → Q (.inl (some (.inl v))) S₉) (KX : ∀ x S₉, (x = 2 ∨ x = 6) → zB f r C Z N S₉ → ((x = 2 ∧ (n.toInt < 0 ∨ 1000 < n.toInt)) ∨ (x = 6 ∧ 0 ≤ n.toInt ∧ n.toInt ≤ 1000)) → (zFm I0 L0 R0 S₉) → Q (.inr x) (ma_bump S₉)) : ma_wp X d w 160 0 [(0, .inr (.inr (some 64))), (1, .inl n)] [] S Q := by
  refine g_160_64_sn_p82_0 n (by omega) (by omega) (zG_T hI) ?_
  have b1 := i_bd n
  have li2 : (0 : Int32).toInt = 0 := rfl
  refine zd (fun h3 => ?_) (fun h3 => ?_)
  · skip
    have g4 := i_lt h3
    exact KX 2 _ (by decide) hI (show (2 = 2 ∧ (n.toInt < 0 ∨ 1000 < n.toInt)) ∨ (2 = 6 ∧ 0 ≤ n.toInt ∧ n.toInt ≤ 1000) from by omega) (show zFm I0 L0 R0 S from by first | (exact hpre0))
  · skip
    have g5 := i_nlt h3
    have li6 : (1000 : Int32).toInt = 1000 := rfl
    refine zd (fun h7 => ?_) (fun h7 => ?_)
    · skip
      have g8 := i_le h7
      refine ⟨((zG_r hI (by decide)).trans hr), ?_⟩
      refine ⟨((zG_r hI (by decide)).trans hr), ?_⟩
      exact KX 6 _ (by decide) hI (show (6 = 2 ∧ (n.toInt < 0 ∨ 1000 < n.toInt)) ∨ (6 = 6 ∧ 0 ≤ n.toInt ∧ n.toInt ≤ 1000) from by omega) (show zFm I0 L0 R0 S from by first | (exact hpre0))
    · skip
      have g9 := i_nle h7
      exact KX 2 _ (by decide) hI (show (2 = 2 ∧ (n.toInt < 0 ∨ 1000 < n.toInt)) ∨ (2 = 6 ∧ 0 ≤ n.toInt ∧ n.toInt ≤ 1000) from by omega) (show zFm I0 L0 R0 S from by first | (exact hpre0))
theorem g_162_64_sn_p82_0 {X : Nat × (Nat → Int32)} {d w : Nat} {S : ma_S} {Q : Option ma_V ⊕ Nat → ma_S → Prop} (ix : Int32) (pa : Int32) (hd : 7 ≤ d) (hw : 109 ≤ w) (hS : zT S) (h : if pa < 0 then (Q (.inr 2) (ma_bump S)) else (if pa ≤ (1 : Int32) then (mR S 64 11 = some 82 ∧ (mR S 64 11 = some 82 ∧ (Q (.inr 6) (ma_bump S)))) else (Q (.inr 2) (ma_bump S)))) : ma_wp X d w 162 0 [(0, .inr (.inr (some 64))), (1, .inl ix), (2, .inl pa)] [] S Q := by
  refine zw_push hm_162 dX11_block_0 (v := .inl pa) rfl ?_
  refine zw_if0 hm_162 dX11_block_1 (t := 9) rfl zc0_lt ?_ ?_
  · intro hc
    rw [if_pos hc] at h
    exact zw_thr hm_162 dX11_block_9 dX11_block_12 dX11_block_13 dX11_block_16 x_11_79_81 n_11_79 (by omega) (by show 0 + 81 ≤ w; omega) h
  · intro hc
    rw [if_neg hc] at h
    refine zw_push hm_162 dX11_block_4 (v := .inl pa) rfl ?_
    refine zw_push hm_162 dX11_block_5 (v := .inl (1 : Int32)) rfl ?_
    refine zw_if2 hm_162 dX11_block_6 (t := 17) rfl zc2_le ?_ ?_
    · intro hc
      rw [if_pos hc] at h
      refine zw_push hm_162 dX11_block_17 (v := .inr (.inr (some 64))) rfl ?_
      refine zw_cv hm_162 dX11_block_18 v_11_119_11 hm_144 [] [] rfl (zT_rt hS s_64 rfl) ⟨by omega, by omega⟩ rfl ?_
      show ma_wp X (d - 1) (w - 20) 144 0 [(0, .inr (.inr (some 64)))] [] S _
      refine zw_push hm_144 dX11_needCollector_0 (v := .inr (.inr (some 64))) rfl ?_
      obtain ⟨hg, h⟩ := h
      refine zw_gf hm_144 dX11_needCollector_1 (v := .inr (.inr (some 82))) (zT_is hS s_64) (zT_t hS s_64) rfl f_11_98_11 (congrArg (fun z => Sum.inr (Sum.inr z)) hg) ?_
      refine zw_ifnonnull hm_144 dX11_needCollector_4 (t := 15) rfl (fun z => by cases z) (fun _ _ => ?_)
      refine zw_push hm_144 dX11_needCollector_15 (v := .inr (.inr (some 64))) rfl ?_
      obtain ⟨hg, h⟩ := h
      refine zw_gf hm_144 dX11_needCollector_16 (v := .inr (.inr (some 82))) (zT_is hS s_64) (zT_t hS s_64) rfl f_11_98_11 (congrArg (fun z => Sum.inr (Sum.inr z)) hg) ?_
      refine zw_aret hm_144 dX11_needCollector_19 ?_
      show ma_wp X d w 162 21 [(0, .inr (.inr (some 64))), (1, .inl ix), (2, .inl pa)] [.inr (.inr (some 82))] S _
      refine zw_sto hm_162 dX11_block_21 [(4, .inr (.inr (some 82))), (0, .inr (.inr (some 64))), (1, .inl ix), (2, .inl pa)] rfl rfl rfl ?_
      refine zw_push hm_162 dX11_block_23 (v := .inr (.inr (some 82))) rfl ?_
      refine zw_iof hm_162 dX11_block_25 (zT_is hS s_82) (zT_t hS s_82) rfl ct_11_41_1 (v := (0 : Int32)) rfl ?_
      refine zw_if0 hm_162 dX11_block_28 (t := 77) rfl zc0_eq (fun _ => ?_) (fun hc => absurd (by decide) hc)
      exact zw_thr hm_162 dX11_block_77 dX11_block_80 dX11_block_81 dX11_block_84 x_11_192_194 n_11_192 (by omega) (by show 0 + 81 ≤ w; omega) h
    · intro hc
      rw [if_neg hc] at h
      exact zw_thr hm_162 dX11_block_9 dX11_block_12 dX11_block_13 dX11_block_16 x_11_79_81 n_11_79 (by omega) (by show 0 + 81 ≤ w; omega) h
theorem sp_162_64_sn_p82 {X : Nat × (Nat → Int32)} {d w : Nat} {f : Nat → Nat → Int32} {r : Nat → Nat → Option Nat} {C Z N : Nat} {Q : Option ma_V ⊕ Nat → ma_S → Prop} {I0 : Nat→Nat→Int32} {L0 : Nat→Nat→Int64} {R0 : zRT} {S : ma_S} (ix : Int32) (pa : Int32) (hd : 7 ≤ d) (hw : 109 ≤ w) (hI : zB f r C Z N S) (hr : r 64 11 = some 82) (hpre0 : zFm I0 L0 R0 S) (K : ∀ v S₉, zB f r C Z N S₉ → ((0 : Int) = 1) → Q (.inl (some (.inl v))) S₉) (KX : ∀ x S₉, (x = 2 ∨ x = 6) → zB f r C Z N S₉ → ((x = 2 ∧ (pa.toInt < 0 ∨ 1 < pa.toInt)) ∨ (x = 6 ∧ 0 ≤ pa.toInt ∧ pa.toInt ≤ 1)) → (zFm I0 L0 R0 S₉) → Q (.inr x) (ma_bump S₉)) : ma_wp X d w 162 0 [(0, .inr (.inr (some 64))), (1, .inl ix), (2, .inl pa)] [] S Q := by
  refine g_162_64_sn_p82_0 ix pa (by omega) (by omega) (zG_T hI) ?_
  have b1 := i_bd pa
  have li2 : (0 : Int32).toInt = 0 := rfl
  refine zd (fun h3 => ?_) (fun h3 => ?_)
  · skip
    have g4 := i_lt h3
    exact KX 2 _ (by decide) hI (show (2 = 2 ∧ (pa.toInt < 0 ∨ 1 < pa.toInt)) ∨ (2 = 6 ∧ 0 ≤ pa.toInt ∧ pa.toInt ≤ 1) from by omega) (show zFm I0 L0 R0 S from by first | (exact hpre0))
  · skip
    have g5 := i_nlt h3
    have li6 : (1 : Int32).toInt = 1 := rfl
    refine zd (fun h7 => ?_) (fun h7 => ?_)
    · skip
      have g8 := i_le h7
      refine ⟨((zG_r hI (by decide)).trans hr), ?_⟩
      refine ⟨((zG_r hI (by decide)).trans hr), ?_⟩
      exact KX 6 _ (by decide) hI (show (6 = 2 ∧ (pa.toInt < 0 ∨ 1 < pa.toInt)) ∨ (6 = 6 ∧ 0 ≤ pa.toInt ∧ pa.toInt ≤ 1) from by omega) (show zFm I0 L0 R0 S from by first | (exact hpre0))
    · skip
      have g9 := i_nle h7
      exact KX 2 _ (by decide) hI (show (2 = 2 ∧ (pa.toInt < 0 ∨ 1 < pa.toInt)) ∨ (2 = 6 ∧ 0 ≤ pa.toInt ∧ pa.toInt ≤ 1) from by omega) (show zFm I0 L0 R0 S from by first | (exact hpre0))

/-! from 95.x17 -/
/-! the class opens a heap (written by wip/tools/gen15h.py) -/
theorem g_160_64_sn_p91_0 {X : Nat × (Nat → Int32)} {d w : Nat} {S : ma_S} {Q : Option ma_V ⊕ Nat → ma_S → Prop} (n : Int32) (hd : 7 ≤ d) (hw : 114 ≤ w) (hS : zT S) (h : if n < 0 then (Q (.inr 2) (ma_bump S)) else (if n ≤ (1000 : Int32) then (mR S 64 11 = some 91 ∧ (mR S 64 11 = some 91 ∧ (Q (.inr 6) (ma_bump S)))) else (Q (.inr 2) (ma_bump S)))) : ma_wp X d w 160 0 [(0, .inr (.inr (some 64))), (1, .inl n)] [] S Q := by
  refine zw_push hm_160 dX11_step_0 (v := .inl n) rfl ?_
  refine zw_if0 hm_160 dX11_step_1 (t := 11) rfl zc0_lt ?_ ?_
  · intro hc
    rw [if_pos hc] at h
    exact zw_thr hm_160 dX11_step_11 dX11_step_14 dX11_step_15 dX11_step_18 x_11_79_81 n_11_79 (by omega) (by show 0 + 81 ≤ w; omega) h
  · intro hc
    rw [if_neg hc] at h
    refine zw_push hm_160 dX11_step_4 (v := .inl n) rfl ?_
    refine zw_push hm_160 dX11_step_5 (v := .inl (1000 : Int32)) rfl ?_
    refine zw_if2 hm_160 dX11_step_8 (t := 19) rfl zc2_le ?_ ?_
    · intro hc
      rw [if_pos hc] at h
      refine zw_push hm_160 dX11_step_19 (v := .inr (.inr (some 64))) rfl ?_
      refine zw_cv hm_160 dX11_step_20 v_11_119_11 hm_144 [] [] rfl (zT_rt hS s_64 rfl) ⟨by omega, by omega⟩ rfl ?_
      show ma_wp X (d - 1) (w - 20) 144 0 [(0, .inr (.inr (some 64)))] [] S _
      refine zw_push hm_144 dX11_needCollector_0 (v := .inr (.inr (some 64))) rfl ?_
      obtain ⟨hg, h⟩ := h
      refine zw_gf hm_144 dX11_needCollector_1 (v := .inr (.inr (some 91))) (zT_is hS s_64) (zT_t hS s_64) rfl f_11_98_11 (congrArg (fun z => Sum.inr (Sum.inr z)) hg) ?_
      refine zw_ifnonnull hm_144 dX11_needCollector_4 (t := 15) rfl (fun z => by cases z) (fun _ _ => ?_)
      refine zw_push hm_144 dX11_needCollector_15 (v := .inr (.inr (some 64))) rfl ?_
      obtain ⟨hg, h⟩ := h
      refine zw_gf hm_144 dX11_needCollector_16 (v := .inr (.inr (some 91))) (zT_is hS s_64) (zT_t hS s_64) rfl f_11_98_11 (congrArg (fun z => Sum.inr (Sum.inr z)) hg) ?_
      refine zw_aret hm_144 dX11_needCollector_19 ?_
      show ma_wp X d w 160 23 [(0, .inr (.inr (some 64))), (1, .inl n)] [.inr (.inr (some 91))] S _
      refine zw_sto hm_160 dX11_step_23 [(3, .inr (.inr (some 91))), (0, .inr (.inr (some 64))), (1, .inl n)] rfl rfl rfl ?_
      refine zw_push hm_160 dX11_step_24 (v := .inr (.inr (some 91))) rfl ?_
      refine zw_iof hm_160 dX11_step_25 (zT_is hS s_91) (zT_t hS s_91) rfl ct_11_58_4 (v := (0 : Int32)) rfl ?_
      refine zw_if0 hm_160 dX11_step_28 (t := 42) rfl zc0_eq (fun _ => ?_) (fun hc => absurd (by decide) hc)
      exact zw_thr hm_160 dX11_step_42 dX11_step_45 dX11_step_46 dX11_step_49 x_11_192_194 n_11_192 (by omega) (by show 0 + 81 ≤ w; omega) h
    · intro hc
      rw [if_neg hc] at h
      exact zw_thr hm_160 dX11_step_11 dX11_step_14 dX11_step_15 dX11_step_18 x_11_79_81 n_11_79 (by omega) (by show 0 + 81 ≤ w; omega) h
theorem sp_160_64_sn_p91 {X : Nat × (Nat → Int32)} {d w : Nat} {f : Nat → Nat → Int32} {r : Nat → Nat → Option Nat} {C Z N : Nat} {Q : Option ma_V ⊕ Nat → ma_S → Prop} {I0 : Nat→Nat→Int32} {L0 : Nat→Nat→Int64} {R0 : zRT} {S : ma_S} (n : Int32) (hd : 7 ≤ d) (hw : 114 ≤ w) (hI : zB f r C Z N S) (hr : r 64 11 = some 91) (hpre0 : zFm I0 L0 R0 S) (K : ∀ v S₉, zB f r C Z N S₉ → ((0 : Int) = 1) → Q (.inl (some (.inl v))) S₉) (KX : ∀ x S₉, (x = 2 ∨ x = 6) → zB f r C Z N S₉ → ((x = 2 ∧ (n.toInt < 0 ∨ 1000 < n.toInt)) ∨ (x = 6 ∧ 0 ≤ n.toInt ∧ n.toInt ≤ 1000)) → (zFm I0 L0 R0 S₉) → Q (.inr x) (ma_bump S₉)) : ma_wp X d w 160 0 [(0, .inr (.inr (some 64))), (1, .inl n)] [] S Q := by
  refine g_160_64_sn_p91_0 n (by omega) (by omega) (zG_T hI) ?_
  have b1 := i_bd n
  have li2 : (0 : Int32).toInt = 0 := rfl
  refine zd (fun h3 => ?_) (fun h3 => ?_)
  · skip
    have g4 := i_lt h3
    exact KX 2 _ (by decide) hI (show (2 = 2 ∧ (n.toInt < 0 ∨ 1000 < n.toInt)) ∨ (2 = 6 ∧ 0 ≤ n.toInt ∧ n.toInt ≤ 1000) from by omega) (show zFm I0 L0 R0 S from by first | (exact hpre0))
  · skip
    have g5 := i_nlt h3
    have li6 : (1000 : Int32).toInt = 1000 := rfl
    refine zd (fun h7 => ?_) (fun h7 => ?_)
    · skip
      have g8 := i_le h7
      refine ⟨((zG_r hI (by decide)).trans hr), ?_⟩
      refine ⟨((zG_r hI (by decide)).trans hr), ?_⟩
      exact KX 6 _ (by decide) hI (show (6 = 2 ∧ (n.toInt < 0 ∨ 1000 < n.toInt)) ∨ (6 = 6 ∧ 0 ≤ n.toInt ∧ n.toInt ≤ 1000) from by omega) (show zFm I0 L0 R0 S from by first | (exact hpre0))
    · skip
      have g9 := i_nle h7
      exact KX 2 _ (by decide) hI (show (2 = 2 ∧ (n.toInt < 0 ∨ 1000 < n.toInt)) ∨ (2 = 6 ∧ 0 ≤ n.toInt ∧ n.toInt ≤ 1000) from by omega) (show zFm I0 L0 R0 S from by first | (exact hpre0))
theorem g_162_64_sn_p91_0 {X : Nat × (Nat → Int32)} {d w : Nat} {S : ma_S} {Q : Option ma_V ⊕ Nat → ma_S → Prop} (ix : Int32) (pa : Int32) (hd : 7 ≤ d) (hw : 109 ≤ w) (hS : zT S) (h : if pa < 0 then (Q (.inr 2) (ma_bump S)) else (if pa ≤ (1 : Int32) then (mR S 64 11 = some 91 ∧ (mR S 64 11 = some 91 ∧ (Q (.inr 6) (ma_bump S)))) else (Q (.inr 2) (ma_bump S)))) : ma_wp X d w 162 0 [(0, .inr (.inr (some 64))), (1, .inl ix), (2, .inl pa)] [] S Q := by
  refine zw_push hm_162 dX11_block_0 (v := .inl pa) rfl ?_
  refine zw_if0 hm_162 dX11_block_1 (t := 9) rfl zc0_lt ?_ ?_
  · intro hc
    rw [if_pos hc] at h
    exact zw_thr hm_162 dX11_block_9 dX11_block_12 dX11_block_13 dX11_block_16 x_11_79_81 n_11_79 (by omega) (by show 0 + 81 ≤ w; omega) h
  · intro hc
    rw [if_neg hc] at h
    refine zw_push hm_162 dX11_block_4 (v := .inl pa) rfl ?_
    refine zw_push hm_162 dX11_block_5 (v := .inl (1 : Int32)) rfl ?_
    refine zw_if2 hm_162 dX11_block_6 (t := 17) rfl zc2_le ?_ ?_
    · intro hc
      rw [if_pos hc] at h
      refine zw_push hm_162 dX11_block_17 (v := .inr (.inr (some 64))) rfl ?_
      refine zw_cv hm_162 dX11_block_18 v_11_119_11 hm_144 [] [] rfl (zT_rt hS s_64 rfl) ⟨by omega, by omega⟩ rfl ?_
      show ma_wp X (d - 1) (w - 20) 144 0 [(0, .inr (.inr (some 64)))] [] S _
      refine zw_push hm_144 dX11_needCollector_0 (v := .inr (.inr (some 64))) rfl ?_
      obtain ⟨hg, h⟩ := h
      refine zw_gf hm_144 dX11_needCollector_1 (v := .inr (.inr (some 91))) (zT_is hS s_64) (zT_t hS s_64) rfl f_11_98_11 (congrArg (fun z => Sum.inr (Sum.inr z)) hg) ?_
      refine zw_ifnonnull hm_144 dX11_needCollector_4 (t := 15) rfl (fun z => by cases z) (fun _ _ => ?_)
      refine zw_push hm_144 dX11_needCollector_15 (v := .inr (.inr (some 64))) rfl ?_
      obtain ⟨hg, h⟩ := h
      refine zw_gf hm_144 dX11_needCollector_16 (v := .inr (.inr (some 91))) (zT_is hS s_64) (zT_t hS s_64) rfl f_11_98_11 (congrArg (fun z => Sum.inr (Sum.inr z)) hg) ?_
      refine zw_aret hm_144 dX11_needCollector_19 ?_
      show ma_wp X d w 162 21 [(0, .inr (.inr (some 64))), (1, .inl ix), (2, .inl pa)] [.inr (.inr (some 91))] S _
      refine zw_sto hm_162 dX11_block_21 [(4, .inr (.inr (some 91))), (0, .inr (.inr (some 64))), (1, .inl ix), (2, .inl pa)] rfl rfl rfl ?_
      refine zw_push hm_162 dX11_block_23 (v := .inr (.inr (some 91))) rfl ?_
      refine zw_iof hm_162 dX11_block_25 (zT_is hS s_91) (zT_t hS s_91) rfl ct_11_41_4 (v := (0 : Int32)) rfl ?_
      refine zw_if0 hm_162 dX11_block_28 (t := 77) rfl zc0_eq (fun _ => ?_) (fun hc => absurd (by decide) hc)
      exact zw_thr hm_162 dX11_block_77 dX11_block_80 dX11_block_81 dX11_block_84 x_11_192_194 n_11_192 (by omega) (by show 0 + 81 ≤ w; omega) h
    · intro hc
      rw [if_neg hc] at h
      exact zw_thr hm_162 dX11_block_9 dX11_block_12 dX11_block_13 dX11_block_16 x_11_79_81 n_11_79 (by omega) (by show 0 + 81 ≤ w; omega) h
theorem sp_162_64_sn_p91 {X : Nat × (Nat → Int32)} {d w : Nat} {f : Nat → Nat → Int32} {r : Nat → Nat → Option Nat} {C Z N : Nat} {Q : Option ma_V ⊕ Nat → ma_S → Prop} {I0 : Nat→Nat→Int32} {L0 : Nat→Nat→Int64} {R0 : zRT} {S : ma_S} (ix : Int32) (pa : Int32) (hd : 7 ≤ d) (hw : 109 ≤ w) (hI : zB f r C Z N S) (hr : r 64 11 = some 91) (hpre0 : zFm I0 L0 R0 S) (K : ∀ v S₉, zB f r C Z N S₉ → ((0 : Int) = 1) → Q (.inl (some (.inl v))) S₉) (KX : ∀ x S₉, (x = 2 ∨ x = 6) → zB f r C Z N S₉ → ((x = 2 ∧ (pa.toInt < 0 ∨ 1 < pa.toInt)) ∨ (x = 6 ∧ 0 ≤ pa.toInt ∧ pa.toInt ≤ 1)) → (zFm I0 L0 R0 S₉) → Q (.inr x) (ma_bump S₉)) : ma_wp X d w 162 0 [(0, .inr (.inr (some 64))), (1, .inl ix), (2, .inl pa)] [] S Q := by
  refine g_162_64_sn_p91_0 ix pa (by omega) (by omega) (zG_T hI) ?_
  have b1 := i_bd pa
  have li2 : (0 : Int32).toInt = 0 := rfl
  refine zd (fun h3 => ?_) (fun h3 => ?_)
  · skip
    have g4 := i_lt h3
    exact KX 2 _ (by decide) hI (show (2 = 2 ∧ (pa.toInt < 0 ∨ 1 < pa.toInt)) ∨ (2 = 6 ∧ 0 ≤ pa.toInt ∧ pa.toInt ≤ 1) from by omega) (show zFm I0 L0 R0 S from by first | (exact hpre0))
  · skip
    have g5 := i_nlt h3
    have li6 : (1 : Int32).toInt = 1 := rfl
    refine zd (fun h7 => ?_) (fun h7 => ?_)
    · skip
      have g8 := i_le h7
      refine ⟨((zG_r hI (by decide)).trans hr), ?_⟩
      refine ⟨((zG_r hI (by decide)).trans hr), ?_⟩
      exact KX 6 _ (by decide) hI (show (6 = 2 ∧ (pa.toInt < 0 ∨ 1 < pa.toInt)) ∨ (6 = 6 ∧ 0 ≤ pa.toInt ∧ pa.toInt ≤ 1) from by omega) (show zFm I0 L0 R0 S from by first | (exact hpre0))
    · skip
      have g9 := i_nle h7
      exact KX 2 _ (by decide) hI (show (2 = 2 ∧ (pa.toInt < 0 ∨ 1 < pa.toInt)) ∨ (2 = 6 ∧ 0 ≤ pa.toInt ∧ pa.toInt ≤ 1) from by omega) (show zFm I0 L0 R0 S from by first | (exact hpre0))

/-! from 95.y00 -/
/-! the reference opens a heap (written by wip/tools/gen15w.py) -/
/-! what the text says of the moving policies -/
def qT1 (K ro : Int) (t : Nat → Int32) (n : Int) : Prop := (K = 1 ∨ K = 2) → ro = zVal t n 0 1
def qT3 (K yo ol ag cd : Int) (t : Nat → Int32) (n : Int) : Prop := K = 3 → (yo = zVal t n 0 1 ∧ ol = zVal t n 0 2 ∧ ag = zVal t n 1 3 ∧ cd = zVal t n 2 4)
def qTa (K ro e : Int) (t : Nat → Int32) (n : Int) : Prop := K = 6 → (ro = zVal t n 0 1 ∧ e = zte t n 1)
def qT6 (K ro si sh : Int) (t : Nat → Int32) (n : Int) : Prop := K = 6 → (ro = zVal t n 0 1 ∧ si = zV4 t n ∧ sh = zVal t n 5 3)
theorem zV4_cg {t t₉ : Nat → Int32} {n : Int} (h : ∀ k : Nat, (k : Int) < n → t k = t₉ k) (hn : 0 ≤ n) (h3 : n ≤ 100) : zV4 t n = zV4 t₉ n := by
  have q := zt_cg h hn 2
  unfold zV4
  rw [zVal_cg h hn h3, q.1, q.2.1]
  exact zPart_cg h q.2.2.1 q.2.2.2.1 q.2.2.2.2 h3
theorem jm_cg {t t₉ : Nat → Int32} {n K ro yo ol ag cd si sh : Int} (h : qT1 K ro t n ∧ qT3 K yo ol ag cd t n ∧ qT6 K ro si sh t n) (hs : ∀ k : Nat, (k : Int) < n → t k = t₉ k) (hn : 0 ≤ n) (h3 : n ≤ 100) : qT1 K ro t₉ n ∧ qT3 K yo ol ag cd t₉ n ∧ qT6 K ro si sh t₉ n := by
  obtain ⟨h1, h2, h6⟩ := h
  unfold qT1 qT3 qT6 at *
  rw [← zVal_cg (c := 0) (k := 1) hs hn h3, ← zVal_cg (c := 0) (k := 2) hs hn h3, ← zVal_cg (c := 1) (k := 3) hs hn h3, ← zVal_cg (c := 2) (k := 4) hs hn h3, ← zVal_cg (c := 5) (k := 3) hs hn h3, ← zV4_cg hs hn h3]
  exact ⟨h1, h2, h6⟩

