/-! from 95.x12 -/
/-! the class opens a heap (written by wip/tools/gen15h.py) -/
theorem g_59_80_66_sn_0 {X : Nat × (Nat → Int32)} {d w : Nat} {S : ma_S} {Q : Option ma_V ⊕ Nat → ma_S → Prop}  (hd : 0 ≤ d) (hw : 0 ≤ w) (hS : zT S) (h : Q (.inl none) (ma_put (ma_put S 80 2 (.inl (mI S 66 0))) 80 3 (.inl (0 : Int32)))) : ma_wp X d w 59 0 [(0, .inr (.inr (some 80))), (1, .inr (.inr (some 66)))] [] S Q := by
  refine zw_push hm_59 dX5_open_0 (v := .inr (.inr (some 80))) rfl ?_
  refine zw_push hm_59 dX5_open_1 (v := .inr (.inr (some 66))) rfl ?_
  refine zw_push hm_59 dX5_open_2 (v := .inl (0 : Int32)) rfl ?_
  refine zw_ia hm_59 dX5_open_3 (zT_is hS s_66) (zT_h hS s_66) rfl ⟨by decide, by decide⟩ ?_
  show ma_wp X d w 59 4 [(0, .inr (.inr (some 80))), (1, .inr (.inr (some 66)))] [.inl (mI S 66 0), .inr (.inr (some 80))] S _
  refine zw_pf hm_59 dX5_open_4 (zT_is hS s_80) (zT_t hS s_80) p_5_9_5 zk_int ?_
  refine zw_push hm_59 dX5_open_7 (v := .inr (.inr (some 80))) rfl ?_
  refine zw_push hm_59 dX5_open_8 (v := .inl (0 : Int32)) rfl ?_
  refine zw_pf hm_59 dX5_open_9 (zT_is (zT_pi hS) s_80) (zT_t (zT_pi hS) s_80) p_5_15_5 zk_int ?_
  exact zw_vret hm_59 dX5_open_12 h
theorem sp_59_80_66_sn {X : Nat × (Nat → Int32)} {d w : Nat} {f : Nat → Nat → Int32} {r : Nat → Nat → Option Nat} {C Z N : Nat} {Q : Option ma_V ⊕ Nat → ma_S → Prop} {ab : Nat→Nat→Int32} {S : ma_S}  (hd : 0 ≤ d) (hw : 0 ≤ w) (hI : zJ80 f r C Z N S) (hpre0 : 0 ≤ (mI S 66 0).toInt ∧ (mI S 66 0).toInt ≤ 1500) (hpre1 : xB S (mR S 70)) (hpre2 : aS 88 S = ab) (K : ∀ S₉, zJ80 f r C Z N S₉ → (xB S₉ (mR S₉ 70)) → (aS 88 S₉ = ab) → ((mI S₉ 80 2) = (f 66) 0 ∧ (mI S₉ 80 3) = 0) → Q (.inl none) S₉) : ma_wp X d w 59 0 [(0, .inr (.inr (some 80))), (1, .inr (.inr (some 66)))] [] S Q := by
  refine g_59_80_66_sn_0  (by omega) (by omega) (zG_T hI) ?_
  have q1 : (mI S 66 0).toInt = (f 66 0).toInt := zG_zi hI rfl
  have b2 := i_bd (mI S 66 0)
  have hI3 : zJ80 f r C Z N (ma_put S 80 2 (.inl (mI S 66 0))) := zG_sp hI (0) (1500) rfl (by decide) (by decide) (by decide) trivial (by omega) (by omega)
  have li5 : (0 : Int32).toInt = 0 := rfl
  have hI4 : zJ80 f r C Z N (ma_put (ma_put S 80 2 (.inl (mI S 66 0))) 80 3 (.inl (0 : Int32))) := zG_sp hI3 (0) (400000) rfl (by decide) (by decide) (by decide) trivial (by omega) (by omega)
  exact K _ hI4 (show xB (ma_put (ma_put S 80 2 (.inl (mI S 66 0))) 80 3 (.inl (0 : Int32))) (mR (ma_put (ma_put S 80 2 (.inl (mI S 66 0))) 80 3 (.inl (0 : Int32))) 70) from by first | (exact xB_x (xC_n (c := 80) (k := 3) (x := (0 : Int32)) (xC_n (c := 80) (k := 2) (x := (mI S 66 0)) (xC_o (W := 75) hpre1) ⟨by decide, Or.inl ⟨rfl, rfl⟩⟩) ⟨by decide, Or.inl ⟨rfl, rfl⟩⟩).2)) (show aS 88 (ma_put (ma_put S 80 2 (.inl (mI S 66 0))) 80 3 (.inl (0 : Int32))) = ab from by first | (exact (xC_n (c := 80) (k := 3) (x := (0 : Int32)) (xC_n (c := 80) (k := 2) (x := (mI S 66 0)) (xC_o (W := 88) hpre1) ⟨by decide, Or.inr ⟨rfl, Or.inr ⟨rfl, by decide⟩⟩⟩) ⟨by decide, Or.inr ⟨rfl, Or.inr ⟨rfl, by decide⟩⟩⟩).1.trans hpre2)) (show (mI S 66 0) = (f 66) 0 ∧ (0 : Int32) = 0 from by first | (exact ⟨(show mI S 66 0 = f 66 0 from zG_z hI rfl), rfl⟩))
theorem g_29_81_66_zK81_sn_0 {X : Nat × (Nat → Int32)} {d w : Nat} {S : ma_S} {Q : Option ma_V ⊕ Nat → ma_S → Prop}  (hd : 0 ≤ d) (hw : 0 ≤ w) (hS : zT S) (h : Q (.inl none) (ma_put (ma_put (ma_put S 81 2 (.inl (mI S 66 0))) 81 3 (.inl (0 : Int32))) 81 4 (.inl (0 : Int32)))) : ma_wp X d w 29 0 [(0, .inr (.inr (some 81))), (1, .inr (.inr (some 66)))] [] S Q := by
  refine zw_push hm_29 dX3_open_0 (v := .inr (.inr (some 81))) rfl ?_
  refine zw_push hm_29 dX3_open_1 (v := .inr (.inr (some 66))) rfl ?_
  refine zw_push hm_29 dX3_open_2 (v := .inl (0 : Int32)) rfl ?_
  refine zw_ia hm_29 dX3_open_3 (zT_is hS s_66) (zT_h hS s_66) rfl ⟨by decide, by decide⟩ ?_
  show ma_wp X d w 29 4 [(0, .inr (.inr (some 81))), (1, .inr (.inr (some 66)))] [.inl (mI S 66 0), .inr (.inr (some 81))] S _
  refine zw_pf hm_29 dX3_open_4 (zT_is hS s_81) (zT_t hS s_81) p_3_9_3 zk_int ?_
  refine zw_push hm_29 dX3_open_7 (v := .inr (.inr (some 81))) rfl ?_
  refine zw_push hm_29 dX3_open_8 (v := .inl (0 : Int32)) rfl ?_
  refine zw_pf hm_29 dX3_open_9 (zT_is (zT_pi hS) s_81) (zT_t (zT_pi hS) s_81) p_3_15_3 zk_int ?_
  refine zw_push hm_29 dX3_open_12 (v := .inr (.inr (some 81))) rfl ?_
  refine zw_push hm_29 dX3_open_13 (v := .inl (0 : Int32)) rfl ?_
  refine zw_pf hm_29 dX3_open_14 (zT_is (zT_pi (zT_pi hS)) s_81) (zT_t (zT_pi (zT_pi hS)) s_81) p_3_18_3 zk_int ?_
  exact zw_vret hm_29 dX3_open_17 h
theorem sp_29_81_66_zK81_sn {X : Nat × (Nat → Int32)} {d w : Nat} {f : Nat → Nat → Int32} {r : Nat → Nat → Option Nat} {C Z N : Nat} {Q : Option ma_V ⊕ Nat → ma_S → Prop} {ab : Nat→Nat→Int32} {S : ma_S}  (hd : 0 ≤ d) (hw : 0 ≤ w) (hI : zK81 f r C Z N S) (hpre0 : 0 ≤ (mI S 66 0).toInt ∧ (mI S 66 0).toInt ≤ 1500) (hpre1 : xB S (mR S 70)) (hpre2 : aS 88 S = ab) (K : ∀ S₉, zK81 f r C Z N S₉ → (0 ≤ (mI S₉ 81 3).toInt ∧ (mI S₉ 81 3).toInt ≤ (mI S₉ 81 2).toInt) → (xB S₉ (mR S₉ 70)) → (aS 88 S₉ = ab) → ((mI S₉ 81 2) = (f 66) 0 ∧ (mI S₉ 81 3) = 0 ∧ (mI S₉ 81 4) = 0) → Q (.inl none) S₉) : ma_wp X d w 29 0 [(0, .inr (.inr (some 81))), (1, .inr (.inr (some 66)))] [] S Q := by
  refine g_29_81_66_zK81_sn_0  (by omega) (by omega) (zG_T hI) ?_
  have q1 : (mI S 66 0).toInt = (f 66 0).toInt := zG_zi hI rfl
  have b2 := i_bd (mI S 66 0)
  have hI3 : zK81 f r C Z N (ma_put S 81 2 (.inl (mI S 66 0))) := zG_sp hI (0) (1500) rfl (by decide) (by decide) (by decide) trivial (by omega) (by omega)
  have li5 : (0 : Int32).toInt = 0 := rfl
  have hI4 : zK81 f r C Z N (ma_put (ma_put S 81 2 (.inl (mI S 66 0))) 81 3 (.inl (0 : Int32))) := zG_sp hI3 (0) (1500) rfl (by decide) (by decide) (by decide) trivial (by omega) (by omega)
  have hI6 : zK81 f r C Z N (ma_put (ma_put (ma_put S 81 2 (.inl (mI S 66 0))) 81 3 (.inl (0 : Int32))) 81 4 (.inl (0 : Int32))) := zG_sp hI4 (0) (400000) rfl (by decide) (by decide) (by decide) trivial (by omega) (by omega)
  exact K _ hI6 (show 0 ≤ (0 : Int32).toInt ∧ (0 : Int32).toInt ≤ (mI S 66 0).toInt from by omega) (show xB (ma_put (ma_put (ma_put S 81 2 (.inl (mI S 66 0))) 81 3 (.inl (0 : Int32))) 81 4 (.inl (0 : Int32))) (mR (ma_put (ma_put (ma_put S 81 2 (.inl (mI S 66 0))) 81 3 (.inl (0 : Int32))) 81 4 (.inl (0 : Int32))) 70) from by first | (exact xB_x (xC_n (c := 81) (k := 4) (x := (0 : Int32)) (xC_n (c := 81) (k := 3) (x := (0 : Int32)) (xC_n (c := 81) (k := 2) (x := (mI S 66 0)) (xC_o (W := 75) hpre1) ⟨by decide, Or.inl ⟨rfl, rfl⟩⟩) ⟨by decide, Or.inl ⟨rfl, rfl⟩⟩) ⟨by decide, Or.inl ⟨rfl, rfl⟩⟩).2)) (show aS 88 (ma_put (ma_put (ma_put S 81 2 (.inl (mI S 66 0))) 81 3 (.inl (0 : Int32))) 81 4 (.inl (0 : Int32))) = ab from by first | (exact (xC_n (c := 81) (k := 4) (x := (0 : Int32)) (xC_n (c := 81) (k := 3) (x := (0 : Int32)) (xC_n (c := 81) (k := 2) (x := (mI S 66 0)) (xC_o (W := 88) hpre1) ⟨by decide, Or.inr ⟨rfl, Or.inr ⟨rfl, by decide⟩⟩⟩) ⟨by decide, Or.inr ⟨rfl, Or.inr ⟨rfl, by decide⟩⟩⟩) ⟨by decide, Or.inr ⟨rfl, Or.inr ⟨rfl, by decide⟩⟩⟩).1.trans hpre2)) (show (mI S 66 0) = (f 66) 0 ∧ (0 : Int32) = 0 ∧ (0 : Int32) = 0 from by first | (exact ⟨(show mI S 66 0 = f 66 0 from zG_z hI rfl), rfl, rfl⟩))
theorem g_276_83_zK82_sn_0 {X : Nat × (Nat → Int32)} {d w : Nat} {S : ma_S} {Q : Option ma_V ⊕ Nat → ma_S → Prop} (x : Int32) (hd : 0 ≤ d) (hw : 0 ≤ w) (hS : zT S) (h : ma_wp X d w 276 5 [(0, .inr (.inr (some 83))), (1, .inl x), (2, .inl (0 : Int32)), (3, .inl (375 : Int32))] [] S Q) : ma_wp X d w 276 0 [(0, .inr (.inr (some 83))), (1, .inl x)] [] S Q := by
  refine zw_push hm_276 dJ7_fill_53178_0 (v := .inl (0 : Int32)) rfl ?_
  refine zw_sto hm_276 dJ7_fill_53178_1 [(2, .inl (0 : Int32)), (0, .inr (.inr (some 83))), (1, .inl x)] rfl rfl rfl ?_
  refine zw_push hm_276 dJ7_fill_53178_2 (v := .inr (.inr (some 83))) rfl ?_
  refine zw_len hm_276 dJ7_fill_53178_3 (zT_is hS s_83) (zT_h hS s_83) rfl rfl ?_
  refine zw_sto hm_276 dJ7_fill_53178_4 [(3, .inl (375 : Int32)), (2, .inl (0 : Int32)), (0, .inr (.inr (some 83))), (1, .inl x)] rfl rfl rfl ?_
  exact zw_sub (ma_nd_of (ks := [0, 1, 2, 3]) rfl (by decide)) (ma_nd_of (ks := [3, 2, 0, 1]) rfl (by decide)) (ma_le_cons rfl (ma_le_cons rfl (ma_le_cons rfl (ma_le_cons rfl (ma_le_nil _))))) h
theorem g_276_83_zK82_sn_5 {X : Nat × (Nat → Int32)} {d w : Nat} {S : ma_S} {Q : Option ma_V ⊕ Nat → ma_S → Prop} (l1 : Int32) (l2 : Int32) (l3 : Int32) (hd : 0 ≤ d) (hw : 0 ≤ w) (hS : zT S) (h : if l3 ≤ l2 then (Q (.inl none) S) else ((0 ≤ l2 ∧ l2.toNatClampNeg < 375) ∧ (ma_wp X d w 276 5 [(0, .inr (.inr (some 83))), (1, .inl l1), (2, .inl (l2 + (1 : Int32))), (3, .inl l3)] [] (ma_put S 83 l2.toNatClampNeg (.inl l1)) Q))) : ma_wp X d w 276 5 [(0, .inr (.inr (some 83))), (1, .inl l1), (2, .inl l2), (3, .inl l3)] [] S Q := by
  refine zw_push hm_276 dJ7_fill_53178_5 (v := .inl l2) rfl ?_
  refine zw_push hm_276 dJ7_fill_53178_6 (v := .inl l3) rfl ?_
  refine zw_if2 hm_276 dJ7_fill_53178_7 (t := 20) rfl zc2_ge ?_ ?_
  · intro hc
    rw [if_pos hc] at h
    exact zw_vret hm_276 dJ7_fill_53178_20 h
  · intro hc
    rw [if_neg hc] at h
    refine zw_push hm_276 dJ7_fill_53178_10 (v := .inr (.inr (some 83))) rfl ?_
    refine zw_push hm_276 dJ7_fill_53178_11 (v := .inl l2) rfl ?_
    refine zw_push hm_276 dJ7_fill_53178_12 (v := .inl l1) rfl ?_
    obtain ⟨hg, h⟩ := h
    refine zw_ias hm_276 dJ7_fill_53178_13 (zT_is hS s_83) (zT_h hS s_83) rfl hg ?_
    refine zw_sto hm_276 dJ7_fill_53178_14 [(2, .inl (l2 + (1 : Int32))), (0, .inr (.inr (some 83))), (1, .inl l1), (3, .inl l3)] rfl rfl rfl ?_
    refine zw_goto hm_276 dJ7_fill_53178_17 (t := 5) rfl ?_
    exact zw_sub (ma_nd_of (ks := [0, 1, 2, 3]) rfl (by decide)) (ma_nd_of (ks := [2, 0, 1, 3]) rfl (by decide)) (ma_le_cons rfl (ma_le_cons rfl (ma_le_cons rfl (ma_le_cons rfl (ma_le_nil _))))) h
theorem lp_276_83_zK82_sn_5 {X : Nat × (Nat → Int32)} {d w : Nat} {f : Nat → Nat → Int32} {r : Nat → Nat → Option Nat} {C Z N : Nat} {Q : Option ma_V ⊕ Nat → ma_S → Prop} {ab : Nat→Nat→Int32} {fp82 : Nat→Int32} {x : Int32} (hd : 0 ≤ d) (hw : 0 ≤ w) (K : ∀ S₉, zK82 f r C Z N S₉ → ((mI S₉ 82 3).toInt ≤ (mI S₉ 82 7).toInt ∧ (mI S₉ 82 7).toInt ≤ (mI S₉ 82 3).toInt + (mI S₉ 82 2).toInt) → (xB S₉ (mR S₉ 70)) → (aS 88 S₉ = ab) → ((mI S₉ 82) = fp82) → (∀ k : Nat, k < 375 → (mI S₉ 83) k = x) → Q (.inl none) S₉) : ∀ (n : Nat) (S : ma_S) (l1 : Int32) (l2 : Int32) (l3 : Int32), (l3.toInt - l2.toInt).toNat = n → zK82 f r C Z N S → (0 ≤ l2.toInt) → (l3.toInt = 375) → (l2.toInt ≤ 375) → ((mI S 82 3).toInt ≤ (mI S 82 7).toInt ∧ (mI S 82 7).toInt ≤ (mI S 82 3).toInt + (mI S 82 2).toInt) → (xB S (mR S 70)) → (aS 88 S = ab) → ((mI S 82) = fp82) → (∀ k : Nat, (k : Int) < l2.toInt → (mI S 83) k = l1) → (l1 = x) → ma_wp X d w 276 5 [(0, .inr (.inr (some 83))), (1, .inl l1), (2, .inl l2), (3, .inl l3)] [] S Q := by
  intro n
  induction n using Nat.strongRecOn with
  | _ n IH =>
    intro S l1 l2 l3 hmu hI  hi0 hi1 hi2 hi3 hi4 hi5 hi6 hi7 hi8
    refine g_276_83_zK82_sn_5 l1 l2 l3 (by omega) (by omega) (zG_T hI) ?_
    have b1 := i_bd l3
    have b2 := i_bd l2
    refine zd (fun h3 => ?_) (fun h3 => ?_)
    · skip
      have g4 := i_le h3
      have f5 := zG_s hI (0) (1500) (c := 82) (k := 3) (by decide)
      have f6 := zG_s hI (0) (3000) (c := 82) (k := 7) (by decide)
      have f7 := zG_s hI (0) (1500) (c := 82) (k := 2) (by decide)
      exact K _ hI (show (mI S 82 3).toInt ≤ (mI S 82 7).toInt ∧ (mI S 82 7).toInt ≤ (mI S 82 3).toInt + (mI S 82 2).toInt from by omega) (show xB S (mR S 70) from by first | (exact xB_x (xC_o (W := 75) hi4).2)) (show aS 88 S = ab from by first | (exact hi5)) (show (mI S 82) = fp82 from by first | (exact hi6)) (show ∀ k : Nat, k < 375 → (mI S 83) k = x from by first | (intro k hk; rw [← hi8]; exact hi7 k (by omega)))
    · skip
      have g8 := i_nle h3
      refine ⟨i_ix (by omega) (by omega), ?_⟩
      have hI9 : zK82 f r C Z N (ma_put S 83 l2.toNatClampNeg (.inl l1)) := zG_fa hI rfl (by decide) (by decide) (by decide) trivial
      have b10 := i_bd l1
      first | have e11 : (l2 + (1 : Int32)).toInt = l2.toInt + (1) := i_addk rfl (by omega) (by omega) | have b12 := i_bd (l2 + (1 : Int32))
      have f13 := zG_s hI (0) (1500) (c := 82) (k := 3) (by decide)
      have f14 := zG_s hI (0) (3000) (c := 82) (k := 7) (by decide)
      have f15 := zG_s hI (0) (1500) (c := 82) (k := 2) (by decide)
      exact IH _ (by omega) _ (l1) ((l2 + (1 : Int32))) (l3) rfl hI9 (by omega) (by omega) (by omega) (show (mI S 82 3).toInt ≤ (mI S 82 7).toInt ∧ (mI S 82 7).toInt ≤ (mI S 82 3).toInt + (mI S 82 2).toInt from by omega) (show xB (ma_put S 83 l2.toNatClampNeg (.inl l1)) (mR (ma_put S 83 l2.toNatClampNeg (.inl l1)) 70) from by first | (exact xB_x (xC_n (c := 83) (k := l2.toNatClampNeg) (x := l1) (xC_o (W := 75) hi4) ⟨by decide, Or.inl ⟨rfl, rfl⟩⟩).2)) (show aS 88 (ma_put S 83 l2.toNatClampNeg (.inl l1)) = ab from by first | (exact (xC_n (c := 83) (k := l2.toNatClampNeg) (x := l1) (xC_o (W := 88) hi4) ⟨by decide, Or.inr ⟨rfl, Or.inr ⟨rfl, by decide⟩⟩⟩).1.trans hi5)) (show (mI (ma_put S 83 l2.toNatClampNeg (.inl l1)) 82) = fp82 from by first | (exact ((zr_n (P := 82) (c := 83) (by decide)).trans hi6))) (show ∀ k : Nat, (k : Int) < ((l2 + (1 : Int32))).toInt → (mI (ma_put S 83 l2.toNatClampNeg (.inl l1)) 83) k = (l1) from by first | (intro k hk; show (if (83 : Nat) = 83 ∧ k = l2.toNatClampNeg then l1 else mI S 83 k) = l1; by_cases w : k = l2.toNatClampNeg; (rw [if_pos ⟨rfl, w⟩]); (rw [if_neg (fun z => w z.2)]; exact hi7 k (by have := tn_cast (x := l2) (by omega); omega)))) (show (l1) = x from by first | (exact rfl) | (exact hi8))
theorem sp_276_83_zK82_sn {X : Nat × (Nat → Int32)} {d w : Nat} {f : Nat → Nat → Int32} {r : Nat → Nat → Option Nat} {C Z N : Nat} {Q : Option ma_V ⊕ Nat → ma_S → Prop} {ab : Nat→Nat→Int32} {fp82 : Nat→Int32} {S : ma_S} (x : Int32) (hd : 0 ≤ d) (hw : 0 ≤ w) (hI : zK82 f r C Z N S) (hpre0 : (mI S 82 3).toInt ≤ (mI S 82 7).toInt ∧ (mI S 82 7).toInt ≤ (mI S 82 3).toInt + (mI S 82 2).toInt) (hpre1 : xB S (mR S 70)) (hpre2 : aS 88 S = ab) (hpre3 : (mI S 82) = fp82) (K : ∀ S₉, zK82 f r C Z N S₉ → ((mI S₉ 82 3).toInt ≤ (mI S₉ 82 7).toInt ∧ (mI S₉ 82 7).toInt ≤ (mI S₉ 82 3).toInt + (mI S₉ 82 2).toInt) → (xB S₉ (mR S₉ 70)) → (aS 88 S₉ = ab) → ((mI S₉ 82) = fp82) → (∀ k : Nat, k < 375 → (mI S₉ 83) k = x) → Q (.inl none) S₉) : ma_wp X d w 276 0 [(0, .inr (.inr (some 83))), (1, .inl x)] [] S Q := by
  refine g_276_83_zK82_sn_0 x (by omega) (by omega) (zG_T hI) ?_
  have b1 := i_bd x
  have li2 : (0 : Int32).toInt = 0 := rfl
  have li3 : (375 : Int32).toInt = 375 := rfl
  have f4 := zG_s hI (0) (1500) (c := 82) (k := 3) (by decide)
  have f5 := zG_s hI (0) (3000) (c := 82) (k := 7) (by decide)
  have f6 := zG_s hI (0) (1500) (c := 82) (k := 2) (by decide)
  exact lp_276_83_zK82_sn_5 (by omega) (by omega) K _ _ (x) ((0 : Int32)) ((375 : Int32)) rfl hI (by omega) (by omega) (by omega) (show (mI S 82 3).toInt ≤ (mI S 82 7).toInt ∧ (mI S 82 7).toInt ≤ (mI S 82 3).toInt + (mI S 82 2).toInt from by omega) (show xB S (mR S 70) from by first | (exact xB_x (xC_o (W := 75) hpre1).2)) (show aS 88 S = ab from by first | (exact (xC_o (W := 88) hpre1).1.trans hpre2)) (show (mI S 82) = fp82 from by first | (exact hpre3)) (show ∀ k : Nat, (k : Int) < ((0 : Int32)).toInt → (mI S 83) k = (x) from by first | (intro k hk; exact absurd hk (by have z0 : (0 : Int32).toInt = 0 := rfl; omega))) (show (x) = x from by first | (exact rfl))
theorem g_276_92_sn_0 {X : Nat × (Nat → Int32)} {d w : Nat} {S : ma_S} {Q : Option ma_V ⊕ Nat → ma_S → Prop} (x : Int32) (hd : 0 ≤ d) (hw : 0 ≤ w) (hS : zT S) (h : ma_wp X d w 276 5 [(0, .inr (.inr (some 92))), (1, .inl x), (2, .inl (0 : Int32)), (3, .inl (93 : Int32))] [] S Q) : ma_wp X d w 276 0 [(0, .inr (.inr (some 92))), (1, .inl x)] [] S Q := by
  refine zw_push hm_276 dJ7_fill_53178_0 (v := .inl (0 : Int32)) rfl ?_
  refine zw_sto hm_276 dJ7_fill_53178_1 [(2, .inl (0 : Int32)), (0, .inr (.inr (some 92))), (1, .inl x)] rfl rfl rfl ?_
  refine zw_push hm_276 dJ7_fill_53178_2 (v := .inr (.inr (some 92))) rfl ?_
  refine zw_len hm_276 dJ7_fill_53178_3 (zT_is hS s_92) (zT_h hS s_92) rfl rfl ?_
  refine zw_sto hm_276 dJ7_fill_53178_4 [(3, .inl (93 : Int32)), (2, .inl (0 : Int32)), (0, .inr (.inr (some 92))), (1, .inl x)] rfl rfl rfl ?_
  exact zw_sub (ma_nd_of (ks := [0, 1, 2, 3]) rfl (by decide)) (ma_nd_of (ks := [3, 2, 0, 1]) rfl (by decide)) (ma_le_cons rfl (ma_le_cons rfl (ma_le_cons rfl (ma_le_cons rfl (ma_le_nil _))))) h
theorem g_276_92_sn_5 {X : Nat × (Nat → Int32)} {d w : Nat} {S : ma_S} {Q : Option ma_V ⊕ Nat → ma_S → Prop} (l1 : Int32) (l2 : Int32) (l3 : Int32) (hd : 0 ≤ d) (hw : 0 ≤ w) (hS : zT S) (h : if l3 ≤ l2 then (Q (.inl none) S) else ((0 ≤ l2 ∧ l2.toNatClampNeg < 93) ∧ (ma_wp X d w 276 5 [(0, .inr (.inr (some 92))), (1, .inl l1), (2, .inl (l2 + (1 : Int32))), (3, .inl l3)] [] (ma_put S 92 l2.toNatClampNeg (.inl l1)) Q))) : ma_wp X d w 276 5 [(0, .inr (.inr (some 92))), (1, .inl l1), (2, .inl l2), (3, .inl l3)] [] S Q := by
  refine zw_push hm_276 dJ7_fill_53178_5 (v := .inl l2) rfl ?_
  refine zw_push hm_276 dJ7_fill_53178_6 (v := .inl l3) rfl ?_
  refine zw_if2 hm_276 dJ7_fill_53178_7 (t := 20) rfl zc2_ge ?_ ?_
  · intro hc
    rw [if_pos hc] at h
    exact zw_vret hm_276 dJ7_fill_53178_20 h
  · intro hc
    rw [if_neg hc] at h
    refine zw_push hm_276 dJ7_fill_53178_10 (v := .inr (.inr (some 92))) rfl ?_
    refine zw_push hm_276 dJ7_fill_53178_11 (v := .inl l2) rfl ?_
    refine zw_push hm_276 dJ7_fill_53178_12 (v := .inl l1) rfl ?_
    obtain ⟨hg, h⟩ := h
    refine zw_ias hm_276 dJ7_fill_53178_13 (zT_is hS s_92) (zT_h hS s_92) rfl hg ?_
    refine zw_sto hm_276 dJ7_fill_53178_14 [(2, .inl (l2 + (1 : Int32))), (0, .inr (.inr (some 92))), (1, .inl l1), (3, .inl l3)] rfl rfl rfl ?_
    refine zw_goto hm_276 dJ7_fill_53178_17 (t := 5) rfl ?_
    exact zw_sub (ma_nd_of (ks := [0, 1, 2, 3]) rfl (by decide)) (ma_nd_of (ks := [2, 0, 1, 3]) rfl (by decide)) (ma_le_cons rfl (ma_le_cons rfl (ma_le_cons rfl (ma_le_cons rfl (ma_le_nil _))))) h
theorem lp_276_92_sn_5 {X : Nat × (Nat → Int32)} {d w : Nat} {f : Nat → Nat → Int32} {r : Nat → Nat → Option Nat} {C Z N : Nat} {Q : Option ma_V ⊕ Nat → ma_S → Prop} {ab : Nat→Nat→Int32} {fp91 : Nat→Int32} {x : Int32} (hd : 0 ≤ d) (hw : 0 ≤ w) (K : ∀ S₉, zM92 f r C Z N S₉ → (xB S₉ (mR S₉ 70)) → (aS 88 S₉ = ab) → ((mI S₉ 91) = fp91) → (∀ k : Nat, k < 93 → (mI S₉ 92) k = x) → Q (.inl none) S₉) : ∀ (n : Nat) (S : ma_S) (l1 : Int32) (l2 : Int32) (l3 : Int32), (l3.toInt - l2.toInt).toNat = n → zM92 f r C Z N S → (0 ≤ l2.toInt) → (l3.toInt = 93) → (l2.toInt ≤ 93) → (0 ≤ l1.toInt) → (l1.toInt ≤ 3000) → (xB S (mR S 70)) → (aS 88 S = ab) → ((mI S 91) = fp91) → (∀ k : Nat, (k : Int) < l2.toInt → (mI S 92) k = l1) → (l1 = x) → ma_wp X d w 276 5 [(0, .inr (.inr (some 92))), (1, .inl l1), (2, .inl l2), (3, .inl l3)] [] S Q := by
  intro n
  induction n using Nat.strongRecOn with
  | _ n IH =>
    intro S l1 l2 l3 hmu hI  hi0 hi1 hi2 hi3 hi4 hi5 hi6 hi7 hi8 hi9
    refine g_276_92_sn_5 l1 l2 l3 (by omega) (by omega) (zG_T hI) ?_
    have b1 := i_bd l3
    have b2 := i_bd l2
    refine zd (fun h3 => ?_) (fun h3 => ?_)
    · skip
      have g4 := i_le h3
      exact K _ hI (show xB S (mR S 70) from by first | (exact xB_x (xC_o (W := 75) hi5).2)) (show aS 88 S = ab from by first | (exact hi6)) (show (mI S 91) = fp91 from by first | (exact hi7)) (show ∀ k : Nat, k < 93 → (mI S 92) k = x from by first | (intro k hk; rw [← hi9]; exact hi8 k (by omega)))
    · skip
      have g5 := i_nle h3
      refine ⟨i_ix (by omega) (by omega), ?_⟩
      have b7 := i_bd l1
      have hI6 : zM92 f r C Z N (ma_put S 92 l2.toNatClampNeg (.inl l1)) := zG_sa hI (0) (3000) rfl (by decide) (by decide) (by decide) trivial (by omega) (by omega)
      first | have e8 : (l2 + (1 : Int32)).toInt = l2.toInt + (1) := i_addk rfl (by omega) (by omega) | have b9 := i_bd (l2 + (1 : Int32))
      exact IH _ (by omega) _ (l1) ((l2 + (1 : Int32))) (l3) rfl hI6 (by omega) (by omega) (by omega) (by omega) (by omega) (show xB (ma_put S 92 l2.toNatClampNeg (.inl l1)) (mR (ma_put S 92 l2.toNatClampNeg (.inl l1)) 70) from by first | (exact xB_x (xC_n (c := 92) (k := l2.toNatClampNeg) (x := l1) (xC_o (W := 75) hi5) ⟨by decide, Or.inl ⟨rfl, rfl⟩⟩).2)) (show aS 88 (ma_put S 92 l2.toNatClampNeg (.inl l1)) = ab from by first | (exact (xC_n (c := 92) (k := l2.toNatClampNeg) (x := l1) (xC_o (W := 88) hi5) ⟨by decide, Or.inr ⟨rfl, Or.inr ⟨rfl, by decide⟩⟩⟩).1.trans hi6)) (show (mI (ma_put S 92 l2.toNatClampNeg (.inl l1)) 91) = fp91 from by first | (exact ((zr_n (P := 91) (c := 92) (by decide)).trans hi7))) (show ∀ k : Nat, (k : Int) < ((l2 + (1 : Int32))).toInt → (mI (ma_put S 92 l2.toNatClampNeg (.inl l1)) 92) k = (l1) from by first | (intro k hk; show (if (92 : Nat) = 92 ∧ k = l2.toNatClampNeg then l1 else mI S 92 k) = l1; by_cases w : k = l2.toNatClampNeg; (rw [if_pos ⟨rfl, w⟩]); (rw [if_neg (fun z => w z.2)]; exact hi8 k (by have := tn_cast (x := l2) (by omega); omega)))) (show (l1) = x from by first | (exact rfl) | (exact hi9))
theorem sp_276_92_sn {X : Nat × (Nat → Int32)} {d w : Nat} {f : Nat → Nat → Int32} {r : Nat → Nat → Option Nat} {C Z N : Nat} {Q : Option ma_V ⊕ Nat → ma_S → Prop} {ab : Nat→Nat→Int32} {fp91 : Nat→Int32} {S : ma_S} (x : Int32) (hd : 0 ≤ d) (hw : 0 ≤ w) (hI : zM92 f r C Z N S) (hpre0 : 0 ≤ x.toInt) (hpre1 : x.toInt ≤ 3000) (hpre2 : xB S (mR S 70)) (hpre3 : aS 88 S = ab) (hpre4 : (mI S 91) = fp91) (K : ∀ S₉, zM92 f r C Z N S₉ → (xB S₉ (mR S₉ 70)) → (aS 88 S₉ = ab) → ((mI S₉ 91) = fp91) → (∀ k : Nat, k < 93 → (mI S₉ 92) k = x) → Q (.inl none) S₉) : ma_wp X d w 276 0 [(0, .inr (.inr (some 92))), (1, .inl x)] [] S Q := by
  refine g_276_92_sn_0 x (by omega) (by omega) (zG_T hI) ?_
  have b1 := i_bd x
  have li2 : (0 : Int32).toInt = 0 := rfl
  have li3 : (93 : Int32).toInt = 93 := rfl
  exact lp_276_92_sn_5 (by omega) (by omega) K _ _ (x) ((0 : Int32)) ((93 : Int32)) rfl hI (by omega) (by omega) (by omega) (by omega) (by omega) (show xB S (mR S 70) from by first | (exact xB_x (xC_o (W := 75) hpre2).2)) (show aS 88 S = ab from by first | (exact (xC_o (W := 88) hpre2).1.trans hpre3)) (show (mI S 91) = fp91 from by first | (exact hpre4)) (show ∀ k : Nat, (k : Int) < ((0 : Int32)).toInt → (mI S 92) k = (x) from by first | (intro k hk; exact absurd hk (by have z0 : (0 : Int32).toInt = 0 := rfl; omega))) (show (x) = x from by first | (exact rfl))

/-! from 95.x13 -/
/-! the class opens a heap (written by wip/tools/gen15h.py) -/
theorem g_1_82_66_zK82_sn_0 {X : Nat × (Nat → Int32)} {d w : Nat} {S : ma_S} {Q : Option ma_V ⊕ Nat → ma_S → Prop}  (hd : 1 ≤ d) (hw : 23 ≤ w) (hS : zT S) (h : ma_wp X (d - 1) (w - 23) 276 0 [(0, .inr (.inr (some 83))), (1, .inl (0 : Int32))] [] (ma_put (ma_put (ma_put (ma_put (ma_put (ma_put (ma_put S 82 2 (.inl (mI S 66 0))) 82 3 (.inl (mI S 66 1))) 82 4 (.inl (mI S 66 2))) 82 5 (.inl (mI S 66 3))) 82 6 (.inl (0 : Int32))) 82 7 (.inl (mI S 66 1))) 82 8 (.inl (mI S 66 1))) (zv (fun S1 => zT S1 ∧ (Q (.inl none) S1)) (fun _ _ => False))) : ma_wp X d w 1 0 [(0, .inr (.inr (some 82))), (1, .inr (.inr (some 66)))] [] S Q := by
  refine zw_push hm_1 dX0_open_0 (v := .inr (.inr (some 82))) rfl ?_
  refine zw_push hm_1 dX0_open_1 (v := .inr (.inr (some 66))) rfl ?_
  refine zw_push hm_1 dX0_open_2 (v := .inl (0 : Int32)) rfl ?_
  refine zw_ia hm_1 dX0_open_3 (zT_is hS s_66) (zT_h hS s_66) rfl ⟨by decide, by decide⟩ ?_
  show ma_wp X d w 1 4 [(0, .inr (.inr (some 82))), (1, .inr (.inr (some 66)))] [.inl (mI S 66 0), .inr (.inr (some 82))] S _
  refine zw_pf hm_1 dX0_open_4 (zT_is hS s_82) (zT_t hS s_82) p_1_15_1 zk_int ?_
  refine zw_push hm_1 dX0_open_7 (v := .inr (.inr (some 82))) rfl ?_
  refine zw_push hm_1 dX0_open_8 (v := .inr (.inr (some 66))) rfl ?_
  refine zw_push hm_1 dX0_open_9 (v := .inl (1 : Int32)) rfl ?_
  refine zw_ia hm_1 dX0_open_10 (zT_is (zT_pi hS) s_66) (zT_h (zT_pi hS) s_66) rfl ⟨by decide, by decide⟩ ?_
  show ma_wp X d w 1 11 [(0, .inr (.inr (some 82))), (1, .inr (.inr (some 66)))] [.inl (mI S 66 1), .inr (.inr (some 82))] (ma_put S 82 2 (.inl (mI S 66 0))) _
  refine zw_pf hm_1 dX0_open_11 (zT_is (zT_pi hS) s_82) (zT_t (zT_pi hS) s_82) p_1_19_1 zk_int ?_
  refine zw_push hm_1 dX0_open_14 (v := .inr (.inr (some 82))) rfl ?_
  refine zw_push hm_1 dX0_open_15 (v := .inr (.inr (some 66))) rfl ?_
  refine zw_push hm_1 dX0_open_16 (v := .inl (2 : Int32)) rfl ?_
  refine zw_ia hm_1 dX0_open_17 (zT_is (zT_pi (zT_pi hS)) s_66) (zT_h (zT_pi (zT_pi hS)) s_66) rfl ⟨by decide, by decide⟩ ?_
  show ma_wp X d w 1 18 [(0, .inr (.inr (some 82))), (1, .inr (.inr (some 66)))] [.inl (mI S 66 2), .inr (.inr (some 82))] (ma_put (ma_put S 82 2 (.inl (mI S 66 0))) 82 3 (.inl (mI S 66 1))) _
  refine zw_pf hm_1 dX0_open_18 (zT_is (zT_pi (zT_pi hS)) s_82) (zT_t (zT_pi (zT_pi hS)) s_82) p_1_22_1 zk_int ?_
  refine zw_push hm_1 dX0_open_21 (v := .inr (.inr (some 82))) rfl ?_
  refine zw_push hm_1 dX0_open_22 (v := .inr (.inr (some 66))) rfl ?_
  refine zw_push hm_1 dX0_open_23 (v := .inl (3 : Int32)) rfl ?_
  refine zw_ia hm_1 dX0_open_24 (zT_is (zT_pi (zT_pi (zT_pi hS))) s_66) (zT_h (zT_pi (zT_pi (zT_pi hS))) s_66) rfl ⟨by decide, by decide⟩ ?_
  show ma_wp X d w 1 25 [(0, .inr (.inr (some 82))), (1, .inr (.inr (some 66)))] [.inl (mI S 66 3), .inr (.inr (some 82))] (ma_put (ma_put (ma_put S 82 2 (.inl (mI S 66 0))) 82 3 (.inl (mI S 66 1))) 82 4 (.inl (mI S 66 2))) _
  refine zw_pf hm_1 dX0_open_25 (zT_is (zT_pi (zT_pi (zT_pi hS))) s_82) (zT_t (zT_pi (zT_pi (zT_pi hS))) s_82) p_1_25_1 zk_int ?_
  refine zw_push hm_1 dX0_open_28 (v := .inr (.inr (some 82))) rfl ?_
  refine zw_push hm_1 dX0_open_29 (v := .inl (0 : Int32)) rfl ?_
  refine zw_pf hm_1 dX0_open_30 (zT_is (zT_pi (zT_pi (zT_pi (zT_pi hS)))) s_82) (zT_t (zT_pi (zT_pi (zT_pi (zT_pi hS)))) s_82) p_1_28_1 zk_int ?_
  refine zw_push hm_1 dX0_open_33 (v := .inr (.inr (some 82))) rfl ?_
  refine zw_push hm_1 dX0_open_34 (v := .inr (.inr (some 82))) rfl ?_
  refine zw_gf hm_1 dX0_open_35 (v := .inl (mI S 66 1)) (zT_is (zT_pi (zT_pi (zT_pi (zT_pi (zT_pi hS))))) s_82) (zT_t (zT_pi (zT_pi (zT_pi (zT_pi (zT_pi hS))))) s_82) rfl f_1_19_1 rfl ?_
  refine zw_pf hm_1 dX0_open_38 (zT_is (zT_pi (zT_pi (zT_pi (zT_pi (zT_pi hS))))) s_82) (zT_t (zT_pi (zT_pi (zT_pi (zT_pi (zT_pi hS))))) s_82) p_1_31_1 zk_int ?_
  refine zw_push hm_1 dX0_open_41 (v := .inr (.inr (some 82))) rfl ?_
  refine zw_push hm_1 dX0_open_42 (v := .inr (.inr (some 82))) rfl ?_
  refine zw_gf hm_1 dX0_open_43 (v := .inl (mI S 66 1)) (zT_is (zT_pi (zT_pi (zT_pi (zT_pi (zT_pi (zT_pi hS)))))) s_82) (zT_t (zT_pi (zT_pi (zT_pi (zT_pi (zT_pi (zT_pi hS)))))) s_82) rfl f_1_19_1 rfl ?_
  refine zw_pf hm_1 dX0_open_46 (zT_is (zT_pi (zT_pi (zT_pi (zT_pi (zT_pi (zT_pi hS)))))) s_82) (zT_t (zT_pi (zT_pi (zT_pi (zT_pi (zT_pi (zT_pi hS)))))) s_82) p_1_34_1 zk_int ?_
  refine zw_push hm_1 dX0_open_49 (v := .inr (.inr (some 82))) rfl ?_
  refine zw_gf hm_1 dX0_open_50 (v := .inr (.inr (some 83))) (zT_is (zT_pi (zT_pi (zT_pi (zT_pi (zT_pi (zT_pi (zT_pi hS))))))) s_82) (zT_t (zT_pi (zT_pi (zT_pi (zT_pi (zT_pi (zT_pi (zT_pi hS))))))) s_82) rfl f_1_9_1 (zT_f (zT_pi (zT_pi (zT_pi (zT_pi (zT_pi (zT_pi (zT_pi hS))))))) r_82_9) ?_
  refine zw_push hm_1 dX0_open_53 (v := .inl (0 : Int32)) rfl ?_
  refine zw_cs hm_1 dX0_open_54 pn_1_37 sl_1_37 hm_276 [.inl (0 : Int32), .inr (.inr (some 83))] [] rfl ⟨by omega, by omega⟩ rfl (zw_mono h (zv_go ?_ ?_))
  · intro S1 hv
    obtain ⟨hS1, h⟩ := hv
    exact zw_vret hm_1 dX0_open_57 h
  · intro x S9 hx
    exact hx.elim
theorem sp_1_82_66_zK82_sn {X : Nat × (Nat → Int32)} {d w : Nat} {f : Nat → Nat → Int32} {r : Nat → Nat → Option Nat} {C Z N : Nat} {Q : Option ma_V ⊕ Nat → ma_S → Prop} {ab : Nat→Nat→Int32} {S : ma_S}  (hd : 1 ≤ d) (hw : 23 ≤ w) (hI : zK82 f r C Z N S) (hpre0 : 0 ≤ (mI S 66 0).toInt ∧ (mI S 66 0).toInt ≤ 1500 ∧ 0 ≤ (mI S 66 1).toInt ∧ (mI S 66 1).toInt ≤ 1500) (hpre1 : xB S (mR S 70)) (hpre2 : aS 88 S = ab) (K : ∀ S₉, zK82 f r C Z N S₉ → ((mI S₉ 82 3).toInt ≤ (mI S₉ 82 7).toInt ∧ (mI S₉ 82 7).toInt ≤ (mI S₉ 82 3).toInt + (mI S₉ 82 2).toInt) → (xB S₉ (mR S₉ 70)) → (aS 88 S₉ = ab) → ((mI S₉ 82 2) = (f 66) 0 ∧ (mI S₉ 82 3) = (f 66) 1 ∧ (mI S₉ 82 4) = (f 66) 2 ∧ (mI S₉ 82 5) = (f 66) 3 ∧ (mI S₉ 82 6) = 0 ∧ (mI S₉ 82 7) = (f 66) 1 ∧ (mI S₉ 82 8) = (f 66) 1 ∧ ∀ k : Nat, k < 375 → (mI S₉ 83) k = 0) → Q (.inl none) S₉) : ma_wp X d w 1 0 [(0, .inr (.inr (some 82))), (1, .inr (.inr (some 66)))] [] S Q := by
  refine g_1_82_66_zK82_sn_0  (by omega) (by omega) (zG_T hI) ?_
  have q1 : (mI S 66 0).toInt = (f 66 0).toInt := zG_zi hI rfl
  have b2 := i_bd (mI S 66 0)
  have q3 : (mI S 66 1).toInt = (f 66 1).toInt := zG_zi hI rfl
  have b4 := i_bd (mI S 66 1)
  have li5 : (0 : Int32).toInt = 0 := rfl
  have hI6 : zK82 f r C Z N (ma_put S 82 2 (.inl (mI S 66 0))) := zG_sp hI (0) (1500) rfl (by decide) (by decide) (by decide) trivial (by omega) (by omega)
  have hI7 : zK82 f r C Z N (ma_put (ma_put S 82 2 (.inl (mI S 66 0))) 82 3 (.inl (mI S 66 1))) := zG_sp hI6 (0) (1500) rfl (by decide) (by decide) (by decide) trivial (by omega) (by omega)
  have hI8 : zK82 f r C Z N (ma_put (ma_put (ma_put S 82 2 (.inl (mI S 66 0))) 82 3 (.inl (mI S 66 1))) 82 4 (.inl (mI S 66 2))) := zG_fr hI7 rfl (by decide) (by decide) (by decide) trivial
  have hI9 : zK82 f r C Z N (ma_put (ma_put (ma_put (ma_put S 82 2 (.inl (mI S 66 0))) 82 3 (.inl (mI S 66 1))) 82 4 (.inl (mI S 66 2))) 82 5 (.inl (mI S 66 3))) := zG_fr hI8 rfl (by decide) (by decide) (by decide) trivial
  have hI10 : zK82 f r C Z N (ma_put (ma_put (ma_put (ma_put (ma_put S 82 2 (.inl (mI S 66 0))) 82 3 (.inl (mI S 66 1))) 82 4 (.inl (mI S 66 2))) 82 5 (.inl (mI S 66 3))) 82 6 (.inl (0 : Int32))) := zG_sp hI9 (0) (400000) rfl (by decide) (by decide) (by decide) trivial (by omega) (by omega)
  have hI11 : zK82 f r C Z N (ma_put (ma_put (ma_put (ma_put (ma_put (ma_put S 82 2 (.inl (mI S 66 0))) 82 3 (.inl (mI S 66 1))) 82 4 (.inl (mI S 66 2))) 82 5 (.inl (mI S 66 3))) 82 6 (.inl (0 : Int32))) 82 7 (.inl (mI S 66 1))) := zG_sp hI10 (0) (3000) rfl (by decide) (by decide) (by decide) trivial (by omega) (by omega)
  have hI12 : zK82 f r C Z N (ma_put (ma_put (ma_put (ma_put (ma_put (ma_put (ma_put S 82 2 (.inl (mI S 66 0))) 82 3 (.inl (mI S 66 1))) 82 4 (.inl (mI S 66 2))) 82 5 (.inl (mI S 66 3))) 82 6 (.inl (0 : Int32))) 82 7 (.inl (mI S 66 1))) 82 8 (.inl (mI S 66 1))) := zG_sp hI11 (0) (400000) rfl (by decide) (by decide) (by decide) trivial (by omega) (by omega)
  refine sp_276_83_zK82_sn (ab := (aS 88 (ma_put (ma_put (ma_put (ma_put (ma_put (ma_put (ma_put S 82 2 (.inl (mI S 66 0))) 82 3 (.inl (mI S 66 1))) 82 4 (.inl (mI S 66 2))) 82 5 (.inl (mI S 66 3))) 82 6 (.inl (0 : Int32))) 82 7 (.inl (mI S 66 1))) 82 8 (.inl (mI S 66 1))))) (fp82 := (mI (ma_put (ma_put (ma_put (ma_put (ma_put (ma_put (ma_put S 82 2 (.inl (mI S 66 0))) 82 3 (.inl (mI S 66 1))) 82 4 (.inl (mI S 66 2))) 82 5 (.inl (mI S 66 3))) 82 6 (.inl (0 : Int32))) 82 7 (.inl (mI S 66 1))) 82 8 (.inl (mI S 66 1))) 82)) ((0 : Int32)) (by omega) (by omega) hI12 (show (mI S 66 1).toInt ≤ (mI S 66 1).toInt ∧ (mI S 66 1).toInt ≤ (mI S 66 1).toInt + (mI S 66 0).toInt from by omega) (show xB (ma_put (ma_put (ma_put (ma_put (ma_put (ma_put (ma_put S 82 2 (.inl (mI S 66 0))) 82 3 (.inl (mI S 66 1))) 82 4 (.inl (mI S 66 2))) 82 5 (.inl (mI S 66 3))) 82 6 (.inl (0 : Int32))) 82 7 (.inl (mI S 66 1))) 82 8 (.inl (mI S 66 1))) (mR (ma_put (ma_put (ma_put (ma_put (ma_put (ma_put (ma_put S 82 2 (.inl (mI S 66 0))) 82 3 (.inl (mI S 66 1))) 82 4 (.inl (mI S 66 2))) 82 5 (.inl (mI S 66 3))) 82 6 (.inl (0 : Int32))) 82 7 (.inl (mI S 66 1))) 82 8 (.inl (mI S 66 1))) 70) from by first | (exact xB_x (xC_n (c := 82) (k := 8) (x := (mI S 66 1)) (xC_n (c := 82) (k := 7) (x := (mI S 66 1)) (xC_n (c := 82) (k := 6) (x := (0 : Int32)) (xC_n (c := 82) (k := 5) (x := (mI S 66 3)) (xC_n (c := 82) (k := 4) (x := (mI S 66 2)) (xC_n (c := 82) (k := 3) (x := (mI S 66 1)) (xC_n (c := 82) (k := 2) (x := (mI S 66 0)) (xC_o (W := 75) hpre1) ⟨by decide, Or.inl ⟨rfl, rfl⟩⟩) ⟨by decide, Or.inl ⟨rfl, rfl⟩⟩) ⟨by decide, Or.inl ⟨rfl, rfl⟩⟩) ⟨by decide, Or.inl ⟨rfl, rfl⟩⟩) ⟨by decide, Or.inl ⟨rfl, rfl⟩⟩) ⟨by decide, Or.inl ⟨rfl, rfl⟩⟩) ⟨by decide, Or.inl ⟨rfl, rfl⟩⟩).2)) (show aS 88 (ma_put (ma_put (ma_put (ma_put (ma_put (ma_put (ma_put S 82 2 (.inl (mI S 66 0))) 82 3 (.inl (mI S 66 1))) 82 4 (.inl (mI S 66 2))) 82 5 (.inl (mI S 66 3))) 82 6 (.inl (0 : Int32))) 82 7 (.inl (mI S 66 1))) 82 8 (.inl (mI S 66 1))) = (aS 88 (ma_put (ma_put (ma_put (ma_put (ma_put (ma_put (ma_put S 82 2 (.inl (mI S 66 0))) 82 3 (.inl (mI S 66 1))) 82 4 (.inl (mI S 66 2))) 82 5 (.inl (mI S 66 3))) 82 6 (.inl (0 : Int32))) 82 7 (.inl (mI S 66 1))) 82 8 (.inl (mI S 66 1)))) from by first | (exact rfl)) (show (mI (ma_put (ma_put (ma_put (ma_put (ma_put (ma_put (ma_put S 82 2 (.inl (mI S 66 0))) 82 3 (.inl (mI S 66 1))) 82 4 (.inl (mI S 66 2))) 82 5 (.inl (mI S 66 3))) 82 6 (.inl (0 : Int32))) 82 7 (.inl (mI S 66 1))) 82 8 (.inl (mI S 66 1))) 82) = (mI (ma_put (ma_put (ma_put (ma_put (ma_put (ma_put (ma_put S 82 2 (.inl (mI S 66 0))) 82 3 (.inl (mI S 66 1))) 82 4 (.inl (mI S 66 2))) 82 5 (.inl (mI S 66 3))) 82 6 (.inl (0 : Int32))) 82 7 (.inl (mI S 66 1))) 82 8 (.inl (mI S 66 1))) 82) from by first | (exact rfl)) (fun S1 hI_S1 hp_S1 rp0_S1 rp1_S1 rp2_S1 rp3_S1 => zv_n ⟨zG_T hI_S1, ?_⟩)
  have rp0_S1 : xB S1 (mR S1 70) := rp0_S1
  have rp1_S1 : aS 88 S1 = (aS 88 (ma_put (ma_put (ma_put (ma_put (ma_put (ma_put (ma_put S 82 2 (.inl (mI S 66 0))) 82 3 (.inl (mI S 66 1))) 82 4 (.inl (mI S 66 2))) 82 5 (.inl (mI S 66 3))) 82 6 (.inl (0 : Int32))) 82 7 (.inl (mI S 66 1))) 82 8 (.inl (mI S 66 1)))) := rp1_S1
  have rp2_S1 : (mI S1 82) = (mI (ma_put (ma_put (ma_put (ma_put (ma_put (ma_put (ma_put S 82 2 (.inl (mI S 66 0))) 82 3 (.inl (mI S 66 1))) 82 4 (.inl (mI S 66 2))) 82 5 (.inl (mI S 66 3))) 82 6 (.inl (0 : Int32))) 82 7 (.inl (mI S 66 1))) 82 8 (.inl (mI S 66 1))) 82) := rp2_S1
  have rp3_S1 : ∀ k : Nat, k < 375 → (mI S1 83) k = (0 : Int32) := rp3_S1
  have f13 := zG_s hI_S1 (0) (1500) (c := 82) (k := 3) (by decide)
  have f14 := zG_s hI_S1 (0) (3000) (c := 82) (k := 7) (by decide)
  have f15 := zG_s hI_S1 (0) (1500) (c := 82) (k := 2) (by decide)
  have b16 := i_bd (mI S1 82 4)
  have b17 := i_bd (mI S1 82 5)
  have f18 := zG_s hI_S1 (0) (400000) (c := 82) (k := 6) (by decide)
  have f19 := zG_s hI_S1 (0) (400000) (c := 82) (k := 8) (by decide)
  exact K _ hI_S1 (show (mI S1 82 3).toInt ≤ (mI S1 82 7).toInt ∧ (mI S1 82 7).toInt ≤ (mI S1 82 3).toInt + (mI S1 82 2).toInt from by omega) (show xB S1 (mR S1 70) from by first | (exact xB_x (xC_o (W := 75) rp0_S1).2)) (show aS 88 S1 = ab from by first | (exact rp1_S1.trans ((xC_n (c := 82) (k := 8) (x := (mI S 66 1)) (xC_n (c := 82) (k := 7) (x := (mI S 66 1)) (xC_n (c := 82) (k := 6) (x := (0 : Int32)) (xC_n (c := 82) (k := 5) (x := (mI S 66 3)) (xC_n (c := 82) (k := 4) (x := (mI S 66 2)) (xC_n (c := 82) (k := 3) (x := (mI S 66 1)) (xC_n (c := 82) (k := 2) (x := (mI S 66 0)) (xC_o (W := 88) hpre1) ⟨by decide, Or.inr ⟨rfl, Or.inr ⟨rfl, by decide⟩⟩⟩) ⟨by decide, Or.inr ⟨rfl, Or.inr ⟨rfl, by decide⟩⟩⟩) ⟨by decide, Or.inr ⟨rfl, Or.inr ⟨rfl, by decide⟩⟩⟩) ⟨by decide, Or.inr ⟨rfl, Or.inr ⟨rfl, by decide⟩⟩⟩) ⟨by decide, Or.inr ⟨rfl, Or.inr ⟨rfl, by decide⟩⟩⟩) ⟨by decide, Or.inr ⟨rfl, Or.inr ⟨rfl, by decide⟩⟩⟩) ⟨by decide, Or.inr ⟨rfl, Or.inr ⟨rfl, by decide⟩⟩⟩).1.trans hpre2))) (show (mI S1 82 2) = (f 66) 0 ∧ (mI S1 82 3) = (f 66) 1 ∧ (mI S1 82 4) = (f 66) 2 ∧ (mI S1 82 5) = (f 66) 3 ∧ (mI S1 82 6) = 0 ∧ (mI S1 82 7) = (f 66) 1 ∧ (mI S1 82 8) = (f 66) 1 ∧ ∀ k : Nat, k < 375 → (mI S1 83) k = 0 from by first | (exact ⟨(congrFun rp2_S1 2).trans (show mI S 66 0 = f 66 0 from zG_z hI rfl), (congrFun rp2_S1 3).trans (show mI S 66 1 = f 66 1 from zG_z hI rfl), (congrFun rp2_S1 4).trans (show mI S 66 2 = f 66 2 from zG_z hI rfl), (congrFun rp2_S1 5).trans (show mI S 66 3 = f 66 3 from zG_z hI rfl), (congrFun rp2_S1 6).trans rfl, (congrFun rp2_S1 7).trans (show mI S 66 1 = f 66 1 from zG_z hI rfl), (congrFun rp2_S1 8).trans (show mI S 66 1 = f 66 1 from zG_z hI rfl), rp3_S1⟩))

