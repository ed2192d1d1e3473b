/-! the class opens a heap (written by wip/tools/gen15h.py) -/
theorem g_1_82_66_zK82_sn_0 {X : Nat × (Nat → Int32)} {d w : Nat} {S : ma_S} {Q : Option ma_V ⊕ Nat → ma_S → Prop}  (hd : 1 ≤ d) (hw : 23 ≤ w) (hS : zT S) (h : ma_wp X (d - 1) (w - 23) 276 0 [(0, .inr (.inr (some 83))), (1, .inl (0 : Int32))] [] (ma_put (ma_put (ma_put (ma_put (ma_put (ma_put (ma_put S 82 2 (.inl (mI S 66 0))) 82 3 (.inl (mI S 66 1))) 82 4 (.inl (mI S 66 2))) 82 5 (.inl (mI S 66 3))) 82 6 (.inl (0 : Int32))) 82 7 (.inl (mI S 66 1))) 82 8 (.inl (mI S 66 1))) (zv (fun S1 => zT S1 ∧ (Q (.inl none) S1)) (fun _ _ => False))) : ma_wp X d w 1 0 [(0, .inr (.inr (some 82))), (1, .inr (.inr (some 66)))] [] S Q := by
  refine zw_push hm_1 dX0_open_0 (v := .inr (.inr (some 82))) rfl ?_
  refine zw_push hm_1 dX0_open_1 (v := .inr (.inr (some 66))) rfl ?_
  refine zw_push hm_1 dX0_open_2 (v := .inl (0 : Int32)) rfl ?_
  refine zw_ia hm_1 dX0_open_3 (zT_is hS s_66) (zT_h hS s_66) rfl ⟨by decide, by decide⟩ ?_
  show ma_wp X d w 1 4 [(0, .inr (.inr (some 82))), (1, .inr (.inr (some 66)))] [.inl (mI S 66 0), .inr (.inr (some 82))] S _
  refine zw_pf hm_1 dX0_open_4 (zT_is hS s_82) (zT_t hS s_82) p_1_15_1 zk_int ?_
  refine zw_push hm_1 dX0_open_7 (v := .inr (.inr (some 82))) rfl ?_
  refine zw_push hm_1 dX0_open_8 (v := .inr (.inr (some 66))) rfl ?_
  refine zw_push hm_1 dX0_open_9 (v := .inl (1 : Int32)) rfl ?_
  refine zw_ia hm_1 dX0_open_10 (zT_is (zT_pi hS) s_66) (zT_h (zT_pi hS) s_66) rfl ⟨by decide, by decide⟩ ?_
  show ma_wp X d w 1 11 [(0, .inr (.inr (some 82))), (1, .inr (.inr (some 66)))] [.inl (mI S 66 1), .inr (.inr (some 82))] (ma_put S 82 2 (.inl (mI S 66 0))) _
  refine zw_pf hm_1 dX0_open_11 (zT_is (zT_pi hS) s_82) (zT_t (zT_pi hS) s_82) p_1_19_1 zk_int ?_
  refine zw_push hm_1 dX0_open_14 (v := .inr (.inr (some 82))) rfl ?_
  refine zw_push hm_1 dX0_open_15 (v := .inr (.inr (some 66))) rfl ?_
  refine zw_push hm_1 dX0_open_16 (v := .inl (2 : Int32)) rfl ?_
  refine zw_ia hm_1 dX0_open_17 (zT_is (zT_pi (zT_pi hS)) s_66) (zT_h (zT_pi (zT_pi hS)) s_66) rfl ⟨by decide, by decide⟩ ?_
  show ma_wp X d w 1 18 [(0, .inr (.inr (some 82))), (1, .inr (.inr (some 66)))] [.inl (mI S 66 2), .inr (.inr (some 82))] (ma_put (ma_put S 82 2 (.inl (mI S 66 0))) 82 3 (.inl (mI S 66 1))) _
  refine zw_pf hm_1 dX0_open_18 (zT_is (zT_pi (zT_pi hS)) s_82) (zT_t (zT_pi (zT_pi hS)) s_82) p_1_22_1 zk_int ?_
  refine zw_push hm_1 dX0_open_21 (v := .inr (.inr (some 82))) rfl ?_
  refine zw_push hm_1 dX0_open_22 (v := .inr (.inr (some 66))) rfl ?_
  refine zw_push hm_1 dX0_open_23 (v := .inl (3 : Int32)) rfl ?_
  refine zw_ia hm_1 dX0_open_24 (zT_is (zT_pi (zT_pi (zT_pi hS))) s_66) (zT_h (zT_pi (zT_pi (zT_pi hS))) s_66) rfl ⟨by decide, by decide⟩ ?_
  show ma_wp X d w 1 25 [(0, .inr (.inr (some 82))), (1, .inr (.inr (some 66)))] [.inl (mI S 66 3), .inr (.inr (some 82))] (ma_put (ma_put (ma_put S 82 2 (.inl (mI S 66 0))) 82 3 (.inl (mI S 66 1))) 82 4 (.inl (mI S 66 2))) _
  refine zw_pf hm_1 dX0_open_25 (zT_is (zT_pi (zT_pi (zT_pi hS))) s_82) (zT_t (zT_pi (zT_pi (zT_pi hS))) s_82) p_1_25_1 zk_int ?_
  refine zw_push hm_1 dX0_open_28 (v := .inr (.inr (some 82))) rfl ?_
  refine zw_push hm_1 dX0_open_29 (v := .inl (0 : Int32)) rfl ?_
  refine zw_pf hm_1 dX0_open_30 (zT_is (zT_pi (zT_pi (zT_pi (zT_pi hS)))) s_82) (zT_t (zT_pi (zT_pi (zT_pi (zT_pi hS)))) s_82) p_1_28_1 zk_int ?_
  refine zw_push hm_1 dX0_open_33 (v := .inr (.inr (some 82))) rfl ?_
  refine zw_push hm_1 dX0_open_34 (v := .inr (.inr (some 82))) rfl ?_
  refine zw_gf hm_1 dX0_open_35 (v := .inl (mI S 66 1)) (zT_is (zT_pi (zT_pi (zT_pi (zT_pi (zT_pi hS))))) s_82) (zT_t (zT_pi (zT_pi (zT_pi (zT_pi (zT_pi hS))))) s_82) rfl f_1_19_1 rfl ?_
  refine zw_pf hm_1 dX0_open_38 (zT_is (zT_pi (zT_pi (zT_pi (zT_pi (zT_pi hS))))) s_82) (zT_t (zT_pi (zT_pi (zT_pi (zT_pi (zT_pi hS))))) s_82) p_1_31_1 zk_int ?_
  refine zw_push hm_1 dX0_open_41 (v := .inr (.inr (some 82))) rfl ?_
  refine zw_push hm_1 dX0_open_42 (v := .inr (.inr (some 82))) rfl ?_
  refine zw_gf hm_1 dX0_open_43 (v := .inl (mI S 66 1)) (zT_is (zT_pi (zT_pi (zT_pi (zT_pi (zT_pi (zT_pi hS)))))) s_82) (zT_t (zT_pi (zT_pi (zT_pi (zT_pi (zT_pi (zT_pi hS)))))) s_82) rfl f_1_19_1 rfl ?_
  refine zw_pf hm_1 dX0_open_46 (zT_is (zT_pi (zT_pi (zT_pi (zT_pi (zT_pi (zT_pi hS)))))) s_82) (zT_t (zT_pi (zT_pi (zT_pi (zT_pi (zT_pi (zT_pi hS)))))) s_82) p_1_34_1 zk_int ?_
  refine zw_push hm_1 dX0_open_49 (v := .inr (.inr (some 82))) rfl ?_
  refine zw_gf hm_1 dX0_open_50 (v := .inr (.inr (some 83))) (zT_is (zT_pi (zT_pi (zT_pi (zT_pi (zT_pi (zT_pi (zT_pi hS))))))) s_82) (zT_t (zT_pi (zT_pi (zT_pi (zT_pi (zT_pi (zT_pi (zT_pi hS))))))) s_82) rfl f_1_9_1 (zT_f (zT_pi (zT_pi (zT_pi (zT_pi (zT_pi (zT_pi (zT_pi hS))))))) r_82_9) ?_
  refine zw_push hm_1 dX0_open_53 (v := .inl (0 : Int32)) rfl ?_
  refine zw_cs hm_1 dX0_open_54 pn_1_37 sl_1_37 hm_276 [.inl (0 : Int32), .inr (.inr (some 83))] [] rfl ⟨by omega, by omega⟩ rfl (zw_mono h (zv_go ?_ ?_))
  · intro S1 hv
    obtain ⟨hS1, h⟩ := hv
    exact zw_vret hm_1 dX0_open_57 h
  · intro x S9 hx
    exact hx.elim
theorem sp_1_82_66_zK82_sn {X : Nat × (Nat → Int32)} {d w : Nat} {f : Nat → Nat → Int32} {r : Nat → Nat → Option Nat} {C Z N : Nat} {Q : Option ma_V ⊕ Nat → ma_S → Prop} {ab : Nat→Nat→Int32} {S : ma_S}  (hd : 1 ≤ d) (hw : 23 ≤ w) (hI : zK82 f r C Z N S) (hpre0 : 0 ≤ (mI S 66 0).toInt ∧ (mI S 66 0).toInt ≤ 1500 ∧ 0 ≤ (mI S 66 1).toInt ∧ (mI S 66 1).toInt ≤ 1500) (hpre1 : xB S (mR S 70)) (hpre2 : aS 88 S = ab) (K : ∀ S', zK82 f r C Z N S' → ((mI S' 82 3).toInt ≤ (mI S' 82 7).toInt ∧ (mI S' 82 7).toInt ≤ (mI S' 82 3).toInt + (mI S' 82 2).toInt) → (xB S' (mR S' 70)) → (aS 88 S' = ab) → ((mI S' 82 2) = (f 66) 0 ∧ (mI S' 82 3) = (f 66) 1 ∧ (mI S' 82 4) = (f 66) 2 ∧ (mI S' 82 5) = (f 66) 3 ∧ (mI S' 82 6) = 0 ∧ (mI S' 82 7) = (f 66) 1 ∧ (mI S' 82 8) = (f 66) 1 ∧ ∀ k : Nat, k < 375 → (mI S' 83) k = 0) → Q (.inl none) S') : ma_wp X d w 1 0 [(0, .inr (.inr (some 82))), (1, .inr (.inr (some 66)))] [] S Q := by
  refine g_1_82_66_zK82_sn_0  (by omega) (by omega) (zG_T hI) ?_
  have q1 : (mI S 66 0).toInt = (f 66 0).toInt := zG_zi hI rfl
  have b2 := i_bd (mI S 66 0)
  have q3 : (mI S 66 1).toInt = (f 66 1).toInt := zG_zi hI rfl
  have b4 := i_bd (mI S 66 1)
  have li5 : (0 : Int32).toInt = 0 := rfl
  have hI6 : zK82 f r C Z N (ma_put S 82 2 (.inl (mI S 66 0))) := zG_sp hI (0) (1500) rfl (by decide) (by decide) (by decide) trivial (by omega) (by omega)
  have hI7 : zK82 f r C Z N (ma_put (ma_put S 82 2 (.inl (mI S 66 0))) 82 3 (.inl (mI S 66 1))) := zG_sp hI6 (0) (1500) rfl (by decide) (by decide) (by decide) trivial (by omega) (by omega)
  have hI8 : zK82 f r C Z N (ma_put (ma_put (ma_put S 82 2 (.inl (mI S 66 0))) 82 3 (.inl (mI S 66 1))) 82 4 (.inl (mI S 66 2))) := zG_fr hI7 rfl (by decide) (by decide) (by decide) trivial
  have hI9 : zK82 f r C Z N (ma_put (ma_put (ma_put (ma_put S 82 2 (.inl (mI S 66 0))) 82 3 (.inl (mI S 66 1))) 82 4 (.inl (mI S 66 2))) 82 5 (.inl (mI S 66 3))) := zG_fr hI8 rfl (by decide) (by decide) (by decide) trivial
  have hI10 : zK82 f r C Z N (ma_put (ma_put (ma_put (ma_put (ma_put S 82 2 (.inl (mI S 66 0))) 82 3 (.inl (mI S 66 1))) 82 4 (.inl (mI S 66 2))) 82 5 (.inl (mI S 66 3))) 82 6 (.inl (0 : Int32))) := zG_sp hI9 (0) (400000) rfl (by decide) (by decide) (by decide) trivial (by omega) (by omega)
  have hI11 : zK82 f r C Z N (ma_put (ma_put (ma_put (ma_put (ma_put (ma_put S 82 2 (.inl (mI S 66 0))) 82 3 (.inl (mI S 66 1))) 82 4 (.inl (mI S 66 2))) 82 5 (.inl (mI S 66 3))) 82 6 (.inl (0 : Int32))) 82 7 (.inl (mI S 66 1))) := zG_sp hI10 (0) (3000) rfl (by decide) (by decide) (by decide) trivial (by omega) (by omega)
  have hI12 : zK82 f r C Z N (ma_put (ma_put (ma_put (ma_put (ma_put (ma_put (ma_put S 82 2 (.inl (mI S 66 0))) 82 3 (.inl (mI S 66 1))) 82 4 (.inl (mI S 66 2))) 82 5 (.inl (mI S 66 3))) 82 6 (.inl (0 : Int32))) 82 7 (.inl (mI S 66 1))) 82 8 (.inl (mI S 66 1))) := zG_sp hI11 (0) (400000) rfl (by decide) (by decide) (by decide) trivial (by omega) (by omega)
  refine sp_276_83_zK82_sn (ab := (aS 88 (ma_put (ma_put (ma_put (ma_put (ma_put (ma_put (ma_put S 82 2 (.inl (mI S 66 0))) 82 3 (.inl (mI S 66 1))) 82 4 (.inl (mI S 66 2))) 82 5 (.inl (mI S 66 3))) 82 6 (.inl (0 : Int32))) 82 7 (.inl (mI S 66 1))) 82 8 (.inl (mI S 66 1))))) (fp82 := (mI (ma_put (ma_put (ma_put (ma_put (ma_put (ma_put (ma_put S 82 2 (.inl (mI S 66 0))) 82 3 (.inl (mI S 66 1))) 82 4 (.inl (mI S 66 2))) 82 5 (.inl (mI S 66 3))) 82 6 (.inl (0 : Int32))) 82 7 (.inl (mI S 66 1))) 82 8 (.inl (mI S 66 1))) 82)) ((0 : Int32)) (by omega) (by omega) hI12 (show (mI S 66 1).toInt ≤ (mI S 66 1).toInt ∧ (mI S 66 1).toInt ≤ (mI S 66 1).toInt + (mI S 66 0).toInt from by omega) (show xB (ma_put (ma_put (ma_put (ma_put (ma_put (ma_put (ma_put S 82 2 (.inl (mI S 66 0))) 82 3 (.inl (mI S 66 1))) 82 4 (.inl (mI S 66 2))) 82 5 (.inl (mI S 66 3))) 82 6 (.inl (0 : Int32))) 82 7 (.inl (mI S 66 1))) 82 8 (.inl (mI S 66 1))) (mR (ma_put (ma_put (ma_put (ma_put (ma_put (ma_put (ma_put S 82 2 (.inl (mI S 66 0))) 82 3 (.inl (mI S 66 1))) 82 4 (.inl (mI S 66 2))) 82 5 (.inl (mI S 66 3))) 82 6 (.inl (0 : Int32))) 82 7 (.inl (mI S 66 1))) 82 8 (.inl (mI S 66 1))) 70) from by first | (exact xB_x (xC_n (c := 82) (k := 8) (x := (mI S 66 1)) (xC_n (c := 82) (k := 7) (x := (mI S 66 1)) (xC_n (c := 82) (k := 6) (x := (0 : Int32)) (xC_n (c := 82) (k := 5) (x := (mI S 66 3)) (xC_n (c := 82) (k := 4) (x := (mI S 66 2)) (xC_n (c := 82) (k := 3) (x := (mI S 66 1)) (xC_n (c := 82) (k := 2) (x := (mI S 66 0)) (xC_o (W := 75) hpre1) ⟨by decide, Or.inl ⟨rfl, rfl⟩⟩) ⟨by decide, Or.inl ⟨rfl, rfl⟩⟩) ⟨by decide, Or.inl ⟨rfl, rfl⟩⟩) ⟨by decide, Or.inl ⟨rfl, rfl⟩⟩) ⟨by decide, Or.inl ⟨rfl, rfl⟩⟩) ⟨by decide, Or.inl ⟨rfl, rfl⟩⟩) ⟨by decide, Or.inl ⟨rfl, rfl⟩⟩).2)) (show aS 88 (ma_put (ma_put (ma_put (ma_put (ma_put (ma_put (ma_put S 82 2 (.inl (mI S 66 0))) 82 3 (.inl (mI S 66 1))) 82 4 (.inl (mI S 66 2))) 82 5 (.inl (mI S 66 3))) 82 6 (.inl (0 : Int32))) 82 7 (.inl (mI S 66 1))) 82 8 (.inl (mI S 66 1))) = (aS 88 (ma_put (ma_put (ma_put (ma_put (ma_put (ma_put (ma_put S 82 2 (.inl (mI S 66 0))) 82 3 (.inl (mI S 66 1))) 82 4 (.inl (mI S 66 2))) 82 5 (.inl (mI S 66 3))) 82 6 (.inl (0 : Int32))) 82 7 (.inl (mI S 66 1))) 82 8 (.inl (mI S 66 1)))) from by first | (exact rfl)) (show (mI (ma_put (ma_put (ma_put (ma_put (ma_put (ma_put (ma_put S 82 2 (.inl (mI S 66 0))) 82 3 (.inl (mI S 66 1))) 82 4 (.inl (mI S 66 2))) 82 5 (.inl (mI S 66 3))) 82 6 (.inl (0 : Int32))) 82 7 (.inl (mI S 66 1))) 82 8 (.inl (mI S 66 1))) 82) = (mI (ma_put (ma_put (ma_put (ma_put (ma_put (ma_put (ma_put S 82 2 (.inl (mI S 66 0))) 82 3 (.inl (mI S 66 1))) 82 4 (.inl (mI S 66 2))) 82 5 (.inl (mI S 66 3))) 82 6 (.inl (0 : Int32))) 82 7 (.inl (mI S 66 1))) 82 8 (.inl (mI S 66 1))) 82) from by first | (exact rfl)) (fun S1 hI_S1 hp_S1 rp0_S1 rp1_S1 rp2_S1 rp3_S1 => zv_n ⟨zG_T hI_S1, ?_⟩)
  have rp0_S1 : xB S1 (mR S1 70) := rp0_S1
  have rp1_S1 : aS 88 S1 = (aS 88 (ma_put (ma_put (ma_put (ma_put (ma_put (ma_put (ma_put S 82 2 (.inl (mI S 66 0))) 82 3 (.inl (mI S 66 1))) 82 4 (.inl (mI S 66 2))) 82 5 (.inl (mI S 66 3))) 82 6 (.inl (0 : Int32))) 82 7 (.inl (mI S 66 1))) 82 8 (.inl (mI S 66 1)))) := rp1_S1
  have rp2_S1 : (mI S1 82) = (mI (ma_put (ma_put (ma_put (ma_put (ma_put (ma_put (ma_put S 82 2 (.inl (mI S 66 0))) 82 3 (.inl (mI S 66 1))) 82 4 (.inl (mI S 66 2))) 82 5 (.inl (mI S 66 3))) 82 6 (.inl (0 : Int32))) 82 7 (.inl (mI S 66 1))) 82 8 (.inl (mI S 66 1))) 82) := rp2_S1
  have rp3_S1 : ∀ k : Nat, k < 375 → (mI S1 83) k = (0 : Int32) := rp3_S1
  have f13 := zG_s hI_S1 (0) (1500) (c := 82) (k := 3) (by decide)
  have f14 := zG_s hI_S1 (0) (3000) (c := 82) (k := 7) (by decide)
  have f15 := zG_s hI_S1 (0) (1500) (c := 82) (k := 2) (by decide)
  have b16 := i_bd (mI S1 82 4)
  have b17 := i_bd (mI S1 82 5)
  have f18 := zG_s hI_S1 (0) (400000) (c := 82) (k := 6) (by decide)
  have f19 := zG_s hI_S1 (0) (400000) (c := 82) (k := 8) (by decide)
  exact K _ hI_S1 (show (mI S1 82 3).toInt ≤ (mI S1 82 7).toInt ∧ (mI S1 82 7).toInt ≤ (mI S1 82 3).toInt + (mI S1 82 2).toInt from by omega) (show xB S1 (mR S1 70) from by first | (exact xB_x (xC_o (W := 75) rp0_S1).2)) (show aS 88 S1 = ab from by first | (exact rp1_S1.trans ((xC_n (c := 82) (k := 8) (x := (mI S 66 1)) (xC_n (c := 82) (k := 7) (x := (mI S 66 1)) (xC_n (c := 82) (k := 6) (x := (0 : Int32)) (xC_n (c := 82) (k := 5) (x := (mI S 66 3)) (xC_n (c := 82) (k := 4) (x := (mI S 66 2)) (xC_n (c := 82) (k := 3) (x := (mI S 66 1)) (xC_n (c := 82) (k := 2) (x := (mI S 66 0)) (xC_o (W := 88) hpre1) ⟨by decide, Or.inr ⟨rfl, Or.inr ⟨rfl, by decide⟩⟩⟩) ⟨by decide, Or.inr ⟨rfl, Or.inr ⟨rfl, by decide⟩⟩⟩) ⟨by decide, Or.inr ⟨rfl, Or.inr ⟨rfl, by decide⟩⟩⟩) ⟨by decide, Or.inr ⟨rfl, Or.inr ⟨rfl, by decide⟩⟩⟩) ⟨by decide, Or.inr ⟨rfl, Or.inr ⟨rfl, by decide⟩⟩⟩) ⟨by decide, Or.inr ⟨rfl, Or.inr ⟨rfl, by decide⟩⟩⟩) ⟨by decide, Or.inr ⟨rfl, Or.inr ⟨rfl, by decide⟩⟩⟩).1.trans hpre2))) (show (mI S1 82 2) = (f 66) 0 ∧ (mI S1 82 3) = (f 66) 1 ∧ (mI S1 82 4) = (f 66) 2 ∧ (mI S1 82 5) = (f 66) 3 ∧ (mI S1 82 6) = 0 ∧ (mI S1 82 7) = (f 66) 1 ∧ (mI S1 82 8) = (f 66) 1 ∧ ∀ k : Nat, k < 375 → (mI S1 83) k = 0 from by first | (exact ⟨(congrFun rp2_S1 2).trans (show mI S 66 0 = f 66 0 from zG_z hI rfl), (congrFun rp2_S1 3).trans (show mI S 66 1 = f 66 1 from zG_z hI rfl), (congrFun rp2_S1 4).trans (show mI S 66 2 = f 66 2 from zG_z hI rfl), (congrFun rp2_S1 5).trans (show mI S 66 3 = f 66 3 from zG_z hI rfl), (congrFun rp2_S1 6).trans rfl, (congrFun rp2_S1 7).trans (show mI S 66 1 = f 66 1 from zG_z hI rfl), (congrFun rp2_S1 8).trans (show mI S 66 1 = f 66 1 from zG_z hI rfl), rp3_S1⟩))
