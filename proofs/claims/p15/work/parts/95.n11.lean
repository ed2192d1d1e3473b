/-! the class opens a heap (written by wip/tools/gen20h.py) -/
theorem g_100_79_66_sh_0 {X : Nat × (Nat → Int32)} {d w : Nat} {S : ma_S} {Q : Option ma_V ⊕ Nat → ma_S → Prop}  (hd : 0 ≤ d) (hw : 0 ≤ w) (hS : zT S) (h : Q (.inl none) (ma_put (ma_put (ma_put S 79 2 (.inl (mI S 66 0))) 79 3 (.inl (mI S 66 1))) 79 4 (.inl (0 : Int32)))) : ma_wp X d w 100 0 [(0, .inr (.inr (some 79))), (1, .inr (.inr (some 66)))] [] S Q := by
  refine zw_push hm_100 dX8_open_0 (v := .inr (.inr (some 79))) rfl ?_
  refine zw_push hm_100 dX8_open_1 (v := .inr (.inr (some 66))) rfl ?_
  refine zw_push hm_100 dX8_open_2 (v := .inl (0 : Int32)) rfl ?_
  refine zw_ia hm_100 dX8_open_3 (zT_is hS s_66) (zT_h hS s_66) rfl ⟨by decide, by decide⟩ ?_
  show ma_wp X d w 100 4 [(0, .inr (.inr (some 79))), (1, .inr (.inr (some 66)))] [.inl (mI S 66 0), .inr (.inr (some 79))] S _
  refine zw_pf hm_100 dX8_open_4 (zT_is hS s_79) (zT_t hS s_79) p_8_9_8 zk_int ?_
  refine zw_push hm_100 dX8_open_7 (v := .inr (.inr (some 79))) rfl ?_
  refine zw_push hm_100 dX8_open_8 (v := .inr (.inr (some 66))) rfl ?_
  refine zw_push hm_100 dX8_open_9 (v := .inl (1 : Int32)) rfl ?_
  refine zw_ia hm_100 dX8_open_10 (zT_is (zT_pi hS) s_66) (zT_h (zT_pi hS) s_66) rfl ⟨by decide, by decide⟩ ?_
  show ma_wp X d w 100 11 [(0, .inr (.inr (some 79))), (1, .inr (.inr (some 66)))] [.inl (mI S 66 1), .inr (.inr (some 79))] (ma_put S 79 2 (.inl (mI S 66 0))) _
  refine zw_pf hm_100 dX8_open_11 (zT_is (zT_pi hS) s_79) (zT_t (zT_pi hS) s_79) p_8_15_8 zk_int ?_
  refine zw_push hm_100 dX8_open_14 (v := .inr (.inr (some 79))) rfl ?_
  refine zw_push hm_100 dX8_open_15 (v := .inl (0 : Int32)) rfl ?_
  refine zw_pf hm_100 dX8_open_16 (zT_is (zT_pi (zT_pi hS)) s_79) (zT_t (zT_pi (zT_pi hS)) s_79) p_8_18_8 zk_int ?_
  exact zw_vret hm_100 dX8_open_19 h
theorem sp_100_79_66_sh {X : Nat × (Nat → Int32)} {d w : Nat} {f : Nat → Nat → Int32} {r : Nat → Nat → Option Nat} {C Z N : Nat} {Q : Option ma_V ⊕ Nat → ma_S → Prop} {ab : Nat→Nat→Int32} {S : ma_S}  (hd : 0 ≤ d) (hw : 0 ≤ w) (hI : zJ79 f r C Z N S) (hpre0 : 0 ≤ (mI S 66 0).toInt ∧ (mI S 66 0).toInt ≤ 1500) (hpre1 : xB S (mR S 70)) (hpre2 : aS 88 S = ab) (K : ∀ S', zJ79 f r C Z N S' → (xB S' (mR S' 70)) → (aS 88 S' = ab) → (zfP 79 (mI S') 0 = (f 66) 0 ∧ zfP 79 (mI S') 1 = (f 66) 1 ∧ zfP 79 (mI S') 2 = 0) → Q (.inl none) S') : ma_wp X d w 100 0 [(0, .inr (.inr (some 79))), (1, .inr (.inr (some 66)))] [] S Q := by
  refine g_100_79_66_sh_0  (by omega) (by omega) (zG_T hI) ?_
  have q1 : (mI S 66 0).toInt = (f 66 0).toInt := zG_zi hI rfl
  have b2 := i_bd (mI S 66 0)
  have hI3 : zJ79 f r C Z N (ma_put S 79 2 (.inl (mI S 66 0))) := zG_sp hI (0) (1500) rfl (by decide) (by decide) (by decide) trivial (by omega) (by omega)
  have hI4 : zJ79 f r C Z N (ma_put (ma_put S 79 2 (.inl (mI S 66 0))) 79 3 (.inl (mI S 66 1))) := zG_fr hI3 rfl (by decide) (by decide) (by decide) trivial
  have li6 : (0 : Int32).toInt = 0 := rfl
  have hI5 : zJ79 f r C Z N (ma_put (ma_put (ma_put S 79 2 (.inl (mI S 66 0))) 79 3 (.inl (mI S 66 1))) 79 4 (.inl (0 : Int32))) := zG_sp hI4 (0) (400000) rfl (by decide) (by decide) (by decide) trivial (by omega) (by omega)
  exact K _ hI5 (show xB (ma_put (ma_put (ma_put S 79 2 (.inl (mI S 66 0))) 79 3 (.inl (mI S 66 1))) 79 4 (.inl (0 : Int32))) (mR (ma_put (ma_put (ma_put S 79 2 (.inl (mI S 66 0))) 79 3 (.inl (mI S 66 1))) 79 4 (.inl (0 : Int32))) 70) from by first | (exact xB_x (xC_n (c := 79) (k := 4) (x := (0 : Int32)) (xC_n (c := 79) (k := 3) (x := (mI S 66 1)) (xC_n (c := 79) (k := 2) (x := (mI S 66 0)) (xC_o (W := 75) hpre1) ⟨by decide, Or.inl ⟨rfl, rfl⟩⟩) ⟨by decide, Or.inl ⟨rfl, rfl⟩⟩) ⟨by decide, Or.inl ⟨rfl, rfl⟩⟩).2)) (show aS 88 (ma_put (ma_put (ma_put S 79 2 (.inl (mI S 66 0))) 79 3 (.inl (mI S 66 1))) 79 4 (.inl (0 : Int32))) = ab from by first | (exact (xC_n (c := 79) (k := 4) (x := (0 : Int32)) (xC_n (c := 79) (k := 3) (x := (mI S 66 1)) (xC_n (c := 79) (k := 2) (x := (mI S 66 0)) (xC_o (W := 88) hpre1) ⟨by decide, Or.inr ⟨rfl, Or.inr ⟨rfl, by decide⟩⟩⟩) ⟨by decide, Or.inr ⟨rfl, Or.inr ⟨rfl, by decide⟩⟩⟩) ⟨by decide, Or.inr ⟨rfl, Or.inr ⟨rfl, by decide⟩⟩⟩).1.trans hpre2)) (show zfP 79 (mI (ma_put (ma_put (ma_put S 79 2 (.inl (mI S 66 0))) 79 3 (.inl (mI S 66 1))) 79 4 (.inl (0 : Int32)))) 0 = (f 66) 0 ∧ zfP 79 (mI (ma_put (ma_put (ma_put S 79 2 (.inl (mI S 66 0))) 79 3 (.inl (mI S 66 1))) 79 4 (.inl (0 : Int32)))) 1 = (f 66) 1 ∧ zfP 79 (mI (ma_put (ma_put (ma_put S 79 2 (.inl (mI S 66 0))) 79 3 (.inl (mI S 66 1))) 79 4 (.inl (0 : Int32)))) 2 = 0 from by first | (exact ⟨(show mI S 66 0 = f 66 0 from zG_z hI rfl), (show mI S 66 1 = f 66 1 from zG_z hI rfl), rfl⟩))
theorem g_101_79_sh_0 {X : Nat × (Nat → Int32)} {d w : Nat} {S : ma_S} {Q : Option ma_V ⊕ Nat → ma_S → Prop}  (hd : 0 ≤ d) (hw : 0 ≤ w) (hS : zT S) (h : Q (.inl (some (.inl (mI S 79 2)))) S) : ma_wp X d w 101 0 [(0, .inr (.inr (some 79)))] [] S Q := by
  refine zw_push hm_101 dX8_total_0 (v := .inr (.inr (some 79))) rfl ?_
  refine zw_gf hm_101 dX8_total_1 (v := .inl (mI S 79 2)) (zT_is hS s_79) (zT_t hS s_79) rfl f_8_9_8 rfl ?_
  exact zw_iret hm_101 dX8_total_4 h
theorem sp_101_79_sh {X : Nat × (Nat → Int32)} {d w : Nat} {f : Nat → Nat → Int32} {r : Nat → Nat → Option Nat} {C Z N : Nat} {Q : Option ma_V ⊕ Nat → ma_S → Prop} {S : ma_S}  (hd : 0 ≤ d) (hw : 0 ≤ w) (hI : zJ79 f r C Z N S)  (K : ∀ v S', S' = S → (True) → Q (.inl (some (.inl v))) S') : ma_wp X d w 101 0 [(0, .inr (.inr (some 79)))] [] S Q := by
  refine g_101_79_sh_0  (by omega) (by omega) (zG_T hI) ?_
  have f1 := zG_s hI (0) (1500) (c := 79) (k := 2) (by decide)
  exact K ((mI S 79 2)) _ rfl trivial
theorem g_100_84_66_sh_0 {X : Nat × (Nat → Int32)} {d w : Nat} {S : ma_S} {Q : Option ma_V ⊕ Nat → ma_S → Prop}  (hd : 0 ≤ d) (hw : 0 ≤ w) (hS : zT S) (h : Q (.inl none) (ma_put (ma_put (ma_put S 84 0 (.inl (mI S 66 0))) 84 1 (.inl (mI S 66 1))) 84 2 (.inl (0 : Int32)))) : ma_wp X d w 100 0 [(0, .inr (.inr (some 84))), (1, .inr (.inr (some 66)))] [] S Q := by
  refine zw_push hm_100 dX8_open_0 (v := .inr (.inr (some 84))) rfl ?_
  refine zw_push hm_100 dX8_open_1 (v := .inr (.inr (some 66))) rfl ?_
  refine zw_push hm_100 dX8_open_2 (v := .inl (0 : Int32)) rfl ?_
  refine zw_ia hm_100 dX8_open_3 (zT_is hS s_66) (zT_h hS s_66) rfl ⟨by decide, by decide⟩ ?_
  show ma_wp X d w 100 4 [(0, .inr (.inr (some 84))), (1, .inr (.inr (some 66)))] [.inl (mI S 66 0), .inr (.inr (some 84))] S _
  refine zw_pf hm_100 dX8_open_4 (zT_is hS s_84) (zT_t hS s_84) p_8_9_2 zk_int ?_
  refine zw_push hm_100 dX8_open_7 (v := .inr (.inr (some 84))) rfl ?_
  refine zw_push hm_100 dX8_open_8 (v := .inr (.inr (some 66))) rfl ?_
  refine zw_push hm_100 dX8_open_9 (v := .inl (1 : Int32)) rfl ?_
  refine zw_ia hm_100 dX8_open_10 (zT_is (zT_pi hS) s_66) (zT_h (zT_pi hS) s_66) rfl ⟨by decide, by decide⟩ ?_
  show ma_wp X d w 100 11 [(0, .inr (.inr (some 84))), (1, .inr (.inr (some 66)))] [.inl (mI S 66 1), .inr (.inr (some 84))] (ma_put S 84 0 (.inl (mI S 66 0))) _
  refine zw_pf hm_100 dX8_open_11 (zT_is (zT_pi hS) s_84) (zT_t (zT_pi hS) s_84) p_8_15_2 zk_int ?_
  refine zw_push hm_100 dX8_open_14 (v := .inr (.inr (some 84))) rfl ?_
  refine zw_push hm_100 dX8_open_15 (v := .inl (0 : Int32)) rfl ?_
  refine zw_pf hm_100 dX8_open_16 (zT_is (zT_pi (zT_pi hS)) s_84) (zT_t (zT_pi (zT_pi hS)) s_84) p_8_18_2 zk_int ?_
  exact zw_vret hm_100 dX8_open_19 h
theorem sp_100_84_66_sh {X : Nat × (Nat → Int32)} {d w : Nat} {f : Nat → Nat → Int32} {r : Nat → Nat → Option Nat} {C Z N : Nat} {Q : Option ma_V ⊕ Nat → ma_S → Prop} {ab : Nat→Nat→Int32} {S : ma_S}  (hd : 0 ≤ d) (hw : 0 ≤ w) (hI : zJ84 f r C Z N S) (hpre0 : 0 ≤ (mI S 66 0).toInt ∧ (mI S 66 0).toInt ≤ 1500) (hpre1 : xB S (mR S 70)) (hpre2 : aS 88 S = ab) (K : ∀ S', zJ84 f r C Z N S' → (xB S' (mR S' 70)) → (aS 88 S' = ab) → (zfP 84 (mI S') 0 = (f 66) 0 ∧ zfP 84 (mI S') 1 = (f 66) 1 ∧ zfP 84 (mI S') 2 = 0) → Q (.inl none) S') : ma_wp X d w 100 0 [(0, .inr (.inr (some 84))), (1, .inr (.inr (some 66)))] [] S Q := by
  refine g_100_84_66_sh_0  (by omega) (by omega) (zG_T hI) ?_
  have q1 : (mI S 66 0).toInt = (f 66 0).toInt := zG_zi hI rfl
  have b2 := i_bd (mI S 66 0)
  have hI3 : zJ84 f r C Z N (ma_put S 84 0 (.inl (mI S 66 0))) := zG_sp hI (0) (1500) rfl (by decide) (by decide) (by decide) trivial (by omega) (by omega)
  have hI4 : zJ84 f r C Z N (ma_put (ma_put S 84 0 (.inl (mI S 66 0))) 84 1 (.inl (mI S 66 1))) := zG_fr hI3 rfl (by decide) (by decide) (by decide) trivial
  have li6 : (0 : Int32).toInt = 0 := rfl
  have hI5 : zJ84 f r C Z N (ma_put (ma_put (ma_put S 84 0 (.inl (mI S 66 0))) 84 1 (.inl (mI S 66 1))) 84 2 (.inl (0 : Int32))) := zG_sp hI4 (0) (400000) rfl (by decide) (by decide) (by decide) trivial (by omega) (by omega)
  exact K _ hI5 (show xB (ma_put (ma_put (ma_put S 84 0 (.inl (mI S 66 0))) 84 1 (.inl (mI S 66 1))) 84 2 (.inl (0 : Int32))) (mR (ma_put (ma_put (ma_put S 84 0 (.inl (mI S 66 0))) 84 1 (.inl (mI S 66 1))) 84 2 (.inl (0 : Int32))) 70) from by first | (exact xB_x (xC_n (c := 84) (k := 2) (x := (0 : Int32)) (xC_n (c := 84) (k := 1) (x := (mI S 66 1)) (xC_n (c := 84) (k := 0) (x := (mI S 66 0)) (xC_o (W := 75) hpre1) ⟨by decide, Or.inl ⟨rfl, rfl⟩⟩) ⟨by decide, Or.inl ⟨rfl, rfl⟩⟩) ⟨by decide, Or.inl ⟨rfl, rfl⟩⟩).2)) (show aS 88 (ma_put (ma_put (ma_put S 84 0 (.inl (mI S 66 0))) 84 1 (.inl (mI S 66 1))) 84 2 (.inl (0 : Int32))) = ab from by first | (exact (xC_n (c := 84) (k := 2) (x := (0 : Int32)) (xC_n (c := 84) (k := 1) (x := (mI S 66 1)) (xC_n (c := 84) (k := 0) (x := (mI S 66 0)) (xC_o (W := 88) hpre1) ⟨by decide, Or.inr ⟨rfl, Or.inr ⟨rfl, by decide⟩⟩⟩) ⟨by decide, Or.inr ⟨rfl, Or.inr ⟨rfl, by decide⟩⟩⟩) ⟨by decide, Or.inr ⟨rfl, Or.inr ⟨rfl, by decide⟩⟩⟩).1.trans hpre2)) (show zfP 84 (mI (ma_put (ma_put (ma_put S 84 0 (.inl (mI S 66 0))) 84 1 (.inl (mI S 66 1))) 84 2 (.inl (0 : Int32)))) 0 = (f 66) 0 ∧ zfP 84 (mI (ma_put (ma_put (ma_put S 84 0 (.inl (mI S 66 0))) 84 1 (.inl (mI S 66 1))) 84 2 (.inl (0 : Int32)))) 1 = (f 66) 1 ∧ zfP 84 (mI (ma_put (ma_put (ma_put S 84 0 (.inl (mI S 66 0))) 84 1 (.inl (mI S 66 1))) 84 2 (.inl (0 : Int32)))) 2 = 0 from by first | (exact ⟨(show mI S 66 0 = f 66 0 from zG_z hI rfl), (show mI S 66 1 = f 66 1 from zG_z hI rfl), rfl⟩))
theorem g_101_84_sh_0 {X : Nat × (Nat → Int32)} {d w : Nat} {S : ma_S} {Q : Option ma_V ⊕ Nat → ma_S → Prop}  (hd : 0 ≤ d) (hw : 0 ≤ w) (hS : zT S) (h : Q (.inl (some (.inl (mI S 84 0)))) S) : ma_wp X d w 101 0 [(0, .inr (.inr (some 84)))] [] S Q := by
  refine zw_push hm_101 dX8_total_0 (v := .inr (.inr (some 84))) rfl ?_
  refine zw_gf hm_101 dX8_total_1 (v := .inl (mI S 84 0)) (zT_is hS s_84) (zT_t hS s_84) rfl f_8_9_2 rfl ?_
  exact zw_iret hm_101 dX8_total_4 h
theorem sp_101_84_sh {X : Nat × (Nat → Int32)} {d w : Nat} {f : Nat → Nat → Int32} {r : Nat → Nat → Option Nat} {C Z N : Nat} {Q : Option ma_V ⊕ Nat → ma_S → Prop} {S : ma_S}  (hd : 0 ≤ d) (hw : 0 ≤ w) (hI : zJ84 f r C Z N S)  (K : ∀ v S', S' = S → (True) → Q (.inl (some (.inl v))) S') : ma_wp X d w 101 0 [(0, .inr (.inr (some 84)))] [] S Q := by
  refine g_101_84_sh_0  (by omega) (by omega) (zG_T hI) ?_
  have f1 := zG_s hI (0) (1500) (c := 84) (k := 0) (by decide)
  exact K ((mI S 84 0)) _ rfl trivial
theorem fn9_t {I : Nat → Nat → Int32} {L : Nat → Nat → Int64} {R : Nat → Option Nat} {S S0 : ma_S} (h0 : zFm I L R S0) (h : zFm (mI S0) (mL S0) (mR S0 70) S) : zFm I L R S := ⟨h.1.trans h0.1, h.2.1.trans h0.2.1, fun c k hc => (h.2.2 c k hc).trans (h0.2.2 c k hc)⟩
