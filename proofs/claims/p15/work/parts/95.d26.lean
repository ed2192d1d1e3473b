/-! texts (written by wip/tools/gen95d.py) -/
theorem g_100_79_66_n_0 {X : Nat × (Nat → Int32)} {d w : Nat} {S : ma_S} {Q : Option ma_V ⊕ Nat → ma_S → Prop}  (hd : 0 ≤ d) (hw : 0 ≤ w) (hS : zT S) (h : Q (.inl none) (ma_put (ma_put (ma_put S 79 2 (.inl (mI S 66 0))) 79 3 (.inl (mI S 66 1))) 79 4 (.inl (0 : Int32)))) : ma_wp X d w 100 0 [(0, .inr (.inr (some 79))), (1, .inr (.inr (some 66)))] [] S Q := by
  refine zw_push hm_100 dX8_open_0 (v := .inr (.inr (some 79))) rfl ?_
  refine zw_push hm_100 dX8_open_1 (v := .inr (.inr (some 66))) rfl ?_
  refine zw_push hm_100 dX8_open_2 (v := .inl (0 : Int32)) rfl ?_
  refine zw_ia hm_100 dX8_open_3 (zT_is hS s_66) (zT_h hS s_66) rfl ⟨by decide, by decide⟩ ?_
  show ma_wp X d w 100 4 [(0, .inr (.inr (some 79))), (1, .inr (.inr (some 66)))] [.inl (mI S 66 0), .inr (.inr (some 79))] S _
  refine zw_pf hm_100 dX8_open_4 (zT_is hS s_79) (zT_t hS s_79) p_8_9_8 zk_int ?_
  refine zw_push hm_100 dX8_open_7 (v := .inr (.inr (some 79))) rfl ?_
  refine zw_push hm_100 dX8_open_8 (v := .inr (.inr (some 66))) rfl ?_
  refine zw_push hm_100 dX8_open_9 (v := .inl (1 : Int32)) rfl ?_
  refine zw_ia hm_100 dX8_open_10 (zT_is (zT_pi hS) s_66) (zT_h (zT_pi hS) s_66) rfl ⟨by decide, by decide⟩ ?_
  show ma_wp X d w 100 11 [(0, .inr (.inr (some 79))), (1, .inr (.inr (some 66)))] [.inl (mI S 66 1), .inr (.inr (some 79))] (ma_put S 79 2 (.inl (mI S 66 0))) _
  refine zw_pf hm_100 dX8_open_11 (zT_is (zT_pi hS) s_79) (zT_t (zT_pi hS) s_79) p_8_15_8 zk_int ?_
  refine zw_push hm_100 dX8_open_14 (v := .inr (.inr (some 79))) rfl ?_
  refine zw_push hm_100 dX8_open_15 (v := .inl (0 : Int32)) rfl ?_
  refine zw_pf hm_100 dX8_open_16 (zT_is (zT_pi (zT_pi hS)) s_79) (zT_t (zT_pi (zT_pi hS)) s_79) p_8_18_8 zk_int ?_
  exact zw_vret hm_100 dX8_open_19 h
theorem sp_100_79_66_n {X : Nat × (Nat → Int32)} {d w : Nat} {f : Nat → Nat → Int32} {r : Nat → Nat → Option Nat} {C Z N : Nat} {Q : Option ma_V ⊕ Nat → ma_S → Prop} {S : ma_S}  (hd : 0 ≤ d) (hw : 0 ≤ w) (hI : zJ79 f r C Z N S) (hpre0 : 0 ≤ (mI S 66 0).toInt ∧ (mI S 66 0).toInt ≤ 1500) (K : ∀ S', zJ79 f r C Z N S' → ((mI S' 79 2).toInt = (f 66 0).toInt) → Q (.inl none) S') : ma_wp X d w 100 0 [(0, .inr (.inr (some 79))), (1, .inr (.inr (some 66)))] [] S Q := by
  refine g_100_79_66_n_0  (by omega) (by omega) (zG_T hI) ?_
  have q1 : (mI S 66 0).toInt = (f 66 0).toInt := zG_zi hI rfl
  have b2 := i_bd (mI S 66 0)
  have hI3 : zJ79 f r C Z N (ma_put S 79 2 (.inl (mI S 66 0))) := zG_sp hI (0) (1500) rfl (by decide) (by decide) (by decide) trivial (by omega) (by omega)
  have hI4 : zJ79 f r C Z N (ma_put (ma_put S 79 2 (.inl (mI S 66 0))) 79 3 (.inl (mI S 66 1))) := zG_fr hI3 rfl (by decide) (by decide) (by decide) trivial
  have li6 : (0 : Int32).toInt = 0 := rfl
  have hI5 : zJ79 f r C Z N (ma_put (ma_put (ma_put S 79 2 (.inl (mI S 66 0))) 79 3 (.inl (mI S 66 1))) 79 4 (.inl (0 : Int32))) := zG_sp hI4 (0) (400000) rfl (by decide) (by decide) (by decide) trivial (by omega) (by omega)
  exact K _ hI5 (show (mI S 66 0).toInt = (f 66 0).toInt from by first | (omega) | (exfalso; omega))
theorem g_100_84_66_n_0 {X : Nat × (Nat → Int32)} {d w : Nat} {S : ma_S} {Q : Option ma_V ⊕ Nat → ma_S → Prop}  (hd : 0 ≤ d) (hw : 0 ≤ w) (hS : zT S) (h : Q (.inl none) (ma_put (ma_put (ma_put S 84 0 (.inl (mI S 66 0))) 84 1 (.inl (mI S 66 1))) 84 2 (.inl (0 : Int32)))) : ma_wp X d w 100 0 [(0, .inr (.inr (some 84))), (1, .inr (.inr (some 66)))] [] S Q := by
  refine zw_push hm_100 dX8_open_0 (v := .inr (.inr (some 84))) rfl ?_
  refine zw_push hm_100 dX8_open_1 (v := .inr (.inr (some 66))) rfl ?_
  refine zw_push hm_100 dX8_open_2 (v := .inl (0 : Int32)) rfl ?_
  refine zw_ia hm_100 dX8_open_3 (zT_is hS s_66) (zT_h hS s_66) rfl ⟨by decide, by decide⟩ ?_
  show ma_wp X d w 100 4 [(0, .inr (.inr (some 84))), (1, .inr (.inr (some 66)))] [.inl (mI S 66 0), .inr (.inr (some 84))] S _
  refine zw_pf hm_100 dX8_open_4 (zT_is hS s_84) (zT_t hS s_84) p_8_9_2 zk_int ?_
  refine zw_push hm_100 dX8_open_7 (v := .inr (.inr (some 84))) rfl ?_
  refine zw_push hm_100 dX8_open_8 (v := .inr (.inr (some 66))) rfl ?_
  refine zw_push hm_100 dX8_open_9 (v := .inl (1 : Int32)) rfl ?_
  refine zw_ia hm_100 dX8_open_10 (zT_is (zT_pi hS) s_66) (zT_h (zT_pi hS) s_66) rfl ⟨by decide, by decide⟩ ?_
  show ma_wp X d w 100 11 [(0, .inr (.inr (some 84))), (1, .inr (.inr (some 66)))] [.inl (mI S 66 1), .inr (.inr (some 84))] (ma_put S 84 0 (.inl (mI S 66 0))) _
  refine zw_pf hm_100 dX8_open_11 (zT_is (zT_pi hS) s_84) (zT_t (zT_pi hS) s_84) p_8_15_2 zk_int ?_
  refine zw_push hm_100 dX8_open_14 (v := .inr (.inr (some 84))) rfl ?_
  refine zw_push hm_100 dX8_open_15 (v := .inl (0 : Int32)) rfl ?_
  refine zw_pf hm_100 dX8_open_16 (zT_is (zT_pi (zT_pi hS)) s_84) (zT_t (zT_pi (zT_pi hS)) s_84) p_8_18_2 zk_int ?_
  exact zw_vret hm_100 dX8_open_19 h
theorem sp_100_84_66_n {X : Nat × (Nat → Int32)} {d w : Nat} {f : Nat → Nat → Int32} {r : Nat → Nat → Option Nat} {C Z N : Nat} {Q : Option ma_V ⊕ Nat → ma_S → Prop} {S : ma_S}  (hd : 0 ≤ d) (hw : 0 ≤ w) (hI : zJ84 f r C Z N S) (hpre0 : 0 ≤ (mI S 66 0).toInt ∧ (mI S 66 0).toInt ≤ 1500) (K : ∀ S', zJ84 f r C Z N S' → ((mI S' 84 0).toInt = (f 66 0).toInt) → Q (.inl none) S') : ma_wp X d w 100 0 [(0, .inr (.inr (some 84))), (1, .inr (.inr (some 66)))] [] S Q := by
  refine g_100_84_66_n_0  (by omega) (by omega) (zG_T hI) ?_
  have q1 : (mI S 66 0).toInt = (f 66 0).toInt := zG_zi hI rfl
  have b2 := i_bd (mI S 66 0)
  have hI3 : zJ84 f r C Z N (ma_put S 84 0 (.inl (mI S 66 0))) := zG_sp hI (0) (1500) rfl (by decide) (by decide) (by decide) trivial (by omega) (by omega)
  have hI4 : zJ84 f r C Z N (ma_put (ma_put S 84 0 (.inl (mI S 66 0))) 84 1 (.inl (mI S 66 1))) := zG_fr hI3 rfl (by decide) (by decide) (by decide) trivial
  have li6 : (0 : Int32).toInt = 0 := rfl
  have hI5 : zJ84 f r C Z N (ma_put (ma_put (ma_put S 84 0 (.inl (mI S 66 0))) 84 1 (.inl (mI S 66 1))) 84 2 (.inl (0 : Int32))) := zG_sp hI4 (0) (400000) rfl (by decide) (by decide) (by decide) trivial (by omega) (by omega)
  exact K _ hI5 (show (mI S 66 0).toInt = (f 66 0).toInt from by first | (omega) | (exfalso; omega))
theorem g_100_87_66_n_0 {X : Nat × (Nat → Int32)} {d w : Nat} {S : ma_S} {Q : Option ma_V ⊕ Nat → ma_S → Prop}  (hd : 0 ≤ d) (hw : 0 ≤ w) (hS : zT S) (h : Q (.inl none) (ma_put (ma_put (ma_put S 87 0 (.inl (mI S 66 0))) 87 1 (.inl (mI S 66 1))) 87 2 (.inl (0 : Int32)))) : ma_wp X d w 100 0 [(0, .inr (.inr (some 87))), (1, .inr (.inr (some 66)))] [] S Q := by
  refine zw_push hm_100 dX8_open_0 (v := .inr (.inr (some 87))) rfl ?_
  refine zw_push hm_100 dX8_open_1 (v := .inr (.inr (some 66))) rfl ?_
  refine zw_push hm_100 dX8_open_2 (v := .inl (0 : Int32)) rfl ?_
  refine zw_ia hm_100 dX8_open_3 (zT_is hS s_66) (zT_h hS s_66) rfl ⟨by decide, by decide⟩ ?_
  show ma_wp X d w 100 4 [(0, .inr (.inr (some 87))), (1, .inr (.inr (some 66)))] [.inl (mI S 66 0), .inr (.inr (some 87))] S _
  refine zw_pf hm_100 dX8_open_4 (zT_is hS s_87) (zT_t hS s_87) p_8_9_6 zk_int ?_
  refine zw_push hm_100 dX8_open_7 (v := .inr (.inr (some 87))) rfl ?_
  refine zw_push hm_100 dX8_open_8 (v := .inr (.inr (some 66))) rfl ?_
  refine zw_push hm_100 dX8_open_9 (v := .inl (1 : Int32)) rfl ?_
  refine zw_ia hm_100 dX8_open_10 (zT_is (zT_pi hS) s_66) (zT_h (zT_pi hS) s_66) rfl ⟨by decide, by decide⟩ ?_
  show ma_wp X d w 100 11 [(0, .inr (.inr (some 87))), (1, .inr (.inr (some 66)))] [.inl (mI S 66 1), .inr (.inr (some 87))] (ma_put S 87 0 (.inl (mI S 66 0))) _
  refine zw_pf hm_100 dX8_open_11 (zT_is (zT_pi hS) s_87) (zT_t (zT_pi hS) s_87) p_8_15_6 zk_int ?_
  refine zw_push hm_100 dX8_open_14 (v := .inr (.inr (some 87))) rfl ?_
  refine zw_push hm_100 dX8_open_15 (v := .inl (0 : Int32)) rfl ?_
  refine zw_pf hm_100 dX8_open_16 (zT_is (zT_pi (zT_pi hS)) s_87) (zT_t (zT_pi (zT_pi hS)) s_87) p_8_18_6 zk_int ?_
  exact zw_vret hm_100 dX8_open_19 h
theorem sp_100_87_66_n {X : Nat × (Nat → Int32)} {d w : Nat} {f : Nat → Nat → Int32} {r : Nat → Nat → Option Nat} {C Z N : Nat} {Q : Option ma_V ⊕ Nat → ma_S → Prop} {S : ma_S}  (hd : 0 ≤ d) (hw : 0 ≤ w) (hI : zJ87 f r C Z N S) (hpre0 : 0 ≤ (mI S 66 0).toInt ∧ (mI S 66 0).toInt ≤ 1500) (K : ∀ S', zJ87 f r C Z N S' → ((mI S' 87 0).toInt = (f 66 0).toInt) → Q (.inl none) S') : ma_wp X d w 100 0 [(0, .inr (.inr (some 87))), (1, .inr (.inr (some 66)))] [] S Q := by
  refine g_100_87_66_n_0  (by omega) (by omega) (zG_T hI) ?_
  have q1 : (mI S 66 0).toInt = (f 66 0).toInt := zG_zi hI rfl
  have b2 := i_bd (mI S 66 0)
  have hI3 : zJ87 f r C Z N (ma_put S 87 0 (.inl (mI S 66 0))) := zG_sp hI (0) (1500) rfl (by decide) (by decide) (by decide) trivial (by omega) (by omega)
  have hI4 : zJ87 f r C Z N (ma_put (ma_put S 87 0 (.inl (mI S 66 0))) 87 1 (.inl (mI S 66 1))) := zG_fr hI3 rfl (by decide) (by decide) (by decide) trivial
  have li6 : (0 : Int32).toInt = 0 := rfl
  have hI5 : zJ87 f r C Z N (ma_put (ma_put (ma_put S 87 0 (.inl (mI S 66 0))) 87 1 (.inl (mI S 66 1))) 87 2 (.inl (0 : Int32))) := zG_sp hI4 (0) (400000) rfl (by decide) (by decide) (by decide) trivial (by omega) (by omega)
  exact K _ hI5 (show (mI S 66 0).toInt = (f 66 0).toInt from by first | (omega) | (exfalso; omega))
theorem g_66_87_66_n_0 {X : Nat × (Nat → Int32)} {d w : Nat} {S : ma_S} {Q : Option ma_V ⊕ Nat → ma_S → Prop}  (hd : 1 ≤ d) (hw : 21 ≤ w) (hS : zT S) (h : ma_wp X (d - 1) (w - 21) 100 0 [(0, .inr (.inr (some 87))), (1, .inr (.inr (some 66)))] [] S (zv (fun S1 => zT S1 ∧ (Q (.inl none) (ma_put (ma_put (ma_put S1 87 6 (.inl (mI S1 66 2))) 87 7 (.inl (mI S1 66 3))) 87 8 (.inl (0 : Int32))))) (fun _ _ => False))) : ma_wp X d w 66 0 [(0, .inr (.inr (some 87))), (1, .inr (.inr (some 66)))] [] S Q := by
  refine zw_push hm_66 dX6_open_0 (v := .inr (.inr (some 87))) rfl ?_
  refine zw_push hm_66 dX6_open_1 (v := .inr (.inr (some 66))) rfl ?_
  refine zw_csp hm_66 dX6_open_2 ip_6_20 il_6_20 hm_100 [.inr (.inr (some 66))] [] rfl (zT_is hS s_87) (by rw [(zT_t hS s_87)]; decide) ⟨by omega, by omega⟩ rfl (zw_mono h (zv_go ?_ ?_))
  · intro S1 hv
    obtain ⟨hS1, h⟩ := hv
    refine zw_push hm_66 dX6_open_5 (v := .inr (.inr (some 87))) rfl ?_
    refine zw_push hm_66 dX6_open_6 (v := .inr (.inr (some 66))) rfl ?_
    refine zw_push hm_66 dX6_open_7 (v := .inl (2 : Int32)) rfl ?_
    refine zw_ia hm_66 dX6_open_8 (zT_is hS1 s_66) (zT_h hS1 s_66) rfl ⟨by decide, by decide⟩ ?_
    show ma_wp X d w 66 9 [(0, .inr (.inr (some 87))), (1, .inr (.inr (some 66)))] [.inl (mI S1 66 2), .inr (.inr (some 87))] S1 _
    refine zw_pf hm_66 dX6_open_9 (zT_is hS1 s_87) (zT_t hS1 s_87) p_6_24_6 zk_int ?_
    refine zw_push hm_66 dX6_open_12 (v := .inr (.inr (some 87))) rfl ?_
    refine zw_push hm_66 dX6_open_13 (v := .inr (.inr (some 66))) rfl ?_
    refine zw_push hm_66 dX6_open_14 (v := .inl (3 : Int32)) rfl ?_
    refine zw_ia hm_66 dX6_open_15 (zT_is (zT_pi hS1) s_66) (zT_h (zT_pi hS1) s_66) rfl ⟨by decide, by decide⟩ ?_
    show ma_wp X d w 66 16 [(0, .inr (.inr (some 87))), (1, .inr (.inr (some 66)))] [.inl (mI S1 66 3), .inr (.inr (some 87))] (ma_put S1 87 6 (.inl (mI S1 66 2))) _
    refine zw_pf hm_66 dX6_open_16 (zT_is (zT_pi hS1) s_87) (zT_t (zT_pi hS1) s_87) p_6_28_6 zk_int ?_
    refine zw_push hm_66 dX6_open_19 (v := .inr (.inr (some 87))) rfl ?_
    refine zw_push hm_66 dX6_open_20 (v := .inl (0 : Int32)) rfl ?_
    refine zw_pf hm_66 dX6_open_21 (zT_is (zT_pi (zT_pi hS1)) s_87) (zT_t (zT_pi (zT_pi hS1)) s_87) p_6_31_6 (zk_bool (by decide)) ?_
    exact zw_vret hm_66 dX6_open_24 h
  · intro x S9 hx
    exact hx.elim
theorem sp_66_87_66_n {X : Nat × (Nat → Int32)} {d w : Nat} {f : Nat → Nat → Int32} {r : Nat → Nat → Option Nat} {C Z N : Nat} {Q : Option ma_V ⊕ Nat → ma_S → Prop} {S : ma_S}  (hd : 1 ≤ d) (hw : 21 ≤ w) (hI : zJ87 f r C Z N S) (hpre0 : 0 ≤ (mI S 66 0).toInt ∧ (mI S 66 0).toInt ≤ 1500 ∧ -1 ≤ (mI S 66 2).toInt ∧ (mI S 66 2).toInt ≤ 1500) (K : ∀ S', zJ87 f r C Z N S' → ((mI S' 87 0).toInt = (f 66 0).toInt) → Q (.inl none) S') : ma_wp X d w 66 0 [(0, .inr (.inr (some 87))), (1, .inr (.inr (some 66)))] [] S Q := by
  refine g_66_87_66_n_0  (by omega) (by omega) (zG_T hI) ?_
  have q1 : (mI S 66 0).toInt = (f 66 0).toInt := zG_zi hI rfl
  have b2 := i_bd (mI S 66 0)
  have q3 : (mI S 66 2).toInt = (f 66 2).toInt := zG_zi hI rfl
  have b4 := i_bd (mI S 66 2)
  refine sp_100_87_66_n  (by omega) (by omega) hI (show 0 ≤ (mI S 66 0).toInt ∧ (mI S 66 0).toInt ≤ 1500 from by omega) (fun S1 hI_S1 rp0_S1 => zv_n ⟨zG_T hI_S1, ?_⟩)
  have f5 := zG_s hI_S1 (0) (1500) (c := 87) (k := 0) (by decide)
  have rp0_S1 : (mI S1 87 0).toInt = (f 66 0).toInt := rp0_S1
  have q7 : (mI S1 66 2).toInt = (f 66 2).toInt := zG_zi hI_S1 rfl
  have b8 := i_bd (mI S1 66 2)
  have hI6 : zJ87 f r C Z N (ma_put S1 87 6 (.inl (mI S1 66 2))) := zG_sp hI_S1 (-1) (1500) rfl (by decide) (by decide) (by decide) trivial (by omega) (by omega)
  have hI9 : zJ87 f r C Z N (ma_put (ma_put S1 87 6 (.inl (mI S1 66 2))) 87 7 (.inl (mI S1 66 3))) := zG_fr hI6 rfl (by decide) (by decide) (by decide) trivial
  have li11 : (0 : Int32).toInt = 0 := rfl
  have hI10 : zJ87 f r C Z N (ma_put (ma_put (ma_put S1 87 6 (.inl (mI S1 66 2))) 87 7 (.inl (mI S1 66 3))) 87 8 (.inl (0 : Int32))) := zG_sp hI9 (0) (1) rfl (by decide) (by decide) (by decide) trivial (by omega) (by omega)
  exact K _ hI10 (show (mI S1 87 0).toInt = (f 66 0).toInt from by first | (omega) | (exfalso; omega))
theorem g_59_80_66_n_0 {X : Nat × (Nat → Int32)} {d w : Nat} {S : ma_S} {Q : Option ma_V ⊕ Nat → ma_S → Prop}  (hd : 0 ≤ d) (hw : 0 ≤ w) (hS : zT S) (h : Q (.inl none) (ma_put (ma_put S 80 2 (.inl (mI S 66 0))) 80 3 (.inl (0 : Int32)))) : ma_wp X d w 59 0 [(0, .inr (.inr (some 80))), (1, .inr (.inr (some 66)))] [] S Q := by
  refine zw_push hm_59 dX5_open_0 (v := .inr (.inr (some 80))) rfl ?_
  refine zw_push hm_59 dX5_open_1 (v := .inr (.inr (some 66))) rfl ?_
  refine zw_push hm_59 dX5_open_2 (v := .inl (0 : Int32)) rfl ?_
  refine zw_ia hm_59 dX5_open_3 (zT_is hS s_66) (zT_h hS s_66) rfl ⟨by decide, by decide⟩ ?_
  show ma_wp X d w 59 4 [(0, .inr (.inr (some 80))), (1, .inr (.inr (some 66)))] [.inl (mI S 66 0), .inr (.inr (some 80))] S _
  refine zw_pf hm_59 dX5_open_4 (zT_is hS s_80) (zT_t hS s_80) p_5_9_5 zk_int ?_
  refine zw_push hm_59 dX5_open_7 (v := .inr (.inr (some 80))) rfl ?_
  refine zw_push hm_59 dX5_open_8 (v := .inl (0 : Int32)) rfl ?_
  refine zw_pf hm_59 dX5_open_9 (zT_is (zT_pi hS) s_80) (zT_t (zT_pi hS) s_80) p_5_15_5 zk_int ?_
  exact zw_vret hm_59 dX5_open_12 h
theorem sp_59_80_66_n {X : Nat × (Nat → Int32)} {d w : Nat} {f : Nat → Nat → Int32} {r : Nat → Nat → Option Nat} {C Z N : Nat} {Q : Option ma_V ⊕ Nat → ma_S → Prop} {S : ma_S}  (hd : 0 ≤ d) (hw : 0 ≤ w) (hI : zJ80 f r C Z N S) (hpre0 : 0 ≤ (mI S 66 0).toInt ∧ (mI S 66 0).toInt ≤ 1500) (K : ∀ S', zJ80 f r C Z N S' → ((mI S' 80 2).toInt = (f 66 0).toInt) → Q (.inl none) S') : ma_wp X d w 59 0 [(0, .inr (.inr (some 80))), (1, .inr (.inr (some 66)))] [] S Q := by
  refine g_59_80_66_n_0  (by omega) (by omega) (zG_T hI) ?_
  have q1 : (mI S 66 0).toInt = (f 66 0).toInt := zG_zi hI rfl
  have b2 := i_bd (mI S 66 0)
  have hI3 : zJ80 f r C Z N (ma_put S 80 2 (.inl (mI S 66 0))) := zG_sp hI (0) (1500) rfl (by decide) (by decide) (by decide) trivial (by omega) (by omega)
  have li5 : (0 : Int32).toInt = 0 := rfl
  have hI4 : zJ80 f r C Z N (ma_put (ma_put S 80 2 (.inl (mI S 66 0))) 80 3 (.inl (0 : Int32))) := zG_sp hI3 (0) (400000) rfl (by decide) (by decide) (by decide) trivial (by omega) (by omega)
  exact K _ hI4 (show (mI S 66 0).toInt = (f 66 0).toInt from by first | (omega) | (exfalso; omega))
theorem g_276_83_n_0 {X : Nat × (Nat → Int32)} {d w : Nat} {S : ma_S} {Q : Option ma_V ⊕ Nat → ma_S → Prop} (x : Int32) (hd : 0 ≤ d) (hw : 0 ≤ w) (hS : zT S) (h : ma_wp X d w 276 5 [(0, .inr (.inr (some 83))), (1, .inl x), (2, .inl (0 : Int32)), (3, .inl (375 : Int32))] [] S Q) : ma_wp X d w 276 0 [(0, .inr (.inr (some 83))), (1, .inl x)] [] S Q := by
  refine zw_push hm_276 dJ7_fill_53178_0 (v := .inl (0 : Int32)) rfl ?_
  refine zw_sto hm_276 dJ7_fill_53178_1 [(2, .inl (0 : Int32)), (0, .inr (.inr (some 83))), (1, .inl x)] rfl rfl rfl ?_
  refine zw_push hm_276 dJ7_fill_53178_2 (v := .inr (.inr (some 83))) rfl ?_
  refine zw_len hm_276 dJ7_fill_53178_3 (zT_is hS s_83) (zT_h hS s_83) rfl rfl ?_
  refine zw_sto hm_276 dJ7_fill_53178_4 [(3, .inl (375 : Int32)), (2, .inl (0 : Int32)), (0, .inr (.inr (some 83))), (1, .inl x)] rfl rfl rfl ?_
  exact zw_sub (ma_nd_of (ks := [0, 1, 2, 3]) rfl (by decide)) (ma_nd_of (ks := [3, 2, 0, 1]) rfl (by decide)) (ma_le_cons rfl (ma_le_cons rfl (ma_le_cons rfl (ma_le_cons rfl (ma_le_nil _))))) h
theorem g_276_83_n_5 {X : Nat × (Nat → Int32)} {d w : Nat} {S : ma_S} {Q : Option ma_V ⊕ Nat → ma_S → Prop} (l1 : Int32) (l2 : Int32) (l3 : Int32) (hd : 0 ≤ d) (hw : 0 ≤ w) (hS : zT S) (h : if l3 ≤ l2 then (Q (.inl none) S) else ((0 ≤ l2 ∧ l2.toNatClampNeg < 375) ∧ (ma_wp X d w 276 5 [(0, .inr (.inr (some 83))), (1, .inl l1), (2, .inl (l2 + (1 : Int32))), (3, .inl l3)] [] (ma_put S 83 l2.toNatClampNeg (.inl l1)) Q))) : ma_wp X d w 276 5 [(0, .inr (.inr (some 83))), (1, .inl l1), (2, .inl l2), (3, .inl l3)] [] S Q := by
  refine zw_push hm_276 dJ7_fill_53178_5 (v := .inl l2) rfl ?_
  refine zw_push hm_276 dJ7_fill_53178_6 (v := .inl l3) rfl ?_
  refine zw_if2 hm_276 dJ7_fill_53178_7 (t := 20) rfl zc2_ge ?_ ?_
  · intro hc
    rw [if_pos hc] at h
    exact zw_vret hm_276 dJ7_fill_53178_20 h
  · intro hc
    rw [if_neg hc] at h
    refine zw_push hm_276 dJ7_fill_53178_10 (v := .inr (.inr (some 83))) rfl ?_
    refine zw_push hm_276 dJ7_fill_53178_11 (v := .inl l2) rfl ?_
    refine zw_push hm_276 dJ7_fill_53178_12 (v := .inl l1) rfl ?_
    obtain ⟨hg, h⟩ := h
    refine zw_ias hm_276 dJ7_fill_53178_13 (zT_is hS s_83) (zT_h hS s_83) rfl hg ?_
    refine zw_sto hm_276 dJ7_fill_53178_14 [(2, .inl (l2 + (1 : Int32))), (0, .inr (.inr (some 83))), (1, .inl l1), (3, .inl l3)] rfl rfl rfl ?_
    refine zw_goto hm_276 dJ7_fill_53178_17 (t := 5) rfl ?_
    exact zw_sub (ma_nd_of (ks := [0, 1, 2, 3]) rfl (by decide)) (ma_nd_of (ks := [2, 0, 1, 3]) rfl (by decide)) (ma_le_cons rfl (ma_le_cons rfl (ma_le_cons rfl (ma_le_cons rfl (ma_le_nil _))))) h
theorem lp_276_83_n_5 {X : Nat × (Nat → Int32)} {d w : Nat} {f : Nat → Nat → Int32} {r : Nat → Nat → Option Nat} {C Z N : Nat} {Q : Option ma_V ⊕ Nat → ma_S → Prop} (hd : 0 ≤ d) (hw : 0 ≤ w) (K : ∀ S', zM83 f r C Z N S' → Q (.inl none) S') : ∀ (n : Nat) (S : ma_S) (l1 : Int32) (l2 : Int32) (l3 : Int32), (l3.toInt - l2.toInt).toNat = n → zM83 f r C Z N S → (0 ≤ l2.toInt) → (l3.toInt = 375) → ma_wp X d w 276 5 [(0, .inr (.inr (some 83))), (1, .inl l1), (2, .inl l2), (3, .inl l3)] [] S Q := by
  intro n
  induction n using Nat.strongRecOn with
  | _ n IH =>
    intro S l1 l2 l3 hmu hI  hi0 hi1
    refine g_276_83_n_5 l1 l2 l3 (by omega) (by omega) (zG_T hI) ?_
    have b1 := i_bd l3
    have b2 := i_bd l2
    refine zd (fun h3 => ?_) (fun h3 => ?_)
    · skip
      have g4 := i_le h3
      exact K _ hI
    · skip
      have g5 := i_nle h3
      refine ⟨i_ix (by omega) (by omega), ?_⟩
      have hI6 : zM83 f r C Z N (ma_put S 83 l2.toNatClampNeg (.inl l1)) := zG_fa hI rfl (by decide) (by decide) (by decide) trivial
      have b7 := i_bd l1
      first | have e8 : (l2 + (1 : Int32)).toInt = l2.toInt + (1) := i_addk rfl (by omega) (by omega) | have b9 := i_bd (l2 + (1 : Int32))
      exact IH _ (by omega) _ (l1) ((l2 + (1 : Int32))) (l3) rfl hI6 (by omega) (by omega)
theorem sp_276_83_n {X : Nat × (Nat → Int32)} {d w : Nat} {f : Nat → Nat → Int32} {r : Nat → Nat → Option Nat} {C Z N : Nat} {Q : Option ma_V ⊕ Nat → ma_S → Prop} {S : ma_S} (x : Int32) (hd : 0 ≤ d) (hw : 0 ≤ w) (hI : zM83 f r C Z N S)  (K : ∀ S', zM83 f r C Z N S' → Q (.inl none) S') : ma_wp X d w 276 0 [(0, .inr (.inr (some 83))), (1, .inl x)] [] S Q := by
  refine g_276_83_n_0 x (by omega) (by omega) (zG_T hI) ?_
  have b1 := i_bd x
  have li2 : (0 : Int32).toInt = 0 := rfl
  have li3 : (375 : Int32).toInt = 375 := rfl
  exact lp_276_83_n_5 (by omega) (by omega) K _ _ (x) ((0 : Int32)) ((375 : Int32)) rfl hI (by omega) (by omega)
theorem g_276_92_n_0 {X : Nat × (Nat → Int32)} {d w : Nat} {S : ma_S} {Q : Option ma_V ⊕ Nat → ma_S → Prop} (x : Int32) (hd : 0 ≤ d) (hw : 0 ≤ w) (hS : zT S) (h : ma_wp X d w 276 5 [(0, .inr (.inr (some 92))), (1, .inl x), (2, .inl (0 : Int32)), (3, .inl (93 : Int32))] [] S Q) : ma_wp X d w 276 0 [(0, .inr (.inr (some 92))), (1, .inl x)] [] S Q := by
  refine zw_push hm_276 dJ7_fill_53178_0 (v := .inl (0 : Int32)) rfl ?_
  refine zw_sto hm_276 dJ7_fill_53178_1 [(2, .inl (0 : Int32)), (0, .inr (.inr (some 92))), (1, .inl x)] rfl rfl rfl ?_
  refine zw_push hm_276 dJ7_fill_53178_2 (v := .inr (.inr (some 92))) rfl ?_
  refine zw_len hm_276 dJ7_fill_53178_3 (zT_is hS s_92) (zT_h hS s_92) rfl rfl ?_
  refine zw_sto hm_276 dJ7_fill_53178_4 [(3, .inl (93 : Int32)), (2, .inl (0 : Int32)), (0, .inr (.inr (some 92))), (1, .inl x)] rfl rfl rfl ?_
  exact zw_sub (ma_nd_of (ks := [0, 1, 2, 3]) rfl (by decide)) (ma_nd_of (ks := [3, 2, 0, 1]) rfl (by decide)) (ma_le_cons rfl (ma_le_cons rfl (ma_le_cons rfl (ma_le_cons rfl (ma_le_nil _))))) h
theorem g_276_92_n_5 {X : Nat × (Nat → Int32)} {d w : Nat} {S : ma_S} {Q : Option ma_V ⊕ Nat → ma_S → Prop} (l1 : Int32) (l2 : Int32) (l3 : Int32) (hd : 0 ≤ d) (hw : 0 ≤ w) (hS : zT S) (h : if l3 ≤ l2 then (Q (.inl none) S) else ((0 ≤ l2 ∧ l2.toNatClampNeg < 93) ∧ (ma_wp X d w 276 5 [(0, .inr (.inr (some 92))), (1, .inl l1), (2, .inl (l2 + (1 : Int32))), (3, .inl l3)] [] (ma_put S 92 l2.toNatClampNeg (.inl l1)) Q))) : ma_wp X d w 276 5 [(0, .inr (.inr (some 92))), (1, .inl l1), (2, .inl l2), (3, .inl l3)] [] S Q := by
  refine zw_push hm_276 dJ7_fill_53178_5 (v := .inl l2) rfl ?_
  refine zw_push hm_276 dJ7_fill_53178_6 (v := .inl l3) rfl ?_
  refine zw_if2 hm_276 dJ7_fill_53178_7 (t := 20) rfl zc2_ge ?_ ?_
  · intro hc
    rw [if_pos hc] at h
    exact zw_vret hm_276 dJ7_fill_53178_20 h
  · intro hc
    rw [if_neg hc] at h
    refine zw_push hm_276 dJ7_fill_53178_10 (v := .inr (.inr (some 92))) rfl ?_
    refine zw_push hm_276 dJ7_fill_53178_11 (v := .inl l2) rfl ?_
    refine zw_push hm_276 dJ7_fill_53178_12 (v := .inl l1) rfl ?_
    obtain ⟨hg, h⟩ := h
    refine zw_ias hm_276 dJ7_fill_53178_13 (zT_is hS s_92) (zT_h hS s_92) rfl hg ?_
    refine zw_sto hm_276 dJ7_fill_53178_14 [(2, .inl (l2 + (1 : Int32))), (0, .inr (.inr (some 92))), (1, .inl l1), (3, .inl l3)] rfl rfl rfl ?_
    refine zw_goto hm_276 dJ7_fill_53178_17 (t := 5) rfl ?_
    exact zw_sub (ma_nd_of (ks := [0, 1, 2, 3]) rfl (by decide)) (ma_nd_of (ks := [2, 0, 1, 3]) rfl (by decide)) (ma_le_cons rfl (ma_le_cons rfl (ma_le_cons rfl (ma_le_cons rfl (ma_le_nil _))))) h
theorem lp_276_92_n_5 {X : Nat × (Nat → Int32)} {d w : Nat} {f : Nat → Nat → Int32} {r : Nat → Nat → Option Nat} {C Z N : Nat} {Q : Option ma_V ⊕ Nat → ma_S → Prop} (hd : 0 ≤ d) (hw : 0 ≤ w) (K : ∀ S', zM92 f r C Z N S' → Q (.inl none) S') : ∀ (n : Nat) (S : ma_S) (l1 : Int32) (l2 : Int32) (l3 : Int32), (l3.toInt - l2.toInt).toNat = n → zM92 f r C Z N S → (0 ≤ l2.toInt) → (l3.toInt = 93) → (0 ≤ l1.toInt) → (l1.toInt ≤ 3000) → ma_wp X d w 276 5 [(0, .inr (.inr (some 92))), (1, .inl l1), (2, .inl l2), (3, .inl l3)] [] S Q := by
  intro n
  induction n using Nat.strongRecOn with
  | _ n IH =>
    intro S l1 l2 l3 hmu hI  hi0 hi1 hi2 hi3
    refine g_276_92_n_5 l1 l2 l3 (by omega) (by omega) (zG_T hI) ?_
    have b1 := i_bd l3
    have b2 := i_bd l2
    refine zd (fun h3 => ?_) (fun h3 => ?_)
    · skip
      have g4 := i_le h3
      exact K _ hI
    · skip
      have g5 := i_nle h3
      refine ⟨i_ix (by omega) (by omega), ?_⟩
      have b7 := i_bd l1
      have hI6 : zM92 f r C Z N (ma_put S 92 l2.toNatClampNeg (.inl l1)) := zG_sa hI (0) (3000) rfl (by decide) (by decide) (by decide) trivial (by omega) (by omega)
      first | have e8 : (l2 + (1 : Int32)).toInt = l2.toInt + (1) := i_addk rfl (by omega) (by omega) | have b9 := i_bd (l2 + (1 : Int32))
      exact IH _ (by omega) _ (l1) ((l2 + (1 : Int32))) (l3) rfl hI6 (by omega) (by omega) (by omega) (by omega)
theorem sp_276_92_n {X : Nat × (Nat → Int32)} {d w : Nat} {f : Nat → Nat → Int32} {r : Nat → Nat → Option Nat} {C Z N : Nat} {Q : Option ma_V ⊕ Nat → ma_S → Prop} {S : ma_S} (x : Int32) (hd : 0 ≤ d) (hw : 0 ≤ w) (hI : zM92 f r C Z N S) (hpre0 : 0 ≤ x.toInt) (hpre1 : x.toInt ≤ 3000) (K : ∀ S', zM92 f r C Z N S' → Q (.inl none) S') : ma_wp X d w 276 0 [(0, .inr (.inr (some 92))), (1, .inl x)] [] S Q := by
  refine g_276_92_n_0 x (by omega) (by omega) (zG_T hI) ?_
  have b1 := i_bd x
  have li2 : (0 : Int32).toInt = 0 := rfl
  have li3 : (93 : Int32).toInt = 93 := rfl
  exact lp_276_92_n_5 (by omega) (by omega) K _ _ (x) ((0 : Int32)) ((93 : Int32)) rfl hI (by omega) (by omega) (by omega) (by omega)
theorem g_29_81_66_zK81_n_0 {X : Nat × (Nat → Int32)} {d w : Nat} {S : ma_S} {Q : Option ma_V ⊕ Nat → ma_S → Prop}  (hd : 0 ≤ d) (hw : 0 ≤ w) (hS : zT S) (h : Q (.inl none) (ma_put (ma_put (ma_put S 81 2 (.inl (mI S 66 0))) 81 3 (.inl (0 : Int32))) 81 4 (.inl (0 : Int32)))) : ma_wp X d w 29 0 [(0, .inr (.inr (some 81))), (1, .inr (.inr (some 66)))] [] S Q := by
  refine zw_push hm_29 dX3_open_0 (v := .inr (.inr (some 81))) rfl ?_
  refine zw_push hm_29 dX3_open_1 (v := .inr (.inr (some 66))) rfl ?_
  refine zw_push hm_29 dX3_open_2 (v := .inl (0 : Int32)) rfl ?_
  refine zw_ia hm_29 dX3_open_3 (zT_is hS s_66) (zT_h hS s_66) rfl ⟨by decide, by decide⟩ ?_
  show ma_wp X d w 29 4 [(0, .inr (.inr (some 81))), (1, .inr (.inr (some 66)))] [.inl (mI S 66 0), .inr (.inr (some 81))] S _
  refine zw_pf hm_29 dX3_open_4 (zT_is hS s_81) (zT_t hS s_81) p_3_9_3 zk_int ?_
  refine zw_push hm_29 dX3_open_7 (v := .inr (.inr (some 81))) rfl ?_
  refine zw_push hm_29 dX3_open_8 (v := .inl (0 : Int32)) rfl ?_
  refine zw_pf hm_29 dX3_open_9 (zT_is (zT_pi hS) s_81) (zT_t (zT_pi hS) s_81) p_3_15_3 zk_int ?_
  refine zw_push hm_29 dX3_open_12 (v := .inr (.inr (some 81))) rfl ?_
  refine zw_push hm_29 dX3_open_13 (v := .inl (0 : Int32)) rfl ?_
  refine zw_pf hm_29 dX3_open_14 (zT_is (zT_pi (zT_pi hS)) s_81) (zT_t (zT_pi (zT_pi hS)) s_81) p_3_18_3 zk_int ?_
  exact zw_vret hm_29 dX3_open_17 h
theorem sp_29_81_66_zK81_n {X : Nat × (Nat → Int32)} {d w : Nat} {f : Nat → Nat → Int32} {r : Nat → Nat → Option Nat} {C Z N : Nat} {Q : Option ma_V ⊕ Nat → ma_S → Prop} {S : ma_S}  (hd : 0 ≤ d) (hw : 0 ≤ w) (hI : zK81 f r C Z N S) (hpre0 : 0 ≤ (mI S 66 0).toInt ∧ (mI S 66 0).toInt ≤ 1500) (K : ∀ S', zK81 f r C Z N S' → (0 ≤ (mI S' 81 3).toInt ∧ (mI S' 81 3).toInt ≤ (mI S' 81 2).toInt) → ((mI S' 81 2).toInt = (f 66 0).toInt) → Q (.inl none) S') : ma_wp X d w 29 0 [(0, .inr (.inr (some 81))), (1, .inr (.inr (some 66)))] [] S Q := by
  refine g_29_81_66_zK81_n_0  (by omega) (by omega) (zG_T hI) ?_
  have q1 : (mI S 66 0).toInt = (f 66 0).toInt := zG_zi hI rfl
  have b2 := i_bd (mI S 66 0)
  have hI3 : zK81 f r C Z N (ma_put S 81 2 (.inl (mI S 66 0))) := zG_sp hI (0) (1500) rfl (by decide) (by decide) (by decide) trivial (by omega) (by omega)
  have li5 : (0 : Int32).toInt = 0 := rfl
  have hI4 : zK81 f r C Z N (ma_put (ma_put S 81 2 (.inl (mI S 66 0))) 81 3 (.inl (0 : Int32))) := zG_sp hI3 (0) (1500) rfl (by decide) (by decide) (by decide) trivial (by omega) (by omega)
  have hI6 : zK81 f r C Z N (ma_put (ma_put (ma_put S 81 2 (.inl (mI S 66 0))) 81 3 (.inl (0 : Int32))) 81 4 (.inl (0 : Int32))) := zG_sp hI4 (0) (400000) rfl (by decide) (by decide) (by decide) trivial (by omega) (by omega)
  exact K _ hI6 (show 0 ≤ (0 : Int32).toInt ∧ (0 : Int32).toInt ≤ (mI S 66 0).toInt from by omega) (show (mI S 66 0).toInt = (f 66 0).toInt from by first | (omega) | (exfalso; omega))
theorem g_1_82_66_zK82_n_0 {X : Nat × (Nat → Int32)} {d w : Nat} {S : ma_S} {Q : Option ma_V ⊕ Nat → ma_S → Prop}  (hd : 1 ≤ d) (hw : 23 ≤ w) (hS : zT S) (h : ma_wp X (d - 1) (w - 23) 276 0 [(0, .inr (.inr (some 83))), (1, .inl (0 : Int32))] [] (ma_put (ma_put (ma_put (ma_put (ma_put (ma_put (ma_put S 82 2 (.inl (mI S 66 0))) 82 3 (.inl (mI S 66 1))) 82 4 (.inl (mI S 66 2))) 82 5 (.inl (mI S 66 3))) 82 6 (.inl (0 : Int32))) 82 7 (.inl (mI S 66 1))) 82 8 (.inl (mI S 66 1))) (zv (fun S1 => zT S1 ∧ (Q (.inl none) S1)) (fun _ _ => False))) : ma_wp X d w 1 0 [(0, .inr (.inr (some 82))), (1, .inr (.inr (some 66)))] [] S Q := by
  refine zw_push hm_1 dX0_open_0 (v := .inr (.inr (some 82))) rfl ?_
  refine zw_push hm_1 dX0_open_1 (v := .inr (.inr (some 66))) rfl ?_
  refine zw_push hm_1 dX0_open_2 (v := .inl (0 : Int32)) rfl ?_
  refine zw_ia hm_1 dX0_open_3 (zT_is hS s_66) (zT_h hS s_66) rfl ⟨by decide, by decide⟩ ?_
  show ma_wp X d w 1 4 [(0, .inr (.inr (some 82))), (1, .inr (.inr (some 66)))] [.inl (mI S 66 0), .inr (.inr (some 82))] S _
  refine zw_pf hm_1 dX0_open_4 (zT_is hS s_82) (zT_t hS s_82) p_1_15_1 zk_int ?_
  refine zw_push hm_1 dX0_open_7 (v := .inr (.inr (some 82))) rfl ?_
  refine zw_push hm_1 dX0_open_8 (v := .inr (.inr (some 66))) rfl ?_
  refine zw_push hm_1 dX0_open_9 (v := .inl (1 : Int32)) rfl ?_
  refine zw_ia hm_1 dX0_open_10 (zT_is (zT_pi hS) s_66) (zT_h (zT_pi hS) s_66) rfl ⟨by decide, by decide⟩ ?_
  show ma_wp X d w 1 11 [(0, .inr (.inr (some 82))), (1, .inr (.inr (some 66)))] [.inl (mI S 66 1), .inr (.inr (some 82))] (ma_put S 82 2 (.inl (mI S 66 0))) _
  refine zw_pf hm_1 dX0_open_11 (zT_is (zT_pi hS) s_82) (zT_t (zT_pi hS) s_82) p_1_19_1 zk_int ?_
  refine zw_push hm_1 dX0_open_14 (v := .inr (.inr (some 82))) rfl ?_
  refine zw_push hm_1 dX0_open_15 (v := .inr (.inr (some 66))) rfl ?_
  refine zw_push hm_1 dX0_open_16 (v := .inl (2 : Int32)) rfl ?_
  refine zw_ia hm_1 dX0_open_17 (zT_is (zT_pi (zT_pi hS)) s_66) (zT_h (zT_pi (zT_pi hS)) s_66) rfl ⟨by decide, by decide⟩ ?_
  show ma_wp X d w 1 18 [(0, .inr (.inr (some 82))), (1, .inr (.inr (some 66)))] [.inl (mI S 66 2), .inr (.inr (some 82))] (ma_put (ma_put S 82 2 (.inl (mI S 66 0))) 82 3 (.inl (mI S 66 1))) _
  refine zw_pf hm_1 dX0_open_18 (zT_is (zT_pi (zT_pi hS)) s_82) (zT_t (zT_pi (zT_pi hS)) s_82) p_1_22_1 zk_int ?_
  refine zw_push hm_1 dX0_open_21 (v := .inr (.inr (some 82))) rfl ?_
  refine zw_push hm_1 dX0_open_22 (v := .inr (.inr (some 66))) rfl ?_
  refine zw_push hm_1 dX0_open_23 (v := .inl (3 : Int32)) rfl ?_
  refine zw_ia hm_1 dX0_open_24 (zT_is (zT_pi (zT_pi (zT_pi hS))) s_66) (zT_h (zT_pi (zT_pi (zT_pi hS))) s_66) rfl ⟨by decide, by decide⟩ ?_
  show ma_wp X d w 1 25 [(0, .inr (.inr (some 82))), (1, .inr (.inr (some 66)))] [.inl (mI S 66 3), .inr (.inr (some 82))] (ma_put (ma_put (ma_put S 82 2 (.inl (mI S 66 0))) 82 3 (.inl (mI S 66 1))) 82 4 (.inl (mI S 66 2))) _
  refine zw_pf hm_1 dX0_open_25 (zT_is (zT_pi (zT_pi (zT_pi hS))) s_82) (zT_t (zT_pi (zT_pi (zT_pi hS))) s_82) p_1_25_1 zk_int ?_
  refine zw_push hm_1 dX0_open_28 (v := .inr (.inr (some 82))) rfl ?_
  refine zw_push hm_1 dX0_open_29 (v := .inl (0 : Int32)) rfl ?_
  refine zw_pf hm_1 dX0_open_30 (zT_is (zT_pi (zT_pi (zT_pi (zT_pi hS)))) s_82) (zT_t (zT_pi (zT_pi (zT_pi (zT_pi hS)))) s_82) p_1_28_1 zk_int ?_
  refine zw_push hm_1 dX0_open_33 (v := .inr (.inr (some 82))) rfl ?_
  refine zw_push hm_1 dX0_open_34 (v := .inr (.inr (some 82))) rfl ?_
  refine zw_gf hm_1 dX0_open_35 (v := .inl (mI S 66 1)) (zT_is (zT_pi (zT_pi (zT_pi (zT_pi (zT_pi hS))))) s_82) (zT_t (zT_pi (zT_pi (zT_pi (zT_pi (zT_pi hS))))) s_82) rfl f_1_19_1 rfl ?_
  refine zw_pf hm_1 dX0_open_38 (zT_is (zT_pi (zT_pi (zT_pi (zT_pi (zT_pi hS))))) s_82) (zT_t (zT_pi (zT_pi (zT_pi (zT_pi (zT_pi hS))))) s_82) p_1_31_1 zk_int ?_
  refine zw_push hm_1 dX0_open_41 (v := .inr (.inr (some 82))) rfl ?_
  refine zw_push hm_1 dX0_open_42 (v := .inr (.inr (some 82))) rfl ?_
  refine zw_gf hm_1 dX0_open_43 (v := .inl (mI S 66 1)) (zT_is (zT_pi (zT_pi (zT_pi (zT_pi (zT_pi (zT_pi hS)))))) s_82) (zT_t (zT_pi (zT_pi (zT_pi (zT_pi (zT_pi (zT_pi hS)))))) s_82) rfl f_1_19_1 rfl ?_
  refine zw_pf hm_1 dX0_open_46 (zT_is (zT_pi (zT_pi (zT_pi (zT_pi (zT_pi (zT_pi hS)))))) s_82) (zT_t (zT_pi (zT_pi (zT_pi (zT_pi (zT_pi (zT_pi hS)))))) s_82) p_1_34_1 zk_int ?_
  refine zw_push hm_1 dX0_open_49 (v := .inr (.inr (some 82))) rfl ?_
  refine zw_gf hm_1 dX0_open_50 (v := .inr (.inr (some 83))) (zT_is (zT_pi (zT_pi (zT_pi (zT_pi (zT_pi (zT_pi (zT_pi hS))))))) s_82) (zT_t (zT_pi (zT_pi (zT_pi (zT_pi (zT_pi (zT_pi (zT_pi hS))))))) s_82) rfl f_1_9_1 (zT_f (zT_pi (zT_pi (zT_pi (zT_pi (zT_pi (zT_pi (zT_pi hS))))))) r_82_9) ?_
  refine zw_push hm_1 dX0_open_53 (v := .inl (0 : Int32)) rfl ?_
  refine zw_cs hm_1 dX0_open_54 pn_1_37 sl_1_37 hm_276 [.inl (0 : Int32), .inr (.inr (some 83))] [] rfl ⟨by omega, by omega⟩ rfl (zw_mono h (zv_go ?_ ?_))
  · intro S1 hv
    obtain ⟨hS1, h⟩ := hv
    exact zw_vret hm_1 dX0_open_57 h
  · intro x S9 hx
    exact hx.elim
theorem sp_1_82_66_zK82_n {X : Nat × (Nat → Int32)} {d w : Nat} {f : Nat → Nat → Int32} {r : Nat → Nat → Option Nat} {C Z N : Nat} {Q : Option ma_V ⊕ Nat → ma_S → Prop} {S : ma_S}  (hd : 1 ≤ d) (hw : 23 ≤ w) (hI : zK82 f r C Z N S) (hpre0 : 0 ≤ (mI S 66 0).toInt ∧ (mI S 66 0).toInt ≤ 1500 ∧ 0 ≤ (mI S 66 1).toInt ∧ (mI S 66 1).toInt ≤ 1500) (K : ∀ S', zK82 f r C Z N S' → ((mI S' 82 3).toInt ≤ (mI S' 82 7).toInt ∧ (mI S' 82 7).toInt ≤ (mI S' 82 3).toInt + (mI S' 82 2).toInt) → ((mI S' 82 2).toInt = (f 66 0).toInt ∧ (mI S' 82 3).toInt = (f 66 1).toInt) → Q (.inl none) S') : ma_wp X d w 1 0 [(0, .inr (.inr (some 82))), (1, .inr (.inr (some 66)))] [] S Q := by
  refine g_1_82_66_zK82_n_0  (by omega) (by omega) (zG_T hI) ?_
  have q1 : (mI S 66 0).toInt = (f 66 0).toInt := zG_zi hI rfl
  have b2 := i_bd (mI S 66 0)
  have q3 : (mI S 66 1).toInt = (f 66 1).toInt := zG_zi hI rfl
  have b4 := i_bd (mI S 66 1)
  have li5 : (0 : Int32).toInt = 0 := rfl
  have hI6 : zK82 f r C Z N (ma_put S 82 2 (.inl (mI S 66 0))) := zG_sp hI (0) (1500) rfl (by decide) (by decide) (by decide) trivial (by omega) (by omega)
  have hI7 : zK82 f r C Z N (ma_put (ma_put S 82 2 (.inl (mI S 66 0))) 82 3 (.inl (mI S 66 1))) := zG_sp hI6 (0) (1500) rfl (by decide) (by decide) (by decide) trivial (by omega) (by omega)
  have hI8 : zK82 f r C Z N (ma_put (ma_put (ma_put S 82 2 (.inl (mI S 66 0))) 82 3 (.inl (mI S 66 1))) 82 4 (.inl (mI S 66 2))) := zG_fr hI7 rfl (by decide) (by decide) (by decide) trivial
  have hI9 : zK82 f r C Z N (ma_put (ma_put (ma_put (ma_put S 82 2 (.inl (mI S 66 0))) 82 3 (.inl (mI S 66 1))) 82 4 (.inl (mI S 66 2))) 82 5 (.inl (mI S 66 3))) := zG_fr hI8 rfl (by decide) (by decide) (by decide) trivial
  have hI10 : zK82 f r C Z N (ma_put (ma_put (ma_put (ma_put (ma_put S 82 2 (.inl (mI S 66 0))) 82 3 (.inl (mI S 66 1))) 82 4 (.inl (mI S 66 2))) 82 5 (.inl (mI S 66 3))) 82 6 (.inl (0 : Int32))) := zG_sp hI9 (0) (400000) rfl (by decide) (by decide) (by decide) trivial (by omega) (by omega)
  have hI11 : zK82 f r C Z N (ma_put (ma_put (ma_put (ma_put (ma_put (ma_put S 82 2 (.inl (mI S 66 0))) 82 3 (.inl (mI S 66 1))) 82 4 (.inl (mI S 66 2))) 82 5 (.inl (mI S 66 3))) 82 6 (.inl (0 : Int32))) 82 7 (.inl (mI S 66 1))) := zG_sp hI10 (0) (3000) rfl (by decide) (by decide) (by decide) trivial (by omega) (by omega)
  have hI12 : zK82 f r C Z N (ma_put (ma_put (ma_put (ma_put (ma_put (ma_put (ma_put S 82 2 (.inl (mI S 66 0))) 82 3 (.inl (mI S 66 1))) 82 4 (.inl (mI S 66 2))) 82 5 (.inl (mI S 66 3))) 82 6 (.inl (0 : Int32))) 82 7 (.inl (mI S 66 1))) 82 8 (.inl (mI S 66 1))) := zG_sp hI11 (0) (400000) rfl (by decide) (by decide) (by decide) trivial (by omega) (by omega)
  refine sp_276_83_n ((0 : Int32)) (by omega) (by omega) (zK82_dn_zM83 hI12)  (fun S1 hL_S1 => zv_n ⟨zG_T hL_S1, ?_⟩)
  have hI_S1 := zK82_up_zM83 hI12 hL_S1
  have q13 : (mI S1 82 3).toInt = (mI S 66 1).toInt := zG_zi hL_S1 rfl
  have f14 := zG_s hI_S1 (0) (1500) (c := 82) (k := 3) (by decide)
  have q15 : (mI S1 82 7).toInt = (mI S 66 1).toInt := zG_zi hL_S1 rfl
  have f16 := zG_s hI_S1 (0) (3000) (c := 82) (k := 7) (by decide)
  have q17 : (mI S1 82 2).toInt = (mI S 66 0).toInt := zG_zi hL_S1 rfl
  have f18 := zG_s hI_S1 (0) (1500) (c := 82) (k := 2) (by decide)
  exact K _ hI_S1 (show (mI S1 82 3).toInt ≤ (mI S1 82 7).toInt ∧ (mI S1 82 7).toInt ≤ (mI S1 82 3).toInt + (mI S1 82 2).toInt from by omega) (show (mI S1 82 2).toInt = (f 66 0).toInt ∧ (mI S1 82 3).toInt = (f 66 1).toInt from by first | (omega) | (exfalso; omega))
theorem g_38_91_66_n_0 {X : Nat × (Nat → Int32)} {d w : Nat} {S : ma_S} {Q : Option ma_V ⊕ Nat → ma_S → Prop}  (hd : 1 ≤ d) (hw : 68 ≤ w) (hS : zT S) (h : if (mI S 66 1) ≤ 0 then (ma_wp X (d - 1) (w - 23) 276 0 [(0, .inr (.inr (some 92))), (1, .inl (0 : Int32))] [] (ma_put (ma_put (ma_put (ma_put S 91 2 (.inl (mI S 66 1))) 91 3 (.inl (0 : Int32))) 91 4 (.inl (mI S 66 2))) 91 5 (.inl (0 : Int32))) (zv (fun S1 => zT S1 ∧ (Q (.inl none) S1)) (fun _ _ => False))) else ((mI S 66 1) ≠ 0 ∧ (ma_wp X (d - 1) (w - 23) 276 0 [(0, .inr (.inr (some 92))), (1, .inl (0 : Int32))] [] (ma_put (ma_put (ma_put (ma_put S 91 2 (.inl (mI S 66 1))) 91 3 (.inl (if (93 : Int32) < ((mI S 66 0) / (mI S 66 1)) then (93 : Int32) else ((mI S 66 0) / (mI S 66 1))))) 91 4 (.inl (mI S 66 2))) 91 5 (.inl (0 : Int32))) (zv (fun S3 => zT S3 ∧ (Q (.inl none) S3)) (fun _ _ => False))))) : ma_wp X d w 38 0 [(0, .inr (.inr (some 91))), (1, .inr (.inr (some 66)))] [] S Q := by
  refine zw_push hm_38 dX4_open_0 (v := .inr (.inr (some 91))) rfl ?_
  refine zw_push hm_38 dX4_open_1 (v := .inr (.inr (some 66))) rfl ?_
  refine zw_push hm_38 dX4_open_2 (v := .inl (1 : Int32)) rfl ?_
  refine zw_ia hm_38 dX4_open_3 (zT_is hS s_66) (zT_h hS s_66) rfl ⟨by decide, by decide⟩ ?_
  show ma_wp X d w 38 4 [(0, .inr (.inr (some 91))), (1, .inr (.inr (some 66)))] [.inl (mI S 66 1), .inr (.inr (some 91))] S _
  refine zw_pf hm_38 dX4_open_4 (zT_is hS s_91) (zT_t hS s_91) p_4_18_4 zk_int ?_
  refine zw_push hm_38 dX4_open_7 (v := .inr (.inr (some 91))) rfl ?_
  refine zw_push hm_38 dX4_open_8 (v := .inr (.inr (some 91))) rfl ?_
  refine zw_gf hm_38 dX4_open_9 (v := .inl (mI S 66 1)) (zT_is (zT_pi hS) s_91) (zT_t (zT_pi hS) s_91) rfl f_4_18_4 rfl ?_
  refine zw_if0 hm_38 dX4_open_12 (t := 31) rfl zc0_le ?_ ?_
  · intro hc
    rw [if_pos hc] at h
    refine zw_push hm_38 dX4_open_31 (v := .inl (0 : Int32)) rfl ?_
    refine zw_pf hm_38 dX4_open_32 (zT_is (zT_pi hS) s_91) (zT_t (zT_pi hS) s_91) p_4_28_4 zk_int ?_
    refine zw_push hm_38 dX4_open_35 (v := .inr (.inr (some 91))) rfl ?_
    refine zw_push hm_38 dX4_open_36 (v := .inr (.inr (some 66))) rfl ?_
    refine zw_push hm_38 dX4_open_37 (v := .inl (2 : Int32)) rfl ?_
    refine zw_ia hm_38 dX4_open_38 (zT_is (zT_pi (zT_pi hS)) s_66) (zT_h (zT_pi (zT_pi hS)) s_66) rfl ⟨by decide, by decide⟩ ?_
    show ma_wp X d w 38 39 [(0, .inr (.inr (some 91))), (1, .inr (.inr (some 66)))] [.inl (mI S 66 2), .inr (.inr (some 91))] (ma_put (ma_put S 91 2 (.inl (mI S 66 1))) 91 3 (.inl (0 : Int32))) _
    refine zw_pf hm_38 dX4_open_39 (zT_is (zT_pi (zT_pi hS)) s_91) (zT_t (zT_pi (zT_pi hS)) s_91) p_4_31_4 zk_int ?_
    refine zw_push hm_38 dX4_open_42 (v := .inr (.inr (some 91))) rfl ?_
    refine zw_push hm_38 dX4_open_43 (v := .inl (0 : Int32)) rfl ?_
    refine zw_pf hm_38 dX4_open_44 (zT_is (zT_pi (zT_pi (zT_pi hS))) s_91) (zT_t (zT_pi (zT_pi (zT_pi hS))) s_91) p_4_34_4 zk_int ?_
    refine zw_push hm_38 dX4_open_47 (v := .inr (.inr (some 91))) rfl ?_
    refine zw_gf hm_38 dX4_open_48 (v := .inr (.inr (some 92))) (zT_is (zT_pi (zT_pi (zT_pi (zT_pi hS)))) s_91) (zT_t (zT_pi (zT_pi (zT_pi (zT_pi hS)))) s_91) rfl f_4_9_4 (zT_f (zT_pi (zT_pi (zT_pi (zT_pi hS)))) r_91_7) ?_
    refine zw_push hm_38 dX4_open_51 (v := .inl (0 : Int32)) rfl ?_
    refine zw_cs hm_38 dX4_open_52 pn_4_37 sl_4_37 hm_276 [.inl (0 : Int32), .inr (.inr (some 92))] [] rfl ⟨by omega, by omega⟩ rfl (zw_mono h (zv_go ?_ ?_))
    · intro S1 hv
      obtain ⟨hS1, h⟩ := hv
      exact zw_vret hm_38 dX4_open_55 h
    · intro x S9 hx
      exact hx.elim
  · intro hc
    rw [if_neg hc] at h
    refine zw_push hm_38 dX4_open_15 (v := .inr (.inr (some 66))) rfl ?_
    refine zw_push hm_38 dX4_open_16 (v := .inl (0 : Int32)) rfl ?_
    refine zw_ia hm_38 dX4_open_17 (zT_is (zT_pi hS) s_66) (zT_h (zT_pi hS) s_66) rfl ⟨by decide, by decide⟩ ?_
    show ma_wp X d w 38 18 [(0, .inr (.inr (some 91))), (1, .inr (.inr (some 66)))] [.inl (mI S 66 0), .inr (.inr (some 91))] (ma_put S 91 2 (.inl (mI S 66 1))) _
    refine zw_push hm_38 dX4_open_18 (v := .inr (.inr (some 91))) rfl ?_
    refine zw_gf hm_38 dX4_open_19 (v := .inl (mI S 66 1)) (zT_is (zT_pi hS) s_91) (zT_t (zT_pi hS) s_91) rfl f_4_18_4 rfl ?_
    obtain ⟨hg, h⟩ := h
    refine zw_stk hm_38 dX4_open_22 (st' := [.inl ((mI S 66 0) / (mI S 66 1)), .inr (.inr (some 91))]) rfl (if_neg hg) ?_
    refine zw_push hm_38 dX4_open_23 (v := .inl (93 : Int32)) rfl ?_
    refine zw_min hm_38 dX4_open_25 pr_4_22 (by omega) (by show 1 + 13 ≤ w; omega) (fun _ _ _ _ z => by cases z) ?_
    refine zw_goto hm_38 dX4_open_28 (t := 32) rfl ?_
    refine zw_pf hm_38 dX4_open_32 (zT_is (zT_pi hS) s_91) (zT_t (zT_pi hS) s_91) p_4_28_4 zk_int ?_
    refine zw_push hm_38 dX4_open_35 (v := .inr (.inr (some 91))) rfl ?_
    refine zw_push hm_38 dX4_open_36 (v := .inr (.inr (some 66))) rfl ?_
    refine zw_push hm_38 dX4_open_37 (v := .inl (2 : Int32)) rfl ?_
    refine zw_ia hm_38 dX4_open_38 (zT_is (zT_pi (zT_pi hS)) s_66) (zT_h (zT_pi (zT_pi hS)) s_66) rfl ⟨by decide, by decide⟩ ?_
    show ma_wp X d w 38 39 [(0, .inr (.inr (some 91))), (1, .inr (.inr (some 66)))] [.inl (mI S 66 2), .inr (.inr (some 91))] (ma_put (ma_put S 91 2 (.inl (mI S 66 1))) 91 3 (.inl (if (93 : Int32) < ((mI S 66 0) / (mI S 66 1)) then (93 : Int32) else ((mI S 66 0) / (mI S 66 1))))) _
    refine zw_pf hm_38 dX4_open_39 (zT_is (zT_pi (zT_pi hS)) s_91) (zT_t (zT_pi (zT_pi hS)) s_91) p_4_31_4 zk_int ?_
    refine zw_push hm_38 dX4_open_42 (v := .inr (.inr (some 91))) rfl ?_
    refine zw_push hm_38 dX4_open_43 (v := .inl (0 : Int32)) rfl ?_
    refine zw_pf hm_38 dX4_open_44 (zT_is (zT_pi (zT_pi (zT_pi hS))) s_91) (zT_t (zT_pi (zT_pi (zT_pi hS))) s_91) p_4_34_4 zk_int ?_
    refine zw_push hm_38 dX4_open_47 (v := .inr (.inr (some 91))) rfl ?_
    refine zw_gf hm_38 dX4_open_48 (v := .inr (.inr (some 92))) (zT_is (zT_pi (zT_pi (zT_pi (zT_pi hS)))) s_91) (zT_t (zT_pi (zT_pi (zT_pi (zT_pi hS)))) s_91) rfl f_4_9_4 (zT_f (zT_pi (zT_pi (zT_pi (zT_pi hS)))) r_91_7) ?_
    refine zw_push hm_38 dX4_open_51 (v := .inl (0 : Int32)) rfl ?_
    refine zw_cs hm_38 dX4_open_52 pn_4_37 sl_4_37 hm_276 [.inl (0 : Int32), .inr (.inr (some 92))] [] rfl ⟨by omega, by omega⟩ rfl (zw_mono h (zv_go ?_ ?_))
    · intro S3 hv
      obtain ⟨hS3, h⟩ := hv
      exact zw_vret hm_38 dX4_open_55 h
    · intro x S9 hx
      exact hx.elim
theorem sp_38_91_66_n {X : Nat × (Nat → Int32)} {d w : Nat} {f : Nat → Nat → Int32} {r : Nat → Nat → Option Nat} {C Z N : Nat} {Q : Option ma_V ⊕ Nat → ma_S → Prop} {S : ma_S}  (hd : 1 ≤ d) (hw : 68 ≤ w) (hI : zL91 f r C Z N S) (hpre0 : 0 ≤ (mI S 66 0).toInt ∧ (mI S 66 0).toInt ≤ 1500 ∧ 16 ≤ (mI S 66 1).toInt ∧ (mI S 66 1).toInt ≤ 1500) (K : ∀ S', zL91 f r C Z N S' → ((mI S' 91 3).toInt = (f 66 0).toInt / (f 66 1).toInt ∧ (mI S' 91 2).toInt = (f 66 1).toInt) → Q (.inl none) S') : ma_wp X d w 38 0 [(0, .inr (.inr (some 91))), (1, .inr (.inr (some 66)))] [] S Q := by
  refine g_38_91_66_n_0  (by omega) (by omega) (zG_T hI) ?_
  have q1 : (mI S 66 0).toInt = (f 66 0).toInt := zG_zi hI rfl
  have b2 := i_bd (mI S 66 0)
  have q3 : (mI S 66 1).toInt = (f 66 1).toInt := zG_zi hI rfl
  have b4 := i_bd (mI S 66 1)
  have li5 : (0 : Int32).toInt = 0 := rfl
  refine zd (fun h6 => ?_) (fun h6 => ?_)
  · skip
    have g7 := i_le h6
    have hI8 : zL91 f r C Z N (ma_put S 91 2 (.inl (mI S 66 1))) := zG_sp hI (0) (1500) rfl (by decide) (by decide) (by decide) trivial (by omega) (by omega)
    have hI9 : zL91 f r C Z N (ma_put (ma_put S 91 2 (.inl (mI S 66 1))) 91 3 (.inl (0 : Int32))) := zG_sp hI8 (0) (93) rfl (by decide) (by decide) (by decide) trivial (by omega) (by omega)
    have hI10 : zL91 f r C Z N (ma_put (ma_put (ma_put S 91 2 (.inl (mI S 66 1))) 91 3 (.inl (0 : Int32))) 91 4 (.inl (mI S 66 2))) := zG_fr hI9 rfl (by decide) (by decide) (by decide) trivial
    have hI11 : zL91 f r C Z N (ma_put (ma_put (ma_put (ma_put S 91 2 (.inl (mI S 66 1))) 91 3 (.inl (0 : Int32))) 91 4 (.inl (mI S 66 2))) 91 5 (.inl (0 : Int32))) := zG_sp hI10 (0) (92) rfl (by decide) (by decide) (by decide) trivial (by omega) (by omega)
    refine sp_276_92_n ((0 : Int32)) (by omega) (by omega) (zL91_dn_zM92 hI11) (by omega) (by omega) (fun S1 hL_S1 => zv_n ⟨zG_T hL_S1, ?_⟩)
    have hI_S1 := zL91_up_zM92 hI11 hL_S1
    have q12 : (mI S1 91 3).toInt = (0 : Int32).toInt := zG_zi hL_S1 rfl
    have f13 := zG_s hI_S1 (0) (93) (c := 91) (k := 3) (by decide)
    have q14 : (mI S1 91 2).toInt = (mI S 66 1).toInt := zG_zi hL_S1 rfl
    have f15 := zG_s hI_S1 (0) (1500) (c := 91) (k := 2) (by decide)
    exact K _ hI_S1 (show (mI S1 91 3).toInt = (f 66 0).toInt / (f 66 1).toInt ∧ (mI S1 91 2).toInt = (f 66 1).toInt from by first | (have dv := (i_div (x := (mI S 66 0)) (y := (mI S 66 1)) (by omega) (by omega)).2.2.1; have d9 := i_div16 (x := (mI S 66 0)) (y := (mI S 66 1)) (by omega) (by omega) (by omega); have e0 : (mI S 66 0) = f 66 0 := zG_z hI rfl; have e1 : (mI S 66 1) = f 66 1 := zG_z hI rfl; rw [← e0, ← e1]; omega) | (omega) | (exfalso; omega))
  · skip
    have g16 := i_nle h6
    refine ⟨i_nz (by omega), ?_⟩
    have hI17 : zL91 f r C Z N (ma_put S 91 2 (.inl (mI S 66 1))) := zG_sp hI (0) (1500) rfl (by decide) (by decide) (by decide) trivial (by omega) (by omega)
    first | have f19 := i_div (x := (mI S 66 0)) (y := (mI S 66 1)) (by omega) (by omega) | have b20 := i_bd ((mI S 66 0) / (mI S 66 1))
    have li21 : (93 : Int32).toInt = 93 := rfl
    have f22 := i_min ((mI S 66 0) / (mI S 66 1)) (93 : Int32)
    have hI18 : zL91 f r C Z N (ma_put (ma_put S 91 2 (.inl (mI S 66 1))) 91 3 (.inl (if (93 : Int32) < ((mI S 66 0) / (mI S 66 1)) then (93 : Int32) else ((mI S 66 0) / (mI S 66 1))))) := zG_sp hI17 (0) (93) rfl (by decide) (by decide) (by decide) trivial (by omega) (by omega)
    have hI23 : zL91 f r C Z N (ma_put (ma_put (ma_put S 91 2 (.inl (mI S 66 1))) 91 3 (.inl (if (93 : Int32) < ((mI S 66 0) / (mI S 66 1)) then (93 : Int32) else ((mI S 66 0) / (mI S 66 1))))) 91 4 (.inl (mI S 66 2))) := zG_fr hI18 rfl (by decide) (by decide) (by decide) trivial
    have hI24 : zL91 f r C Z N (ma_put (ma_put (ma_put (ma_put S 91 2 (.inl (mI S 66 1))) 91 3 (.inl (if (93 : Int32) < ((mI S 66 0) / (mI S 66 1)) then (93 : Int32) else ((mI S 66 0) / (mI S 66 1))))) 91 4 (.inl (mI S 66 2))) 91 5 (.inl (0 : Int32))) := zG_sp hI23 (0) (92) rfl (by decide) (by decide) (by decide) trivial (by omega) (by omega)
    refine sp_276_92_n ((0 : Int32)) (by omega) (by omega) (zL91_dn_zM92 hI24) (by omega) (by omega) (fun S3 hL_S3 => zv_n ⟨zG_T hL_S3, ?_⟩)
    have hI_S3 := zL91_up_zM92 hI24 hL_S3
    have q25 : (mI S3 91 3).toInt = (if (93 : Int32) < ((mI S 66 0) / (mI S 66 1)) then (93 : Int32) else ((mI S 66 0) / (mI S 66 1))).toInt := zG_zi hL_S3 rfl
    have f26 := zG_s hI_S3 (0) (93) (c := 91) (k := 3) (by decide)
    have q27 : (mI S3 91 2).toInt = (mI S 66 1).toInt := zG_zi hL_S3 rfl
    have f28 := zG_s hI_S3 (0) (1500) (c := 91) (k := 2) (by decide)
    exact K _ hI_S3 (show (mI S3 91 3).toInt = (f 66 0).toInt / (f 66 1).toInt ∧ (mI S3 91 2).toInt = (f 66 1).toInt from by first | (have dv := (i_div (x := (mI S 66 0)) (y := (mI S 66 1)) (by omega) (by omega)).2.2.1; have d9 := i_div16 (x := (mI S 66 0)) (y := (mI S 66 1)) (by omega) (by omega) (by omega); have e0 : (mI S 66 0) = f 66 0 := zG_z hI rfl; have e1 : (mI S 66 1) = f 66 1 := zG_z hI rfl; rw [← e0, ← e1]; omega) | (omega) | (exfalso; omega))
theorem g_101_79_n_0 {X : Nat × (Nat → Int32)} {d w : Nat} {S : ma_S} {Q : Option ma_V ⊕ Nat → ma_S → Prop}  (hd : 0 ≤ d) (hw : 0 ≤ w) (hS : zT S) (h : Q (.inl (some (.inl (mI S 79 2)))) S) : ma_wp X d w 101 0 [(0, .inr (.inr (some 79)))] [] S Q := by
  refine zw_push hm_101 dX8_total_0 (v := .inr (.inr (some 79))) rfl ?_
  refine zw_gf hm_101 dX8_total_1 (v := .inl (mI S 79 2)) (zT_is hS s_79) (zT_t hS s_79) rfl f_8_9_8 rfl ?_
  exact zw_iret hm_101 dX8_total_4 h
theorem sp_101_79_n {X : Nat × (Nat → Int32)} {d w : Nat} {f : Nat → Nat → Int32} {r : Nat → Nat → Option Nat} {C Z N : Nat} {Q : Option ma_V ⊕ Nat → ma_S → Prop} {g0 : Int} {S : ma_S}  (hd : 0 ≤ d) (hw : 0 ≤ w) (hI : zJ79 f r C Z N S) (hpre0 : (mI S 79 2).toInt = g0) (K : ∀ v S', zJ79 f r C Z N S' → (True) → (v.toInt = g0) → Q (.inl (some (.inl v))) S') : ma_wp X d w 101 0 [(0, .inr (.inr (some 79)))] [] S Q := by
  refine g_101_79_n_0  (by omega) (by omega) (zG_T hI) ?_
  have f1 := zG_s hI (0) (1500) (c := 79) (k := 2) (by decide)
  exact K ((mI S 79 2)) _ hI trivial (show (mI S 79 2).toInt = g0 from by first | (omega) | (exfalso; omega))
theorem g_101_84_n_0 {X : Nat × (Nat → Int32)} {d w : Nat} {S : ma_S} {Q : Option ma_V ⊕ Nat → ma_S → Prop}  (hd : 0 ≤ d) (hw : 0 ≤ w) (hS : zT S) (h : Q (.inl (some (.inl (mI S 84 0)))) S) : ma_wp X d w 101 0 [(0, .inr (.inr (some 84)))] [] S Q := by
  refine zw_push hm_101 dX8_total_0 (v := .inr (.inr (some 84))) rfl ?_
  refine zw_gf hm_101 dX8_total_1 (v := .inl (mI S 84 0)) (zT_is hS s_84) (zT_t hS s_84) rfl f_8_9_2 rfl ?_
  exact zw_iret hm_101 dX8_total_4 h
theorem sp_101_84_n {X : Nat × (Nat → Int32)} {d w : Nat} {f : Nat → Nat → Int32} {r : Nat → Nat → Option Nat} {C Z N : Nat} {Q : Option ma_V ⊕ Nat → ma_S → Prop} {g0 : Int} {S : ma_S}  (hd : 0 ≤ d) (hw : 0 ≤ w) (hI : zJ84 f r C Z N S) (hpre0 : (mI S 84 0).toInt = g0) (K : ∀ v S', zJ84 f r C Z N S' → (True) → (v.toInt = g0) → Q (.inl (some (.inl v))) S') : ma_wp X d w 101 0 [(0, .inr (.inr (some 84)))] [] S Q := by
  refine g_101_84_n_0  (by omega) (by omega) (zG_T hI) ?_
  have f1 := zG_s hI (0) (1500) (c := 84) (k := 0) (by decide)
  exact K ((mI S 84 0)) _ hI trivial (show (mI S 84 0).toInt = g0 from by first | (omega) | (exfalso; omega))
theorem g_101_87_n_0 {X : Nat × (Nat → Int32)} {d w : Nat} {S : ma_S} {Q : Option ma_V ⊕ Nat → ma_S → Prop}  (hd : 0 ≤ d) (hw : 0 ≤ w) (hS : zT S) (h : Q (.inl (some (.inl (mI S 87 0)))) S) : ma_wp X d w 101 0 [(0, .inr (.inr (some 87)))] [] S Q := by
  refine zw_push hm_101 dX8_total_0 (v := .inr (.inr (some 87))) rfl ?_
  refine zw_gf hm_101 dX8_total_1 (v := .inl (mI S 87 0)) (zT_is hS s_87) (zT_t hS s_87) rfl f_8_9_6 rfl ?_
  exact zw_iret hm_101 dX8_total_4 h
theorem sp_101_87_n {X : Nat × (Nat → Int32)} {d w : Nat} {f : Nat → Nat → Int32} {r : Nat → Nat → Option Nat} {C Z N : Nat} {Q : Option ma_V ⊕ Nat → ma_S → Prop} {g0 : Int} {S : ma_S}  (hd : 0 ≤ d) (hw : 0 ≤ w) (hI : zJ87 f r C Z N S) (hpre0 : (mI S 87 0).toInt = g0) (K : ∀ v S', zJ87 f r C Z N S' → (True) → (v.toInt = g0) → Q (.inl (some (.inl v))) S') : ma_wp X d w 101 0 [(0, .inr (.inr (some 87)))] [] S Q := by
  refine g_101_87_n_0  (by omega) (by omega) (zG_T hI) ?_
  have f1 := zG_s hI (0) (1500) (c := 87) (k := 0) (by decide)
  exact K ((mI S 87 0)) _ hI trivial (show (mI S 87 0).toInt = g0 from by first | (omega) | (exfalso; omega))
theorem g_60_80_n_0 {X : Nat × (Nat → Int32)} {d w : Nat} {S : ma_S} {Q : Option ma_V ⊕ Nat → ma_S → Prop}  (hd : 0 ≤ d) (hw : 0 ≤ w) (hS : zT S) (h : Q (.inl (some (.inl (mI S 80 2)))) S) : ma_wp X d w 60 0 [(0, .inr (.inr (some 80)))] [] S Q := by
  refine zw_push hm_60 dX5_total_0 (v := .inr (.inr (some 80))) rfl ?_
  refine zw_gf hm_60 dX5_total_1 (v := .inl (mI S 80 2)) (zT_is hS s_80) (zT_t hS s_80) rfl f_5_9_5 rfl ?_
  exact zw_iret hm_60 dX5_total_4 h
theorem sp_60_80_n {X : Nat × (Nat → Int32)} {d w : Nat} {f : Nat → Nat → Int32} {r : Nat → Nat → Option Nat} {C Z N : Nat} {Q : Option ma_V ⊕ Nat → ma_S → Prop} {g0 : Int} {S : ma_S}  (hd : 0 ≤ d) (hw : 0 ≤ w) (hI : zJ80 f r C Z N S) (hpre0 : (mI S 80 2).toInt = g0) (K : ∀ v S', zJ80 f r C Z N S' → (True) → (v.toInt = g0) → Q (.inl (some (.inl v))) S') : ma_wp X d w 60 0 [(0, .inr (.inr (some 80)))] [] S Q := by
  refine g_60_80_n_0  (by omega) (by omega) (zG_T hI) ?_
  have f1 := zG_s hI (0) (1500) (c := 80) (k := 2) (by decide)
  exact K ((mI S 80 2)) _ hI trivial (show (mI S 80 2).toInt = g0 from by first | (omega) | (exfalso; omega))
theorem g_30_81_n_0 {X : Nat × (Nat → Int32)} {d w : Nat} {S : ma_S} {Q : Option ma_V ⊕ Nat → ma_S → Prop}  (hd : 0 ≤ d) (hw : 0 ≤ w) (hS : zT S) (h : Q (.inl (some (.inl ((2 : Int32) * (mI S 81 2))))) S) : ma_wp X d w 30 0 [(0, .inr (.inr (some 81)))] [] S Q := by
  refine zw_push hm_30 dX3_total_0 (v := .inl (2 : Int32)) rfl ?_
  refine zw_push hm_30 dX3_total_1 (v := .inr (.inr (some 81))) rfl ?_
  refine zw_gf hm_30 dX3_total_2 (v := .inl (mI S 81 2)) (zT_is hS s_81) (zT_t hS s_81) rfl f_3_9_3 rfl ?_
  refine zw_stk hm_30 dX3_total_5 (st' := [.inl ((2 : Int32) * (mI S 81 2))]) rfl rfl ?_
  exact zw_iret hm_30 dX3_total_6 h
theorem sp_30_81_n {X : Nat × (Nat → Int32)} {d w : Nat} {f : Nat → Nat → Int32} {r : Nat → Nat → Option Nat} {C Z N : Nat} {Q : Option ma_V ⊕ Nat → ma_S → Prop} {g0 : Int} {S : ma_S}  (hd : 0 ≤ d) (hw : 0 ≤ w) (hI : zJ81 f r C Z N S) (hpre0 : (mI S 81 2).toInt = g0) (K : ∀ v S', zJ81 f r C Z N S' → (True) → (v.toInt = 2 * g0) → Q (.inl (some (.inl v))) S') : ma_wp X d w 30 0 [(0, .inr (.inr (some 81)))] [] S Q := by
  refine g_30_81_n_0  (by omega) (by omega) (zG_T hI) ?_
  have li1 : (2 : Int32).toInt = 2 := rfl
  have x2 : 0 ≤ (mI S 81 3).toInt ∧ (mI S 81 3).toInt ≤ (mI S 81 2).toInt := zG_x hI
  have f3 := zG_s hI (0) (1500) (c := 81) (k := 2) (by decide)
  first | have e4 : ((2 : Int32) * (mI S 81 2)).toInt = 2 * (mI S 81 2).toInt := i_mulk2 rfl (by omega) (by omega) | have b5 := i_bd ((2 : Int32) * (mI S 81 2))
  exact K (((2 : Int32) * (mI S 81 2))) _ hI trivial (show ((2 : Int32) * (mI S 81 2)).toInt = 2 * g0 from by first | (omega) | (exfalso; omega))
theorem g_2_82_n_0 {X : Nat × (Nat → Int32)} {d w : Nat} {S : ma_S} {Q : Option ma_V ⊕ Nat → ma_S → Prop}  (hd : 0 ≤ d) (hw : 0 ≤ w) (hS : zT S) (h : Q (.inl (some (.inl ((mI S 82 3) + ((2 : Int32) * (mI S 82 2)))))) S) : ma_wp X d w 2 0 [(0, .inr (.inr (some 82)))] [] S Q := by
  refine zw_push hm_2 dX0_total_0 (v := .inr (.inr (some 82))) rfl ?_
  refine zw_gf hm_2 dX0_total_1 (v := .inl (mI S 82 3)) (zT_is hS s_82) (zT_t hS s_82) rfl f_1_19_1 rfl ?_
  refine zw_push hm_2 dX0_total_4 (v := .inl (2 : Int32)) rfl ?_
  refine zw_push hm_2 dX0_total_5 (v := .inr (.inr (some 82))) rfl ?_
  refine zw_gf hm_2 dX0_total_6 (v := .inl (mI S 82 2)) (zT_is hS s_82) (zT_t hS s_82) rfl f_1_15_1 rfl ?_
  refine zw_stk hm_2 dX0_total_9 (st' := [.inl ((2 : Int32) * (mI S 82 2)), .inl (mI S 82 3)]) rfl rfl ?_
  refine zw_stk hm_2 dX0_total_10 (st' := [.inl ((mI S 82 3) + ((2 : Int32) * (mI S 82 2)))]) rfl rfl ?_
  exact zw_iret hm_2 dX0_total_11 h
theorem sp_2_82_n {X : Nat × (Nat → Int32)} {d w : Nat} {f : Nat → Nat → Int32} {r : Nat → Nat → Option Nat} {C Z N : Nat} {Q : Option ma_V ⊕ Nat → ma_S → Prop} {g0 : Int} {g1 : Int} {S : ma_S}  (hd : 0 ≤ d) (hw : 0 ≤ w) (hI : zJ82 f r C Z N S) (hpre0 : (mI S 82 2).toInt = g0) (hpre1 : (mI S 82 3).toInt = g1) (K : ∀ v S', zJ82 f r C Z N S' → (True) → (v.toInt = g1 + 2 * g0) → Q (.inl (some (.inl v))) S') : ma_wp X d w 2 0 [(0, .inr (.inr (some 82)))] [] S Q := by
  refine g_2_82_n_0  (by omega) (by omega) (zG_T hI) ?_
  have x1 : (mI S 82 3).toInt ≤ (mI S 82 7).toInt ∧ (mI S 82 7).toInt ≤ (mI S 82 3).toInt + (mI S 82 2).toInt := zG_x hI
  have f2 := zG_s hI (0) (1500) (c := 82) (k := 3) (by decide)
  have li3 : (2 : Int32).toInt = 2 := rfl
  have f4 := zG_s hI (0) (1500) (c := 82) (k := 2) (by decide)
  first | have e5 : ((2 : Int32) * (mI S 82 2)).toInt = 2 * (mI S 82 2).toInt := i_mulk2 rfl (by omega) (by omega) | have b6 := i_bd ((2 : Int32) * (mI S 82 2))
  first | have e7 : ((mI S 82 3) + ((2 : Int32) * (mI S 82 2))).toInt = (mI S 82 3).toInt + ((2 : Int32) * (mI S 82 2)).toInt := i_add (by omega) (by omega) | have b8 := i_bd ((mI S 82 3) + ((2 : Int32) * (mI S 82 2)))
  exact K (((mI S 82 3) + ((2 : Int32) * (mI S 82 2)))) _ hI trivial (show ((mI S 82 3) + ((2 : Int32) * (mI S 82 2))).toInt = g1 + 2 * g0 from by first | (omega) | (exfalso; omega))
theorem g_39_91_n_0 {X : Nat × (Nat → Int32)} {d w : Nat} {S : ma_S} {Q : Option ma_V ⊕ Nat → ma_S → Prop}  (hd : 0 ≤ d) (hw : 0 ≤ w) (hS : zT S) (h : Q (.inl (some (.inl ((mI S 91 3) * (mI S 91 2))))) S) : ma_wp X d w 39 0 [(0, .inr (.inr (some 91)))] [] S Q := by
  refine zw_push hm_39 dX4_total_0 (v := .inr (.inr (some 91))) rfl ?_
  refine zw_gf hm_39 dX4_total_1 (v := .inl (mI S 91 3)) (zT_is hS s_91) (zT_t hS s_91) rfl f_4_28_4 rfl ?_
  refine zw_push hm_39 dX4_total_4 (v := .inr (.inr (some 91))) rfl ?_
  refine zw_gf hm_39 dX4_total_5 (v := .inl (mI S 91 2)) (zT_is hS s_91) (zT_t hS s_91) rfl f_4_18_4 rfl ?_
  refine zw_stk hm_39 dX4_total_8 (st' := [.inl ((mI S 91 3) * (mI S 91 2))]) rfl rfl ?_
  exact zw_iret hm_39 dX4_total_9 h
theorem sp_39_91_n {X : Nat × (Nat → Int32)} {d w : Nat} {f : Nat → Nat → Int32} {r : Nat → Nat → Option Nat} {C Z N : Nat} {Q : Option ma_V ⊕ Nat → ma_S → Prop} {g0 : Int} {g1 : Int} {S : ma_S}  (hd : 0 ≤ d) (hw : 0 ≤ w) (hI : zL91 f r C Z N S) (hpre0 : (mI S 91 3).toInt = g0) (hpre1 : (mI S 91 2).toInt = g1) (K : ∀ v S', zL91 f r C Z N S' → (True) → (v.toInt = g0 * g1) → Q (.inl (some (.inl v))) S') : ma_wp X d w 39 0 [(0, .inr (.inr (some 91)))] [] S Q := by
  refine g_39_91_n_0  (by omega) (by omega) (zG_T hI) ?_
  have f1 := zG_s hI (0) (93) (c := 91) (k := 3) (by decide)
  have f2 := zG_s hI (0) (1500) (c := 91) (k := 2) (by decide)
  first | have f3 := i_muln (x := (mI S 91 3)) (y := (mI S 91 2)) (by omega) (by omega) (by omega) (by omega) | have b4 := i_bd ((mI S 91 3) * (mI S 91 2))
  exact K (((mI S 91 3) * (mI S 91 2))) _ hI trivial (show ((mI S 91 3) * (mI S 91 2)).toInt = g0 * g1 from by first | (have e := (i_muln (x := (mI S 91 3)) (y := (mI S 91 2)) (by omega) (by omega) (by omega) (by omega)).2.2; rw [hpre0, hpre1] at e; exact e) | (omega) | (exfalso; omega))
