/-! from 95.n11 -/
/-! the class opens a heap (written by wip/tools/gen20h.py) -/
theorem g_100_79_66_sh_0 {X : Nat × (Nat → Int32)} {d w : Nat} {S : ma_S} {Q : Option ma_V ⊕ Nat → ma_S → Prop}  (hd : 0 ≤ d) (hw : 0 ≤ w) (hS : zT S) (h : Q (.inl none) (ma_put (ma_put (ma_put S 79 2 (.inl (mI S 66 0))) 79 3 (.inl (mI S 66 1))) 79 4 (.inl (0 : Int32)))) : ma_wp X d w 100 0 [(0, .inr (.inr (some 79))), (1, .inr (.inr (some 66)))] [] S Q := by
  refine zw_push hm_100 dX8_open_0 (v := .inr (.inr (some 79))) rfl ?_
  refine zw_push hm_100 dX8_open_1 (v := .inr (.inr (some 66))) rfl ?_
  refine zw_push hm_100 dX8_open_2 (v := .inl (0 : Int32)) rfl ?_
  refine zw_ia hm_100 dX8_open_3 (zT_is hS s_66) (zT_h hS s_66) rfl ⟨by decide, by decide⟩ ?_
  show ma_wp X d w 100 4 [(0, .inr (.inr (some 79))), (1, .inr (.inr (some 66)))] [.inl (mI S 66 0), .inr (.inr (some 79))] S _
  refine zw_pf hm_100 dX8_open_4 (zT_is hS s_79) (zT_t hS s_79) p_8_9_8 zk_int ?_
  refine zw_push hm_100 dX8_open_7 (v := .inr (.inr (some 79))) rfl ?_
  refine zw_push hm_100 dX8_open_8 (v := .inr (.inr (some 66))) rfl ?_
  refine zw_push hm_100 dX8_open_9 (v := .inl (1 : Int32)) rfl ?_
  refine zw_ia hm_100 dX8_open_10 (zT_is (zT_pi hS) s_66) (zT_h (zT_pi hS) s_66) rfl ⟨by decide, by decide⟩ ?_
  show ma_wp X d w 100 11 [(0, .inr (.inr (some 79))), (1, .inr (.inr (some 66)))] [.inl (mI S 66 1), .inr (.inr (some 79))] (ma_put S 79 2 (.inl (mI S 66 0))) _
  refine zw_pf hm_100 dX8_open_11 (zT_is (zT_pi hS) s_79) (zT_t (zT_pi hS) s_79) p_8_15_8 zk_int ?_
  refine zw_push hm_100 dX8_open_14 (v := .inr (.inr (some 79))) rfl ?_
  refine zw_push hm_100 dX8_open_15 (v := .inl (0 : Int32)) rfl ?_
  refine zw_pf hm_100 dX8_open_16 (zT_is (zT_pi (zT_pi hS)) s_79) (zT_t (zT_pi (zT_pi hS)) s_79) p_8_18_8 zk_int ?_
  exact zw_vret hm_100 dX8_open_19 h
theorem sp_100_79_66_sh {X : Nat × (Nat → Int32)} {d w : Nat} {f : Nat → Nat → Int32} {r : Nat → Nat → Option Nat} {C Z N : Nat} {Q : Option ma_V ⊕ Nat → ma_S → Prop} {ab : Nat→Nat→Int32} {S : ma_S}  (hd : 0 ≤ d) (hw : 0 ≤ w) (hI : zJ79 f r C Z N S) (hpre0 : 0 ≤ (mI S 66 0).toInt ∧ (mI S 66 0).toInt ≤ 1500) (hpre1 : xB S (mR S 70)) (hpre2 : aS 88 S = ab) (K : ∀ S₉, zJ79 f r C Z N S₉ → (xB S₉ (mR S₉ 70)) → (aS 88 S₉ = ab) → (zfP 79 (mI S₉) 0 = (f 66) 0 ∧ zfP 79 (mI S₉) 1 = (f 66) 1 ∧ zfP 79 (mI S₉) 2 = 0) → Q (.inl none) S₉) : ma_wp X d w 100 0 [(0, .inr (.inr (some 79))), (1, .inr (.inr (some 66)))] [] S Q := by
  refine g_100_79_66_sh_0  (by omega) (by omega) (zG_T hI) ?_
  have q1 : (mI S 66 0).toInt = (f 66 0).toInt := zG_zi hI rfl
  have b2 := i_bd (mI S 66 0)
  have hI3 : zJ79 f r C Z N (ma_put S 79 2 (.inl (mI S 66 0))) := zG_sp hI (0) (1500) rfl (by decide) (by decide) (by decide) trivial (by omega) (by omega)
  have hI4 : zJ79 f r C Z N (ma_put (ma_put S 79 2 (.inl (mI S 66 0))) 79 3 (.inl (mI S 66 1))) := zG_fr hI3 rfl (by decide) (by decide) (by decide) trivial
  have li6 : (0 : Int32).toInt = 0 := rfl
  have hI5 : zJ79 f r C Z N (ma_put (ma_put (ma_put S 79 2 (.inl (mI S 66 0))) 79 3 (.inl (mI S 66 1))) 79 4 (.inl (0 : Int32))) := zG_sp hI4 (0) (400000) rfl (by decide) (by decide) (by decide) trivial (by omega) (by omega)
  exact K _ hI5 (show xB (ma_put (ma_put (ma_put S 79 2 (.inl (mI S 66 0))) 79 3 (.inl (mI S 66 1))) 79 4 (.inl (0 : Int32))) (mR (ma_put (ma_put (ma_put S 79 2 (.inl (mI S 66 0))) 79 3 (.inl (mI S 66 1))) 79 4 (.inl (0 : Int32))) 70) from by first | (exact xB_x (xC_n (c := 79) (k := 4) (x := (0 : Int32)) (xC_n (c := 79) (k := 3) (x := (mI S 66 1)) (xC_n (c := 79) (k := 2) (x := (mI S 66 0)) (xC_o (W := 75) hpre1) ⟨by decide, Or.inl ⟨rfl, rfl⟩⟩) ⟨by decide, Or.inl ⟨rfl, rfl⟩⟩) ⟨by decide, Or.inl ⟨rfl, rfl⟩⟩).2)) (show aS 88 (ma_put (ma_put (ma_put S 79 2 (.inl (mI S 66 0))) 79 3 (.inl (mI S 66 1))) 79 4 (.inl (0 : Int32))) = ab from by first | (exact (xC_n (c := 79) (k := 4) (x := (0 : Int32)) (xC_n (c := 79) (k := 3) (x := (mI S 66 1)) (xC_n (c := 79) (k := 2) (x := (mI S 66 0)) (xC_o (W := 88) hpre1) ⟨by decide, Or.inr ⟨rfl, Or.inr ⟨rfl, by decide⟩⟩⟩) ⟨by decide, Or.inr ⟨rfl, Or.inr ⟨rfl, by decide⟩⟩⟩) ⟨by decide, Or.inr ⟨rfl, Or.inr ⟨rfl, by decide⟩⟩⟩).1.trans hpre2)) (show zfP 79 (mI (ma_put (ma_put (ma_put S 79 2 (.inl (mI S 66 0))) 79 3 (.inl (mI S 66 1))) 79 4 (.inl (0 : Int32)))) 0 = (f 66) 0 ∧ zfP 79 (mI (ma_put (ma_put (ma_put S 79 2 (.inl (mI S 66 0))) 79 3 (.inl (mI S 66 1))) 79 4 (.inl (0 : Int32)))) 1 = (f 66) 1 ∧ zfP 79 (mI (ma_put (ma_put (ma_put S 79 2 (.inl (mI S 66 0))) 79 3 (.inl (mI S 66 1))) 79 4 (.inl (0 : Int32)))) 2 = 0 from by first | (exact ⟨(show mI S 66 0 = f 66 0 from zG_z hI rfl), (show mI S 66 1 = f 66 1 from zG_z hI rfl), rfl⟩))
theorem g_101_79_sh_0 {X : Nat × (Nat → Int32)} {d w : Nat} {S : ma_S} {Q : Option ma_V ⊕ Nat → ma_S → Prop}  (hd : 0 ≤ d) (hw : 0 ≤ w) (hS : zT S) (h : Q (.inl (some (.inl (mI S 79 2)))) S) : ma_wp X d w 101 0 [(0, .inr (.inr (some 79)))] [] S Q := by
  refine zw_push hm_101 dX8_total_0 (v := .inr (.inr (some 79))) rfl ?_
  refine zw_gf hm_101 dX8_total_1 (v := .inl (mI S 79 2)) (zT_is hS s_79) (zT_t hS s_79) rfl f_8_9_8 rfl ?_
  exact zw_iret hm_101 dX8_total_4 h
theorem sp_101_79_sh {X : Nat × (Nat → Int32)} {d w : Nat} {f : Nat → Nat → Int32} {r : Nat → Nat → Option Nat} {C Z N : Nat} {Q : Option ma_V ⊕ Nat → ma_S → Prop} {S : ma_S}  (hd : 0 ≤ d) (hw : 0 ≤ w) (hI : zJ79 f r C Z N S)  (K : ∀ v S₉, S₉ = S → (True) → Q (.inl (some (.inl v))) S₉) : ma_wp X d w 101 0 [(0, .inr (.inr (some 79)))] [] S Q := by
  refine g_101_79_sh_0  (by omega) (by omega) (zG_T hI) ?_
  have f1 := zG_s hI (0) (1500) (c := 79) (k := 2) (by decide)
  exact K ((mI S 79 2)) _ rfl trivial
theorem g_100_84_66_sh_0 {X : Nat × (Nat → Int32)} {d w : Nat} {S : ma_S} {Q : Option ma_V ⊕ Nat → ma_S → Prop}  (hd : 0 ≤ d) (hw : 0 ≤ w) (hS : zT S) (h : Q (.inl none) (ma_put (ma_put (ma_put S 84 0 (.inl (mI S 66 0))) 84 1 (.inl (mI S 66 1))) 84 2 (.inl (0 : Int32)))) : ma_wp X d w 100 0 [(0, .inr (.inr (some 84))), (1, .inr (.inr (some 66)))] [] S Q := by
  refine zw_push hm_100 dX8_open_0 (v := .inr (.inr (some 84))) rfl ?_
  refine zw_push hm_100 dX8_open_1 (v := .inr (.inr (some 66))) rfl ?_
  refine zw_push hm_100 dX8_open_2 (v := .inl (0 : Int32)) rfl ?_
  refine zw_ia hm_100 dX8_open_3 (zT_is hS s_66) (zT_h hS s_66) rfl ⟨by decide, by decide⟩ ?_
  show ma_wp X d w 100 4 [(0, .inr (.inr (some 84))), (1, .inr (.inr (some 66)))] [.inl (mI S 66 0), .inr (.inr (some 84))] S _
  refine zw_pf hm_100 dX8_open_4 (zT_is hS s_84) (zT_t hS s_84) p_8_9_2 zk_int ?_
  refine zw_push hm_100 dX8_open_7 (v := .inr (.inr (some 84))) rfl ?_
  refine zw_push hm_100 dX8_open_8 (v := .inr (.inr (some 66))) rfl ?_
  refine zw_push hm_100 dX8_open_9 (v := .inl (1 : Int32)) rfl ?_
  refine zw_ia hm_100 dX8_open_10 (zT_is (zT_pi hS) s_66) (zT_h (zT_pi hS) s_66) rfl ⟨by decide, by decide⟩ ?_
  show ma_wp X d w 100 11 [(0, .inr (.inr (some 84))), (1, .inr (.inr (some 66)))] [.inl (mI S 66 1), .inr (.inr (some 84))] (ma_put S 84 0 (.inl (mI S 66 0))) _
  refine zw_pf hm_100 dX8_open_11 (zT_is (zT_pi hS) s_84) (zT_t (zT_pi hS) s_84) p_8_15_2 zk_int ?_
  refine zw_push hm_100 dX8_open_14 (v := .inr (.inr (some 84))) rfl ?_
  refine zw_push hm_100 dX8_open_15 (v := .inl (0 : Int32)) rfl ?_
  refine zw_pf hm_100 dX8_open_16 (zT_is (zT_pi (zT_pi hS)) s_84) (zT_t (zT_pi (zT_pi hS)) s_84) p_8_18_2 zk_int ?_
  exact zw_vret hm_100 dX8_open_19 h
theorem sp_100_84_66_sh {X : Nat × (Nat → Int32)} {d w : Nat} {f : Nat → Nat → Int32} {r : Nat → Nat → Option Nat} {C Z N : Nat} {Q : Option ma_V ⊕ Nat → ma_S → Prop} {ab : Nat→Nat→Int32} {S : ma_S}  (hd : 0 ≤ d) (hw : 0 ≤ w) (hI : zJ84 f r C Z N S) (hpre0 : 0 ≤ (mI S 66 0).toInt ∧ (mI S 66 0).toInt ≤ 1500) (hpre1 : xB S (mR S 70)) (hpre2 : aS 88 S = ab) (K : ∀ S₉, zJ84 f r C Z N S₉ → (xB S₉ (mR S₉ 70)) → (aS 88 S₉ = ab) → (zfP 84 (mI S₉) 0 = (f 66) 0 ∧ zfP 84 (mI S₉) 1 = (f 66) 1 ∧ zfP 84 (mI S₉) 2 = 0) → Q (.inl none) S₉) : ma_wp X d w 100 0 [(0, .inr (.inr (some 84))), (1, .inr (.inr (some 66)))] [] S Q := by
  refine g_100_84_66_sh_0  (by omega) (by omega) (zG_T hI) ?_
  have q1 : (mI S 66 0).toInt = (f 66 0).toInt := zG_zi hI rfl
  have b2 := i_bd (mI S 66 0)
  have hI3 : zJ84 f r C Z N (ma_put S 84 0 (.inl (mI S 66 0))) := zG_sp hI (0) (1500) rfl (by decide) (by decide) (by decide) trivial (by omega) (by omega)
  have hI4 : zJ84 f r C Z N (ma_put (ma_put S 84 0 (.inl (mI S 66 0))) 84 1 (.inl (mI S 66 1))) := zG_fr hI3 rfl (by decide) (by decide) (by decide) trivial
  have li6 : (0 : Int32).toInt = 0 := rfl
  have hI5 : zJ84 f r C Z N (ma_put (ma_put (ma_put S 84 0 (.inl (mI S 66 0))) 84 1 (.inl (mI S 66 1))) 84 2 (.inl (0 : Int32))) := zG_sp hI4 (0) (400000) rfl (by decide) (by decide) (by decide) trivial (by omega) (by omega)
  exact K _ hI5 (show xB (ma_put (ma_put (ma_put S 84 0 (.inl (mI S 66 0))) 84 1 (.inl (mI S 66 1))) 84 2 (.inl (0 : Int32))) (mR (ma_put (ma_put (ma_put S 84 0 (.inl (mI S 66 0))) 84 1 (.inl (mI S 66 1))) 84 2 (.inl (0 : Int32))) 70) from by first | (exact xB_x (xC_n (c := 84) (k := 2) (x := (0 : Int32)) (xC_n (c := 84) (k := 1) (x := (mI S 66 1)) (xC_n (c := 84) (k := 0) (x := (mI S 66 0)) (xC_o (W := 75) hpre1) ⟨by decide, Or.inl ⟨rfl, rfl⟩⟩) ⟨by decide, Or.inl ⟨rfl, rfl⟩⟩) ⟨by decide, Or.inl ⟨rfl, rfl⟩⟩).2)) (show aS 88 (ma_put (ma_put (ma_put S 84 0 (.inl (mI S 66 0))) 84 1 (.inl (mI S 66 1))) 84 2 (.inl (0 : Int32))) = ab from by first | (exact (xC_n (c := 84) (k := 2) (x := (0 : Int32)) (xC_n (c := 84) (k := 1) (x := (mI S 66 1)) (xC_n (c := 84) (k := 0) (x := (mI S 66 0)) (xC_o (W := 88) hpre1) ⟨by decide, Or.inr ⟨rfl, Or.inr ⟨rfl, by decide⟩⟩⟩) ⟨by decide, Or.inr ⟨rfl, Or.inr ⟨rfl, by decide⟩⟩⟩) ⟨by decide, Or.inr ⟨rfl, Or.inr ⟨rfl, by decide⟩⟩⟩).1.trans hpre2)) (show zfP 84 (mI (ma_put (ma_put (ma_put S 84 0 (.inl (mI S 66 0))) 84 1 (.inl (mI S 66 1))) 84 2 (.inl (0 : Int32)))) 0 = (f 66) 0 ∧ zfP 84 (mI (ma_put (ma_put (ma_put S 84 0 (.inl (mI S 66 0))) 84 1 (.inl (mI S 66 1))) 84 2 (.inl (0 : Int32)))) 1 = (f 66) 1 ∧ zfP 84 (mI (ma_put (ma_put (ma_put S 84 0 (.inl (mI S 66 0))) 84 1 (.inl (mI S 66 1))) 84 2 (.inl (0 : Int32)))) 2 = 0 from by first | (exact ⟨(show mI S 66 0 = f 66 0 from zG_z hI rfl), (show mI S 66 1 = f 66 1 from zG_z hI rfl), rfl⟩))
theorem g_101_84_sh_0 {X : Nat × (Nat → Int32)} {d w : Nat} {S : ma_S} {Q : Option ma_V ⊕ Nat → ma_S → Prop}  (hd : 0 ≤ d) (hw : 0 ≤ w) (hS : zT S) (h : Q (.inl (some (.inl (mI S 84 0)))) S) : ma_wp X d w 101 0 [(0, .inr (.inr (some 84)))] [] S Q := by
  refine zw_push hm_101 dX8_total_0 (v := .inr (.inr (some 84))) rfl ?_
  refine zw_gf hm_101 dX8_total_1 (v := .inl (mI S 84 0)) (zT_is hS s_84) (zT_t hS s_84) rfl f_8_9_2 rfl ?_
  exact zw_iret hm_101 dX8_total_4 h
theorem sp_101_84_sh {X : Nat × (Nat → Int32)} {d w : Nat} {f : Nat → Nat → Int32} {r : Nat → Nat → Option Nat} {C Z N : Nat} {Q : Option ma_V ⊕ Nat → ma_S → Prop} {S : ma_S}  (hd : 0 ≤ d) (hw : 0 ≤ w) (hI : zJ84 f r C Z N S)  (K : ∀ v S₉, S₉ = S → (True) → Q (.inl (some (.inl v))) S₉) : ma_wp X d w 101 0 [(0, .inr (.inr (some 84)))] [] S Q := by
  refine g_101_84_sh_0  (by omega) (by omega) (zG_T hI) ?_
  have f1 := zG_s hI (0) (1500) (c := 84) (k := 0) (by decide)
  exact K ((mI S 84 0)) _ rfl trivial
theorem fn9_t {I : Nat → Nat → Int32} {L : Nat → Nat → Int64} {R : Nat → Option Nat} {S S0 : ma_S} (h0 : zFm I L R S0) (h : zFm (mI S0) (mL S0) (mR S0 70) S) : zFm I L R S := ⟨h.1.trans h0.1, h.2.1.trans h0.2.1, fun c k hc => (h.2.2 c k hc).trans (h0.2.2 c k hc)⟩

/-! from 95.n13 -/
/-! the class opens a heap (written by wip/tools/gen20h.py) -/
theorem g_162_64_sh_p0_0 {X : Nat × (Nat → Int32)} {d w : Nat} {S : ma_S} {Q : Option ma_V ⊕ Nat → ma_S → Prop} (ix : Int32) (pa : Int32) (hd : 7 ≤ d) (hw : 109 ≤ w) (hS : zT S) (h : if pa < 0 then (Q (.inr 2) (ma_bump S)) else (if pa ≤ (1 : Int32) then (mR S 64 11 = none ∧ (Q (.inr 3) (ma_bump S))) else (Q (.inr 2) (ma_bump S)))) : ma_wp X d w 162 0 [(0, .inr (.inr (some 64))), (1, .inl ix), (2, .inl pa)] [] S Q := by
  refine zw_push hm_162 dX11_block_0 (v := .inl pa) rfl ?_
  refine zw_if0 hm_162 dX11_block_1 (t := 9) rfl zc0_lt ?_ ?_
  · intro hc
    rw [if_pos hc] at h
    exact zw_thr hm_162 dX11_block_9 dX11_block_12 dX11_block_13 dX11_block_16 x_11_79_81 n_11_79 (by omega) (by show 0 + 81 ≤ w; omega) h
  · intro hc
    rw [if_neg hc] at h
    refine zw_push hm_162 dX11_block_4 (v := .inl pa) rfl ?_
    refine zw_push hm_162 dX11_block_5 (v := .inl (1 : Int32)) rfl ?_
    refine zw_if2 hm_162 dX11_block_6 (t := 17) rfl zc2_le ?_ ?_
    · intro hc
      rw [if_pos hc] at h
      refine zw_push hm_162 dX11_block_17 (v := .inr (.inr (some 64))) rfl ?_
      refine zw_cv hm_162 dX11_block_18 v_11_119_11 hm_144 [] [] rfl (zT_rt hS s_64 rfl) ⟨by omega, by omega⟩ rfl ?_
      show ma_wp X (d - 1) (w - 20) 144 0 [(0, .inr (.inr (some 64)))] [] S _
      refine zw_push hm_144 dX11_needCollector_0 (v := .inr (.inr (some 64))) rfl ?_
      obtain ⟨hg, h⟩ := h
      refine zw_gf hm_144 dX11_needCollector_1 (v := .inr (.inr none)) (zT_is hS s_64) (zT_t hS s_64) rfl f_11_98_11 (congrArg (fun z => Sum.inr (Sum.inr z)) hg) ?_
      refine zw_ifnonnull hm_144 dX11_needCollector_4 (t := 15) rfl (fun _ => ?_) (fun _ z => by cases z)
      exact zw_thr hm_144 dX11_needCollector_7 dX11_needCollector_10 dX11_needCollector_11 dX11_needCollector_14 x_11_85_87 n_11_85 (by omega) (by show 0 + 81 ≤ (w - 20); omega) ⟨by decide, h⟩
    · intro hc
      rw [if_neg hc] at h
      exact zw_thr hm_162 dX11_block_9 dX11_block_12 dX11_block_13 dX11_block_16 x_11_79_81 n_11_79 (by omega) (by show 0 + 81 ≤ w; omega) h
theorem sp_162_64_sh_p0 {X : Nat × (Nat → Int32)} {d w : Nat} {f : Nat → Nat → Int32} {r : Nat → Nat → Option Nat} {C Z N : Nat} {Q : Option ma_V ⊕ Nat → ma_S → Prop} {S : ma_S} (ix : Int32) (pa : Int32) (hd : 7 ≤ d) (hw : 109 ≤ w) (hI : zB f r C Z N S) (hr : r 64 11 = none)  (K : ∀ v S₉, zB f r C Z N S₉ → ((0 : Int) = 1) → Q (.inl (some (.inl v))) S₉) (KX : ∀ x S₉, (x = 2 ∨ x = 3) → zB f r C Z N S₉ → ((x = 2 ∧ (pa.toInt < 0 ∨ 1 < pa.toInt)) ∨ (x = 3 ∧ 0 ≤ pa.toInt ∧ pa.toInt ≤ 1)) → Q (.inr x) (ma_bump S₉)) : ma_wp X d w 162 0 [(0, .inr (.inr (some 64))), (1, .inl ix), (2, .inl pa)] [] S Q := by
  refine g_162_64_sh_p0_0 ix pa (by omega) (by omega) (zG_T hI) ?_
  have b1 := i_bd pa
  have li2 : (0 : Int32).toInt = 0 := rfl
  refine zd (fun h3 => ?_) (fun h3 => ?_)
  · skip
    have g4 := i_lt h3
    exact KX 2 _ (by decide) hI (show (2 = 2 ∧ (pa.toInt < 0 ∨ 1 < pa.toInt)) ∨ (2 = 3 ∧ 0 ≤ pa.toInt ∧ pa.toInt ≤ 1) from by omega)
  · skip
    have g5 := i_nlt h3
    have li6 : (1 : Int32).toInt = 1 := rfl
    refine zd (fun h7 => ?_) (fun h7 => ?_)
    · skip
      have g8 := i_le h7
      refine ⟨((zG_r hI (by decide)).trans hr), ?_⟩
      exact KX 3 _ (by decide) hI (show (3 = 2 ∧ (pa.toInt < 0 ∨ 1 < pa.toInt)) ∨ (3 = 3 ∧ 0 ≤ pa.toInt ∧ pa.toInt ≤ 1) from by omega)
    · skip
      have g9 := i_nle h7
      exact KX 2 _ (by decide) hI (show (2 = 2 ∧ (pa.toInt < 0 ∨ 1 < pa.toInt)) ∨ (2 = 3 ∧ 0 ≤ pa.toInt ∧ pa.toInt ≤ 1) from by omega)
theorem g_160_64_sh_p79_0 {X : Nat × (Nat → Int32)} {d w : Nat} {S : ma_S} {Q : Option ma_V ⊕ Nat → ma_S → Prop} (n : Int32) (hd : 7 ≤ d) (hw : 114 ≤ w) (hS : zT S) (h : if n < 0 then (Q (.inr 2) (ma_bump S)) else (if n ≤ (1000 : Int32) then (mR S 64 11 = some 79 ∧ (mR S 64 11 = some 79 ∧ (Q (.inr 6) (ma_bump S)))) else (Q (.inr 2) (ma_bump S)))) : ma_wp X d w 160 0 [(0, .inr (.inr (some 64))), (1, .inl n)] [] S Q := by
  refine zw_push hm_160 dX11_step_0 (v := .inl n) rfl ?_
  refine zw_if0 hm_160 dX11_step_1 (t := 11) rfl zc0_lt ?_ ?_
  · intro hc
    rw [if_pos hc] at h
    exact zw_thr hm_160 dX11_step_11 dX11_step_14 dX11_step_15 dX11_step_18 x_11_79_81 n_11_79 (by omega) (by show 0 + 81 ≤ w; omega) h
  · intro hc
    rw [if_neg hc] at h
    refine zw_push hm_160 dX11_step_4 (v := .inl n) rfl ?_
    refine zw_push hm_160 dX11_step_5 (v := .inl (1000 : Int32)) rfl ?_
    refine zw_if2 hm_160 dX11_step_8 (t := 19) rfl zc2_le ?_ ?_
    · intro hc
      rw [if_pos hc] at h
      refine zw_push hm_160 dX11_step_19 (v := .inr (.inr (some 64))) rfl ?_
      refine zw_cv hm_160 dX11_step_20 v_11_119_11 hm_144 [] [] rfl (zT_rt hS s_64 rfl) ⟨by omega, by omega⟩ rfl ?_
      show ma_wp X (d - 1) (w - 20) 144 0 [(0, .inr (.inr (some 64)))] [] S _
      refine zw_push hm_144 dX11_needCollector_0 (v := .inr (.inr (some 64))) rfl ?_
      obtain ⟨hg, h⟩ := h
      refine zw_gf hm_144 dX11_needCollector_1 (v := .inr (.inr (some 79))) (zT_is hS s_64) (zT_t hS s_64) rfl f_11_98_11 (congrArg (fun z => Sum.inr (Sum.inr z)) hg) ?_
      refine zw_ifnonnull hm_144 dX11_needCollector_4 (t := 15) rfl (fun z => by cases z) (fun _ _ => ?_)
      refine zw_push hm_144 dX11_needCollector_15 (v := .inr (.inr (some 64))) rfl ?_
      obtain ⟨hg, h⟩ := h
      refine zw_gf hm_144 dX11_needCollector_16 (v := .inr (.inr (some 79))) (zT_is hS s_64) (zT_t hS s_64) rfl f_11_98_11 (congrArg (fun z => Sum.inr (Sum.inr z)) hg) ?_
      refine zw_aret hm_144 dX11_needCollector_19 ?_
      show ma_wp X d w 160 23 [(0, .inr (.inr (some 64))), (1, .inl n)] [.inr (.inr (some 79))] S _
      refine zw_sto hm_160 dX11_step_23 [(3, .inr (.inr (some 79))), (0, .inr (.inr (some 64))), (1, .inl n)] rfl rfl rfl ?_
      refine zw_push hm_160 dX11_step_24 (v := .inr (.inr (some 79))) rfl ?_
      refine zw_iof hm_160 dX11_step_25 (zT_is hS s_79) (zT_t hS s_79) rfl ct_11_58_8 (v := (0 : Int32)) rfl ?_
      refine zw_if0 hm_160 dX11_step_28 (t := 42) rfl zc0_eq (fun _ => ?_) (fun hc => absurd (by decide) hc)
      exact zw_thr hm_160 dX11_step_42 dX11_step_45 dX11_step_46 dX11_step_49 x_11_192_194 n_11_192 (by omega) (by show 0 + 81 ≤ w; omega) h
    · intro hc
      rw [if_neg hc] at h
      exact zw_thr hm_160 dX11_step_11 dX11_step_14 dX11_step_15 dX11_step_18 x_11_79_81 n_11_79 (by omega) (by show 0 + 81 ≤ w; omega) h
theorem sp_160_64_sh_p79 {X : Nat × (Nat → Int32)} {d w : Nat} {f : Nat → Nat → Int32} {r : Nat → Nat → Option Nat} {C Z N : Nat} {Q : Option ma_V ⊕ Nat → ma_S → Prop} {I0 : Nat→Nat→Int32} {L0 : Nat→Nat→Int64} {R0 : zRT} {S : ma_S} (n : Int32) (hd : 7 ≤ d) (hw : 114 ≤ w) (hI : zB f r C Z N S) (hr : r 64 11 = some 79) (hpre0 : zFm I0 L0 R0 S) (K : ∀ v S₉, zB f r C Z N S₉ → ((0 : Int) = 1) → Q (.inl (some (.inl v))) S₉) (KX : ∀ x S₉, (x = 2 ∨ x = 6) → zB f r C Z N S₉ → ((x = 2 ∧ (n.toInt < 0 ∨ 1000 < n.toInt)) ∨ (x = 6 ∧ 0 ≤ n.toInt ∧ n.toInt ≤ 1000)) → (zFm I0 L0 R0 S₉) → Q (.inr x) (ma_bump S₉)) : ma_wp X d w 160 0 [(0, .inr (.inr (some 64))), (1, .inl n)] [] S Q := by
  refine g_160_64_sh_p79_0 n (by omega) (by omega) (zG_T hI) ?_
  have b1 := i_bd n
  have li2 : (0 : Int32).toInt = 0 := rfl
  refine zd (fun h3 => ?_) (fun h3 => ?_)
  · skip
    have g4 := i_lt h3
    exact KX 2 _ (by decide) hI (show (2 = 2 ∧ (n.toInt < 0 ∨ 1000 < n.toInt)) ∨ (2 = 6 ∧ 0 ≤ n.toInt ∧ n.toInt ≤ 1000) from by omega) (show zFm I0 L0 R0 S from by first | (exact hpre0))
  · skip
    have g5 := i_nlt h3
    have li6 : (1000 : Int32).toInt = 1000 := rfl
    refine zd (fun h7 => ?_) (fun h7 => ?_)
    · skip
      have g8 := i_le h7
      refine ⟨((zG_r hI (by decide)).trans hr), ?_⟩
      refine ⟨((zG_r hI (by decide)).trans hr), ?_⟩
      exact KX 6 _ (by decide) hI (show (6 = 2 ∧ (n.toInt < 0 ∨ 1000 < n.toInt)) ∨ (6 = 6 ∧ 0 ≤ n.toInt ∧ n.toInt ≤ 1000) from by omega) (show zFm I0 L0 R0 S from by first | (exact hpre0))
    · skip
      have g9 := i_nle h7
      exact KX 2 _ (by decide) hI (show (2 = 2 ∧ (n.toInt < 0 ∨ 1000 < n.toInt)) ∨ (2 = 6 ∧ 0 ≤ n.toInt ∧ n.toInt ≤ 1000) from by omega) (show zFm I0 L0 R0 S from by first | (exact hpre0))

/-! from 95.n14 -/
/-! the class opens a heap (written by wip/tools/gen20h.py) -/
theorem g_160_64_sh_p84_0 {X : Nat × (Nat → Int32)} {d w : Nat} {S : ma_S} {Q : Option ma_V ⊕ Nat → ma_S → Prop} (n : Int32) (hd : 7 ≤ d) (hw : 114 ≤ w) (hS : zT S) (h : if n < 0 then (Q (.inr 2) (ma_bump S)) else (if n ≤ (1000 : Int32) then (mR S 64 11 = some 84 ∧ (mR S 64 11 = some 84 ∧ (Q (.inr 6) (ma_bump S)))) else (Q (.inr 2) (ma_bump S)))) : ma_wp X d w 160 0 [(0, .inr (.inr (some 64))), (1, .inl n)] [] S Q := by
  refine zw_push hm_160 dX11_step_0 (v := .inl n) rfl ?_
  refine zw_if0 hm_160 dX11_step_1 (t := 11) rfl zc0_lt ?_ ?_
  · intro hc
    rw [if_pos hc] at h
    exact zw_thr hm_160 dX11_step_11 dX11_step_14 dX11_step_15 dX11_step_18 x_11_79_81 n_11_79 (by omega) (by show 0 + 81 ≤ w; omega) h
  · intro hc
    rw [if_neg hc] at h
    refine zw_push hm_160 dX11_step_4 (v := .inl n) rfl ?_
    refine zw_push hm_160 dX11_step_5 (v := .inl (1000 : Int32)) rfl ?_
    refine zw_if2 hm_160 dX11_step_8 (t := 19) rfl zc2_le ?_ ?_
    · intro hc
      rw [if_pos hc] at h
      refine zw_push hm_160 dX11_step_19 (v := .inr (.inr (some 64))) rfl ?_
      refine zw_cv hm_160 dX11_step_20 v_11_119_11 hm_144 [] [] rfl (zT_rt hS s_64 rfl) ⟨by omega, by omega⟩ rfl ?_
      show ma_wp X (d - 1) (w - 20) 144 0 [(0, .inr (.inr (some 64)))] [] S _
      refine zw_push hm_144 dX11_needCollector_0 (v := .inr (.inr (some 64))) rfl ?_
      obtain ⟨hg, h⟩ := h
      refine zw_gf hm_144 dX11_needCollector_1 (v := .inr (.inr (some 84))) (zT_is hS s_64) (zT_t hS s_64) rfl f_11_98_11 (congrArg (fun z => Sum.inr (Sum.inr z)) hg) ?_
      refine zw_ifnonnull hm_144 dX11_needCollector_4 (t := 15) rfl (fun z => by cases z) (fun _ _ => ?_)
      refine zw_push hm_144 dX11_needCollector_15 (v := .inr (.inr (some 64))) rfl ?_
      obtain ⟨hg, h⟩ := h
      refine zw_gf hm_144 dX11_needCollector_16 (v := .inr (.inr (some 84))) (zT_is hS s_64) (zT_t hS s_64) rfl f_11_98_11 (congrArg (fun z => Sum.inr (Sum.inr z)) hg) ?_
      refine zw_aret hm_144 dX11_needCollector_19 ?_
      show ma_wp X d w 160 23 [(0, .inr (.inr (some 64))), (1, .inl n)] [.inr (.inr (some 84))] S _
      refine zw_sto hm_160 dX11_step_23 [(3, .inr (.inr (some 84))), (0, .inr (.inr (some 64))), (1, .inl n)] rfl rfl rfl ?_
      refine zw_push hm_160 dX11_step_24 (v := .inr (.inr (some 84))) rfl ?_
      refine zw_iof hm_160 dX11_step_25 (zT_is hS s_84) (zT_t hS s_84) rfl ct_11_58_2 (v := (0 : Int32)) rfl ?_
      refine zw_if0 hm_160 dX11_step_28 (t := 42) rfl zc0_eq (fun _ => ?_) (fun hc => absurd (by decide) hc)
      exact zw_thr hm_160 dX11_step_42 dX11_step_45 dX11_step_46 dX11_step_49 x_11_192_194 n_11_192 (by omega) (by show 0 + 81 ≤ w; omega) h
    · intro hc
      rw [if_neg hc] at h
      exact zw_thr hm_160 dX11_step_11 dX11_step_14 dX11_step_15 dX11_step_18 x_11_79_81 n_11_79 (by omega) (by show 0 + 81 ≤ w; omega) h
theorem sp_160_64_sh_p84 {X : Nat × (Nat → Int32)} {d w : Nat} {f : Nat → Nat → Int32} {r : Nat → Nat → Option Nat} {C Z N : Nat} {Q : Option ma_V ⊕ Nat → ma_S → Prop} {I0 : Nat→Nat→Int32} {L0 : Nat→Nat→Int64} {R0 : zRT} {S : ma_S} (n : Int32) (hd : 7 ≤ d) (hw : 114 ≤ w) (hI : zB f r C Z N S) (hr : r 64 11 = some 84) (hpre0 : zFm I0 L0 R0 S) (K : ∀ v S₉, zB f r C Z N S₉ → ((0 : Int) = 1) → Q (.inl (some (.inl v))) S₉) (KX : ∀ x S₉, (x = 2 ∨ x = 6) → zB f r C Z N S₉ → ((x = 2 ∧ (n.toInt < 0 ∨ 1000 < n.toInt)) ∨ (x = 6 ∧ 0 ≤ n.toInt ∧ n.toInt ≤ 1000)) → (zFm I0 L0 R0 S₉) → Q (.inr x) (ma_bump S₉)) : ma_wp X d w 160 0 [(0, .inr (.inr (some 64))), (1, .inl n)] [] S Q := by
  refine g_160_64_sh_p84_0 n (by omega) (by omega) (zG_T hI) ?_
  have b1 := i_bd n
  have li2 : (0 : Int32).toInt = 0 := rfl
  refine zd (fun h3 => ?_) (fun h3 => ?_)
  · skip
    have g4 := i_lt h3
    exact KX 2 _ (by decide) hI (show (2 = 2 ∧ (n.toInt < 0 ∨ 1000 < n.toInt)) ∨ (2 = 6 ∧ 0 ≤ n.toInt ∧ n.toInt ≤ 1000) from by omega) (show zFm I0 L0 R0 S from by first | (exact hpre0))
  · skip
    have g5 := i_nlt h3
    have li6 : (1000 : Int32).toInt = 1000 := rfl
    refine zd (fun h7 => ?_) (fun h7 => ?_)
    · skip
      have g8 := i_le h7
      refine ⟨((zG_r hI (by decide)).trans hr), ?_⟩
      refine ⟨((zG_r hI (by decide)).trans hr), ?_⟩
      exact KX 6 _ (by decide) hI (show (6 = 2 ∧ (n.toInt < 0 ∨ 1000 < n.toInt)) ∨ (6 = 6 ∧ 0 ≤ n.toInt ∧ n.toInt ≤ 1000) from by omega) (show zFm I0 L0 R0 S from by first | (exact hpre0))
    · skip
      have g9 := i_nle h7
      exact KX 2 _ (by decide) hI (show (2 = 2 ∧ (n.toInt < 0 ∨ 1000 < n.toInt)) ∨ (2 = 6 ∧ 0 ≤ n.toInt ∧ n.toInt ≤ 1000) from by omega) (show zFm I0 L0 R0 S from by first | (exact hpre0))

/-! from 95.o00 -/
/-! the reference under COUNTS (written by wip/tools/gen20s.py) -/
/-! COUNTS, the reference: one goes -/
section D0
variable {aa a b c e : Nat → Nat → Int32} {us us₉ nr kr kd ws at₉ ho wd wi ow ow₉ rt wk wk0 wk₉ wl kp : Nat → Int32} {wm nu ro fo le ra pi y x i : Int32} {n k t s : Nat} {m : Nat → Nat → Int32}
theorem I_md (hI : qI b) (h : qMd b e (b 69 6).toInt) : qI e := by
  have r87 := h.2.1.1 87 (by decide) (by decide) (by decide) (by decide)
  have fl : ∀ n, xAl e n → xAl b n ∧ b 77 n ≠ 0 ∧ e 130 n = b 130 n ∧ e 128 n = b 128 n := fun n hn => by
    have q := (Md_al hI h).mp hn
    have f := (Md_f h q.1.1 q.2).1
    exact ⟨q.1, q.2, f 130 (by decide) (by decide), f 128 (by decide) (by decide)⟩
  refine ⟨fun n hn => ?_, fun n n₉ hn hn₉ hne => ?_, fun p hp hc => ?_, ⟨?_, ?_, ?_, ?_, ?_, ?_⟩, h.2.2.2.2.1, fun n hn k => ?_⟩
  · have f := fl n hn
    have i := hI.1 n f.1
    have c := tn_cast i.1.2
    rw [f.2.2.1, f.2.2.2, h.2.1.2.2, r87, Md_w hI h f.1 f.2.1 (p := (b 130 n).toNatClampNeg) (by omega) (by have := i.2.1.1; omega)]
    exact i
  · have f := fl n hn
    have f₉ := fl n₉ hn₉
    rw [f.2.2.1, f.2.2.2, f₉.2.2.1, f₉.2.2.2]
    exact hI.2.1 n n₉ f.1 f₉.1 hne
  · by_cases z : ∃ x : Nat, (x : Int) < (b 69 6).toInt ∧ qWh b x ∧ (b 130 x).toInt ≤ (p : Int) ∧ (p : Int) < (b 130 x).toInt + (b 128 x).toInt
    · exact (h.2.2.2.1 p).1 z
    · rw [(h.2.2.2.1 p).2 z]
      refine hI.2.2.1 p hp (fun n hn w => ?_)
      by_cases k0 : b 77 n = 0
      · exact z ⟨n, (hI.1 n hn).1.1, ⟨hn, k0⟩, w⟩
      · have al := (Md_al hI h).mpr ⟨hn, k0⟩
        have f := fl n al
        have q := hc n al
        rw [f.2.2.1, f.2.2.2] at q
        exact q w
  · rw [h.2.1.2.2]
    exact hI.2.2.2.1.1
  · rw [h.2.1.2.1]
    exact hI.2.2.2.1.2.1
  · rw [r87]
    exact hI.2.2.2.1.2.2.1
  · rw [r87]
    exact hI.2.2.2.1.2.2.2.1
  · intro n hn
    have f := fl n hn
    rw [f.2.2.1, f.2.2.2, r87]
    exact hI.2.2.2.1.2.2.2.2.1 n f.1
  · rw [r87]
    exact hI.2.2.2.1.2.2.2.2.2
  · exact h.2.2.2.2.2 n hn (fun n₉ w => hI.2.2.2.2.2 n₉ w) k
theorem RB_md (hR : qRB us nr kr kd ws at₉ ho wd wi ow rt wk wl wm nu ro fo le ra pi b) (hI : qI b) (hK : qKB kp us nr b) (hC : qCK kp us rt wl wm kr kd ws wd) (h : qMd b e (b 69 6).toInt) (hu : qUr wk wk₉ kp 16) (hm : zrm us us₉ kp 3100) (ho₉ : zowr ow ow₉ us kp at₉) : qRB us₉ nr kr kd ws at₉ ho wd wi ow₉ rt wk₉ wl wm nu ro fo le ra pi e := by
  obtain ⟨q1, q2, q3, q4, q5, q6, q7, q8⟩ := hR
  have us1 : ∀ s, s < 3100 → us₉ s ≠ 0 → us s ≠ 0 ∧ kp s ≠ 0 ∧ xAl b (nr s).toNatClampNeg ∧ b 77 (nr s).toNatClampNeg ≠ 0 := fun s hs hv => by
    have z := ((hm s hs).1 hs).mp hv
    exact ⟨z.1, z.2, R1_al q1 hs z.1, ((hK.2 s hs z.1).mp z.2).2⟩
  have us2 : ∀ s, s < 3100 → us s ≠ 0 → kp s ≠ 0 → us₉ s ≠ 0 := fun s hs hv hk => ((hm s hs).1 hs).mpr ⟨hv, hk⟩
  have fl : ∀ s, s < 3100 → us₉ s ≠ 0 → ∀ f, 126 ≤ f → f < 1000 → e f (nr s).toNatClampNeg = b f (nr s).toNatClampNeg := fun s hs hv => (Md_f h (us1 s hs hv).2.2.1.1 (us1 s hs hv).2.2.2).1
  have lo := h.2.1.1
  have kU : ∀ x : Int32, qU us x → (x.toInt < 0 ∨ kp x.toNatClampNeg ≠ 0) → qU us₉ x := fun x hx hk => by
    by_cases z : x.toInt < 0
    · exact Or.inl z
    · have u := U_y hx (by omega)
      exact Or.inr ⟨u.1, us2 _ (tn_lt (by omega) u.1) u.2 (hk.elim (fun w => absurd w z) id)⟩
  refine ⟨⟨fun s hs hv => ?_, fun s t hs ht hv hv2 en => q1.2.1 s t hs ht (us1 s hs hv).1 (us1 t ht hv2).1 en, fun n hn ha => ?_⟩, fun s hs hv i hi => ?_, fun k hk => ?_, fun k hk => ?_, ⟨?_, fun k hk => ?_⟩, fun s hs hv => ?_, fun s hs hv => ?_, ?_⟩
  · have u := us1 s hs hv
    have f := fl s hs hv
    rw [f 126 (by decide) (by decide), f 128 (by decide) (by decide), f 130 (by decide) (by decide), f 133 (by decide) (by decide)]
    exact q1.1 s hs u.1
  · have al := (Md_al hI h).mp (show xAl e n from ⟨hn, ha⟩)
    obtain ⟨s, hs, hv, en⟩ := q1.2.2 n hn al.1.2
    refine ⟨s, hs, us2 s hs hv ((hK.2 s hs hv).mpr ?_), en⟩
    rw [en, tn_of hn]
    exact ⟨hn, al.2⟩
  · have u := us1 s hs hv
    have q := q2 s hs u.1 i hi
    have t := q1.1 s hs u.1
    have ib := hI.1 _ u.2.2.1
    have rf : aRef e (nr s).toNatClampNeg (Int32.ofNat i) = aRef b (nr s).toNatClampNeg (Int32.ofNat i) := by
      have ei : (Int32.ofNat i).toInt = (i : Int) := Int32.toInt_ofNat_of_lt (by have := t.2.2.2.2.2.1; omega)
      have b4 := hI.2.2.2.1.2.2.1
      have ep : (b 130 (nr s).toNatClampNeg + 1).toInt = (b 130 (nr s).toNatClampNeg).toInt + 1 := i_p1 (by omega)
      have sz : (b 128 (nr s).toNatClampNeg).toInt = (ws s).toInt + 1 := by
        rw [t.2.2.1]
        exact i_p1 (by have := t.2.2.2.2.2.1; omega)
      have ex : (b 130 (nr s).toNatClampNeg + 1 + Int32.ofNat i).toInt = (b 130 (nr s).toNatClampNeg).toInt + 1 + (i : Int) := by
        rw [i_add (by omega) (by omega)]
        omega
      have cx := tn_cast (x := b 130 (nr s).toNatClampNeg + 1 + Int32.ofNat i) (by omega)
      unfold aRef
      rw [(Md_f h u.2.2.1.1 u.2.2.2).2, fl s hs hv 130 (by decide) (by decide), Md_w hI h u.2.2.1 u.2.2.2 (p := (b 130 (nr s).toNatClampNeg + 1 + Int32.ofNat i).toNatClampNeg) (by omega) (by omega)]
    rw [rf, (Md_f h u.2.2.1.1 u.2.2.2).2]
    exact ⟨kU _ q.1 (hC.2.2 s hs u.1 u.2.1 i hi), q.2⟩
  · have q := q3 k hk
    rw [lo 72 (by decide) (by decide) (by decide) (by decide)]
    exact ⟨kU _ q.1 (hC.1 k (by omega)), q.2⟩
  · have q := q4 k hk
    have g := hu k
    have w := h.2.2.1 k hk
    by_cases z : (wk k).toInt < 0
    · rw [g.2 (by omega)]
      rw [No_n z] at q ⊢
      refine ⟨Or.inl z, ?_⟩
      by_cases z2 : ∃ x : Nat, (x : Int) < (b 69 6).toInt ∧ qWh b x ∧ b 73 k = Int32.ofNat x
      · exact w.1 z2
      · rw [w.2 z2]
        exact q.2
    · have u := U_y q.1 (by omega)
      have hs := tn_lt (by omega) u.1
      rw [No_y (by omega)] at q
      by_cases kz : kp (wk k).toNatClampNeg = 0
      · rw [g.1 ⟨by omega, by omega, kz⟩]
        refine ⟨Or.inl (by decide), ?_⟩
        have al := R1_al q1 hs u.2
        refine w.1 ⟨(nr (wk k).toNatClampNeg).toNatClampNeg, (hI.1 _ al).1.1, ⟨al, ?_⟩, ?_⟩
        · by_cases z3 : b 77 (nr (wk k).toNatClampNeg).toNatClampNeg = 0
          · exact z3
          · exact absurd kz ((hK.2 _ hs u.2).mpr ⟨al.1, z3⟩)
        · rw [q.2, R1_of_nr q1 hs u.2]
      · rw [g.2 (fun z2 => kz z2.2.2), No_y (by omega)]
        refine ⟨Or.inr ⟨u.1, us2 _ hs u.2 kz⟩, ?_⟩
        rw [w.2]
        · exact q.2
        · rintro ⟨x, x1, x2, x3⟩
          rw [q.2] at x3
          have k7 := ((hK.2 _ hs u.2).mp kz).2
          rw [x3, tn_of x2.1.1] at k7
          exact k7 x2.2
  · rw [h.2.1.2.1]
    exact q5.1
  · have q := q5.2 k hk
    rw [lo 74 (by decide) (by decide) (by decide) (by decide)]
    exact ⟨⟨q.1.1, q.1.2.1, us2 _ (tn_lt q.1.1 q.1.2.1) q.1.2.2 ((hC.2.1 k hk).elim (fun z => absurd z (by have := q.1.1; omega)) id)⟩, q.2⟩
  · rw [fl s hs hv 134 (by decide) (by decide)]
    exact q6 s hs (us1 s hs hv).1
  · have u := us1 s hs hv
    have t := q1.1 s hs u.1
    have ib := hI.1 _ u.2.2.1
    have b4 := hI.2.2.2.1.2.2.1
    have ca := tn_cast t.2.2.2.2.2.2
    have pl : (at₉ s).toNatClampNeg < 4600 := by
      have e4 := congrArg Int32.toInt t.2.2.2.1
      omega
    have o := q7 s hs u.1
    rcases ho₉ (at₉ s).toNatClampNeg pl with z | ⟨z1, r, r1, r2, r3, r4⟩
    · rw [z]
      exact o
    · have o2 := q7 r r1 r2
      have e : (at₉ r).toNatClampNeg = (at₉ s).toNatClampNeg := by
        have c2 := tn_cast (q1.1 r r1 r2).2.2.2.2.2.2
        omega
      rw [e, o] at o2
      have e3 := congrArg Int32.toInt o2
      rw [ofN_s hs, ofN_s r1] at e3
      have : s = r := by omega
      rw [this] at u
      exact absurd r3 u.2.1
  · have g := q8
    unfold qR8 at g ⊢
    rw [h.2.1.2.2, lo 87 (by decide) (by decide) (by decide) (by decide)]
    exact g
theorem Md_ne {p q : Int} (h : qMd b c p) (hpq : p ≤ q) (ne : ∀ x : Nat, (x : Int) < q → qWh b x → (x : Int) < p) : qMd b c q := by
  obtain ⟨h1, h2, h3, h4, h6, h7⟩ := h
  refine ⟨fun x hx => ⟨fun w => (h1 x hx).1 ⟨ne x w.1 w.2, w.2⟩, fun w => (h1 x hx).2 (fun w2 => w ⟨by omega, w2.2⟩)⟩, h2, fun k hk => ⟨fun ⟨x, x1, x2, x3⟩ => (h3 k hk).1 ⟨x, ne x x1 x2, x2, x3⟩, fun w => (h3 k hk).2 (fun ⟨x, x1, x2, x3⟩ => w ⟨x, by omega, x2, x3⟩)⟩, fun p => ⟨fun ⟨x, x1, x2, x3⟩ => (h4 p).1 ⟨x, ne x x1 x2, x2, x3⟩, fun w => (h4 p).2 (fun ⟨x, x1, x2, x3⟩ => w ⟨x, by omega, x2, x3⟩)⟩, h6, h7⟩
def zW1 (a : Nat → Nat → Int32) (n : Nat) : Nat → Nat → Int32 := fun c k => if c = 77 then (if k = n then 0 else 1) else a c k
theorem W1_of : zOf a (zW1 a n) := fun _ _ _ _ h3 => (if_neg h3).symm
theorem W1_fo : zOf (zW1 a n) a := fun _ _ _ _ h3 => if_neg h3
theorem W1_md (hI : qI a) (h0 : 0 ≤ y.toInt) (hy : xAl a y.toNatClampNeg) : qMd (zW1 a y.toNatClampNeg) (aRm (zW1 a y.toNatClampNeg) y) (zW1 a y.toNatClampNeg 69 6).toInt := by
  have hI1 : qI (zW1 a y.toNatClampNeg) := qI_of hI W1_of
  have wh : ∀ x, qWh (zW1 a y.toNatClampNeg) x → x = y.toNatClampNeg := fun x h => by
    have h2 : (if x = y.toNatClampNeg then (0 : Int32) else 1) = 0 := h.2
    by_cases z : x = y.toNatClampNeg
    · exact z
    · rw [if_neg z] at h2
      exact absurd h2 (by decide)
  have al1 : xAl (zW1 a y.toNatClampNeg) y.toNatClampNeg := hy
  have hn : qWh (zW1 a y.toNatClampNeg) y.toNatClampNeg := ⟨al1, (show (if y.toNatClampNeg = y.toNatClampNeg then (0 : Int32) else 1) = 0 from if_pos rfl)⟩
  have cy := tn_cast h0
  have i1 := (hI1.1 _ al1).1.1
  have h5 : y.toInt < 512 := by have := hy.1; omega
  have b0 : qMd (zW1 a y.toNatClampNeg) (zW1 a y.toNatClampNeg) y.toInt := Md_ne (Md_0 hI1.2.2.2.2.1) h0 (fun x hx h => by have := wh x h; omega)
  exact Md_ne (Md_y hI1 b0 h0 h5 hn) (by omega) (fun x _ h => by have := wh x h; omega)
theorem I_rm (hI : qI a) (h0 : 0 ≤ y.toInt) (hy : xAl a y.toNatClampNeg) : qI (aRm a y) := qI_of (I_md (qI_of hI W1_of) (W1_md hI h0 hy)) (rm_of W1_fo)
theorem RB_r1 (hR : qRB us nr kr kd ws at₉ ho wd wi ow rt wk wl wm nu ro fo le ra pi a) (hI : qI a) (hs : s < 3100) (hu : us s ≠ 0) (hc : qCK (zmk us s) us rt wl wm kr kd ws wd) (hw : qUn wk wk₉ (Int32.ofNat s) 16) (hm : ∀ t, us₉ t = zmk us s t) (ho₉ : ∀ p, ow₉ p = if p = (at₉ s).toNatClampNeg then -1 else ow p) : qRB us₉ nr kr kd ws at₉ ho wd wi ow₉ rt wk₉ wl wm nu ro fo le ra pi (aRm a (nr s)) := by
  have y0 := (hR.1.1 s hs hu).1
  have a0 := (hR.1.1 s hs hu).2.2.2.2.2.2
  have al := R1_al hR.1 hs hu
  have q4 := hR.2.2.2.1
  refine RB_of (RB_md (kp := zmk us s) (RB_of hR W1_of) (qI_of hI W1_of) ?_ hc (W1_md hI y0.1 al) ?_ ?_ ?_) (rm_of W1_fo)
  · refine ⟨fun t ht h z => h ?_, fun t ht hut => ⟨fun h => ?_, fun h z => ?_⟩⟩
    · show (if t = s then (0 : Int32) else us t) = 0
      split
      · rfl
      · exact z
    · refine ⟨(R1_al hR.1 ht hut).1, ?_⟩
      show (if (nr t).toNatClampNeg = (nr s).toNatClampNeg then (0 : Int32) else 1) ≠ 0
      rw [if_neg (fun e => h (if_pos (hR.1.2.1 t s ht hs hut hu (by rw [← R1_of_nr hR.1 ht hut, ← R1_of_nr hR.1 hs hu, e]))))]
      decide
    · have h2 : (if (nr t).toNatClampNeg = (nr s).toNatClampNeg then (0 : Int32) else 1) ≠ 0 := h.2
      have z2 : (if t = s then (0 : Int32) else us t) = 0 := z
      by_cases ts : t = s
      · rw [ts, if_pos rfl] at h2
        exact h2 rfl
      · rw [if_neg ts] at z2
        exact hut z2
  · intro k
    have g := hw k
    refine ⟨fun w => ?_, fun w => ?_⟩
    · have u := U_y (q4 k (by omega)).1 w.2.1
      have z2 : (if (wk k).toNatClampNeg = s then (0 : Int32) else us (wk k).toNatClampNeg) = 0 := w.2.2
      have e : (wk k).toNatClampNeg = s := by
        by_cases ts : (wk k).toNatClampNeg = s
        · exact ts
        · rw [if_neg ts] at z2
          exact absurd z2 u.2
      rw [g, if_pos ⟨w.1, by rw [← e]; exact (ofN_tn w.2.1).symm⟩]
    · rw [g, if_neg (fun z => w ⟨z.1, ?_, ?_⟩)]
      · rw [z.2, ofN_s hs]
        omega
      · have e : (wk k).toNatClampNeg = s := by
          have c := tn_cast (x := wk k) (by rw [z.2, ofN_s hs]; omega)
          rw [z.2, ofN_s hs] at c
          rw [z.2]
          omega
        rw [e]
        exact if_pos rfl
  · intro t ht
    refine ⟨fun _ => ?_, fun z => absurd ht (by omega)⟩
    rw [hm t]
    constructor
    · intro h
      refine ⟨fun z => h ?_, h⟩
      show (if t = s then (0 : Int32) else us t) = 0
      split
      · rfl
      · exact z
    · intro h
      exact h.2
  · intro p _
    rw [ho₉ p]
    by_cases e : p = (at₉ s).toNatClampNeg
    · rw [if_pos e]
      exact Or.inr ⟨by decide, s, hs, hu, if_pos rfl, by rw [e]; exact (tn_cast a0).symm⟩
    · rw [if_neg e]
      exact Or.inl rfl
end D0

/-! from 95.o01 -/
/-! the reference under COUNTS (written by wip/tools/gen20s.py) -/
/-! COUNTS, the reference: what each counts, and those that go -/
abbrev zLL : Type := List (List Int32)
/-- counts: who refers, what the stack still refers to, and two more -/
def qCt (ct us nr : Nat → Int32) (a : Nat → Nat → Int32) (st : List (List Int32)) (x z : Int32) : Prop := ∀ s, s < 3100 → us s ≠ 0 → ct s = Int32.ofInt (cRf a (nr s).toNatClampNeg + (cOc st (nr s).toNatClampNeg : Int) + (cIs x (nr s).toNatClampNeg : Int) + (cIs z (nr s).toNatClampNeg : Int))
/-- a ROOT has it -/
def qXr (a : Nat → Nat → Int32) (x : Int32) : Prop := x.toInt < 0 ∨ ∃ k, k < 16 ∧ a 72 k = x
def qLf (nr kr kd wd : Nat → Int32) (g : Nat) : Nat → Nat → List Int32
  | 0, _ => []
  | k + 1, i => qNo nr (zrf kr kd wd g i) :: qLf nr kr kd wd g k (i + 1)
def qGs (nr kr kd ws wd gs gw : Nat → Int32) : Nat → List (List Int32)
  | 0 => []
  | n + 1 => qLf nr kr kd wd (gs n).toNatClampNeg ((ws (gs n).toNatClampNeg).toInt - (gw n).toInt).toNat (gw n).toInt.toNat :: qGs nr kr kd ws wd gs gw n
def qGo (us nr kr kd ws wd gs gw : Nat → Int32) (gm : Int32) (st : List (List Int32)) : Prop := 0 ≤ gm.toInt ∧ st = qGs nr kr kd ws wd gs gw gm.toInt.toNat ∧ ∀ j : Nat, (j : Int) < gm.toInt → (0 ≤ (gs j).toInt ∧ (gs j).toInt < 3100) ∧ (0 ≤ (gw j).toInt ∧ (gw j).toInt ≤ (ws (gs j).toNatClampNeg).toInt) ∧ ∀ i : Nat, (gw j).toInt ≤ (i : Int) → (i : Int) < (ws (gs j).toNatClampNeg).toInt → qU us (zrf kr kd wd (gs j).toNatClampNeg i)
section D1
variable {a b d : Nat → Nat → Int32} {us us₉ nr kr kd ws at₉ ho wd wi ow rt wk wl ct ct₉ gs gs₉ gw gw₉ : Nat → Int32} {wm nu ro fo le ra pi x y z gm gm₉ : Int32} {s t k n g : Nat} {st : List (List Int32)} {B : Int}
theorem nr_eq (h1 : qR1 us nr ws at₉ ho a) (hs : s < 3100) (hu : us s ≠ 0) (ht : t < 3100) (hv : us t ≠ 0) : cIs (nr s) (nr t).toNatClampNeg = if t = s then 1 else 0 := by
  by_cases e : t = s
  · rw [if_pos e, e]
    exact cIs_s (h1.1 s hs hu).1.1
  · rw [if_neg e]
    refine cIs_0 (fun w => e ?_)
    rw [R1_of_nr h1 ht hv] at w
    exact h1.2.1 t s ht hs hv hu w.symm
theorem is_m1 (hn : n < 512) : cIs (-1) n = 0 := cIs_n (by decide) hn
theorem nr_lt (h1 : qR1 us nr ws at₉ ho a) (hs : s < 3100) (hu : us s ≠ 0) : (nr s).toNatClampNeg < 512 := (R1_al h1 hs hu).1
/-- one less of the one that is named -/
theorem Ct_dn (h1 : qR1 us nr ws at₉ ho a) (h : qCt ct us nr a st x (nr s)) (hs : s < 3100) (hu : us s ≠ 0) (e : ct₉ = zUp ct s (ct s - 1)) : qCt ct₉ us nr a st x (-1) := by
  intro t ht hv
  have q := h t ht hv
  have l5 := nr_lt h1 ht hv
  rw [nr_eq h1 hs hu ht hv] at q
  rw [e, is_m1 l5]
  show (if t = s then ct s - 1 else ct t) = _
  by_cases w : t = s
  · rw [if_pos w] at q ⊢
    rw [← w, q]
    have e1 : (1 : Int32) = Int32.ofInt 1 := rfl
    rw [e1, ← Int32.ofInt_sub]
    exact congrArg Int32.ofInt (by omega)
  · rw [if_neg w] at q ⊢
    exact q
/-- one more of the one that is named -/
theorem Ct_up (h1 : qR1 us nr ws at₉ ho a) (h : qCt ct us nr a st x (-1)) (hs : s < 3100) (hu : us s ≠ 0) (e : ct₉ = zUp ct s (ct s + 1)) : qCt ct₉ us nr a st x (nr s) := by
  intro t ht hv
  have q := h t ht hv
  have l5 := nr_lt h1 ht hv
  rw [is_m1 l5] at q
  rw [e, nr_eq h1 hs hu ht hv]
  show (if t = s then ct s + 1 else ct t) = _
  by_cases w : t = s
  · rw [if_pos w, if_pos w]
    rw [w] at q
    rw [q, w]
    have e1 : (1 : Int32) = Int32.ofInt 1 := rfl
    rw [e1, ← Int32.ofInt_add]
    exact congrArg Int32.ofInt (by omega)
  · rw [if_neg w, if_neg w]
    exact q
theorem Ct_v (h1 : qR1 us nr ws at₉ ho a) (h : qCt ct us nr a st x (-1)) (hV : cV a st B) (hB : B ≤ 1000000) (hs : s < 3100) (hu : us s ≠ 0) : (ct s).toInt = cRf a (nr s).toNatClampNeg + (cOc st (nr s).toNatClampNeg : Int) + (cIs x (nr s).toNatClampNeg : Int) := by
  have al := R1_al h1 hs hu
  have q := Rf_bd hV hB al
  have l := cIs_le (x := x) (n := (nr s).toNatClampNeg)
  rw [h s hs hu, is_m1 al.1]
  rw [Int32.toInt_ofInt_of_le (by omega) (by omega)]
  omega
theorem Ro_ge (hk : k < 16) (e : a 72 k = Int32.ofNat n) : 1 ≤ cRo a n := by
  have q := cSu_le (f := fun k => cIs (a 72 k) n) 16 hk
  have w : cIs (a 72 k) n = 1 := cIs_1 e
  unfold cRo
  have q2 : cIs (a 72 k) n ≤ cSu (fun k => cIs (a 72 k) n) 16 := q
  omega
theorem Ct_yes (h1 : qR1 us nr ws at₉ ho a) (h : qCt ct us nr a st x (-1)) (hV : cV a st B) (hB : B ≤ 1000000) (hX : qXr a x) (hs : s < 3100) (hu : us s ≠ 0) (hp : 0 < (ct s).toInt) : 0 < cRf a (nr s).toNatClampNeg + (cOc st (nr s).toNatClampNeg : Int) := by
  have al := R1_al h1 hs hu
  rw [Ct_v h1 h hV hB hs hu] at hp
  have l := cIs_le (x := x) (n := (nr s).toNatClampNeg)
  by_cases w : cIs x (nr s).toNatClampNeg = 0
  · rw [w] at hp
    omega
  · have e : x = Int32.ofNat (nr s).toNatClampNeg := Classical.byContradiction (fun z => w (cIs_0 z))
    rcases hX with hX | ⟨k, hk, e2⟩
    · exact absurd (cIs_n hX al.1) w
    · have r := Ro_ge hk (e2.trans e)
      have hd := (hV.2.2.2.1 _ al).1
      unfold cRf
      omega
theorem Ct_no (h1 : qR1 us nr ws at₉ ho a) (h : qCt ct us nr a st x (-1)) (hV : cV a st B) (hB : B ≤ 1000000) (hs : s < 3100) (hu : us s ≠ 0) (hp : ¬ 0 < (ct s).toInt) : ¬ 0 < cRf a (nr s).toNatClampNeg + (cOc st (nr s).toNatClampNeg : Int) := by
  rw [Ct_v h1 h hV hB hs hu] at hp
  omega
/-- nobody refers to it: the others are closed -/
theorem U_ne (h1 : qR1 us nr ws at₉ ho a) (hs : s < 3100) (hu : us s ≠ 0) (u : qU us x) (hn : ¬ qNo nr x = Int32.ofNat (nr s).toNatClampNeg) : x.toInt < 0 ∨ zmk us s x.toNatClampNeg ≠ 0 := by
  by_cases w : x.toInt < 0
  · exact Or.inl w
  · have v := U_y u (by omega)
    refine Or.inr (fun z2 => ?_)
    have z : (if x.toNatClampNeg = s then (0 : Int32) else us x.toNatClampNeg) = 0 := z2
    by_cases e : x.toNatClampNeg = s
    · apply hn
      rw [No_y (by omega), e]
      exact (R1_of_nr h1 hs hu).symm
    · rw [if_neg e] at z
      exact v.2 z
theorem U_mk (u : qU us x) (h : x.toInt < 0 ∨ zmk us s x.toNatClampNeg ≠ 0) : qU (zmk us s) x := by
  by_cases w : x.toInt < 0
  · exact Or.inl w
  · exact Or.inr ⟨(U_y u (by omega)).1, h.elim (fun z => absurd z w) id⟩
theorem wp_sl (hR : qRB us nr kr kd ws at₉ ho wd wi ow rt wk wl wm nu ro fo le ra pi a) (hs : s < 3100) (hu : us s ≠ 0) {i : Nat} (hi : (i : Int) < (ws s).toInt) : qWp a (nr s).toNatClampNeg (Int32.ofNat i) := by
  have t := hR.1.1 s hs hu
  have e : (Int32.ofNat i).toInt = (i : Int) := ofN_s (s := i) (by have := t.2.2.2.2.2.1; omega)
  refine ⟨R1_al hR.1 hs hu, by omega, ?_⟩
  rw [t.2.2.1, i_p1 (by have := t.2.2.2.2.2.1; omega)]
  omega
theorem CK_1 (hR : qRB us nr kr kd ws at₉ ho wd wi ow rt wk wl wm nu ro fo le ra pi a) (hs : s < 3100) (hu : us s ≠ 0) (h1 : cRo a (nr s).toNatClampNeg = 0) (h2 : cWi a (nr s).toNatClampNeg = 0) (h3 : cTh a (nr s).toNatClampNeg = 0) : qCK (zmk us s) us rt wl wm kr kd ws wd ∧ ∀ t, t < 3100 → us t ≠ 0 → ∀ i : Nat, (i : Int) < (ws t).toInt → zcl (zmk us s) kr kd wd t i := by
  obtain ⟨q1, q2, q3, q4, q5, q6, q7, q8⟩ := hR
  have wd1 : ∀ t, t < 3100 → us t ≠ 0 → ∀ i : Nat, (i : Int) < (ws t).toInt → zcl (zmk us s) kr kd wd t i := fun t ht hv i hi => by
    have q := q2 t ht hv i hi
    refine U_ne q1 hs hu q.1 (fun e => ?_)
    exact Th_ne h3 (wp_sl ⟨q1, q2, q3, q4, q5, q6, q7, q8⟩ ht hv hi) (q.2.1.trans e)
  refine ⟨⟨fun k hk => ?_, fun k hk => ?_, fun t ht hv _ i hi => wd1 t ht hv i hi⟩, wd1⟩
  · have q := q3 k (by omega)
    refine U_ne q1 hs hu q.1 (fun e => ?_)
    exact Ro_ne h1 (by omega) (q.2.trans e)
  · have q := q5.2 k hk
    refine U_ne q1 hs hu (Or.inr ⟨q.1.2.1, q.1.2.2⟩) (fun e => ?_)
    rw [No_y q.1.1] at e
    exact Wi_ne h2 (by rw [q5.1]; exact hk) (q.2.trans e)
/-! the stack -/
theorem Gs_cg : ∀ n : Nat, (∀ j, j < n → gs₉ j = gs j ∧ gw₉ j = gw j) → qGs nr kr kd ws wd gs₉ gw₉ n = qGs nr kr kd ws wd gs gw n := by
  intro n
  induction n with
  | zero => intro _; rfl
  | succ n ih =>
    intro h
    show qLf nr kr kd wd (gs₉ n).toNatClampNeg ((ws (gs₉ n).toNatClampNeg).toInt - (gw₉ n).toInt).toNat (gw₉ n).toInt.toNat :: qGs nr kr kd ws wd gs₉ gw₉ n = qLf nr kr kd wd (gs n).toNatClampNeg ((ws (gs n).toNatClampNeg).toInt - (gw n).toInt).toNat (gw n).toInt.toNat :: qGs nr kr kd ws wd gs gw n
    rw [(h n (by omega)).1, (h n (by omega)).2, ih (fun j hj => h j (by omega))]
theorem Lf_m : ∀ (k i j : Nat), i ≤ j → j < i + k → qNo nr (zrf kr kd wd g j) ∈ qLf nr kr kd wd g k i := by
  intro k
  induction k with
  | zero => intro i j h1 h2; omega
  | succ k ih =>
    intro i j h1 h2
    by_cases w : j = i
    · rw [w]
      exact List.mem_cons_self
    · exact List.mem_cons_of_mem _ (ih (i + 1) j (by omega) (by omega))
theorem Gs_m : ∀ (n j i : Nat), j < n → 0 ≤ (gw j).toInt → (gw j).toInt ≤ (i : Int) → (i : Int) < (ws (gs j).toNatClampNeg).toInt → ∃ l, l ∈ qGs nr kr kd ws wd gs gw n ∧ qNo nr (zrf kr kd wd (gs j).toNatClampNeg i) ∈ l := by
  intro n
  induction n with
  | zero => intro j i h; omega
  | succ n ih =>
    intro j i hj h0 h1 h2
    by_cases w : j = n
    · rw [w] at h0 h1 h2 ⊢
      exact ⟨_, List.mem_cons_self, Lf_m _ _ _ (by omega) (by omega)⟩
    · obtain ⟨l, l1, l2⟩ := ih j i (by omega) h0 h1 h2
      exact ⟨l, List.mem_cons_of_mem _ l1, l2⟩
theorem Gk_0 (h : gm.toInt = 0) : qGo us nr kr kd ws wd gs gw gm [] := ⟨by omega, by rw [h]; rfl, fun j hj => by omega⟩
theorem Go_nil (h : qGo us nr kr kd ws wd gs gw gm st) (h0 : ¬ 0 < gm.toInt) : st = [] := by
  have e : gm.toInt = 0 := by have := h.1; omega
  rw [h.2.1, e]
  rfl
theorem Gs_top (h0 : 0 < gm.toInt) : qGs nr kr kd ws wd gs gw gm.toInt.toNat = qLf nr kr kd wd (gs (gm.toInt - 1).toNat).toNatClampNeg ((ws (gs (gm.toInt - 1).toNat).toNatClampNeg).toInt - (gw (gm.toInt - 1).toNat).toInt).toNat (gw (gm.toInt - 1).toNat).toInt.toNat :: qGs nr kr kd ws wd gs gw (gm.toInt - 1).toNat := by
  have e : gm.toInt.toNat = (gm.toInt - 1).toNat + 1 := by omega
  rw [e]
  rfl
theorem Go_pop (h : qGo us nr kr kd ws wd gs gw gm st) (h0 : 0 < gm.toInt) (hk : k = (gm.toInt - 1).toNat) (hi : (gw k).toInt = (ws (gs k).toNatClampNeg).toInt) (e : gm₉.toInt = gm.toInt - 1) : ∃ t, st = [] :: t ∧ qGo us nr kr kd ws wd gs gw gm₉ t := by
  refine ⟨qGs nr kr kd ws wd gs gw (gm.toInt - 1).toNat, ?_, by omega, by rw [e], fun j hj => h.2.2 j (by omega)⟩
  rw [h.2.1, Gs_top h0, ← hk]
  rw [show ((ws (gs k).toNatClampNeg).toInt - (gw k).toInt).toNat = 0 from by omega]
  rfl
theorem Go_adv (h : qGo us nr kr kd ws wd gs gw gm st) (h0 : 0 < gm.toInt) (hk : k = (gm.toInt - 1).toNat) (hi : (gw k).toInt < (ws (gs k).toNatClampNeg).toInt) (e : gw₉ = zUp gw k y) (ey : y.toInt = (gw k).toInt + 1) : ∃ l t, st = (qNo nr (zrf kr kd wd (gs k).toNatClampNeg (gw k).toInt.toNat) :: l) :: t ∧ qGo us nr kr kd ws wd gs gw₉ gm (l :: t) ∧ qU us (zrf kr kd wd (gs k).toNatClampNeg (gw k).toInt.toNat) := by
  have g := h.2.2 k (by omega)
  have ek : gw₉ k = y := by
    rw [e]
    exact if_pos rfl
  have eo : ∀ j, j ≠ k → gw₉ j = gw j := fun j hj => by
    rw [e]
    exact if_neg hj
  refine ⟨qLf nr kr kd wd (gs k).toNatClampNeg ((ws (gs k).toNatClampNeg).toInt - (gw k).toInt - 1).toNat ((gw k).toInt.toNat + 1), qGs nr kr kd ws wd gs gw k, ?_, ⟨h.1, ?_, fun j hj => ?_⟩, g.2.2 _ (by omega) (by omega)⟩
  · rw [h.2.1, Gs_top h0, ← hk]
    rw [show ((ws (gs k).toNatClampNeg).toInt - (gw k).toInt).toNat = ((ws (gs k).toNatClampNeg).toInt - (gw k).toInt - 1).toNat + 1 from by omega]
    rfl
  · rw [Gs_top h0, ← hk, ek, ey, Gs_cg (gs₉ := gs) (gw₉ := gw₉) (gs := gs) (gw := gw) k (fun j hj => ⟨rfl, eo j (by omega)⟩)]
    rw [show ((ws (gs k).toNatClampNeg).toInt - ((gw k).toInt + 1)).toNat = ((ws (gs k).toNatClampNeg).toInt - (gw k).toInt - 1).toNat from by omega, show ((gw k).toInt + 1).toNat = (gw k).toInt.toNat + 1 from by omega]
  · have gj := h.2.2 j hj
    by_cases w : j = k
    · rw [w, ek, ey]
      exact ⟨g.1, by omega, fun i i0 i1 => g.2.2 i (by omega) i1⟩
    · rw [eo j w]
      exact gj
theorem Lf_eq : ∀ (k i : Nat), (∀ j, i ≤ j → j < i + k → aRef a n (Int32.ofNat j) = qNo nr (zrf kr kd wd g j)) → cLf a n k i = qLf nr kr kd wd g k i := by
  intro k
  induction k with
  | zero => intro i _; rfl
  | succ k ih =>
    intro i h
    show aRef a n (Int32.ofNat i) :: cLf a n k (i + 1) = qNo nr (zrf kr kd wd g i) :: qLf nr kr kd wd g k (i + 1)
    rw [h i (by omega) (by omega), ih (i + 1) (fun j h1 h2 => h j (by omega) (by omega))]
theorem Ls_eq (hR : qRB us nr kr kd ws at₉ ho wd wi ow rt wk wl wm nu ro fo le ra pi a) (hs : s < 3100) (hu : us s ≠ 0) : cLs a (nr s).toNatClampNeg 0 = qLf nr kr kd wd s (ws s).toInt.toNat 0 := by
  have t := hR.1.1 s hs hu
  have ws6 := t.2.2.2.2.2.1
  unfold cLs
  rw [t.2.2.1, i_p1 (by omega), show ((ws s).toInt + 1 - 1).toNat - 0 = (ws s).toInt.toNat from by omega]
  exact Lf_eq _ 0 (fun j _ h2 => (hR.2.1 s hs hu j (by omega)).2.1)
theorem Go_psh (hR : qRB us nr kr kd ws at₉ ho wd wi ow rt wk wl wm nu ro fo le ra pi a) (h : qGo us nr kr kd ws wd gs gw gm st) (hs : s < 3100) (hu : us s ≠ 0) (hO : cOc st (nr s).toNatClampNeg = 0) (hc : ∀ t, t < 3100 → us t ≠ 0 → ∀ i : Nat, (i : Int) < (ws t).toInt → zcl (zmk us s) kr kd wd t i) (hm : ∀ t, us₉ t = zmk us s t) (e1 : gs₉ = zUp gs gm.toNatClampNeg y) (ey : y = Int32.ofNat s) (e2 : gw₉ = zUp gw gm.toNatClampNeg 0) (e3 : gm₉.toInt = gm.toInt + 1) : qGo us₉ nr kr kd ws wd gs₉ gw₉ gm₉ (cLs a (nr s).toNatClampNeg 0 :: st) := by
  have eu : us₉ = zmk us s := funext hm
  have cg := tn_cast h.1
  have t := hR.1.1 s hs hu
  have gk : gs₉ gm.toNatClampNeg = y := by
    rw [e1]
    exact if_pos rfl
  have wk0 : gw₉ gm.toNatClampNeg = 0 := by
    rw [e2]
    exact if_pos rfl
  have go : ∀ j, j ≠ gm.toNatClampNeg → gs₉ j = gs j ∧ gw₉ j = gw j := fun j hj => by
    rw [e1, e2]
    exact ⟨if_neg hj, if_neg hj⟩
  have ys : y.toNatClampNeg = s := by
    have c := tn_cast (x := y) (by rw [ey, ofN_s hs]; omega)
    rw [ey, ofN_s hs] at c
    rw [ey]
    omega
  have kt : (gm₉.toInt - 1).toNat = gm.toNatClampNeg := by omega
  refine ⟨by have := h.1; omega, ?_, fun j hj => ?_⟩
  · rw [Gs_top (by have := h.1; omega), kt, gk, wk0, ys, Gs_cg (gs₉ := gs₉) (gw₉ := gw₉) (gs := gs) (gw := gw) _ (fun j hj => go j (by omega)), Ls_eq hR hs hu, h.2.1]
    rw [show ((ws s).toInt - (0 : Int32).toInt).toNat = (ws s).toInt.toNat from by rw [show (0 : Int32).toInt = 0 from rfl, Int.sub_zero], show (0 : Int32).toInt.toNat = 0 from rfl, show gm.toNatClampNeg = gm.toInt.toNat from rfl]
  · rw [eu]
    by_cases w : j = gm.toNatClampNeg
    · rw [w, gk, wk0, ys]
      refine ⟨⟨by rw [ey, ofN_s hs]; omega, by rw [ey, ofN_s hs]; omega⟩, ⟨by decide, by rw [show (0 : Int32).toInt = 0 from rfl]; exact t.2.2.2.2.2.1.1⟩, fun i _ i1 => ?_⟩
      exact U_mk (hR.2.1 s hs hu i i1).1 (hc s hs hu i i1)
    · have g := h.2.2 j (by omega)
      rw [(go j w).1, (go j w).2]
      refine ⟨g.1, g.2.1, fun i i0 i1 => U_mk (g.2.2 i i0 i1) (U_ne hR.1 hs hu (g.2.2 i i0 i1) (fun e => ?_))⟩
      obtain ⟨l, l1, l2⟩ := Gs_m (nr := nr) (kr := kr) (kd := kd) (ws := ws) (wd := wd) (gs := gs) (gw := gw) gm.toInt.toNat j i (by omega) g.2.1.1 i0 i1
      rw [← h.2.1] at l1
      exact Oc_ne st hO l l1 _ l2 e
/-! one falls -/
theorem Fl_p (h1 : qR1 us nr ws at₉ ho a) (h : qCt ct us nr a st x (-1)) (hV : cV a st B) (hB : B ≤ 1000000) (hX : qXr a x) (hs : s < 3100) (hu : us s ≠ 0) (hp : 0 < (ct s).toInt) : cFa a st (nr s) = (a, st) := Fa_p (Ct_yes h1 h hV hB hX hs hu hp)
theorem Fl_g (h1 : qR1 us nr ws at₉ ho a) (h6 : qR6 us nr wi a) (h : qCt ct us nr a st x (-1)) (hV : cV a st B) (hB : B ≤ 1000000) (hs : s < 3100) (hu : us s ≠ 0) (hp : ¬ 0 < (ct s).toInt) (hw : wi s ≠ 0) : cFa a st (nr s) = (aGr a (nr s), st) := Fa_g (Ct_no h1 h hV hB hs hu hp) (by rw [h6 s hs hu]; exact hw)
theorem Fl_r (h1 : qR1 us nr ws at₉ ho a) (h6 : qR6 us nr wi a) (h : qCt ct us nr a st x (-1)) (hV : cV a st B) (hB : B ≤ 1000000) (hs : s < 3100) (hu : us s ≠ 0) (hp : ¬ 0 < (ct s).toInt) (hw : wi s = 0) : cFa a st (nr s) = (aRm a (nr s), cLs a (nr s).toNatClampNeg 0 :: st) := Fa_r (Ct_no h1 h hV hB hs hu hp) (by rw [h6 s hs hu]; exact hw)
theorem Ct_gr (h1 : qR1 us nr ws at₉ ho a) (h : qCt ct us nr a st x (-1)) (h0 : 0 ≤ (a 69 5).toInt) (h5 : (a 69 5).toInt < 512) (hs : s < 3100) (hu : us s ≠ 0) (e : ct₉ = zUp ct s (ct s + 1)) : qCt ct₉ us nr (aGr a (nr s)) st x (-1) := by
  have q := Ct_up h1 h hs hu e
  intro t ht hv
  rw [q t ht hv, Rf_gr h0 h5, is_m1 (nr_lt h1 ht hv)]
  exact congrArg Int32.ofInt (by omega)
theorem Ct_rm (h1 : qR1 us nr ws at₉ ho a) (h : qCt ct us nr a st x (-1)) (hV : cV a st B) (hs : s < 3100) (hu : us s ≠ 0) (hm : ∀ t, us₉ t = zmk us s t) : qCt ct us₉ nr (aRm a (nr s)) (cLs a (nr s).toNatClampNeg 0 :: st) x (-1) := by
  intro t ht hv2
  rw [hm t] at hv2
  have ts : t ≠ s := fun e => hv2 (if_pos e)
  have hv : us t ≠ 0 := fun w => hv2 ((if_neg ts).trans w)
  have ne : (nr t).toNatClampNeg ≠ (nr s).toNatClampNeg := fun e => ts (h1.2.1 t s ht hs hv hu (by rw [← R1_of_nr h1 ht hv, ← R1_of_nr h1 hs hu, e]))
  rw [h t ht hv]
  have f := Fr_rm hV (h1.1 s hs hu).1.1 (R1_al h1 hs hu) ne
  exact congrArg Int32.ofInt (by omega)
theorem Xr_gr (h : qXr a x) : qXr (aGr a y) x := h.imp id (fun ⟨k, h1, h2⟩ => ⟨k, h1, (congrFun (gr_r (by decide) (by decide) (by decide) (by decide)) k).trans h2⟩)
theorem Xr_rm (h : qXr a x) : qXr (aRm a y) x := h.imp id (fun ⟨k, h1, h2⟩ => ⟨k, h1, (rm_co (by decide) (by decide) (by decide) (by decide)).trans h2⟩)
end D1

