/-! the class behind (written by wip/tools/gen95c.py) -/
theorem g_156_64_p79_0 {X : Nat × (Nat → Int32)} {d w : Nat} {S : ma_S} {Q : Option ma_V ⊕ Nat → ma_S → Prop} (o : Int32) (b : Int32) (hd : 7 ≤ d) (hw : 111 ≤ w) (hS : zT S) (h : mR S 64 11 = some 79 ∧ (mR S 64 11 = some 79 ∧ (ma_wp X (d - 1) (w - 22) 149 0 [(0, .inr (.inr (some 64))), (1, .inl o)] [] S (zo (fun v2 S1 => zT S1 ∧ ((∃ c3, v2 = some c3 ∧ (if b = 0 then ((126 ≤ c3 ∧ c3 < mN S1) ∧ (if (mI S1 c3 7) = 0 then (Q (.inr 6) (ma_bump S1)) else (if b = 0 then (ma_wp X (d - 1) (w - 22) 97 0 [(0, .inr (.inr (some 69))), (1, .inr (.inr (some c3))), (2, .inl (-1 : Int32))] [] S1 (zv (fun S8 => zT S8 ∧ ((126 ≤ c3 ∧ c3 < mN S8) ∧ (Q (.inl (some (.inl (mI S8 c3 7)))) S8))) (fun x S9 => Q (.inr x) S9))) else (ma_wp X (d - 1) (w - 22) 97 0 [(0, .inr (.inr (some 69))), (1, .inr (.inr (some c3))), (2, .inl (1 : Int32))] [] S1 (zv (fun S10 => zT S10 ∧ ((126 ≤ c3 ∧ c3 < mN S10) ∧ (Q (.inl (some (.inl (mI S10 c3 7)))) S10))) (fun x S9 => Q (.inr x) S9)))))) else (if b = 0 then (ma_wp X (d - 1) (w - 22) 97 0 [(0, .inr (.inr (some 69))), (1, .inr (.inr (some c3))), (2, .inl (-1 : Int32))] [] S1 (zv (fun S4 => zT S4 ∧ ((126 ≤ c3 ∧ c3 < mN S4) ∧ (Q (.inl (some (.inl (mI S4 c3 7)))) S4))) (fun x S9 => Q (.inr x) S9))) else (ma_wp X (d - 1) (w - 22) 97 0 [(0, .inr (.inr (some 69))), (1, .inr (.inr (some c3))), (2, .inl (1 : Int32))] [] S1 (zv (fun S6 => zT S6 ∧ ((126 ≤ c3 ∧ c3 < mN S6) ∧ (Q (.inl (some (.inl (mI S6 c3 7)))) S6))) (fun x S9 => Q (.inr x) S9)))))))) (fun x S9 => Q (.inr x) S9))))) : ma_wp X d w 156 0 [(0, .inr (.inr (some 64))), (1, .inl o), (2, .inl b)] [] S Q := by
  refine zw_push hm_156 dX11_hold_0 (v := .inr (.inr (some 64))) rfl ?_
  refine zw_cv hm_156 dX11_hold_1 v_11_119_11 hm_144 [] [] rfl (zT_rt hS s_64 rfl) ⟨by omega, by omega⟩ rfl ?_
  show ma_wp X (d - 1) (w - 20) 144 0 [(0, .inr (.inr (some 64)))] [] S _
  refine zw_push hm_144 dX11_needCollector_0 (v := .inr (.inr (some 64))) rfl ?_
  obtain ⟨hg, h⟩ := h
  refine zw_gf hm_144 dX11_needCollector_1 (v := .inr (.inr (some 79))) (zT_is hS s_64) (zT_t hS s_64) rfl f_11_98_11 (congrArg (fun z => Sum.inr (Sum.inr z)) hg) ?_
  refine zw_ifnonnull hm_144 dX11_needCollector_4 (t := 15) rfl (fun z => by cases z) (fun _ _ => ?_)
  refine zw_push hm_144 dX11_needCollector_15 (v := .inr (.inr (some 64))) rfl ?_
  obtain ⟨hg, h⟩ := h
  refine zw_gf hm_144 dX11_needCollector_16 (v := .inr (.inr (some 79))) (zT_is hS s_64) (zT_t hS s_64) rfl f_11_98_11 (congrArg (fun z => Sum.inr (Sum.inr z)) hg) ?_
  refine zw_aret hm_144 dX11_needCollector_19 ?_
  show ma_wp X d w 156 4 [(0, .inr (.inr (some 64))), (1, .inl o), (2, .inl b)] [.inr (.inr (some 79))] S _
  refine zw_sto hm_156 dX11_hold_4 [(3, .inr (.inr (some 79))), (0, .inr (.inr (some 64))), (1, .inl o), (2, .inl b)] rfl rfl rfl ?_
  refine zw_push hm_156 dX11_hold_5 (v := .inr (.inr (some 64))) rfl ?_
  refine zw_push hm_156 dX11_hold_6 (v := .inl o) rfl ?_
  refine zw_cv hm_156 dX11_hold_7 v_11_123_11 hm_149 [.inl o] [] rfl (zT_rt hS s_64 rfl) ⟨by omega, by omega⟩ rfl (zw_mono h (zo_go ?_ ?_))
  · intro v2 S1 hv
    obtain ⟨hS1, h⟩ := hv
    obtain ⟨c3, hc, h⟩ := h
    subst hc
    show ma_wp X d w 156 10 [(3, .inr (.inr (some 79))), (0, .inr (.inr (some 64))), (1, .inl o), (2, .inl b)] [.inr (.inr (some c3))] S1 _
    refine zw_sto hm_156 dX11_hold_10 [(4, .inr (.inr (some c3))), (3, .inr (.inr (some 79))), (0, .inr (.inr (some 64))), (1, .inl o), (2, .inl b)] rfl rfl rfl ?_
    refine zw_push hm_156 dX11_hold_12 (v := .inr (.inr (some 79))) rfl ?_
    refine zw_push hm_156 dX11_hold_13 (v := .inr (.inr (some c3))) rfl ?_
    refine zw_cv hm_156 dX11_hold_15 v_11_185_8 hm_269 [.inr (.inr (some c3))] [] rfl (zT_rt hS1 s_79 rfl) ⟨by omega, by omega⟩ rfl ?_
    show ma_wp X (d - 1) (w - 21) 269 0 [(0, .inr (.inr (some 79))), (1, .inr (.inr (some c3)))] [] S1 _
    refine zw_push hm_269 dX1_canHold_0 (v := .inl (1 : Int32)) rfl ?_
    refine zw_bret hm_269 dX1_canHold_1 (by decide) ?_
    show ma_wp X d w 156 18 [(4, .inr (.inr (some c3))), (3, .inr (.inr (some 79))), (0, .inr (.inr (some 64))), (1, .inl o), (2, .inl b)] [.inl (1 : Int32)] S1 _
    refine zw_if0 hm_156 dX11_hold_18 (t := 33) rfl zc0_eq (fun hc => absurd hc (by decide)) (fun _ => ?_)
    refine zw_push hm_156 dX11_hold_21 (v := .inl b) rfl ?_
    refine zw_if0 hm_156 dX11_hold_22 (t := 41) rfl zc0_ne ?_ ?_
    · intro hc
      rw [if_neg hc] at h
      refine zw_push hm_156 dX11_hold_41 (v := .inr (.inr (some 64))) rfl ?_
      refine zw_gf hm_156 dX11_hold_42 (v := .inr (.inr (some 69))) (zT_is hS1 s_64) (zT_t hS1 s_64) rfl f_11_26_11 (zT_f hS1 r_64_8) ?_
      refine zw_push hm_156 dX11_hold_45 (v := .inr (.inr (some c3))) rfl ?_
      refine zw_push hm_156 dX11_hold_47 (v := .inl b) rfl ?_
      refine zw_if0 hm_156 dX11_hold_48 (t := 55) rfl zc0_eq ?_ ?_
      · intro hc
        rw [if_pos hc] at h
        refine zw_push hm_156 dX11_hold_55 (v := .inl (-1 : Int32)) rfl ?_
        refine zw_cv hm_156 dX11_hold_56 v_11_195_7 hm_97 [.inl (-1 : Int32), .inr (.inr (some c3))] [] rfl (zT_rt hS1 s_69 rfl) ⟨by omega, by omega⟩ rfl (zw_mono h (zv_go ?_ ?_))
        · intro S4 hv
          obtain ⟨hS4, h⟩ := hv
          refine zw_push hm_156 dX11_hold_59 (v := .inr (.inr (some 79))) rfl ?_
          refine zw_push hm_156 dX11_hold_60 (v := .inr (.inr (some c3))) rfl ?_
          refine zw_cv hm_156 dX11_hold_62 v_11_157_8 hm_266 [.inr (.inr (some c3))] [] rfl (zT_rt hS4 s_79 rfl) ⟨by omega, by omega⟩ rfl ?_
          show ma_wp X (d - 1) (w - 21) 266 0 [(0, .inr (.inr (some 79))), (1, .inr (.inr (some c3)))] [] S4 _
          refine zw_vret hm_266 dX1_noteFewer_0 ?_
          show ma_wp X d w 156 65 [(4, .inr (.inr (some c3))), (3, .inr (.inr (some 79))), (0, .inr (.inr (some 64))), (1, .inl o), (2, .inl b)] [] S4 _
          refine zw_push hm_156 dX11_hold_65 (v := .inr (.inr (some c3))) rfl ?_
          obtain ⟨hg, h⟩ := h
          refine zw_gf hm_156 dX11_hold_67 (v := .inl (mI S4 c3 7)) (zT_tis hS4 hg) (zT_tt hS4 hg) rfl f_11_189_9 rfl ?_
          exact zw_iret hm_156 dX11_hold_70 h
        · intro x S9 hx
          exact ⟨by decide, hx⟩
      · intro hc
        rw [if_neg hc] at h
        refine zw_push hm_156 dX11_hold_51 (v := .inl (1 : Int32)) rfl ?_
        refine zw_goto hm_156 dX11_hold_52 (t := 56) rfl ?_
        refine zw_cv hm_156 dX11_hold_56 v_11_195_7 hm_97 [.inl (1 : Int32), .inr (.inr (some c3))] [] rfl (zT_rt hS1 s_69 rfl) ⟨by omega, by omega⟩ rfl (zw_mono h (zv_go ?_ ?_))
        · intro S6 hv
          obtain ⟨hS6, h⟩ := hv
          refine zw_push hm_156 dX11_hold_59 (v := .inr (.inr (some 79))) rfl ?_
          refine zw_push hm_156 dX11_hold_60 (v := .inr (.inr (some c3))) rfl ?_
          refine zw_cv hm_156 dX11_hold_62 v_11_157_8 hm_266 [.inr (.inr (some c3))] [] rfl (zT_rt hS6 s_79 rfl) ⟨by omega, by omega⟩ rfl ?_
          show ma_wp X (d - 1) (w - 21) 266 0 [(0, .inr (.inr (some 79))), (1, .inr (.inr (some c3)))] [] S6 _
          refine zw_vret hm_266 dX1_noteFewer_0 ?_
          show ma_wp X d w 156 65 [(4, .inr (.inr (some c3))), (3, .inr (.inr (some 79))), (0, .inr (.inr (some 64))), (1, .inl o), (2, .inl b)] [] S6 _
          refine zw_push hm_156 dX11_hold_65 (v := .inr (.inr (some c3))) rfl ?_
          obtain ⟨hg, h⟩ := h
          refine zw_gf hm_156 dX11_hold_67 (v := .inl (mI S6 c3 7)) (zT_tis hS6 hg) (zT_tt hS6 hg) rfl f_11_189_9 rfl ?_
          exact zw_iret hm_156 dX11_hold_70 h
        · intro x S9 hx
          exact ⟨by decide, hx⟩
    · intro hc
      rw [if_pos (Classical.not_not.mp hc)] at h
      refine zw_push hm_156 dX11_hold_25 (v := .inr (.inr (some c3))) rfl ?_
      obtain ⟨hg, h⟩ := h
      refine zw_gf hm_156 dX11_hold_27 (v := .inl (mI S1 c3 7)) (zT_tis hS1 hg) (zT_tt hS1 hg) rfl f_11_189_9 rfl ?_
      refine zw_if0 hm_156 dX11_hold_30 (t := 41) rfl zc0_ne ?_ ?_
      · intro hc
        rw [if_neg hc] at h
        refine zw_push hm_156 dX11_hold_41 (v := .inr (.inr (some 64))) rfl ?_
        refine zw_gf hm_156 dX11_hold_42 (v := .inr (.inr (some 69))) (zT_is hS1 s_64) (zT_t hS1 s_64) rfl f_11_26_11 (zT_f hS1 r_64_8) ?_
        refine zw_push hm_156 dX11_hold_45 (v := .inr (.inr (some c3))) rfl ?_
        refine zw_push hm_156 dX11_hold_47 (v := .inl b) rfl ?_
        refine zw_if0 hm_156 dX11_hold_48 (t := 55) rfl zc0_eq ?_ ?_
        · intro hc
          rw [if_pos hc] at h
          refine zw_push hm_156 dX11_hold_55 (v := .inl (-1 : Int32)) rfl ?_
          refine zw_cv hm_156 dX11_hold_56 v_11_195_7 hm_97 [.inl (-1 : Int32), .inr (.inr (some c3))] [] rfl (zT_rt hS1 s_69 rfl) ⟨by omega, by omega⟩ rfl (zw_mono h (zv_go ?_ ?_))
          · intro S8 hv
            obtain ⟨hS8, h⟩ := hv
            refine zw_push hm_156 dX11_hold_59 (v := .inr (.inr (some 79))) rfl ?_
            refine zw_push hm_156 dX11_hold_60 (v := .inr (.inr (some c3))) rfl ?_
            refine zw_cv hm_156 dX11_hold_62 v_11_157_8 hm_266 [.inr (.inr (some c3))] [] rfl (zT_rt hS8 s_79 rfl) ⟨by omega, by omega⟩ rfl ?_
            show ma_wp X (d - 1) (w - 21) 266 0 [(0, .inr (.inr (some 79))), (1, .inr (.inr (some c3)))] [] S8 _
            refine zw_vret hm_266 dX1_noteFewer_0 ?_
            show ma_wp X d w 156 65 [(4, .inr (.inr (some c3))), (3, .inr (.inr (some 79))), (0, .inr (.inr (some 64))), (1, .inl o), (2, .inl b)] [] S8 _
            refine zw_push hm_156 dX11_hold_65 (v := .inr (.inr (some c3))) rfl ?_
            obtain ⟨hg, h⟩ := h
            refine zw_gf hm_156 dX11_hold_67 (v := .inl (mI S8 c3 7)) (zT_tis hS8 hg) (zT_tt hS8 hg) rfl f_11_189_9 rfl ?_
            exact zw_iret hm_156 dX11_hold_70 h
          · intro x S9 hx
            exact ⟨by decide, hx⟩
        · intro hc
          rw [if_neg hc] at h
          refine zw_push hm_156 dX11_hold_51 (v := .inl (1 : Int32)) rfl ?_
          refine zw_goto hm_156 dX11_hold_52 (t := 56) rfl ?_
          refine zw_cv hm_156 dX11_hold_56 v_11_195_7 hm_97 [.inl (1 : Int32), .inr (.inr (some c3))] [] rfl (zT_rt hS1 s_69 rfl) ⟨by omega, by omega⟩ rfl (zw_mono h (zv_go ?_ ?_))
          · intro S10 hv
            obtain ⟨hS10, h⟩ := hv
            refine zw_push hm_156 dX11_hold_59 (v := .inr (.inr (some 79))) rfl ?_
            refine zw_push hm_156 dX11_hold_60 (v := .inr (.inr (some c3))) rfl ?_
            refine zw_cv hm_156 dX11_hold_62 v_11_157_8 hm_266 [.inr (.inr (some c3))] [] rfl (zT_rt hS10 s_79 rfl) ⟨by omega, by omega⟩ rfl ?_
            show ma_wp X (d - 1) (w - 21) 266 0 [(0, .inr (.inr (some 79))), (1, .inr (.inr (some c3)))] [] S10 _
            refine zw_vret hm_266 dX1_noteFewer_0 ?_
            show ma_wp X d w 156 65 [(4, .inr (.inr (some c3))), (3, .inr (.inr (some 79))), (0, .inr (.inr (some 64))), (1, .inl o), (2, .inl b)] [] S10 _
            refine zw_push hm_156 dX11_hold_65 (v := .inr (.inr (some c3))) rfl ?_
            obtain ⟨hg, h⟩ := h
            refine zw_gf hm_156 dX11_hold_67 (v := .inl (mI S10 c3 7)) (zT_tis hS10 hg) (zT_tt hS10 hg) rfl f_11_189_9 rfl ?_
            exact zw_iret hm_156 dX11_hold_70 h
          · intro x S9 hx
            exact ⟨by decide, hx⟩
      · intro hc
        rw [if_pos (Classical.not_not.mp hc)] at h
        exact zw_thr hm_156 dX11_hold_33 dX11_hold_36 dX11_hold_37 dX11_hold_40 x_11_192_194 n_11_192 (by omega) (by show 0 + 81 ≤ w; omega) h
  · intro x S9 hx
    exact ⟨by decide, hx⟩
theorem sp_156_64_p79 {X : Nat × (Nat → Int32)} {d w : Nat} {f : Nat → Nat → Int32} {r : Nat → Nat → Option Nat} {C Z N : Nat} {Q : Option ma_V ⊕ Nat → ma_S → Prop} {S : ma_S} (o : Int32) (b : Int32) (hd : 7 ≤ d) (hw : 111 ≤ w) (hI : zB f r C Z N S) (hr : r 64 11 = some 79) (hpre0 : 0 ≤ b.toInt) (hpre1 : b.toInt ≤ 1) (K : ∀ v S', zB f r C Z N S' → (True) → Q (.inl (some (.inl v))) S') (KX : ∀ x S', (x = 3 ∨ x = 4 ∨ x = 6) → zB f r C Z N S' → Q (.inr x) (ma_bump S')) : ma_wp X d w 156 0 [(0, .inr (.inr (some 64))), (1, .inl o), (2, .inl b)] [] S Q := by
  refine g_156_64_p79_0 o b (by omega) (by omega) (zG_T hI) ?_
  refine ⟨((zG_r hI (by decide)).trans hr), ?_⟩
  refine ⟨((zG_r hI (by decide)).trans hr), ?_⟩
  have b1 := i_bd o
  refine sp_149_64 (o) (by omega) (by omega) (zB_dn_zI hI)  (fun v2 S1 hL_S1 hq_v2 => zo_n ⟨zG_T hL_S1, ?_⟩) (fun x S9 hx h9 => zo_x (KX x S9 (by omega) (zB_up_zI hI h9)))
  have hI_S1 := zB_up_zI hI hL_S1
  obtain ⟨c3, hc, th_c3⟩ := hq_v2
  refine ⟨c3, hc, ?_⟩
  have b2 := i_bd b
  have li3 : (0 : Int32).toInt = 0 := rfl
  refine zd (fun h4 => ?_) (fun h4 => ?_)
  · skip
    have g5 := i_eq h4
    refine ⟨zG_n hI_S1 th_c3, ?_⟩
    have b6 := i_bd (mI S1 c3 7)
    refine zd (fun h7 => ?_) (fun h7 => ?_)
    · skip
      have g8 := i_eq h7
      exact KX 6 _ (by decide) hI_S1
    · skip
      have g9 := i_ne h7
      refine zd (fun h10 => ?_) (fun h10 => ?_)
      · skip
        have g11 := i_eq h10
        have li12 : (-1 : Int32).toInt = -1 := rfl
        refine sp_97_69 c3 ((-1 : Int32)) (by omega) (by omega) (zB_dn_zI hI_S1) th_c3 (fun S8 hL_S8 => zv_n ⟨zG_T hL_S8, ?_⟩)
        have hI_S8 := zB_up_zI hI_S1 hL_S8
        refine ⟨zG_n hI_S8 th_c3, ?_⟩
        have b13 := i_bd (mI S8 c3 7)
        exact K ((mI S8 c3 7)) _ hI_S8 trivial
      · skip
        have g14 := i_ne h10
        have li15 : (1 : Int32).toInt = 1 := rfl
        refine sp_97_69 c3 ((1 : Int32)) (by omega) (by omega) (zB_dn_zI hI_S1) th_c3 (fun S10 hL_S10 => zv_n ⟨zG_T hL_S10, ?_⟩)
        have hI_S10 := zB_up_zI hI_S1 hL_S10
        refine ⟨zG_n hI_S10 th_c3, ?_⟩
        have b16 := i_bd (mI S10 c3 7)
        exact K ((mI S10 c3 7)) _ hI_S10 trivial
  · skip
    have g17 := i_ne h4
    refine zd (fun h18 => ?_) (fun h18 => ?_)
    · skip
      have g19 := i_eq h18
      have li20 : (-1 : Int32).toInt = -1 := rfl
      refine sp_97_69 c3 ((-1 : Int32)) (by omega) (by omega) (zB_dn_zI hI_S1) th_c3 (fun S4 hL_S4 => zv_n ⟨zG_T hL_S4, ?_⟩)
      have hI_S4 := zB_up_zI hI_S1 hL_S4
      refine ⟨zG_n hI_S4 th_c3, ?_⟩
      have b21 := i_bd (mI S4 c3 7)
      exact K ((mI S4 c3 7)) _ hI_S4 trivial
    · skip
      have g22 := i_ne h18
      have li23 : (1 : Int32).toInt = 1 := rfl
      refine sp_97_69 c3 ((1 : Int32)) (by omega) (by omega) (zB_dn_zI hI_S1) th_c3 (fun S6 hL_S6 => zv_n ⟨zG_T hL_S6, ?_⟩)
      have hI_S6 := zB_up_zI hI_S1 hL_S6
      refine ⟨zG_n hI_S6 th_c3, ?_⟩
      have b24 := i_bd (mI S6 c3 7)
      exact K ((mI S6 c3 7)) _ hI_S6 trivial
theorem g_158_64_p79_0 {X : Nat × (Nat → Int32)} {d w : Nat} {S : ma_S} {Q : Option ma_V ⊕ Nat → ma_S → Prop} (rt : Int32) (hd : 7 ≤ d) (hw : 134 ≤ w) (hS : zT S) (h : if rt < 0 then (Q (.inr 2) (ma_bump S)) else (if (16 : Int32) ≤ rt then (Q (.inr 2) (ma_bump S)) else (mR S 64 11 = some 79 ∧ (mR S 64 11 = some 79 ∧ (ma_wp X (d - 1) (w - 22) 98 0 [(0, .inr (.inr (some 69)))] [] S (zo (fun v2 S1 => zT S1 ∧ ((v2 = none → Q (.inl (some (.inl (-1 : Int32)))) S1) ∧ (∀ c3, v2 = some c3 → ma_wp X (d - 1) (w - 24) 145 0 [(0, .inr (.inr (some 64))), (1, .inr (.inr (some 79))), (2, .inl rt), (3, .inr (.inr (some c3)))] [] S1 (zo (fun v5 S4 => zT S4 ∧ ((126 ≤ c3 ∧ c3 < mN S4) ∧ (Q (.inl (some (.inl (mI S4 c3 0)))) S4))) (fun x S9 => Q (.inr x) S9))))) (fun x S9 => Q (.inr x) S9))))))) : ma_wp X d w 158 0 [(0, .inr (.inr (some 64))), (1, .inl rt)] [] S Q := by
  refine zw_push hm_158 dX11_granted_0 (v := .inl rt) rfl ?_
  refine zw_cs hm_158 dX11_granted_1 pn_11_109 sl_11_109 hm_142 [.inl rt] [] rfl ⟨by omega, by omega⟩ rfl ?_
  show ma_wp X (d - 1) (w - 20) 142 0 [(0, .inl rt)] [] S _
  refine zw_push hm_142 dX11_isSlot_0 (v := .inl rt) rfl ?_
  refine zw_if0 hm_142 dX11_isSlot_1 (t := 14) rfl zc0_lt ?_ ?_
  · intro hc
    rw [if_pos hc] at h
    refine zw_push hm_142 dX11_isSlot_14 (v := .inl (0 : Int32)) rfl ?_
    refine zw_bret hm_142 dX11_isSlot_15 (by decide) ?_
    show ma_wp X d w 158 4 [(0, .inr (.inr (some 64))), (1, .inl rt)] [.inl (0 : Int32)] S _
    refine zw_if0 hm_158 dX11_granted_4 (t := 15) rfl zc0_ne (fun hc => absurd hc (by decide)) (fun _ => ?_)
    exact zw_thr hm_158 dX11_granted_7 dX11_granted_10 dX11_granted_11 dX11_granted_14 x_11_79_81 n_11_79 (by omega) (by show 0 + 81 ≤ w; omega) h
  · intro hc
    rw [if_neg hc] at h
    refine zw_push hm_142 dX11_isSlot_4 (v := .inl rt) rfl ?_
    refine zw_push hm_142 dX11_isSlot_5 (v := .inl (16 : Int32)) rfl ?_
    refine zw_if2 hm_142 dX11_isSlot_7 (t := 14) rfl zc2_ge ?_ ?_
    · intro hc
      rw [if_pos hc] at h
      refine zw_push hm_142 dX11_isSlot_14 (v := .inl (0 : Int32)) rfl ?_
      refine zw_bret hm_142 dX11_isSlot_15 (by decide) ?_
      show ma_wp X d w 158 4 [(0, .inr (.inr (some 64))), (1, .inl rt)] [.inl (0 : Int32)] S _
      refine zw_if0 hm_158 dX11_granted_4 (t := 15) rfl zc0_ne (fun hc => absurd hc (by decide)) (fun _ => ?_)
      exact zw_thr hm_158 dX11_granted_7 dX11_granted_10 dX11_granted_11 dX11_granted_14 x_11_79_81 n_11_79 (by omega) (by show 0 + 81 ≤ w; omega) h
    · intro hc
      rw [if_neg hc] at h
      refine zw_push hm_142 dX11_isSlot_10 (v := .inl (1 : Int32)) rfl ?_
      refine zw_goto hm_142 dX11_isSlot_11 (t := 15) rfl ?_
      refine zw_bret hm_142 dX11_isSlot_15 (by decide) ?_
      show ma_wp X d w 158 4 [(0, .inr (.inr (some 64))), (1, .inl rt)] [.inl (1 : Int32)] S _
      refine zw_if0 hm_158 dX11_granted_4 (t := 15) rfl zc0_ne (fun _ => ?_) (fun hc => absurd (by decide) hc)
      refine zw_push hm_158 dX11_granted_15 (v := .inr (.inr (some 64))) rfl ?_
      refine zw_cv hm_158 dX11_granted_16 v_11_119_11 hm_144 [] [] rfl (zT_rt hS s_64 rfl) ⟨by omega, by omega⟩ rfl ?_
      show ma_wp X (d - 1) (w - 20) 144 0 [(0, .inr (.inr (some 64)))] [] S _
      refine zw_push hm_144 dX11_needCollector_0 (v := .inr (.inr (some 64))) rfl ?_
      obtain ⟨hg, h⟩ := h
      refine zw_gf hm_144 dX11_needCollector_1 (v := .inr (.inr (some 79))) (zT_is hS s_64) (zT_t hS s_64) rfl f_11_98_11 (congrArg (fun z => Sum.inr (Sum.inr z)) hg) ?_
      refine zw_ifnonnull hm_144 dX11_needCollector_4 (t := 15) rfl (fun z => by cases z) (fun _ _ => ?_)
      refine zw_push hm_144 dX11_needCollector_15 (v := .inr (.inr (some 64))) rfl ?_
      obtain ⟨hg, h⟩ := h
      refine zw_gf hm_144 dX11_needCollector_16 (v := .inr (.inr (some 79))) (zT_is hS s_64) (zT_t hS s_64) rfl f_11_98_11 (congrArg (fun z => Sum.inr (Sum.inr z)) hg) ?_
      refine zw_aret hm_144 dX11_needCollector_19 ?_
      show ma_wp X d w 158 19 [(0, .inr (.inr (some 64))), (1, .inl rt)] [.inr (.inr (some 79))] S _
      refine zw_sto hm_158 dX11_granted_19 [(2, .inr (.inr (some 79))), (0, .inr (.inr (some 64))), (1, .inl rt)] rfl rfl rfl ?_
      refine zw_push hm_158 dX11_granted_20 (v := .inr (.inr (some 64))) rfl ?_
      refine zw_gf hm_158 dX11_granted_21 (v := .inr (.inr (some 69))) (zT_is hS s_64) (zT_t hS s_64) rfl f_11_26_11 (zT_f hS r_64_8) ?_
      refine zw_cv hm_158 dX11_granted_24 v_11_203_7 hm_98 [] [] rfl (zT_rt hS s_69 rfl) ⟨by omega, by omega⟩ rfl (zw_mono h (zo_go ?_ ?_))
      · intro v2 S1 hv
        obtain ⟨hS1, h⟩ := hv
        refine zw_sto hm_158 dX11_granted_27 [(3, .inr (.inr v2)), (2, .inr (.inr (some 79))), (0, .inr (.inr (some 64))), (1, .inl rt)] rfl rfl rfl ?_
        refine zw_push hm_158 dX11_granted_28 (v := .inr (.inr v2)) rfl ?_
        refine zw_ifnonnull hm_158 dX11_granted_29 (t := 34) rfl ?_ ?_
        · intro hc
          have h := h.1 hc
          (try rw [hc])
          show ma_wp X d w 158 32 [(3, .inr (.inr none)), (2, .inr (.inr (some 79))), (0, .inr (.inr (some 64))), (1, .inl rt)] [] S1 _
          refine zw_push hm_158 dX11_granted_32 (v := .inl (-1 : Int32)) rfl ?_
          exact zw_iret hm_158 dX11_granted_33 h
        · intro c3 hc
          have h := h.2 c3 hc
          (try rw [hc])
          show ma_wp X d w 158 34 [(3, .inr (.inr (some c3))), (2, .inr (.inr (some 79))), (0, .inr (.inr (some 64))), (1, .inl rt)] [] S1 _
          refine zw_push hm_158 dX11_granted_34 (v := .inr (.inr (some 64))) rfl ?_
          refine zw_push hm_158 dX11_granted_35 (v := .inr (.inr (some 79))) rfl ?_
          refine zw_push hm_158 dX11_granted_36 (v := .inl rt) rfl ?_
          refine zw_push hm_158 dX11_granted_37 (v := .inr (.inr (some c3))) rfl ?_
          refine zw_cv hm_158 dX11_granted_38 v_11_169_11 hm_145 [.inr (.inr (some c3)), .inl rt, .inr (.inr (some 79))] [] rfl (zT_rt hS1 s_64 rfl) ⟨by omega, by omega⟩ rfl (zw_mono h (zo_go ?_ ?_))
          · intro v5 S4 hv
            obtain ⟨hS4, h⟩ := hv
            refine zw_stk hm_158 dX11_granted_41 (st' := []) rfl rfl ?_
            refine zw_push hm_158 dX11_granted_42 (v := .inr (.inr (some c3))) rfl ?_
            obtain ⟨hg, h⟩ := h
            refine zw_gf hm_158 dX11_granted_43 (v := .inl (mI S4 c3 0)) (zT_tis hS4 hg) (zT_tt hS4 hg) rfl f_11_182_9 rfl ?_
            exact zw_iret hm_158 dX11_granted_46 h
          · intro x S9 hx
            exact ⟨by decide, hx⟩
      · intro x S9 hx
        exact ⟨by decide, hx⟩
theorem sp_158_64_p79 {X : Nat × (Nat → Int32)} {d w : Nat} {f : Nat → Nat → Int32} {r : Nat → Nat → Option Nat} {C Z N : Nat} {Q : Option ma_V ⊕ Nat → ma_S → Prop} {S : ma_S} (rt : Int32) (hd : 7 ≤ d) (hw : 134 ≤ w) (hI : zB f r C Z N S) (hr : r 64 11 = some 79)  (K : ∀ v S', zB f r C Z N S' → (True) → Q (.inl (some (.inl v))) S') (KX : ∀ x S', (x = 2 ∨ x = 3) → zB f r C Z N S' → Q (.inr x) (ma_bump S')) : ma_wp X d w 158 0 [(0, .inr (.inr (some 64))), (1, .inl rt)] [] S Q := by
  refine g_158_64_p79_0 rt (by omega) (by omega) (zG_T hI) ?_
  have b1 := i_bd rt
  have li2 : (0 : Int32).toInt = 0 := rfl
  refine zd (fun h3 => ?_) (fun h3 => ?_)
  · skip
    have g4 := i_lt h3
    exact KX 2 _ (by decide) hI
  · skip
    have g5 := i_nlt h3
    have li6 : (16 : Int32).toInt = 16 := rfl
    refine zd (fun h7 => ?_) (fun h7 => ?_)
    · skip
      have g8 := i_le h7
      exact KX 2 _ (by decide) hI
    · skip
      have g9 := i_nle h7
      refine ⟨((zG_r hI (by decide)).trans hr), ?_⟩
      refine ⟨((zG_r hI (by decide)).trans hr), ?_⟩
      refine sp_98_69  (by omega) (by omega) (zB_dn_zI hI)  (fun v2 S1 hL_S1 hq_v2 => zo_n ⟨zG_T hL_S1, ?_⟩)
      have hI_S1 := zB_up_zI hI hL_S1
      refine ⟨fun _ => ?_, fun c3 hc => ?_⟩
      · skip
        have li10 : (-1 : Int32).toInt = -1 := rfl
        exact K ((-1 : Int32)) _ hI_S1 trivial
      · skip
        have th_c3 := hq_v2 c3 hc
        subst hc
        refine sp_145_64_79 (rt) ((some c3)) (by omega) (by omega) (zB_dn_zJ79 hI_S1) (fun _ z => by cases z; exact th_c3) (fun v5 S4 hL_S4 hq_v5 => zo_n ⟨zG_T hL_S4, ?_⟩)
        have hI_S4 := zB_up_zJ79 hI_S1 hL_S4
        refine ⟨zG_n hI_S4 th_c3, ?_⟩
        have f11 := zG_th hI_S4 th_c3
        exact K ((mI S4 c3 0)) _ hI_S4 trivial
theorem g_159_64_p79_0 {X : Nat × (Nat → Int32)} {d w : Nat} {S : ma_S} {Q : Option ma_V ⊕ Nat → ma_S → Prop}  (hd : 7 ≤ d) (hw : 179 ≤ w) (hS : zT S) (h : mR S 64 11 = some 79 ∧ (mR S 64 11 = some 79 ∧ (ma_wp X (d - 1) (w - 20) 109 0 [(0, .inr (.inr (some 79)))] [] S (zi (fun v2 S1 => zT S1 ∧ (Q (.inl (some (.inl v2))) S1)) (fun _ _ => False))))) : ma_wp X d w 159 0 [(0, .inr (.inr (some 64)))] [] S Q := by
  refine zw_push hm_159 dX11_clean_0 (v := .inr (.inr (some 64))) rfl ?_
  refine zw_cv hm_159 dX11_clean_1 v_11_119_11 hm_144 [] [] rfl (zT_rt hS s_64 rfl) ⟨by omega, by omega⟩ rfl ?_
  show ma_wp X (d - 1) (w - 20) 144 0 [(0, .inr (.inr (some 64)))] [] S _
  refine zw_push hm_144 dX11_needCollector_0 (v := .inr (.inr (some 64))) rfl ?_
  obtain ⟨hg, h⟩ := h
  refine zw_gf hm_144 dX11_needCollector_1 (v := .inr (.inr (some 79))) (zT_is hS s_64) (zT_t hS s_64) rfl f_11_98_11 (congrArg (fun z => Sum.inr (Sum.inr z)) hg) ?_
  refine zw_ifnonnull hm_144 dX11_needCollector_4 (t := 15) rfl (fun z => by cases z) (fun _ _ => ?_)
  refine zw_push hm_144 dX11_needCollector_15 (v := .inr (.inr (some 64))) rfl ?_
  obtain ⟨hg, h⟩ := h
  refine zw_gf hm_144 dX11_needCollector_16 (v := .inr (.inr (some 79))) (zT_is hS s_64) (zT_t hS s_64) rfl f_11_98_11 (congrArg (fun z => Sum.inr (Sum.inr z)) hg) ?_
  refine zw_aret hm_144 dX11_needCollector_19 ?_
  show ma_wp X d w 159 4 [(0, .inr (.inr (some 64)))] [.inr (.inr (some 79))] S _
  refine zw_cv hm_159 dX11_clean_4 v_11_207_8 hm_109 [] [] rfl (zT_rt hS s_79 rfl) ⟨by omega, by omega⟩ rfl (zw_mono h (zi_go ?_ ?_))
  · intro v2 S1 hv
    obtain ⟨hS1, h⟩ := hv
    exact zw_iret hm_159 dX11_clean_7 h
  · intro x S9 hx
    exact hx.elim
theorem sp_159_64_p79 {X : Nat × (Nat → Int32)} {d w : Nat} {f : Nat → Nat → Int32} {r : Nat → Nat → Option Nat} {C Z N : Nat} {Q : Option ma_V ⊕ Nat → ma_S → Prop} {S : ma_S}  (hd : 7 ≤ d) (hw : 179 ≤ w) (hI : zB f r C Z N S) (hr : r 64 11 = some 79)  (K : ∀ v S', zB f r C Z N S' → (True) → Q (.inl (some (.inl v))) S') (KX : ∀ x S', (x = 3) → zB f r C Z N S' → Q (.inr x) (ma_bump S')) : ma_wp X d w 159 0 [(0, .inr (.inr (some 64)))] [] S Q := by
  refine g_159_64_p79_0  (by omega) (by omega) (zG_T hI) ?_
  refine ⟨((zG_r hI (by decide)).trans hr), ?_⟩
  refine ⟨((zG_r hI (by decide)).trans hr), ?_⟩
  refine sp_109_79  (by omega) (by omega) (zB_dn_zJ79 hI)  (fun v2 S1 hL_S1 hp_v2 => zi_n ⟨zG_T hL_S1, ?_⟩)
  have hI_S1 := zB_up_zJ79 hI hL_S1
  have b1 := i_bd v2
  exact K (v2) _ hI_S1 trivial
theorem g_160_64_p79_0 {X : Nat × (Nat → Int32)} {d w : Nat} {S : ma_S} {Q : Option ma_V ⊕ Nat → ma_S → Prop} (n : Int32) (hd : 7 ≤ d) (hw : 114 ≤ w) (hS : zT S) (h : if n < 0 then (Q (.inr 2) (ma_bump S)) else (if n ≤ (1000 : Int32) then (mR S 64 11 = some 79 ∧ (mR S 64 11 = some 79 ∧ (Q (.inr 6) (ma_bump S)))) else (Q (.inr 2) (ma_bump S)))) : ma_wp X d w 160 0 [(0, .inr (.inr (some 64))), (1, .inl n)] [] S Q := by
  refine zw_push hm_160 dX11_step_0 (v := .inl n) rfl ?_
  refine zw_if0 hm_160 dX11_step_1 (t := 11) rfl zc0_lt ?_ ?_
  · intro hc
    rw [if_pos hc] at h
    exact zw_thr hm_160 dX11_step_11 dX11_step_14 dX11_step_15 dX11_step_18 x_11_79_81 n_11_79 (by omega) (by show 0 + 81 ≤ w; omega) h
  · intro hc
    rw [if_neg hc] at h
    refine zw_push hm_160 dX11_step_4 (v := .inl n) rfl ?_
    refine zw_push hm_160 dX11_step_5 (v := .inl (1000 : Int32)) rfl ?_
    refine zw_if2 hm_160 dX11_step_8 (t := 19) rfl zc2_le ?_ ?_
    · intro hc
      rw [if_pos hc] at h
      refine zw_push hm_160 dX11_step_19 (v := .inr (.inr (some 64))) rfl ?_
      refine zw_cv hm_160 dX11_step_20 v_11_119_11 hm_144 [] [] rfl (zT_rt hS s_64 rfl) ⟨by omega, by omega⟩ rfl ?_
      show ma_wp X (d - 1) (w - 20) 144 0 [(0, .inr (.inr (some 64)))] [] S _
      refine zw_push hm_144 dX11_needCollector_0 (v := .inr (.inr (some 64))) rfl ?_
      obtain ⟨hg, h⟩ := h
      refine zw_gf hm_144 dX11_needCollector_1 (v := .inr (.inr (some 79))) (zT_is hS s_64) (zT_t hS s_64) rfl f_11_98_11 (congrArg (fun z => Sum.inr (Sum.inr z)) hg) ?_
      refine zw_ifnonnull hm_144 dX11_needCollector_4 (t := 15) rfl (fun z => by cases z) (fun _ _ => ?_)
      refine zw_push hm_144 dX11_needCollector_15 (v := .inr (.inr (some 64))) rfl ?_
      obtain ⟨hg, h⟩ := h
      refine zw_gf hm_144 dX11_needCollector_16 (v := .inr (.inr (some 79))) (zT_is hS s_64) (zT_t hS s_64) rfl f_11_98_11 (congrArg (fun z => Sum.inr (Sum.inr z)) hg) ?_
      refine zw_aret hm_144 dX11_needCollector_19 ?_
      show ma_wp X d w 160 23 [(0, .inr (.inr (some 64))), (1, .inl n)] [.inr (.inr (some 79))] S _
      refine zw_sto hm_160 dX11_step_23 [(3, .inr (.inr (some 79))), (0, .inr (.inr (some 64))), (1, .inl n)] rfl rfl rfl ?_
      refine zw_push hm_160 dX11_step_24 (v := .inr (.inr (some 79))) rfl ?_
      refine zw_iof hm_160 dX11_step_25 (zT_is hS s_79) (zT_t hS s_79) rfl ct_11_58_8 (v := (0 : Int32)) rfl ?_
      refine zw_if0 hm_160 dX11_step_28 (t := 42) rfl zc0_eq (fun _ => ?_) (fun hc => absurd (by decide) hc)
      exact zw_thr hm_160 dX11_step_42 dX11_step_45 dX11_step_46 dX11_step_49 x_11_192_194 n_11_192 (by omega) (by show 0 + 81 ≤ w; omega) h
    · intro hc
      rw [if_neg hc] at h
      exact zw_thr hm_160 dX11_step_11 dX11_step_14 dX11_step_15 dX11_step_18 x_11_79_81 n_11_79 (by omega) (by show 0 + 81 ≤ w; omega) h
theorem sp_160_64_p79 {X : Nat × (Nat → Int32)} {d w : Nat} {f : Nat → Nat → Int32} {r : Nat → Nat → Option Nat} {C Z N : Nat} {Q : Option ma_V ⊕ Nat → ma_S → Prop} {S : ma_S} (n : Int32) (hd : 7 ≤ d) (hw : 114 ≤ w) (hI : zB f r C Z N S) (hr : r 64 11 = some 79)  (K : ∀ v S', zB f r C Z N S' → (True) → Q (.inl (some (.inl v))) S') (KX : ∀ x S', (x = 2 ∨ x = 3 ∨ x = 6) → zB f r C Z N S' → Q (.inr x) (ma_bump S')) : ma_wp X d w 160 0 [(0, .inr (.inr (some 64))), (1, .inl n)] [] S Q := by
  refine g_160_64_p79_0 n (by omega) (by omega) (zG_T hI) ?_
  have b1 := i_bd n
  have li2 : (0 : Int32).toInt = 0 := rfl
  refine zd (fun h3 => ?_) (fun h3 => ?_)
  · skip
    have g4 := i_lt h3
    exact KX 2 _ (by decide) hI
  · skip
    have g5 := i_nlt h3
    have li6 : (1000 : Int32).toInt = 1000 := rfl
    refine zd (fun h7 => ?_) (fun h7 => ?_)
    · skip
      have g8 := i_le h7
      refine ⟨((zG_r hI (by decide)).trans hr), ?_⟩
      refine ⟨((zG_r hI (by decide)).trans hr), ?_⟩
      exact KX 6 _ (by decide) hI
    · skip
      have g9 := i_nle h7
      exact KX 2 _ (by decide) hI
theorem g_161_64_p79_0 {X : Nat × (Nat → Int32)} {d w : Nat} {S : ma_S} {Q : Option ma_V ⊕ Nat → ma_S → Prop} (o : Int32) (wh : Int32) (hd : 7 ≤ d) (hw : 111 ≤ w) (hS : zT S) (h : if wh < 0 then (Q (.inr 2) (ma_bump S)) else (if wh ≤ (7 : Int32) then (mR S 64 11 = some 79 ∧ (mR S 64 11 = some 79 ∧ (ma_wp X (d - 1) (w - 22) 149 0 [(0, .inr (.inr (some 64))), (1, .inl o)] [] S (zo (fun v2 S1 => zT S1 ∧ ((∃ c3, v2 = some c3 ∧ (if wh = (0 : Int32) then ((126 ≤ c3 ∧ c3 < mN S1) ∧ (Q (.inl (some (.inl (mI S1 c3 4)))) S1)) else (if wh = (1 : Int32) then ((126 ≤ c3 ∧ c3 < mN S1) ∧ (Q (.inl (some (.inl (mI S1 c3 2)))) S1)) else (if wh = (2 : Int32) then ((126 ≤ c3 ∧ c3 < mN S1) ∧ (Q (.inl (some (.inl (mI S1 c3 1)))) S1)) else (if wh = (3 : Int32) then ((126 ≤ c3 ∧ c3 < mN S1) ∧ (Q (.inl (some (.inl (mI S1 c3 5)))) S1)) else (if wh = (4 : Int32) then (Q (.inl (some (.inl (0 : Int32)))) S1) else (if wh = (5 : Int32) then (Q (.inl (some (.inl (0 : Int32)))) S1) else (if wh = (6 : Int32) then ((126 ≤ c3 ∧ c3 < mN S1) ∧ (Q (.inl (some (.inl (mI S1 c3 7)))) S1)) else ((126 ≤ c3 ∧ c3 < mN S1) ∧ (if (mI S1 c3 8) = 0 then (Q (.inl (some (.inl (0 : Int32)))) S1) else (Q (.inl (some (.inl (1 : Int32)))) S1))))))))))))) (fun x S9 => Q (.inr x) S9))))) else (Q (.inr 2) (ma_bump S)))) : ma_wp X d w 161 0 [(0, .inr (.inr (some 64))), (1, .inl o), (2, .inl wh)] [] S Q := by
  refine zw_push hm_161 dX11_about_0 (v := .inl wh) rfl ?_
  refine zw_if0 hm_161 dX11_about_1 (t := 10) rfl zc0_lt ?_ ?_
  · intro hc
    rw [if_pos hc] at h
    exact zw_thr hm_161 dX11_about_10 dX11_about_13 dX11_about_14 dX11_about_17 x_11_79_81 n_11_79 (by omega) (by show 0 + 81 ≤ w; omega) h
  · intro hc
    rw [if_neg hc] at h
    refine zw_push hm_161 dX11_about_4 (v := .inl wh) rfl ?_
    refine zw_push hm_161 dX11_about_5 (v := .inl (7 : Int32)) rfl ?_
    refine zw_if2 hm_161 dX11_about_7 (t := 18) rfl zc2_le ?_ ?_
    · intro hc
      rw [if_pos hc] at h
      refine zw_push hm_161 dX11_about_18 (v := .inr (.inr (some 64))) rfl ?_
      refine zw_cv hm_161 dX11_about_19 v_11_119_11 hm_144 [] [] rfl (zT_rt hS s_64 rfl) ⟨by omega, by omega⟩ rfl ?_
      show ma_wp X (d - 1) (w - 20) 144 0 [(0, .inr (.inr (some 64)))] [] S _
      refine zw_push hm_144 dX11_needCollector_0 (v := .inr (.inr (some 64))) rfl ?_
      obtain ⟨hg, h⟩ := h
      refine zw_gf hm_144 dX11_needCollector_1 (v := .inr (.inr (some 79))) (zT_is hS s_64) (zT_t hS s_64) rfl f_11_98_11 (congrArg (fun z => Sum.inr (Sum.inr z)) hg) ?_
      refine zw_ifnonnull hm_144 dX11_needCollector_4 (t := 15) rfl (fun z => by cases z) (fun _ _ => ?_)
      refine zw_push hm_144 dX11_needCollector_15 (v := .inr (.inr (some 64))) rfl ?_
      obtain ⟨hg, h⟩ := h
      refine zw_gf hm_144 dX11_needCollector_16 (v := .inr (.inr (some 79))) (zT_is hS s_64) (zT_t hS s_64) rfl f_11_98_11 (congrArg (fun z => Sum.inr (Sum.inr z)) hg) ?_
      refine zw_aret hm_144 dX11_needCollector_19 ?_
      show ma_wp X d w 161 22 [(0, .inr (.inr (some 64))), (1, .inl o), (2, .inl wh)] [.inr (.inr (some 79))] S _
      refine zw_sto hm_161 dX11_about_22 [(3, .inr (.inr (some 79))), (0, .inr (.inr (some 64))), (1, .inl o), (2, .inl wh)] rfl rfl rfl ?_
      refine zw_push hm_161 dX11_about_23 (v := .inr (.inr (some 64))) rfl ?_
      refine zw_push hm_161 dX11_about_24 (v := .inl o) rfl ?_
      refine zw_cv hm_161 dX11_about_25 v_11_123_11 hm_149 [.inl o] [] rfl (zT_rt hS s_64 rfl) ⟨by omega, by omega⟩ rfl (zw_mono h (zo_go ?_ ?_))
      · intro v2 S1 hv
        obtain ⟨hS1, h⟩ := hv
        obtain ⟨c3, hc, h⟩ := h
        subst hc
        show ma_wp X d w 161 28 [(3, .inr (.inr (some 79))), (0, .inr (.inr (some 64))), (1, .inl o), (2, .inl wh)] [.inr (.inr (some c3))] S1 _
        refine zw_sto hm_161 dX11_about_28 [(4, .inr (.inr (some c3))), (3, .inr (.inr (some 79))), (0, .inr (.inr (some 64))), (1, .inl o), (2, .inl wh)] rfl rfl rfl ?_
        refine zw_push hm_161 dX11_about_30 (v := .inl wh) rfl ?_
        by_cases hc0 : wh = (0 : Int32)
        · rw [if_pos hc0] at h
          refine zw_jmp hm_161 dX11_about_31 (t := 72) (st' := []) rfl rfl rfl (ma_jmp_tab (by rw [hc0]; decide +kernel)) ?_
          refine zw_push hm_161 dX11_about_72 (v := .inr (.inr (some c3))) rfl ?_
          obtain ⟨hg, h⟩ := h
          refine zw_gf hm_161 dX11_about_74 (v := .inl (mI S1 c3 4)) (zT_tis hS1 hg) (zT_tt hS1 hg) rfl f_11_214_9 rfl ?_
          exact zw_iret hm_161 dX11_about_77 h
        rw [if_neg hc0] at h
        by_cases hc1 : wh = (1 : Int32)
        · rw [if_pos hc1] at h
          refine zw_jmp hm_161 dX11_about_31 (t := 78) (st' := []) rfl rfl rfl (ma_jmp_tab (by rw [hc1]; decide +kernel)) ?_
          refine zw_push hm_161 dX11_about_78 (v := .inr (.inr (some c3))) rfl ?_
          obtain ⟨hg, h⟩ := h
          refine zw_gf hm_161 dX11_about_80 (v := .inl (mI S1 c3 2)) (zT_tis hS1 hg) (zT_tt hS1 hg) rfl f_11_217_9 rfl ?_
          exact zw_iret hm_161 dX11_about_83 h
        rw [if_neg hc1] at h
        by_cases hc2 : wh = (2 : Int32)
        · rw [if_pos hc2] at h
          refine zw_jmp hm_161 dX11_about_31 (t := 84) (st' := []) rfl rfl rfl (ma_jmp_tab (by rw [hc2]; decide +kernel)) ?_
          refine zw_push hm_161 dX11_about_84 (v := .inr (.inr (some c3))) rfl ?_
          obtain ⟨hg, h⟩ := h
          refine zw_gf hm_161 dX11_about_86 (v := .inl (mI S1 c3 1)) (zT_tis hS1 hg) (zT_tt hS1 hg) rfl f_11_220_9 rfl ?_
          exact zw_iret hm_161 dX11_about_89 h
        rw [if_neg hc2] at h
        by_cases hc3 : wh = (3 : Int32)
        · rw [if_pos hc3] at h
          refine zw_jmp hm_161 dX11_about_31 (t := 90) (st' := []) rfl rfl rfl (ma_jmp_tab (by rw [hc3]; decide +kernel)) ?_
          refine zw_push hm_161 dX11_about_90 (v := .inr (.inr (some c3))) rfl ?_
          obtain ⟨hg, h⟩ := h
          refine zw_gf hm_161 dX11_about_92 (v := .inl (mI S1 c3 5)) (zT_tis hS1 hg) (zT_tt hS1 hg) rfl f_11_223_9 rfl ?_
          exact zw_iret hm_161 dX11_about_95 h
        rw [if_neg hc3] at h
        by_cases hc4 : wh = (4 : Int32)
        · rw [if_pos hc4] at h
          refine zw_jmp hm_161 dX11_about_31 (t := 96) (st' := []) rfl rfl rfl (ma_jmp_tab (by rw [hc4]; decide +kernel)) ?_
          refine zw_push hm_161 dX11_about_96 (v := .inr (.inr (some 79))) rfl ?_
          refine zw_push hm_161 dX11_about_97 (v := .inr (.inr (some c3))) rfl ?_
          refine zw_cv hm_161 dX11_about_99 v_11_226_8 hm_270 [.inr (.inr (some c3))] [] rfl (zT_rt hS1 s_79 rfl) ⟨by omega, by omega⟩ rfl ?_
          show ma_wp X (d - 1) (w - 21) 270 0 [(0, .inr (.inr (some 79))), (1, .inr (.inr (some c3)))] [] S1 _
          refine zw_push hm_270 dX1_countOf_0 (v := .inl (0 : Int32)) rfl ?_
          refine zw_iret hm_270 dX1_countOf_1 ?_
          show ma_wp X d w 161 102 [(4, .inr (.inr (some c3))), (3, .inr (.inr (some 79))), (0, .inr (.inr (some 64))), (1, .inl o), (2, .inl wh)] [.inl (0 : Int32)] S1 _
          exact zw_iret hm_161 dX11_about_102 h
        rw [if_neg hc4] at h
        by_cases hc5 : wh = (5 : Int32)
        · rw [if_pos hc5] at h
          refine zw_jmp hm_161 dX11_about_31 (t := 103) (st' := []) rfl rfl rfl (ma_jmp_tab (by rw [hc5]; decide +kernel)) ?_
          refine zw_push hm_161 dX11_about_103 (v := .inr (.inr (some 79))) rfl ?_
          refine zw_push hm_161 dX11_about_104 (v := .inr (.inr (some c3))) rfl ?_
          refine zw_cv hm_161 dX11_about_106 v_11_229_8 hm_271 [.inr (.inr (some c3))] [] rfl (zT_rt hS1 s_79 rfl) ⟨by omega, by omega⟩ rfl ?_
          show ma_wp X (d - 1) (w - 21) 271 0 [(0, .inr (.inr (some 79))), (1, .inr (.inr (some c3)))] [] S1 _
          refine zw_push hm_271 dX1_colourOf_0 (v := .inl (0 : Int32)) rfl ?_
          refine zw_iret hm_271 dX1_colourOf_1 ?_
          show ma_wp X d w 161 109 [(4, .inr (.inr (some c3))), (3, .inr (.inr (some 79))), (0, .inr (.inr (some 64))), (1, .inl o), (2, .inl wh)] [.inl (0 : Int32)] S1 _
          exact zw_iret hm_161 dX11_about_109 h
        rw [if_neg hc5] at h
        by_cases hc6 : wh = (6 : Int32)
        · rw [if_pos hc6] at h
          refine zw_jmp hm_161 dX11_about_31 (t := 110) (st' := []) rfl rfl rfl (ma_jmp_tab (by rw [hc6]; decide +kernel)) ?_
          refine zw_push hm_161 dX11_about_110 (v := .inr (.inr (some c3))) rfl ?_
          obtain ⟨hg, h⟩ := h
          refine zw_gf hm_161 dX11_about_112 (v := .inl (mI S1 c3 7)) (zT_tis hS1 hg) (zT_tt hS1 hg) rfl f_11_189_9 rfl ?_
          exact zw_iret hm_161 dX11_about_115 h
        rw [if_neg hc6] at h
        refine zw_jmp hm_161 dX11_about_31 (t := 116) (st' := []) rfl rfl rfl (ma_jmp_def (m := 7) (by decide) (fun j hj => by
            have hj2 : j = 0 ∨ j = 1 ∨ j = 2 ∨ j = 3 ∨ j = 4 ∨ j = 5 ∨ j = 6 := by omega
            rcases hj2 with rfl | rfl | rfl | rfl | rfl | rfl | rfl
            · exact hc0
            · exact hc1
            · exact hc2
            · exact hc3
            · exact hc4
            · exact hc5
            · exact hc6
            ) rfl) ?_
        refine zw_push hm_161 dX11_about_116 (v := .inr (.inr (some c3))) rfl ?_
        obtain ⟨hg, h⟩ := h
        refine zw_gf hm_161 dX11_about_118 (v := .inl (mI S1 c3 8)) (zT_tis hS1 hg) (zT_tt hS1 hg) rfl f_11_199_9 rfl ?_
        refine zw_if0 hm_161 dX11_about_121 (t := 128) rfl zc0_eq ?_ ?_
        · intro hc
          rw [if_pos hc] at h
          refine zw_push hm_161 dX11_about_128 (v := .inl (0 : Int32)) rfl ?_
          exact zw_iret hm_161 dX11_about_129 h
        · intro hc
          rw [if_neg hc] at h
          refine zw_push hm_161 dX11_about_124 (v := .inl (1 : Int32)) rfl ?_
          refine zw_goto hm_161 dX11_about_125 (t := 129) rfl ?_
          exact zw_iret hm_161 dX11_about_129 h
      · intro x S9 hx
        exact ⟨by decide, hx⟩
    · intro hc
      rw [if_neg hc] at h
      exact zw_thr hm_161 dX11_about_10 dX11_about_13 dX11_about_14 dX11_about_17 x_11_79_81 n_11_79 (by omega) (by show 0 + 81 ≤ w; omega) h
theorem sp_161_64_p79 {X : Nat × (Nat → Int32)} {d w : Nat} {f : Nat → Nat → Int32} {r : Nat → Nat → Option Nat} {C Z N : Nat} {Q : Option ma_V ⊕ Nat → ma_S → Prop} {S : ma_S} (o : Int32) (wh : Int32) (hd : 7 ≤ d) (hw : 111 ≤ w) (hI : zB f r C Z N S) (hr : r 64 11 = some 79)  (K : ∀ v S', zB f r C Z N S' → (True) → Q (.inl (some (.inl v))) S') (KX : ∀ x S', (x = 2 ∨ x = 3 ∨ x = 4) → zB f r C Z N S' → Q (.inr x) (ma_bump S')) : ma_wp X d w 161 0 [(0, .inr (.inr (some 64))), (1, .inl o), (2, .inl wh)] [] S Q := by
  refine g_161_64_p79_0 o wh (by omega) (by omega) (zG_T hI) ?_
  have b1 := i_bd wh
  have li2 : (0 : Int32).toInt = 0 := rfl
  refine zd (fun h3 => ?_) (fun h3 => ?_)
  · skip
    have g4 := i_lt h3
    exact KX 2 _ (by decide) hI
  · skip
    have g5 := i_nlt h3
    have li6 : (7 : Int32).toInt = 7 := rfl
    refine zd (fun h7 => ?_) (fun h7 => ?_)
    · skip
      have g8 := i_le h7
      refine ⟨((zG_r hI (by decide)).trans hr), ?_⟩
      refine ⟨((zG_r hI (by decide)).trans hr), ?_⟩
      have b9 := i_bd o
      refine sp_149_64 (o) (by omega) (by omega) (zB_dn_zI hI)  (fun v2 S1 hL_S1 hq_v2 => zo_n ⟨zG_T hL_S1, ?_⟩) (fun x S9 hx h9 => zo_x (KX x S9 (by omega) (zB_up_zI hI h9)))
      have hI_S1 := zB_up_zI hI hL_S1
      obtain ⟨c3, hc, th_c3⟩ := hq_v2
      refine ⟨c3, hc, ?_⟩
      refine zd (fun h10 => ?_) (fun h10 => ?_)
      · skip
        have g11 := i_eq h10
        refine ⟨zG_n hI_S1 th_c3, ?_⟩
        have f12 := zG_th hI_S1 th_c3
        exact K ((mI S1 c3 4)) _ hI_S1 trivial
      · skip
        have g13 := i_ne h10
        have li14 : (1 : Int32).toInt = 1 := rfl
        refine zd (fun h15 => ?_) (fun h15 => ?_)
        · skip
          have g16 := i_eq h15
          refine ⟨zG_n hI_S1 th_c3, ?_⟩
          have f17 := zG_th hI_S1 th_c3
          exact K ((mI S1 c3 2)) _ hI_S1 trivial
        · skip
          have g18 := i_ne h15
          have li19 : (2 : Int32).toInt = 2 := rfl
          refine zd (fun h20 => ?_) (fun h20 => ?_)
          · skip
            have g21 := i_eq h20
            refine ⟨zG_n hI_S1 th_c3, ?_⟩
            have b22 := i_bd (mI S1 c3 1)
            exact K ((mI S1 c3 1)) _ hI_S1 trivial
          · skip
            have g23 := i_ne h20
            have li24 : (3 : Int32).toInt = 3 := rfl
            refine zd (fun h25 => ?_) (fun h25 => ?_)
            · skip
              have g26 := i_eq h25
              refine ⟨zG_n hI_S1 th_c3, ?_⟩
              have b27 := i_bd (mI S1 c3 5)
              exact K ((mI S1 c3 5)) _ hI_S1 trivial
            · skip
              have g28 := i_ne h25
              have li29 : (4 : Int32).toInt = 4 := rfl
              refine zd (fun h30 => ?_) (fun h30 => ?_)
              · skip
                have g31 := i_eq h30
                exact K ((0 : Int32)) _ hI_S1 trivial
              · skip
                have g32 := i_ne h30
                have li33 : (5 : Int32).toInt = 5 := rfl
                refine zd (fun h34 => ?_) (fun h34 => ?_)
                · skip
                  have g35 := i_eq h34
                  exact K ((0 : Int32)) _ hI_S1 trivial
                · skip
                  have g36 := i_ne h34
                  have li37 : (6 : Int32).toInt = 6 := rfl
                  refine zd (fun h38 => ?_) (fun h38 => ?_)
                  · skip
                    have g39 := i_eq h38
                    refine ⟨zG_n hI_S1 th_c3, ?_⟩
                    have b40 := i_bd (mI S1 c3 7)
                    exact K ((mI S1 c3 7)) _ hI_S1 trivial
                  · skip
                    have g41 := i_ne h38
                    refine ⟨zG_n hI_S1 th_c3, ?_⟩
                    have b42 := i_bd (mI S1 c3 8)
                    refine zd (fun h43 => ?_) (fun h43 => ?_)
                    · skip
                      have g44 := i_eq h43
                      exact K ((0 : Int32)) _ hI_S1 trivial
                    · skip
                      have g45 := i_ne h43
                      exact K ((1 : Int32)) _ hI_S1 trivial
    · skip
      have g46 := i_nle h7
      exact KX 2 _ (by decide) hI
theorem g_162_64_p79_0 {X : Nat × (Nat → Int32)} {d w : Nat} {S : ma_S} {Q : Option ma_V ⊕ Nat → ma_S → Prop} (i : Int32) (pa : Int32) (hd : 7 ≤ d) (hw : 109 ≤ w) (hS : zT S) (h : if pa < 0 then (Q (.inr 2) (ma_bump S)) else (if pa ≤ (1 : Int32) then (mR S 64 11 = some 79 ∧ (mR S 64 11 = some 79 ∧ (ma_wp X (d - 1) (w - 23) 111 0 [(0, .inr (.inr (some 79))), (1, .inl i)] [] S (zi (fun v2 S1 => zT S1 ∧ (if v2 = (-1 : Int32) then (Q (.inr 1) (ma_bump S1)) else (if pa = 0 then (Q (.inl (some (.inl v2))) S1) else (ma_wp X (d - 1) (w - 22) 106 0 [(0, .inr (.inr (some 79))), (1, .inl v2)] [] S1 (zi (fun v4 S3 => zT S3 ∧ (Q (.inl (some (.inl (v4 - v2)))) S3)) (fun x S9 => Q (.inr x) S9)))))) (fun x S9 => Q (.inr x) S9))))) else (Q (.inr 2) (ma_bump S)))) : ma_wp X d w 162 0 [(0, .inr (.inr (some 64))), (1, .inl i), (2, .inl pa)] [] S Q := by
  refine zw_push hm_162 dX11_block_0 (v := .inl pa) rfl ?_
  refine zw_if0 hm_162 dX11_block_1 (t := 9) rfl zc0_lt ?_ ?_
  · intro hc
    rw [if_pos hc] at h
    exact zw_thr hm_162 dX11_block_9 dX11_block_12 dX11_block_13 dX11_block_16 x_11_79_81 n_11_79 (by omega) (by show 0 + 81 ≤ w; omega) h
  · intro hc
    rw [if_neg hc] at h
    refine zw_push hm_162 dX11_block_4 (v := .inl pa) rfl ?_
    refine zw_push hm_162 dX11_block_5 (v := .inl (1 : Int32)) rfl ?_
    refine zw_if2 hm_162 dX11_block_6 (t := 17) rfl zc2_le ?_ ?_
    · intro hc
      rw [if_pos hc] at h
      refine zw_push hm_162 dX11_block_17 (v := .inr (.inr (some 64))) rfl ?_
      refine zw_cv hm_162 dX11_block_18 v_11_119_11 hm_144 [] [] rfl (zT_rt hS s_64 rfl) ⟨by omega, by omega⟩ rfl ?_
      show ma_wp X (d - 1) (w - 20) 144 0 [(0, .inr (.inr (some 64)))] [] S _
      refine zw_push hm_144 dX11_needCollector_0 (v := .inr (.inr (some 64))) rfl ?_
      obtain ⟨hg, h⟩ := h
      refine zw_gf hm_144 dX11_needCollector_1 (v := .inr (.inr (some 79))) (zT_is hS s_64) (zT_t hS s_64) rfl f_11_98_11 (congrArg (fun z => Sum.inr (Sum.inr z)) hg) ?_
      refine zw_ifnonnull hm_144 dX11_needCollector_4 (t := 15) rfl (fun z => by cases z) (fun _ _ => ?_)
      refine zw_push hm_144 dX11_needCollector_15 (v := .inr (.inr (some 64))) rfl ?_
      obtain ⟨hg, h⟩ := h
      refine zw_gf hm_144 dX11_needCollector_16 (v := .inr (.inr (some 79))) (zT_is hS s_64) (zT_t hS s_64) rfl f_11_98_11 (congrArg (fun z => Sum.inr (Sum.inr z)) hg) ?_
      refine zw_aret hm_144 dX11_needCollector_19 ?_
      show ma_wp X d w 162 21 [(0, .inr (.inr (some 64))), (1, .inl i), (2, .inl pa)] [.inr (.inr (some 79))] S _
      refine zw_sto hm_162 dX11_block_21 [(4, .inr (.inr (some 79))), (0, .inr (.inr (some 64))), (1, .inl i), (2, .inl pa)] rfl rfl rfl ?_
      refine zw_push hm_162 dX11_block_23 (v := .inr (.inr (some 79))) rfl ?_
      refine zw_iof hm_162 dX11_block_25 (zT_is hS s_79) (zT_t hS s_79) rfl ct_11_41_8 (v := (1 : Int32)) rfl ?_
      refine zw_if0 hm_162 dX11_block_28 (t := 77) rfl zc0_eq (fun hc => absurd hc (by decide)) (fun _ => ?_)
      refine zw_push hm_162 dX11_block_31 (v := .inr (.inr (some 79))) rfl ?_
      refine zw_cast hm_162 dX11_block_33 (zT_is hS s_79) (zT_t hS s_79) rfl ct_11_41_8 ?_
      refine zw_sto hm_162 dX11_block_36 [(3, .inr (.inr (some 79))), (4, .inr (.inr (some 79))), (0, .inr (.inr (some 64))), (1, .inl i), (2, .inl pa)] rfl rfl rfl ?_
      refine zw_push hm_162 dX11_block_37 (v := .inr (.inr (some 79))) rfl ?_
      refine zw_push hm_162 dX11_block_38 (v := .inl i) rfl ?_
      refine zw_cv hm_162 dX11_block_39 v_11_232_8 hm_111 [.inl i] [] rfl (zT_rt hS s_79 rfl) ⟨by omega, by omega⟩ rfl (zw_mono h (zi_go ?_ ?_))
      · intro v2 S1 hv
        obtain ⟨hS1, h⟩ := hv
        refine zw_sto hm_162 dX11_block_42 [(4, .inl v2), (3, .inr (.inr (some 79))), (0, .inr (.inr (some 64))), (1, .inl i), (2, .inl pa)] rfl rfl rfl ?_
        refine zw_push hm_162 dX11_block_44 (v := .inl v2) rfl ?_
        refine zw_push hm_162 dX11_block_46 (v := .inl (-1 : Int32)) rfl ?_
        refine zw_if2 hm_162 dX11_block_47 (t := 58) rfl zc2_ne ?_ ?_
        · intro hc
          rw [if_neg hc] at h
          refine zw_push hm_162 dX11_block_58 (v := .inl pa) rfl ?_
          refine zw_if0 hm_162 dX11_block_59 (t := 67) rfl zc0_ne ?_ ?_
          · intro hc
            rw [if_neg hc] at h
            refine zw_push hm_162 dX11_block_67 (v := .inr (.inr (some 79))) rfl ?_
            refine zw_push hm_162 dX11_block_68 (v := .inl v2) rfl ?_
            refine zw_cv hm_162 dX11_block_70 v_11_235_8 hm_106 [.inl v2] [] rfl (zT_rt hS1 s_79 rfl) ⟨by omega, by omega⟩ rfl (zw_mono h (zi_go ?_ ?_))
            · intro v4 S3 hv
              obtain ⟨hS3, h⟩ := hv
              refine zw_push hm_162 dX11_block_73 (v := .inl v2) rfl ?_
              refine zw_stk hm_162 dX11_block_75 (st' := [.inl (v4 - v2)]) rfl rfl ?_
              exact zw_iret hm_162 dX11_block_76 h
            · intro x S9 hx
              exact ⟨by decide, hx⟩
          · intro hc
            rw [if_pos (Classical.not_not.mp hc)] at h
            refine zw_push hm_162 dX11_block_62 (v := .inl v2) rfl ?_
            refine zw_goto hm_162 dX11_block_64 (t := 76) rfl ?_
            exact zw_iret hm_162 dX11_block_76 h
        · intro hc
          rw [if_pos (Classical.not_not.mp hc)] at h
          exact zw_thr hm_162 dX11_block_50 dX11_block_53 dX11_block_54 dX11_block_57 x_11_72_74 n_11_72 (by omega) (by show 0 + 81 ≤ w; omega) h
      · intro x S9 hx
        exact ⟨by decide, hx⟩
    · intro hc
      rw [if_neg hc] at h
      exact zw_thr hm_162 dX11_block_9 dX11_block_12 dX11_block_13 dX11_block_16 x_11_79_81 n_11_79 (by omega) (by show 0 + 81 ≤ w; omega) h
theorem sp_162_64_p79 {X : Nat × (Nat → Int32)} {d w : Nat} {f : Nat → Nat → Int32} {r : Nat → Nat → Option Nat} {C Z N : Nat} {Q : Option ma_V ⊕ Nat → ma_S → Prop} {S : ma_S} (i : Int32) (pa : Int32) (hd : 7 ≤ d) (hw : 109 ≤ w) (hI : zB f r C Z N S) (hr : r 64 11 = some 79)  (K : ∀ v S', zB f r C Z N S' → (True) → Q (.inl (some (.inl v))) S') (KX : ∀ x S', (x = 1 ∨ x = 2 ∨ x = 3 ∨ x = 6) → zB f r C Z N S' → Q (.inr x) (ma_bump S')) : ma_wp X d w 162 0 [(0, .inr (.inr (some 64))), (1, .inl i), (2, .inl pa)] [] S Q := by
  refine g_162_64_p79_0 i pa (by omega) (by omega) (zG_T hI) ?_
  have b1 := i_bd pa
  have li2 : (0 : Int32).toInt = 0 := rfl
  refine zd (fun h3 => ?_) (fun h3 => ?_)
  · skip
    have g4 := i_lt h3
    exact KX 2 _ (by decide) hI
  · skip
    have g5 := i_nlt h3
    have li6 : (1 : Int32).toInt = 1 := rfl
    refine zd (fun h7 => ?_) (fun h7 => ?_)
    · skip
      have g8 := i_le h7
      refine ⟨((zG_r hI (by decide)).trans hr), ?_⟩
      refine ⟨((zG_r hI (by decide)).trans hr), ?_⟩
      have b9 := i_bd i
      refine sp_111_79 (i) (by omega) (by omega) (zB_dn_zJ79 hI)  (fun v2 S1 hL_S1 hp_v2 => zi_n ⟨zG_T hL_S1, ?_⟩)
      have hI_S1 := zB_up_zJ79 hI hL_S1
      have b10 := i_bd v2
      have li11 : (-1 : Int32).toInt = -1 := rfl
      refine zd (fun h12 => ?_) (fun h12 => ?_)
      · skip
        have g13 := i_eq h12
        exact KX 1 _ (by decide) hI_S1
      · skip
        have g14 := i_ne h12
        refine zd (fun h15 => ?_) (fun h15 => ?_)
        · skip
          have g16 := i_eq h15
          exact K (v2) _ hI_S1 trivial
        · skip
          have g17 := i_ne h15
          refine sp_106_79 (v2) (by omega) (by omega) (zB_dn_zJ79 hI_S1) (by omega) (by omega) (fun v4 S3 hL_S3 hp_v4 => zi_n ⟨zG_T hL_S3, ?_⟩)
          have hI_S3 := zB_up_zJ79 hI_S1 hL_S3
          have b18 := i_bd v4
          first | have e19 : (v4 - v2).toInt = v4.toInt - v2.toInt := i_sub (by omega) (by omega) | have b20 := i_bd (v4 - v2)
          exact K ((v4 - v2)) _ hI_S3 trivial
    · skip
      have g21 := i_nle h7
      exact KX 2 _ (by decide) hI
