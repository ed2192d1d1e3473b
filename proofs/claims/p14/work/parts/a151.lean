/-! from 95.k24 -/
/-! the collectors that sweep, the class (written by wip/tools/gen20.py) -/
theorem g_157_64_s_p79_0 {X : Nat × (Nat → Int32)} {d w : Nat} {S : ma_S} {Q : Option ma_V ⊕ Nat → ma_S → Prop} (o : Int32) (hd : 7 ≤ d) (hw : 111 ≤ w) (hS : zT S) (h : mR S 64 11 = some 79 ∧ (mR S 64 11 = some 79 ∧ (ma_wp X (d - 1) (w - 22) 149 0 [(0, .inr (.inr (some 64))), (1, .inl o)] [] S (zo (fun v2 S1 => zT S1 ∧ ((∃ c3, v2 = some c3 ∧ ((126 ≤ c3 ∧ c3 < mN S1) ∧ (if (mI S1 c3 8) = 0 then ((126 ≤ c3 ∧ c3 < mN S1) ∧ (Q (.inl (some (.inl (1 : Int32)))) (ma_put S1 c3 8 (.inl (1 : Int32))))) else ((126 ≤ c3 ∧ c3 < mN S1) ∧ (Q (.inl (some (.inl (0 : Int32)))) (ma_put S1 c3 8 (.inl (1 : Int32)))))))))) (fun x S9 => Q (.inr x) S9))))) : ma_wp X d w 157 0 [(0, .inr (.inr (some 64))), (1, .inl o)] [] S Q := by
  refine zw_push hm_157 dX11_wish_0 (v := .inr (.inr (some 64))) rfl ?_
  refine zw_cv hm_157 dX11_wish_1 v_11_119_11 hm_144 [] [] rfl (zT_rt hS s_64 rfl) ⟨by omega, by omega⟩ rfl ?_
  show ma_wp X (d - 1) (w - 20) 144 0 [(0, .inr (.inr (some 64)))] [] S _
  refine zw_push hm_144 dX11_needCollector_0 (v := .inr (.inr (some 64))) rfl ?_
  obtain ⟨hg, h⟩ := h
  refine zw_gf hm_144 dX11_needCollector_1 (v := .inr (.inr (some 79))) (zT_is hS s_64) (zT_t hS s_64) rfl f_11_98_11 (congrArg (fun z => Sum.inr (Sum.inr z)) hg) ?_
  refine zw_ifnonnull hm_144 dX11_needCollector_4 (t := 15) rfl (fun z => by cases z) (fun _ _ => ?_)
  refine zw_push hm_144 dX11_needCollector_15 (v := .inr (.inr (some 64))) rfl ?_
  obtain ⟨hg, h⟩ := h
  refine zw_gf hm_144 dX11_needCollector_16 (v := .inr (.inr (some 79))) (zT_is hS s_64) (zT_t hS s_64) rfl f_11_98_11 (congrArg (fun z => Sum.inr (Sum.inr z)) hg) ?_
  refine zw_aret hm_144 dX11_needCollector_19 ?_
  show ma_wp X d w 157 4 [(0, .inr (.inr (some 64))), (1, .inl o)] [.inr (.inr (some 79))] S _
  refine zw_stk hm_157 dX11_wish_4 (st₉ := []) rfl rfl ?_
  refine zw_push hm_157 dX11_wish_5 (v := .inr (.inr (some 64))) rfl ?_
  refine zw_push hm_157 dX11_wish_6 (v := .inl o) rfl ?_
  refine zw_cv hm_157 dX11_wish_7 v_11_123_11 hm_149 [.inl o] [] rfl (zT_rt hS s_64 rfl) ⟨by omega, by omega⟩ rfl (zw_mono h (zo_go ?_ ?_))
  · intro v2 S1 hv
    obtain ⟨hS1, h⟩ := hv
    obtain ⟨c3, hc, h⟩ := h
    subst hc
    show ma_wp X d w 157 10 [(0, .inr (.inr (some 64))), (1, .inl o)] [.inr (.inr (some c3))] S1 _
    refine zw_sto hm_157 dX11_wish_10 [(2, .inr (.inr (some c3))), (0, .inr (.inr (some 64))), (1, .inl o)] rfl rfl rfl ?_
    refine zw_push hm_157 dX11_wish_11 (v := .inr (.inr (some c3))) rfl ?_
    obtain ⟨hg, h⟩ := h
    refine zw_gf hm_157 dX11_wish_12 (v := .inl (mI S1 c3 8)) (zT_tis hS1 hg) (zT_tt hS1 hg) rfl f_11_199_9 rfl ?_
    refine zw_if0 hm_157 dX11_wish_15 (t := 22) rfl zc0_eq ?_ ?_
    · intro hc
      rw [if_pos hc] at h
      refine zw_push hm_157 dX11_wish_22 (v := .inl (1 : Int32)) rfl ?_
      refine zw_sto hm_157 dX11_wish_23 [(3, .inl (1 : Int32)), (2, .inr (.inr (some c3))), (0, .inr (.inr (some 64))), (1, .inl o)] rfl rfl rfl ?_
      refine zw_push hm_157 dX11_wish_24 (v := .inr (.inr (some c3))) rfl ?_
      refine zw_push hm_157 dX11_wish_25 (v := .inl (1 : Int32)) rfl ?_
      obtain ⟨hg, h⟩ := h
      refine zw_pf hm_157 dX11_wish_26 (zT_tis hS1 hg) (zT_tt hS1 hg) p_11_199_9 (zk_bool (by decide)) ?_
      refine zw_push hm_157 dX11_wish_29 (v := .inl (1 : Int32)) rfl ?_
      exact zw_iret hm_157 dX11_wish_30 h
    · intro hc
      rw [if_neg hc] at h
      refine zw_push hm_157 dX11_wish_18 (v := .inl (0 : Int32)) rfl ?_
      refine zw_goto hm_157 dX11_wish_19 (t := 23) rfl ?_
      refine zw_sto hm_157 dX11_wish_23 [(3, .inl (0 : Int32)), (2, .inr (.inr (some c3))), (0, .inr (.inr (some 64))), (1, .inl o)] rfl rfl rfl ?_
      refine zw_push hm_157 dX11_wish_24 (v := .inr (.inr (some c3))) rfl ?_
      refine zw_push hm_157 dX11_wish_25 (v := .inl (1 : Int32)) rfl ?_
      obtain ⟨hg, h⟩ := h
      refine zw_pf hm_157 dX11_wish_26 (zT_tis hS1 hg) (zT_tt hS1 hg) p_11_199_9 (zk_bool (by decide)) ?_
      refine zw_push hm_157 dX11_wish_29 (v := .inl (0 : Int32)) rfl ?_
      exact zw_iret hm_157 dX11_wish_30 h
  · intro x S9 hx
    exact ⟨by decide, hx⟩
theorem sp_157_64_s_p79 {X : Nat × (Nat → Int32)} {d w : Nat} {f : Nat → Nat → Int32} {r : Nat → Nat → Option Nat} {C Z N : Nat} {Q : Option ma_V ⊕ Nat → ma_S → Prop} {ab : Nat→Nat→Int32} {fq : Nat→Int32} {S : ma_S} (o : Int32) (hd : 7 ≤ d) (hw : 111 ≤ w) (hI : zB f r C Z N S) (hr : r 64 11 = some 79) (hpre0 : xB S (mR S 70)) (hpre1 : aS 88 S = ab) (hpre2 : zfP 79 (mI S) = fq) (K : ∀ v S₉, zB f r C Z N S₉ → (True) → (xB S₉ (mR S₉ 70)) → (zRq ab o ∧ aS 88 S₉ = ma_u ab 134 o.toNatClampNeg 1 ∧ v = (if ab 134 o.toNatClampNeg = 0 then 1 else 0)) → (zfP 79 (mI S₉) = fq) → Q (.inl (some (.inl v))) S₉) (KX : ∀ x S₉, (x = 4) → zB f r C Z N S₉ → (xB S₉ (mR S₉ 70)) → (aS 88 S₉ = ab) → (x = 4 ∧ ¬ zRq ab o) → (zfP 79 (mI S₉) = fq) → Q (.inr x) (ma_bump S₉)) : ma_wp X d w 157 0 [(0, .inr (.inr (some 64))), (1, .inl o)] [] S Q := by
  refine g_157_64_s_p79_0 o (by omega) (by omega) (zG_T hI) ?_
  refine ⟨((zG_r hI (by decide)).trans hr), ?_⟩
  refine ⟨((zG_r hI (by decide)).trans hr), ?_⟩
  have b1 := i_bd o
  refine sp_149_64_s (R := (mR S 70)) (a7 := (aS 75 S)) (a8 := (aS 88 S)) (o) (by omega) (by omega) (zB_dn_zI hI) (show xB S (mR S 70) from by first | (exact (xC_o (W := 75) hpre0).2)) (show aS 75 S = (aS 75 S) from by first | (exact rfl)) (show aS 88 S = (aS 88 S) from by first | (exact rfl)) (fun v2 S1 hL_S1 hq_v2 rp0_S1 rp1_S1 rp2_S1 rp3_S1 => zo_n ⟨zG_T hL_S1, ?_⟩) (fun x S9 hx h9 rx0 rx1 rx2 => by have h9u := (zB_up_zI hI h9); exact zo_x (KX x S9 (by omega) h9u (show xB S9 (mR S9 70) from by first | (exact xB_x (xC_o (W := 75) rx0).2)) (show aS 88 S9 = ab from by first | (exact rx1.trans hpre1)) (show x = 4 ∧ ¬ zRq ab o from by first | (exact ⟨rx2.1, rq_no rx2.2 hpre1⟩)) (show zfP 79 (mI S9) = fq from by first | (exact ((zf_fr (P := 79) (fun _ => zG_z h9 rfl)).trans hpre2)))))
  have hI_S1 := zB_up_zI hI hL_S1
  have rp0_S1 : xB S1 (mR S 70) := by
    have z := rp0_S1
    (try rw [show mI S 65 = f 65 from funext (fun k => zG_z hI rfl)] at z)
    (try rw [show mI S 64 1 = f 64 1 from zG_z hI rfl] at z)
    exact z
  have rp1_S1 : aS 88 S1 = (aS 88 S) := by
    have z := rp1_S1
    (try rw [show mI S 65 = f 65 from funext (fun k => zG_z hI rfl)] at z)
    (try rw [show mI S 64 1 = f 64 1 from zG_z hI rfl] at z)
    exact z
  have rp2_S1 : v2 = zTa (mR S 70) o := by
    have z := rp2_S1
    (try rw [show mI S 65 = f 65 from funext (fun k => zG_z hI rfl)] at z)
    (try rw [show mI S 64 1 = f 64 1 from zG_z hI rfl] at z)
    exact z
  have rp3_S1 : zRq (aS 75 S) o := by
    have z := rp3_S1
    (try rw [show mI S 65 = f 65 from funext (fun k => zG_z hI rfl)] at z)
    (try rw [show mI S 64 1 = f 64 1 from zG_z hI rfl] at z)
    exact z
  obtain ⟨c3, hc, th_c3⟩ := hq_v2
  have rg_c3 : zTa (mR S 70) o = some c3 := rp2_S1.symm.trans hc
  refine ⟨c3, hc, ?_⟩
  refine ⟨zG_n hI_S1 th_c3, ?_⟩
  have b2 := i_bd (mI S1 c3 8)
  have li3 : (0 : Int32).toInt = 0 := rfl
  refine zd (fun h4 => ?_) (fun h4 => ?_)
  · skip
    have g5 := i_eq h4
    refine ⟨zG_n hI_S1 th_c3, ?_⟩
    have hI6 : zB f r C Z N (ma_put S1 c3 8 (.inl (1 : Int32))) := zG_tf hI_S1 th_c3.1 zB_t (by decide) (by decide) (zB_xt (S := S1) th_c3.1 (zG_x hI_S1)) (by decide) (by decide) (by decide)
    have li7 : (1 : Int32).toInt = 1 := rfl
    exact K ((1 : Int32)) _ hI6 trivial (show xB (ma_put S1 c3 8 (.inl (1 : Int32))) (mR (ma_put S1 c3 8 (.inl (1 : Int32))) 70) from by first | (exact xB_x (xC_t (k := 8) (x := (1 : Int32)) (xC_o (W := 75) rp0_S1) xW75 rg_c3 rfl).2)) (show zRq ab o ∧ aS 88 (ma_put S1 c3 8 (.inl (1 : Int32))) = ma_u ab 134 o.toNatClampNeg 1 ∧ (1 : Int32) = (if ab 134 o.toNatClampNeg = 0 then 1 else 0) from by first | (have ty := xB_th (W := 88) rp0_S1 rg_c3; have e8 := ty.2.2.2.2.2.2.2.1; rw [(rp1_S1.trans hpre1)] at e8; refine ⟨(rq_up rp3_S1 hpre1), (xC_t (k := 8) (x := (1 : Int32)) (xC_o (W := 88) rp0_S1) xW88 rg_c3 rfl).1.trans ?_, ?_⟩; (rw [(rp1_S1.trans hpre1)]); (rw [← e8]; exact (if_pos (by assumption)).symm))) (show zfP 79 (mI (ma_put S1 c3 8 (.inl (1 : Int32)))) = fq from by first | (exact ((zf_t (P := 79) th_c3.1 (by decide)).trans ((zf_fr (P := 79) (S₉ := S1) (S := S) (fun _ => zG_z hL_S1 rfl)).trans hpre2))))
  · skip
    have g8 := i_ne h4
    refine ⟨zG_n hI_S1 th_c3, ?_⟩
    have hI9 : zB f r C Z N (ma_put S1 c3 8 (.inl (1 : Int32))) := zG_tf hI_S1 th_c3.1 zB_t (by decide) (by decide) (zB_xt (S := S1) th_c3.1 (zG_x hI_S1)) (by decide) (by decide) (by decide)
    exact K ((0 : Int32)) _ hI9 trivial (show xB (ma_put S1 c3 8 (.inl (1 : Int32))) (mR (ma_put S1 c3 8 (.inl (1 : Int32))) 70) from by first | (exact xB_x (xC_t (k := 8) (x := (1 : Int32)) (xC_o (W := 75) rp0_S1) xW75 rg_c3 rfl).2)) (show zRq ab o ∧ aS 88 (ma_put S1 c3 8 (.inl (1 : Int32))) = ma_u ab 134 o.toNatClampNeg 1 ∧ (0 : Int32) = (if ab 134 o.toNatClampNeg = 0 then 1 else 0) from by first | (have ty := xB_th (W := 88) rp0_S1 rg_c3; have e8 := ty.2.2.2.2.2.2.2.1; rw [(rp1_S1.trans hpre1)] at e8; refine ⟨(rq_up rp3_S1 hpre1), (xC_t (k := 8) (x := (1 : Int32)) (xC_o (W := 88) rp0_S1) xW88 rg_c3 rfl).1.trans ?_, ?_⟩; (rw [(rp1_S1.trans hpre1)]); (rw [← e8]; exact (if_neg (by assumption)).symm))) (show zfP 79 (mI (ma_put S1 c3 8 (.inl (1 : Int32)))) = fq from by first | (exact ((zf_t (P := 79) th_c3.1 (by decide)).trans ((zf_fr (P := 79) (S₉ := S1) (S := S) (fun _ => zG_z hL_S1 rfl)).trans hpre2))))

/-! from 95.k25 -/
/-! the collectors that sweep, the class (written by wip/tools/gen20.py) -/
theorem g_156_64_s_p79_0 {X : Nat × (Nat → Int32)} {d w : Nat} {S : ma_S} {Q : Option ma_V ⊕ Nat → ma_S → Prop} (o : Int32) (b : Int32) (hd : 7 ≤ d) (hw : 111 ≤ w) (hS : zT S) (h : mR S 64 11 = some 79 ∧ (mR S 64 11 = some 79 ∧ (ma_wp X (d - 1) (w - 22) 149 0 [(0, .inr (.inr (some 64))), (1, .inl o)] [] S (zo (fun v2 S1 => zT S1 ∧ ((∃ c3, v2 = some c3 ∧ (if b = 0 then ((126 ≤ c3 ∧ c3 < mN S1) ∧ (if (mI S1 c3 7) = 0 then (Q (.inr 6) (ma_bump S1)) else (if b = 0 then (ma_wp X (d - 1) (w - 22) 97 0 [(0, .inr (.inr (some 69))), (1, .inr (.inr (some c3))), (2, .inl (-1 : Int32))] [] S1 (zv (fun S8 => zT S8 ∧ ((126 ≤ c3 ∧ c3 < mN S8) ∧ (Q (.inl (some (.inl (mI S8 c3 7)))) S8))) (fun x S9 => Q (.inr x) S9))) else (ma_wp X (d - 1) (w - 22) 97 0 [(0, .inr (.inr (some 69))), (1, .inr (.inr (some c3))), (2, .inl (1 : Int32))] [] S1 (zv (fun S10 => zT S10 ∧ ((126 ≤ c3 ∧ c3 < mN S10) ∧ (Q (.inl (some (.inl (mI S10 c3 7)))) S10))) (fun x S9 => Q (.inr x) S9)))))) else (if b = 0 then (ma_wp X (d - 1) (w - 22) 97 0 [(0, .inr (.inr (some 69))), (1, .inr (.inr (some c3))), (2, .inl (-1 : Int32))] [] S1 (zv (fun S4 => zT S4 ∧ ((126 ≤ c3 ∧ c3 < mN S4) ∧ (Q (.inl (some (.inl (mI S4 c3 7)))) S4))) (fun x S9 => Q (.inr x) S9))) else (ma_wp X (d - 1) (w - 22) 97 0 [(0, .inr (.inr (some 69))), (1, .inr (.inr (some c3))), (2, .inl (1 : Int32))] [] S1 (zv (fun S6 => zT S6 ∧ ((126 ≤ c3 ∧ c3 < mN S6) ∧ (Q (.inl (some (.inl (mI S6 c3 7)))) S6))) (fun x S9 => Q (.inr x) S9)))))))) (fun x S9 => Q (.inr x) S9))))) : ma_wp X d w 156 0 [(0, .inr (.inr (some 64))), (1, .inl o), (2, .inl b)] [] S Q := by
  refine zw_push hm_156 dX11_hold_0 (v := .inr (.inr (some 64))) rfl ?_
  refine zw_cv hm_156 dX11_hold_1 v_11_119_11 hm_144 [] [] rfl (zT_rt hS s_64 rfl) ⟨by omega, by omega⟩ rfl ?_
  show ma_wp X (d - 1) (w - 20) 144 0 [(0, .inr (.inr (some 64)))] [] S _
  refine zw_push hm_144 dX11_needCollector_0 (v := .inr (.inr (some 64))) rfl ?_
  obtain ⟨hg, h⟩ := h
  refine zw_gf hm_144 dX11_needCollector_1 (v := .inr (.inr (some 79))) (zT_is hS s_64) (zT_t hS s_64) rfl f_11_98_11 (congrArg (fun z => Sum.inr (Sum.inr z)) hg) ?_
  refine zw_ifnonnull hm_144 dX11_needCollector_4 (t := 15) rfl (fun z => by cases z) (fun _ _ => ?_)
  refine zw_push hm_144 dX11_needCollector_15 (v := .inr (.inr (some 64))) rfl ?_
  obtain ⟨hg, h⟩ := h
  refine zw_gf hm_144 dX11_needCollector_16 (v := .inr (.inr (some 79))) (zT_is hS s_64) (zT_t hS s_64) rfl f_11_98_11 (congrArg (fun z => Sum.inr (Sum.inr z)) hg) ?_
  refine zw_aret hm_144 dX11_needCollector_19 ?_
  show ma_wp X d w 156 4 [(0, .inr (.inr (some 64))), (1, .inl o), (2, .inl b)] [.inr (.inr (some 79))] S _
  refine zw_sto hm_156 dX11_hold_4 [(3, .inr (.inr (some 79))), (0, .inr (.inr (some 64))), (1, .inl o), (2, .inl b)] rfl rfl rfl ?_
  refine zw_push hm_156 dX11_hold_5 (v := .inr (.inr (some 64))) rfl ?_
  refine zw_push hm_156 dX11_hold_6 (v := .inl o) rfl ?_
  refine zw_cv hm_156 dX11_hold_7 v_11_123_11 hm_149 [.inl o] [] rfl (zT_rt hS s_64 rfl) ⟨by omega, by omega⟩ rfl (zw_mono h (zo_go ?_ ?_))
  · intro v2 S1 hv
    obtain ⟨hS1, h⟩ := hv
    obtain ⟨c3, hc, h⟩ := h
    subst hc
    show ma_wp X d w 156 10 [(3, .inr (.inr (some 79))), (0, .inr (.inr (some 64))), (1, .inl o), (2, .inl b)] [.inr (.inr (some c3))] S1 _
    refine zw_sto hm_156 dX11_hold_10 [(4, .inr (.inr (some c3))), (3, .inr (.inr (some 79))), (0, .inr (.inr (some 64))), (1, .inl o), (2, .inl b)] rfl rfl rfl ?_
    refine zw_push hm_156 dX11_hold_12 (v := .inr (.inr (some 79))) rfl ?_
    refine zw_push hm_156 dX11_hold_13 (v := .inr (.inr (some c3))) rfl ?_
    refine zw_cv hm_156 dX11_hold_15 v_11_185_8 hm_269 [.inr (.inr (some c3))] [] rfl (zT_rt hS1 s_79 rfl) ⟨by omega, by omega⟩ rfl ?_
    show ma_wp X (d - 1) (w - 21) 269 0 [(0, .inr (.inr (some 79))), (1, .inr (.inr (some c3)))] [] S1 _
    refine zw_push hm_269 dX1_canHold_0 (v := .inl (1 : Int32)) rfl ?_
    refine zw_bret hm_269 dX1_canHold_1 (by decide) ?_
    show ma_wp X d w 156 18 [(4, .inr (.inr (some c3))), (3, .inr (.inr (some 79))), (0, .inr (.inr (some 64))), (1, .inl o), (2, .inl b)] [.inl (1 : Int32)] S1 _
    refine zw_if0 hm_156 dX11_hold_18 (t := 33) rfl zc0_eq (fun hc => absurd hc (by decide)) (fun _ => ?_)
    refine zw_push hm_156 dX11_hold_21 (v := .inl b) rfl ?_
    refine zw_if0 hm_156 dX11_hold_22 (t := 41) rfl zc0_ne ?_ ?_
    · intro hc
      rw [if_neg hc] at h
      refine zw_push hm_156 dX11_hold_41 (v := .inr (.inr (some 64))) rfl ?_
      refine zw_gf hm_156 dX11_hold_42 (v := .inr (.inr (some 69))) (zT_is hS1 s_64) (zT_t hS1 s_64) rfl f_11_26_11 (zT_f hS1 r_64_8) ?_
      refine zw_push hm_156 dX11_hold_45 (v := .inr (.inr (some c3))) rfl ?_
      refine zw_push hm_156 dX11_hold_47 (v := .inl b) rfl ?_
      refine zw_if0 hm_156 dX11_hold_48 (t := 55) rfl zc0_eq ?_ ?_
      · intro hc
        rw [if_pos hc] at h
        refine zw_push hm_156 dX11_hold_55 (v := .inl (-1 : Int32)) rfl ?_
        refine zw_cv hm_156 dX11_hold_56 v_11_195_7 hm_97 [.inl (-1 : Int32), .inr (.inr (some c3))] [] rfl (zT_rt hS1 s_69 rfl) ⟨by omega, by omega⟩ rfl (zw_mono h (zv_go ?_ ?_))
        · intro S4 hv
          obtain ⟨hS4, h⟩ := hv
          refine zw_push hm_156 dX11_hold_59 (v := .inr (.inr (some 79))) rfl ?_
          refine zw_push hm_156 dX11_hold_60 (v := .inr (.inr (some c3))) rfl ?_
          refine zw_cv hm_156 dX11_hold_62 v_11_157_8 hm_266 [.inr (.inr (some c3))] [] rfl (zT_rt hS4 s_79 rfl) ⟨by omega, by omega⟩ rfl ?_
          show ma_wp X (d - 1) (w - 21) 266 0 [(0, .inr (.inr (some 79))), (1, .inr (.inr (some c3)))] [] S4 _
          refine zw_vret hm_266 dX1_noteFewer_0 ?_
          show ma_wp X d w 156 65 [(4, .inr (.inr (some c3))), (3, .inr (.inr (some 79))), (0, .inr (.inr (some 64))), (1, .inl o), (2, .inl b)] [] S4 _
          refine zw_push hm_156 dX11_hold_65 (v := .inr (.inr (some c3))) rfl ?_
          obtain ⟨hg, h⟩ := h
          refine zw_gf hm_156 dX11_hold_67 (v := .inl (mI S4 c3 7)) (zT_tis hS4 hg) (zT_tt hS4 hg) rfl f_11_189_9 rfl ?_
          exact zw_iret hm_156 dX11_hold_70 h
        · intro x S9 hx
          exact ⟨by decide, hx⟩
      · intro hc
        rw [if_neg hc] at h
        refine zw_push hm_156 dX11_hold_51 (v := .inl (1 : Int32)) rfl ?_
        refine zw_goto hm_156 dX11_hold_52 (t := 56) rfl ?_
        refine zw_cv hm_156 dX11_hold_56 v_11_195_7 hm_97 [.inl (1 : Int32), .inr (.inr (some c3))] [] rfl (zT_rt hS1 s_69 rfl) ⟨by omega, by omega⟩ rfl (zw_mono h (zv_go ?_ ?_))
        · intro S6 hv
          obtain ⟨hS6, h⟩ := hv
          refine zw_push hm_156 dX11_hold_59 (v := .inr (.inr (some 79))) rfl ?_
          refine zw_push hm_156 dX11_hold_60 (v := .inr (.inr (some c3))) rfl ?_
          refine zw_cv hm_156 dX11_hold_62 v_11_157_8 hm_266 [.inr (.inr (some c3))] [] rfl (zT_rt hS6 s_79 rfl) ⟨by omega, by omega⟩ rfl ?_
          show ma_wp X (d - 1) (w - 21) 266 0 [(0, .inr (.inr (some 79))), (1, .inr (.inr (some c3)))] [] S6 _
          refine zw_vret hm_266 dX1_noteFewer_0 ?_
          show ma_wp X d w 156 65 [(4, .inr (.inr (some c3))), (3, .inr (.inr (some 79))), (0, .inr (.inr (some 64))), (1, .inl o), (2, .inl b)] [] S6 _
          refine zw_push hm_156 dX11_hold_65 (v := .inr (.inr (some c3))) rfl ?_
          obtain ⟨hg, h⟩ := h
          refine zw_gf hm_156 dX11_hold_67 (v := .inl (mI S6 c3 7)) (zT_tis hS6 hg) (zT_tt hS6 hg) rfl f_11_189_9 rfl ?_
          exact zw_iret hm_156 dX11_hold_70 h
        · intro x S9 hx
          exact ⟨by decide, hx⟩
    · intro hc
      rw [if_pos (Classical.not_not.mp hc)] at h
      refine zw_push hm_156 dX11_hold_25 (v := .inr (.inr (some c3))) rfl ?_
      obtain ⟨hg, h⟩ := h
      refine zw_gf hm_156 dX11_hold_27 (v := .inl (mI S1 c3 7)) (zT_tis hS1 hg) (zT_tt hS1 hg) rfl f_11_189_9 rfl ?_
      refine zw_if0 hm_156 dX11_hold_30 (t := 41) rfl zc0_ne ?_ ?_
      · intro hc
        rw [if_neg hc] at h
        refine zw_push hm_156 dX11_hold_41 (v := .inr (.inr (some 64))) rfl ?_
        refine zw_gf hm_156 dX11_hold_42 (v := .inr (.inr (some 69))) (zT_is hS1 s_64) (zT_t hS1 s_64) rfl f_11_26_11 (zT_f hS1 r_64_8) ?_
        refine zw_push hm_156 dX11_hold_45 (v := .inr (.inr (some c3))) rfl ?_
        refine zw_push hm_156 dX11_hold_47 (v := .inl b) rfl ?_
        refine zw_if0 hm_156 dX11_hold_48 (t := 55) rfl zc0_eq ?_ ?_
        · intro hc
          rw [if_pos hc] at h
          refine zw_push hm_156 dX11_hold_55 (v := .inl (-1 : Int32)) rfl ?_
          refine zw_cv hm_156 dX11_hold_56 v_11_195_7 hm_97 [.inl (-1 : Int32), .inr (.inr (some c3))] [] rfl (zT_rt hS1 s_69 rfl) ⟨by omega, by omega⟩ rfl (zw_mono h (zv_go ?_ ?_))
          · intro S8 hv
            obtain ⟨hS8, h⟩ := hv
            refine zw_push hm_156 dX11_hold_59 (v := .inr (.inr (some 79))) rfl ?_
            refine zw_push hm_156 dX11_hold_60 (v := .inr (.inr (some c3))) rfl ?_
            refine zw_cv hm_156 dX11_hold_62 v_11_157_8 hm_266 [.inr (.inr (some c3))] [] rfl (zT_rt hS8 s_79 rfl) ⟨by omega, by omega⟩ rfl ?_
            show ma_wp X (d - 1) (w - 21) 266 0 [(0, .inr (.inr (some 79))), (1, .inr (.inr (some c3)))] [] S8 _
            refine zw_vret hm_266 dX1_noteFewer_0 ?_
            show ma_wp X d w 156 65 [(4, .inr (.inr (some c3))), (3, .inr (.inr (some 79))), (0, .inr (.inr (some 64))), (1, .inl o), (2, .inl b)] [] S8 _
            refine zw_push hm_156 dX11_hold_65 (v := .inr (.inr (some c3))) rfl ?_
            obtain ⟨hg, h⟩ := h
            refine zw_gf hm_156 dX11_hold_67 (v := .inl (mI S8 c3 7)) (zT_tis hS8 hg) (zT_tt hS8 hg) rfl f_11_189_9 rfl ?_
            exact zw_iret hm_156 dX11_hold_70 h
          · intro x S9 hx
            exact ⟨by decide, hx⟩
        · intro hc
          rw [if_neg hc] at h
          refine zw_push hm_156 dX11_hold_51 (v := .inl (1 : Int32)) rfl ?_
          refine zw_goto hm_156 dX11_hold_52 (t := 56) rfl ?_
          refine zw_cv hm_156 dX11_hold_56 v_11_195_7 hm_97 [.inl (1 : Int32), .inr (.inr (some c3))] [] rfl (zT_rt hS1 s_69 rfl) ⟨by omega, by omega⟩ rfl (zw_mono h (zv_go ?_ ?_))
          · intro S10 hv
            obtain ⟨hS10, h⟩ := hv
            refine zw_push hm_156 dX11_hold_59 (v := .inr (.inr (some 79))) rfl ?_
            refine zw_push hm_156 dX11_hold_60 (v := .inr (.inr (some c3))) rfl ?_
            refine zw_cv hm_156 dX11_hold_62 v_11_157_8 hm_266 [.inr (.inr (some c3))] [] rfl (zT_rt hS10 s_79 rfl) ⟨by omega, by omega⟩ rfl ?_
            show ma_wp X (d - 1) (w - 21) 266 0 [(0, .inr (.inr (some 79))), (1, .inr (.inr (some c3)))] [] S10 _
            refine zw_vret hm_266 dX1_noteFewer_0 ?_
            show ma_wp X d w 156 65 [(4, .inr (.inr (some c3))), (3, .inr (.inr (some 79))), (0, .inr (.inr (some 64))), (1, .inl o), (2, .inl b)] [] S10 _
            refine zw_push hm_156 dX11_hold_65 (v := .inr (.inr (some c3))) rfl ?_
            obtain ⟨hg, h⟩ := h
            refine zw_gf hm_156 dX11_hold_67 (v := .inl (mI S10 c3 7)) (zT_tis hS10 hg) (zT_tt hS10 hg) rfl f_11_189_9 rfl ?_
            exact zw_iret hm_156 dX11_hold_70 h
          · intro x S9 hx
            exact ⟨by decide, hx⟩
      · intro hc
        rw [if_pos (Classical.not_not.mp hc)] at h
        exact zw_thr hm_156 dX11_hold_33 dX11_hold_36 dX11_hold_37 dX11_hold_40 x_11_192_194 n_11_192 (by omega) (by show 0 + 81 ≤ w; omega) h
  · intro x S9 hx
    exact ⟨by decide, hx⟩
theorem sp_156_64_s_p79 {X : Nat × (Nat → Int32)} {d w : Nat} {f : Nat → Nat → Int32} {r : Nat → Nat → Option Nat} {C Z N : Nat} {Q : Option ma_V ⊕ Nat → ma_S → Prop} {ab : Nat→Nat→Int32} {fq : Nat→Int32} {S : ma_S} (o : Int32) (b : Int32) (hd : 7 ≤ d) (hw : 111 ≤ w) (hI : zB f r C Z N S) (hr : r 64 11 = some 79) (hpre0 : xB S (mR S 70)) (hpre1 : aS 88 S = ab) (hpre2 : 0 ≤ b.toInt) (hpre3 : b.toInt ≤ 1) (hpre4 : zfP 79 (mI S) = fq) (K : ∀ v S₉, zB f r C Z N S₉ → (True) → (xB S₉ (mR S₉ 70)) → (zRq ab o ∧ (¬ b = 0 ∨ ¬ ab 133 o.toNatClampNeg = 0) ∧ aS 88 S₉ = ma_u ab 133 o.toNatClampNeg (ab 133 o.toNatClampNeg + (if b = 0 then -1 else 1)) ∧ v = ab 133 o.toNatClampNeg + (if b = 0 then -1 else 1)) → (zfP 79 (mI S₉) = fq) → Q (.inl (some (.inl v))) S₉) (KX : ∀ x S₉, (x = 4 ∨ x = 6) → zB f r C Z N S₉ → (xB S₉ (mR S₉ 70)) → (aS 88 S₉ = ab) → ((x = 4 ∧ ¬ zRq ab o) ∨ (x = 6 ∧ zRq ab o ∧ b = 0 ∧ ab 133 o.toNatClampNeg = 0)) → (zfP 79 (mI S₉) = fq) → Q (.inr x) (ma_bump S₉)) : ma_wp X d w 156 0 [(0, .inr (.inr (some 64))), (1, .inl o), (2, .inl b)] [] S Q := by
  refine g_156_64_s_p79_0 o b (by omega) (by omega) (zG_T hI) ?_
  refine ⟨((zG_r hI (by decide)).trans hr), ?_⟩
  refine ⟨((zG_r hI (by decide)).trans hr), ?_⟩
  have b1 := i_bd o
  refine sp_149_64_s (R := (mR S 70)) (a7 := (aS 75 S)) (a8 := (aS 88 S)) (o) (by omega) (by omega) (zB_dn_zI hI) (show xB S (mR S 70) from by first | (exact (xC_o (W := 75) hpre0).2)) (show aS 75 S = (aS 75 S) from by first | (exact rfl)) (show aS 88 S = (aS 88 S) from by first | (exact rfl)) (fun v2 S1 hL_S1 hq_v2 rp0_S1 rp1_S1 rp2_S1 rp3_S1 => zo_n ⟨zG_T hL_S1, ?_⟩) (fun x S9 hx h9 rx0 rx1 rx2 => by have h9u := (zB_up_zI hI h9); exact zo_x (KX x S9 (by omega) h9u (show xB S9 (mR S9 70) from by first | (exact xB_x (xC_o (W := 75) rx0).2)) (show aS 88 S9 = ab from by first | (exact rx1.trans hpre1)) (show (x = 4 ∧ ¬ zRq ab o) ∨ (x = 6 ∧ zRq ab o ∧ b = 0 ∧ ab 133 o.toNatClampNeg = 0) from by first | (exact Or.inl ⟨rx2.1, rq_no rx2.2 hpre1⟩)) (show zfP 79 (mI S9) = fq from by first | (exact ((zf_fr (P := 79) (fun _ => zG_z h9 rfl)).trans hpre4)))))
  have hI_S1 := zB_up_zI hI hL_S1
  have rp0_S1 : xB S1 (mR S 70) := by
    have z := rp0_S1
    (try rw [show mI S 65 = f 65 from funext (fun k => zG_z hI rfl)] at z)
    (try rw [show mI S 64 1 = f 64 1 from zG_z hI rfl] at z)
    exact z
  have rp1_S1 : aS 88 S1 = (aS 88 S) := by
    have z := rp1_S1
    (try rw [show mI S 65 = f 65 from funext (fun k => zG_z hI rfl)] at z)
    (try rw [show mI S 64 1 = f 64 1 from zG_z hI rfl] at z)
    exact z
  have rp2_S1 : v2 = zTa (mR S 70) o := by
    have z := rp2_S1
    (try rw [show mI S 65 = f 65 from funext (fun k => zG_z hI rfl)] at z)
    (try rw [show mI S 64 1 = f 64 1 from zG_z hI rfl] at z)
    exact z
  have rp3_S1 : zRq (aS 75 S) o := by
    have z := rp3_S1
    (try rw [show mI S 65 = f 65 from funext (fun k => zG_z hI rfl)] at z)
    (try rw [show mI S 64 1 = f 64 1 from zG_z hI rfl] at z)
    exact z
  obtain ⟨c3, hc, th_c3⟩ := hq_v2
  have rg_c3 : zTa (mR S 70) o = some c3 := rp2_S1.symm.trans hc
  refine ⟨c3, hc, ?_⟩
  have b2 := i_bd b
  have li3 : (0 : Int32).toInt = 0 := rfl
  refine zd (fun h4 => ?_) (fun h4 => ?_)
  · skip
    have g5 := i_eq h4
    refine ⟨zG_n hI_S1 th_c3, ?_⟩
    have b6 := i_bd (mI S1 c3 7)
    refine zd (fun h7 => ?_) (fun h7 => ?_)
    · skip
      have g8 := i_eq h7
      exact KX 6 _ (by decide) hI_S1 (show xB S1 (mR S1 70) from by first | (exact xB_x (xC_o (W := 75) rp0_S1).2)) (show aS 88 S1 = ab from by first | (exact (xC_o (W := 88) rp0_S1).1.trans (rp1_S1.trans hpre1))) (show (6 = 4 ∧ ¬ zRq ab o) ∨ (6 = 6 ∧ zRq ab o ∧ b = 0 ∧ ab 133 o.toNatClampNeg = 0) from by first | (have ty := xB_th (W := 88) rp0_S1 rg_c3; have e7 := ty.2.2.2.2.2.2.1; rw [(rp1_S1.trans hpre1)] at e7; exact Or.inr ⟨rfl, (rq_up rp3_S1 hpre1), by assumption, by rw [← e7]; assumption⟩)) (show zfP 79 (mI S1) = fq from by first | (exact ((zf_fr (P := 79) (S₉ := S1) (S := S) (fun _ => zG_z hL_S1 rfl)).trans hpre4)))
    · skip
      have g9 := i_ne h7
      refine zd (fun h10 => ?_) (fun h10 => ?_)
      · skip
        have g11 := i_eq h10
        have li12 : (-1 : Int32).toInt = -1 := rfl
        refine sp_97_69_s (ab := (aS 88 S1)) (R := (mR S 70)) (W := 88) (y := (o)) c3 ((-1 : Int32)) (by omega) (by omega) (zB_dn_zI hI_S1) th_c3 (show xB S1 (mR S 70) from by first | (exact (xC_o (W := 75) rp0_S1).2)) (show aS 88 S1 = (aS 88 S1) from by first | (exact rfl)) (show xW 88 from by first | (exact xW88) | (exact xW75)) (show zTa (mR S 70) (o) = some c3 from by first | (exact rg_c3)) (fun S8 hL_S8 rp0_S8 rp1_S8 => zv_n ⟨zG_T hL_S8, ?_⟩)
        have hI_S8 := zB_up_zI hI_S1 hL_S8
        have rp0_S8 : xB S8 (mR S 70) := by
          have z := rp0_S8
          (try rw [show mI S1 65 = f 65 from funext (fun k => zG_z hI_S1 rfl)] at z)
          (try rw [show mI S1 64 1 = f 64 1 from zG_z hI_S1 rfl] at z)
          exact z
        have rp1_S8 : aS 88 S8 = ma_u (aS 88 S1) 133 (o).toNatClampNeg ((aS 88 S1) 133 (o).toNatClampNeg + (-1 : Int32)) := by
          have z := rp1_S8
          (try rw [show mI S1 65 = f 65 from funext (fun k => zG_z hI_S1 rfl)] at z)
          (try rw [show mI S1 64 1 = f 64 1 from zG_z hI_S1 rfl] at z)
          exact z
        refine ⟨zG_n hI_S8 th_c3, ?_⟩
        have b13 := i_bd (mI S8 c3 7)
        exact K ((mI S8 c3 7)) _ hI_S8 trivial (show xB S8 (mR S8 70) from by first | (exact xB_x (xC_o (W := 75) rp0_S8).2)) (show zRq ab o ∧ (¬ b = 0 ∨ ¬ ab 133 o.toNatClampNeg = 0) ∧ aS 88 S8 = ma_u ab 133 o.toNatClampNeg (ab 133 o.toNatClampNeg + (if b = 0 then -1 else 1)) ∧ (mI S8 c3 7) = ab 133 o.toNatClampNeg + (if b = 0 then -1 else 1) from by first | (exfalso; omega) | (have ty := xB_th (W := 88) rp0_S1 rg_c3; have e7 := ty.2.2.2.2.2.2.1; rw [(rp1_S1.trans hpre1)] at e7; have t2 := xB_th (W := 88) rp0_S8 rg_c3; have f7 := t2.2.2.2.2.2.2.1; have hl := rp1_S8; rw [(rp1_S1.trans hpre1)] at hl; rw [hl, xu_s] at f7; refine ⟨(rq_up rp3_S1 hpre1), Or.inl (by assumption), ?_, ?_⟩; (rw [hl, if_neg (by assumption)]); (rw [if_neg (by assumption)]; exact f7)) | (have ty := xB_th (W := 88) rp0_S1 rg_c3; have e7 := ty.2.2.2.2.2.2.1; rw [(rp1_S1.trans hpre1)] at e7; have t2 := xB_th (W := 88) rp0_S8 rg_c3; have f7 := t2.2.2.2.2.2.2.1; have hl := rp1_S8; rw [(rp1_S1.trans hpre1)] at hl; rw [hl, xu_s] at f7; refine ⟨(rq_up rp3_S1 hpre1), Or.inr (by rw [← e7]; assumption), ?_, ?_⟩; (rw [hl, if_pos (by assumption)]); (rw [if_pos (by assumption)]; exact f7))) (show zfP 79 (mI S8) = fq from by first | (exact ((zf_fr (P := 79) (S₉ := S8) (S := S1) (fun _ => zG_z hL_S8 rfl)).trans ((zf_fr (P := 79) (S₉ := S1) (S := S) (fun _ => zG_z hL_S1 rfl)).trans hpre4))))
      · skip
        have g14 := i_ne h10
        have li15 : (1 : Int32).toInt = 1 := rfl
        refine sp_97_69_s (ab := (aS 88 S1)) (R := (mR S 70)) (W := 88) (y := (o)) c3 ((1 : Int32)) (by omega) (by omega) (zB_dn_zI hI_S1) th_c3 (show xB S1 (mR S 70) from by first | (exact (xC_o (W := 75) rp0_S1).2)) (show aS 88 S1 = (aS 88 S1) from by first | (exact rfl)) (show xW 88 from by first | (exact xW88) | (exact xW75)) (show zTa (mR S 70) (o) = some c3 from by first | (exact rg_c3)) (fun S10 hL_S10 rp0_S10 rp1_S10 => zv_n ⟨zG_T hL_S10, ?_⟩)
        have hI_S10 := zB_up_zI hI_S1 hL_S10
        have rp0_S10 : xB S10 (mR S 70) := by
          have z := rp0_S10
          (try rw [show mI S1 65 = f 65 from funext (fun k => zG_z hI_S1 rfl)] at z)
          (try rw [show mI S1 64 1 = f 64 1 from zG_z hI_S1 rfl] at z)
          exact z
        have rp1_S10 : aS 88 S10 = ma_u (aS 88 S1) 133 (o).toNatClampNeg ((aS 88 S1) 133 (o).toNatClampNeg + (1 : Int32)) := by
          have z := rp1_S10
          (try rw [show mI S1 65 = f 65 from funext (fun k => zG_z hI_S1 rfl)] at z)
          (try rw [show mI S1 64 1 = f 64 1 from zG_z hI_S1 rfl] at z)
          exact z
        refine ⟨zG_n hI_S10 th_c3, ?_⟩
        have b16 := i_bd (mI S10 c3 7)
        exact K ((mI S10 c3 7)) _ hI_S10 trivial (show xB S10 (mR S10 70) from by first | (exact xB_x (xC_o (W := 75) rp0_S10).2)) (show zRq ab o ∧ (¬ b = 0 ∨ ¬ ab 133 o.toNatClampNeg = 0) ∧ aS 88 S10 = ma_u ab 133 o.toNatClampNeg (ab 133 o.toNatClampNeg + (if b = 0 then -1 else 1)) ∧ (mI S10 c3 7) = ab 133 o.toNatClampNeg + (if b = 0 then -1 else 1) from by first | (exfalso; omega) | (have ty := xB_th (W := 88) rp0_S1 rg_c3; have e7 := ty.2.2.2.2.2.2.1; rw [(rp1_S1.trans hpre1)] at e7; have t2 := xB_th (W := 88) rp0_S10 rg_c3; have f7 := t2.2.2.2.2.2.2.1; have hl := rp1_S10; rw [(rp1_S1.trans hpre1)] at hl; rw [hl, xu_s] at f7; refine ⟨(rq_up rp3_S1 hpre1), Or.inl (by assumption), ?_, ?_⟩; (rw [hl, if_neg (by assumption)]); (rw [if_neg (by assumption)]; exact f7)) | (have ty := xB_th (W := 88) rp0_S1 rg_c3; have e7 := ty.2.2.2.2.2.2.1; rw [(rp1_S1.trans hpre1)] at e7; have t2 := xB_th (W := 88) rp0_S10 rg_c3; have f7 := t2.2.2.2.2.2.2.1; have hl := rp1_S10; rw [(rp1_S1.trans hpre1)] at hl; rw [hl, xu_s] at f7; refine ⟨(rq_up rp3_S1 hpre1), Or.inr (by rw [← e7]; assumption), ?_, ?_⟩; (rw [hl, if_pos (by assumption)]); (rw [if_pos (by assumption)]; exact f7))) (show zfP 79 (mI S10) = fq from by first | (exact ((zf_fr (P := 79) (S₉ := S10) (S := S1) (fun _ => zG_z hL_S10 rfl)).trans ((zf_fr (P := 79) (S₉ := S1) (S := S) (fun _ => zG_z hL_S1 rfl)).trans hpre4))))
  · skip
    have g17 := i_ne h4
    refine zd (fun h18 => ?_) (fun h18 => ?_)
    · skip
      have g19 := i_eq h18
      have li20 : (-1 : Int32).toInt = -1 := rfl
      refine sp_97_69_s (ab := (aS 88 S1)) (R := (mR S 70)) (W := 88) (y := (o)) c3 ((-1 : Int32)) (by omega) (by omega) (zB_dn_zI hI_S1) th_c3 (show xB S1 (mR S 70) from by first | (exact (xC_o (W := 75) rp0_S1).2)) (show aS 88 S1 = (aS 88 S1) from by first | (exact rfl)) (show xW 88 from by first | (exact xW88) | (exact xW75)) (show zTa (mR S 70) (o) = some c3 from by first | (exact rg_c3)) (fun S4 hL_S4 rp0_S4 rp1_S4 => zv_n ⟨zG_T hL_S4, ?_⟩)
      have hI_S4 := zB_up_zI hI_S1 hL_S4
      have rp0_S4 : xB S4 (mR S 70) := by
        have z := rp0_S4
        (try rw [show mI S1 65 = f 65 from funext (fun k => zG_z hI_S1 rfl)] at z)
        (try rw [show mI S1 64 1 = f 64 1 from zG_z hI_S1 rfl] at z)
        exact z
      have rp1_S4 : aS 88 S4 = ma_u (aS 88 S1) 133 (o).toNatClampNeg ((aS 88 S1) 133 (o).toNatClampNeg + (-1 : Int32)) := by
        have z := rp1_S4
        (try rw [show mI S1 65 = f 65 from funext (fun k => zG_z hI_S1 rfl)] at z)
        (try rw [show mI S1 64 1 = f 64 1 from zG_z hI_S1 rfl] at z)
        exact z
      refine ⟨zG_n hI_S4 th_c3, ?_⟩
      have b21 := i_bd (mI S4 c3 7)
      exact K ((mI S4 c3 7)) _ hI_S4 trivial (show xB S4 (mR S4 70) from by first | (exact xB_x (xC_o (W := 75) rp0_S4).2)) (show zRq ab o ∧ (¬ b = 0 ∨ ¬ ab 133 o.toNatClampNeg = 0) ∧ aS 88 S4 = ma_u ab 133 o.toNatClampNeg (ab 133 o.toNatClampNeg + (if b = 0 then -1 else 1)) ∧ (mI S4 c3 7) = ab 133 o.toNatClampNeg + (if b = 0 then -1 else 1) from by first | (exfalso; omega) | (have ty := xB_th (W := 88) rp0_S1 rg_c3; have e7 := ty.2.2.2.2.2.2.1; rw [(rp1_S1.trans hpre1)] at e7; have t2 := xB_th (W := 88) rp0_S4 rg_c3; have f7 := t2.2.2.2.2.2.2.1; have hl := rp1_S4; rw [(rp1_S1.trans hpre1)] at hl; rw [hl, xu_s] at f7; refine ⟨(rq_up rp3_S1 hpre1), Or.inl (by assumption), ?_, ?_⟩; (rw [hl, if_neg (by assumption)]); (rw [if_neg (by assumption)]; exact f7)) | (have ty := xB_th (W := 88) rp0_S1 rg_c3; have e7 := ty.2.2.2.2.2.2.1; rw [(rp1_S1.trans hpre1)] at e7; have t2 := xB_th (W := 88) rp0_S4 rg_c3; have f7 := t2.2.2.2.2.2.2.1; have hl := rp1_S4; rw [(rp1_S1.trans hpre1)] at hl; rw [hl, xu_s] at f7; refine ⟨(rq_up rp3_S1 hpre1), Or.inr (by rw [← e7]; assumption), ?_, ?_⟩; (rw [hl, if_pos (by assumption)]); (rw [if_pos (by assumption)]; exact f7))) (show zfP 79 (mI S4) = fq from by first | (exact ((zf_fr (P := 79) (S₉ := S4) (S := S1) (fun _ => zG_z hL_S4 rfl)).trans ((zf_fr (P := 79) (S₉ := S1) (S := S) (fun _ => zG_z hL_S1 rfl)).trans hpre4))))
    · skip
      have g22 := i_ne h18
      have li23 : (1 : Int32).toInt = 1 := rfl
      refine sp_97_69_s (ab := (aS 88 S1)) (R := (mR S 70)) (W := 88) (y := (o)) c3 ((1 : Int32)) (by omega) (by omega) (zB_dn_zI hI_S1) th_c3 (show xB S1 (mR S 70) from by first | (exact (xC_o (W := 75) rp0_S1).2)) (show aS 88 S1 = (aS 88 S1) from by first | (exact rfl)) (show xW 88 from by first | (exact xW88) | (exact xW75)) (show zTa (mR S 70) (o) = some c3 from by first | (exact rg_c3)) (fun S6 hL_S6 rp0_S6 rp1_S6 => zv_n ⟨zG_T hL_S6, ?_⟩)
      have hI_S6 := zB_up_zI hI_S1 hL_S6
      have rp0_S6 : xB S6 (mR S 70) := by
        have z := rp0_S6
        (try rw [show mI S1 65 = f 65 from funext (fun k => zG_z hI_S1 rfl)] at z)
        (try rw [show mI S1 64 1 = f 64 1 from zG_z hI_S1 rfl] at z)
        exact z
      have rp1_S6 : aS 88 S6 = ma_u (aS 88 S1) 133 (o).toNatClampNeg ((aS 88 S1) 133 (o).toNatClampNeg + (1 : Int32)) := by
        have z := rp1_S6
        (try rw [show mI S1 65 = f 65 from funext (fun k => zG_z hI_S1 rfl)] at z)
        (try rw [show mI S1 64 1 = f 64 1 from zG_z hI_S1 rfl] at z)
        exact z
      refine ⟨zG_n hI_S6 th_c3, ?_⟩
      have b24 := i_bd (mI S6 c3 7)
      exact K ((mI S6 c3 7)) _ hI_S6 trivial (show xB S6 (mR S6 70) from by first | (exact xB_x (xC_o (W := 75) rp0_S6).2)) (show zRq ab o ∧ (¬ b = 0 ∨ ¬ ab 133 o.toNatClampNeg = 0) ∧ aS 88 S6 = ma_u ab 133 o.toNatClampNeg (ab 133 o.toNatClampNeg + (if b = 0 then -1 else 1)) ∧ (mI S6 c3 7) = ab 133 o.toNatClampNeg + (if b = 0 then -1 else 1) from by first | (exfalso; omega) | (have ty := xB_th (W := 88) rp0_S1 rg_c3; have e7 := ty.2.2.2.2.2.2.1; rw [(rp1_S1.trans hpre1)] at e7; have t2 := xB_th (W := 88) rp0_S6 rg_c3; have f7 := t2.2.2.2.2.2.2.1; have hl := rp1_S6; rw [(rp1_S1.trans hpre1)] at hl; rw [hl, xu_s] at f7; refine ⟨(rq_up rp3_S1 hpre1), Or.inl (by assumption), ?_, ?_⟩; (rw [hl, if_neg (by assumption)]); (rw [if_neg (by assumption)]; exact f7)) | (have ty := xB_th (W := 88) rp0_S1 rg_c3; have e7 := ty.2.2.2.2.2.2.1; rw [(rp1_S1.trans hpre1)] at e7; have t2 := xB_th (W := 88) rp0_S6 rg_c3; have f7 := t2.2.2.2.2.2.2.1; have hl := rp1_S6; rw [(rp1_S1.trans hpre1)] at hl; rw [hl, xu_s] at f7; refine ⟨(rq_up rp3_S1 hpre1), Or.inr (by rw [← e7]; assumption), ?_, ?_⟩; (rw [hl, if_pos (by assumption)]); (rw [if_pos (by assumption)]; exact f7))) (show zfP 79 (mI S6) = fq from by first | (exact ((zf_fr (P := 79) (S₉ := S6) (S := S1) (fun _ => zG_z hL_S6 rfl)).trans ((zf_fr (P := 79) (S₉ := S1) (S := S) (fun _ => zG_z hL_S1 rfl)).trans hpre4))))

