/-! the moving collectors, the class (written by wip/tools/gen15.py) -/
theorem g_157_64_sm_p80_0 {X : Nat × (Nat → Int32)} {d w : Nat} {S : ma_S} {Q : Option ma_V ⊕ Nat → ma_S → Prop} (o : Int32) (hd : 7 ≤ d) (hw : 111 ≤ w) (hS : zT S) (h : mR S 64 11 = some 80 ∧ (mR S 64 11 = some 80 ∧ (ma_wp X (d - 1) (w - 22) 149 0 [(0, .inr (.inr (some 64))), (1, .inl o)] [] S (zo (fun v2 S1 => zT S1 ∧ ((∃ c3, v2 = some c3 ∧ ((126 ≤ c3 ∧ c3 < mN S1) ∧ (if (mI S1 c3 8) = 0 then ((126 ≤ c3 ∧ c3 < mN S1) ∧ (Q (.inl (some (.inl (1 : Int32)))) (ma_put S1 c3 8 (.inl (1 : Int32))))) else ((126 ≤ c3 ∧ c3 < mN S1) ∧ (Q (.inl (some (.inl (0 : Int32)))) (ma_put S1 c3 8 (.inl (1 : Int32)))))))))) (fun x S9 => Q (.inr x) S9))))) : ma_wp X d w 157 0 [(0, .inr (.inr (some 64))), (1, .inl o)] [] S Q := by
  refine zw_push hm_157 dX11_wish_0 (v := .inr (.inr (some 64))) rfl ?_
  refine zw_cv hm_157 dX11_wish_1 v_11_119_11 hm_144 [] [] rfl (zT_rt hS s_64 rfl) ⟨by omega, by omega⟩ rfl ?_
  show ma_wp X (d - 1) (w - 20) 144 0 [(0, .inr (.inr (some 64)))] [] S _
  refine zw_push hm_144 dX11_needCollector_0 (v := .inr (.inr (some 64))) rfl ?_
  obtain ⟨hg, h⟩ := h
  refine zw_gf hm_144 dX11_needCollector_1 (v := .inr (.inr (some 80))) (zT_is hS s_64) (zT_t hS s_64) rfl f_11_98_11 (congrArg (fun z => Sum.inr (Sum.inr z)) hg) ?_
  refine zw_ifnonnull hm_144 dX11_needCollector_4 (t := 15) rfl (fun z => by cases z) (fun _ _ => ?_)
  refine zw_push hm_144 dX11_needCollector_15 (v := .inr (.inr (some 64))) rfl ?_
  obtain ⟨hg, h⟩ := h
  refine zw_gf hm_144 dX11_needCollector_16 (v := .inr (.inr (some 80))) (zT_is hS s_64) (zT_t hS s_64) rfl f_11_98_11 (congrArg (fun z => Sum.inr (Sum.inr z)) hg) ?_
  refine zw_aret hm_144 dX11_needCollector_19 ?_
  show ma_wp X d w 157 4 [(0, .inr (.inr (some 64))), (1, .inl o)] [.inr (.inr (some 80))] S _
  refine zw_stk hm_157 dX11_wish_4 (st' := []) rfl rfl ?_
  refine zw_push hm_157 dX11_wish_5 (v := .inr (.inr (some 64))) rfl ?_
  refine zw_push hm_157 dX11_wish_6 (v := .inl o) rfl ?_
  refine zw_cv hm_157 dX11_wish_7 v_11_123_11 hm_149 [.inl o] [] rfl (zT_rt hS s_64 rfl) ⟨by omega, by omega⟩ rfl (zw_mono h (zo_go ?_ ?_))
  · intro v2 S1 hv
    obtain ⟨hS1, h⟩ := hv
    obtain ⟨c3, hc, h⟩ := h
    subst hc
    show ma_wp X d w 157 10 [(0, .inr (.inr (some 64))), (1, .inl o)] [.inr (.inr (some c3))] S1 _
    refine zw_sto hm_157 dX11_wish_10 [(2, .inr (.inr (some c3))), (0, .inr (.inr (some 64))), (1, .inl o)] rfl rfl rfl ?_
    refine zw_push hm_157 dX11_wish_11 (v := .inr (.inr (some c3))) rfl ?_
    obtain ⟨hg, h⟩ := h
    refine zw_gf hm_157 dX11_wish_12 (v := .inl (mI S1 c3 8)) (zT_tis hS1 hg) (zT_tt hS1 hg) rfl f_11_199_9 rfl ?_
    refine zw_if0 hm_157 dX11_wish_15 (t := 22) rfl zc0_eq ?_ ?_
    · intro hc
      rw [if_pos hc] at h
      refine zw_push hm_157 dX11_wish_22 (v := .inl (1 : Int32)) rfl ?_
      refine zw_sto hm_157 dX11_wish_23 [(3, .inl (1 : Int32)), (2, .inr (.inr (some c3))), (0, .inr (.inr (some 64))), (1, .inl o)] rfl rfl rfl ?_
      refine zw_push hm_157 dX11_wish_24 (v := .inr (.inr (some c3))) rfl ?_
      refine zw_push hm_157 dX11_wish_25 (v := .inl (1 : Int32)) rfl ?_
      obtain ⟨hg, h⟩ := h
      refine zw_pf hm_157 dX11_wish_26 (zT_tis hS1 hg) (zT_tt hS1 hg) p_11_199_9 (zk_bool (by decide)) ?_
      refine zw_push hm_157 dX11_wish_29 (v := .inl (1 : Int32)) rfl ?_
      exact zw_iret hm_157 dX11_wish_30 h
    · intro hc
      rw [if_neg hc] at h
      refine zw_push hm_157 dX11_wish_18 (v := .inl (0 : Int32)) rfl ?_
      refine zw_goto hm_157 dX11_wish_19 (t := 23) rfl ?_
      refine zw_sto hm_157 dX11_wish_23 [(3, .inl (0 : Int32)), (2, .inr (.inr (some c3))), (0, .inr (.inr (some 64))), (1, .inl o)] rfl rfl rfl ?_
      refine zw_push hm_157 dX11_wish_24 (v := .inr (.inr (some c3))) rfl ?_
      refine zw_push hm_157 dX11_wish_25 (v := .inl (1 : Int32)) rfl ?_
      obtain ⟨hg, h⟩ := h
      refine zw_pf hm_157 dX11_wish_26 (zT_tis hS1 hg) (zT_tt hS1 hg) p_11_199_9 (zk_bool (by decide)) ?_
      refine zw_push hm_157 dX11_wish_29 (v := .inl (0 : Int32)) rfl ?_
      exact zw_iret hm_157 dX11_wish_30 h
  · intro x S9 hx
    exact ⟨by decide, hx⟩
theorem sp_157_64_sm_p80 {X : Nat × (Nat → Int32)} {d w : Nat} {f : Nat → Nat → Int32} {r : Nat → Nat → Option Nat} {C Z N : Nat} {Q : Option ma_V ⊕ Nat → ma_S → Prop} {ab : Nat→Nat→Int32} {fp80 : Nat→Int32} {S : ma_S} (o : Int32) (hd : 7 ≤ d) (hw : 111 ≤ w) (hI : zB f r C Z N S) (hr : r 64 11 = some 80) (hpre0 : xB S (mR S 70)) (hpre1 : aS 88 S = ab) (hpre2 : (mI S 80) = fp80) (K : ∀ v S', zB f r C Z N S' → (True) → (xB S' (mR S' 70)) → (zRq ab o ∧ aS 88 S' = ma_u ab 134 o.toNatClampNeg 1 ∧ v = (if ab 134 o.toNatClampNeg = 0 then 1 else 0)) → ((mI S' 80) = fp80) → Q (.inl (some (.inl v))) S') (KX : ∀ x S', (x = 4) → zB f r C Z N S' → (xB S' (mR S' 70)) → (aS 88 S' = ab) → (x = 4 ∧ ¬ zRq ab o) → ((mI S' 80) = fp80) → Q (.inr x) (ma_bump S')) : ma_wp X d w 157 0 [(0, .inr (.inr (some 64))), (1, .inl o)] [] S Q := by
  refine g_157_64_sm_p80_0 o (by omega) (by omega) (zG_T hI) ?_
  refine ⟨((zG_r hI (by decide)).trans hr), ?_⟩
  refine ⟨((zG_r hI (by decide)).trans hr), ?_⟩
  have b1 := i_bd o
  refine sp_149_64_s (R := (mR S 70)) (a7 := (aS 75 S)) (a8 := (aS 88 S)) (o) (by omega) (by omega) (zB_dn_zI hI) (show xB S (mR S 70) from by first | (exact (xC_o (W := 75) hpre0).2)) (show aS 75 S = (aS 75 S) from by first | (exact rfl)) (show aS 88 S = (aS 88 S) from by first | (exact rfl)) (fun v2 S1 hL_S1 hq_v2 rp0_S1 rp1_S1 rp2_S1 rp3_S1 => zo_n ⟨zG_T hL_S1, ?_⟩) (fun x S9 hx h9 rx0 rx1 rx2 => by have h9u := (zB_up_zI hI h9); exact zo_x (KX x S9 (by omega) h9u (show xB S9 (mR S9 70) from by first | (exact xB_x (xC_o (W := 75) rx0).2)) (show aS 88 S9 = ab from by first | (exact rx1.trans hpre1)) (show x = 4 ∧ ¬ zRq ab o from by first | (exact ⟨rx2.1, rq_no rx2.2 hpre1⟩)) (show (mI S9 80) = fp80 from by first | (exact ((show mI _ 80 = mI _ 80 from funext (fun _ => zG_z h9 rfl)).trans hpre2)))))
  have hI_S1 := zB_up_zI hI hL_S1
  have rp0_S1 : xB S1 (mR S 70) := by
    have z := rp0_S1
    (try rw [show mI S 65 = f 65 from funext (fun k => zG_z hI rfl)] at z)
    (try rw [show mI S 64 1 = f 64 1 from zG_z hI rfl] at z)
    exact z
  have rp1_S1 : aS 88 S1 = (aS 88 S) := by
    have z := rp1_S1
    (try rw [show mI S 65 = f 65 from funext (fun k => zG_z hI rfl)] at z)
    (try rw [show mI S 64 1 = f 64 1 from zG_z hI rfl] at z)
    exact z
  have rp2_S1 : v2 = zTa (mR S 70) o := by
    have z := rp2_S1
    (try rw [show mI S 65 = f 65 from funext (fun k => zG_z hI rfl)] at z)
    (try rw [show mI S 64 1 = f 64 1 from zG_z hI rfl] at z)
    exact z
  have rp3_S1 : zRq (aS 75 S) o := by
    have z := rp3_S1
    (try rw [show mI S 65 = f 65 from funext (fun k => zG_z hI rfl)] at z)
    (try rw [show mI S 64 1 = f 64 1 from zG_z hI rfl] at z)
    exact z
  obtain ⟨c3, hc, th_c3⟩ := hq_v2
  have rg_c3 : zTa (mR S 70) o = some c3 := rp2_S1.symm.trans hc
  refine ⟨c3, hc, ?_⟩
  refine ⟨zG_n hI_S1 th_c3, ?_⟩
  have b2 := i_bd (mI S1 c3 8)
  have li3 : (0 : Int32).toInt = 0 := rfl
  refine zd (fun h4 => ?_) (fun h4 => ?_)
  · skip
    have g5 := i_eq h4
    refine ⟨zG_n hI_S1 th_c3, ?_⟩
    have hI6 : zB f r C Z N (ma_put S1 c3 8 (.inl (1 : Int32))) := zG_tf hI_S1 th_c3.1 zB_t (by decide) (by decide) (zB_xt (S := S1) th_c3.1 (zG_x hI_S1)) (by decide) (by decide) (by decide)
    have li7 : (1 : Int32).toInt = 1 := rfl
    exact K ((1 : Int32)) _ hI6 trivial (show xB (ma_put S1 c3 8 (.inl (1 : Int32))) (mR (ma_put S1 c3 8 (.inl (1 : Int32))) 70) from by first | (exact xB_x (xC_t (k := 8) (x := (1 : Int32)) (xC_o (W := 75) rp0_S1) xW75 rg_c3 rfl).2)) (show zRq ab o ∧ aS 88 (ma_put S1 c3 8 (.inl (1 : Int32))) = ma_u ab 134 o.toNatClampNeg 1 ∧ (1 : Int32) = (if ab 134 o.toNatClampNeg = 0 then 1 else 0) from by first | (have ty := xB_th (W := 88) rp0_S1 rg_c3; have e8 := ty.2.2.2.2.2.2.2.1; rw [(rp1_S1.trans hpre1)] at e8; refine ⟨(rq_up rp3_S1 hpre1), (xC_t (k := 8) (x := (1 : Int32)) (xC_o (W := 88) rp0_S1) xW88 rg_c3 rfl).1.trans ?_, ?_⟩; (rw [(rp1_S1.trans hpre1)]); (rw [← e8]; exact (if_pos (by assumption)).symm))) (show (mI (ma_put S1 c3 8 (.inl (1 : Int32))) 80) = fp80 from by first | (exact ((zr_n (P := 80) (by have := th_c3.1; omega)).trans ((show mI S1 80 = mI S 80 from funext (fun _ => zG_z hL_S1 rfl)).trans hpre2))))
  · skip
    have g8 := i_ne h4
    refine ⟨zG_n hI_S1 th_c3, ?_⟩
    have hI9 : zB f r C Z N (ma_put S1 c3 8 (.inl (1 : Int32))) := zG_tf hI_S1 th_c3.1 zB_t (by decide) (by decide) (zB_xt (S := S1) th_c3.1 (zG_x hI_S1)) (by decide) (by decide) (by decide)
    exact K ((0 : Int32)) _ hI9 trivial (show xB (ma_put S1 c3 8 (.inl (1 : Int32))) (mR (ma_put S1 c3 8 (.inl (1 : Int32))) 70) from by first | (exact xB_x (xC_t (k := 8) (x := (1 : Int32)) (xC_o (W := 75) rp0_S1) xW75 rg_c3 rfl).2)) (show zRq ab o ∧ aS 88 (ma_put S1 c3 8 (.inl (1 : Int32))) = ma_u ab 134 o.toNatClampNeg 1 ∧ (0 : Int32) = (if ab 134 o.toNatClampNeg = 0 then 1 else 0) from by first | (have ty := xB_th (W := 88) rp0_S1 rg_c3; have e8 := ty.2.2.2.2.2.2.2.1; rw [(rp1_S1.trans hpre1)] at e8; refine ⟨(rq_up rp3_S1 hpre1), (xC_t (k := 8) (x := (1 : Int32)) (xC_o (W := 88) rp0_S1) xW88 rg_c3 rfl).1.trans ?_, ?_⟩; (rw [(rp1_S1.trans hpre1)]); (rw [← e8]; exact (if_neg (by assumption)).symm))) (show (mI (ma_put S1 c3 8 (.inl (1 : Int32))) 80) = fp80 from by first | (exact ((zr_n (P := 80) (by have := th_c3.1; omega)).trans ((show mI S1 80 = mI S 80 from funext (fun _ => zG_z hL_S1 rfl)).trans hpre2))))
