/-! from 95.u34 -/
/-! AGES, the class (written by wip/tools/gen15y.py) -/
theorem g_157_64_sm_p82_0 {X : Nat × (Nat → Int32)} {d w : Nat} {S : ma_S} {Q : Option ma_V ⊕ Nat → ma_S → Prop} (o : Int32) (hd : 7 ≤ d) (hw : 111 ≤ w) (hS : zT S) (h : mR S 64 11 = some 82 ∧ (mR S 64 11 = some 82 ∧ (ma_wp X (d - 1) (w - 22) 149 0 [(0, .inr (.inr (some 64))), (1, .inl o)] [] S (zo (fun v2 S1 => zT S1 ∧ ((∃ c3, v2 = some c3 ∧ ((126 ≤ c3 ∧ c3 < mN S1) ∧ (if (mI S1 c3 8) = 0 then ((126 ≤ c3 ∧ c3 < mN S1) ∧ (Q (.inl (some (.inl (1 : Int32)))) (ma_put S1 c3 8 (.inl (1 : Int32))))) else ((126 ≤ c3 ∧ c3 < mN S1) ∧ (Q (.inl (some (.inl (0 : Int32)))) (ma_put S1 c3 8 (.inl (1 : Int32)))))))))) (fun x S9 => Q (.inr x) S9))))) : ma_wp X d w 157 0 [(0, .inr (.inr (some 64))), (1, .inl o)] [] S Q := by
  refine zw_push hm_157 dX11_wish_0 (v := .inr (.inr (some 64))) rfl ?_
  refine zw_cv hm_157 dX11_wish_1 v_11_119_11 hm_144 [] [] rfl (zT_rt hS s_64 rfl) ⟨by omega, by omega⟩ rfl ?_
  show ma_wp X (d - 1) (w - 20) 144 0 [(0, .inr (.inr (some 64)))] [] S _
  refine zw_push hm_144 dX11_needCollector_0 (v := .inr (.inr (some 64))) rfl ?_
  obtain ⟨hg, h⟩ := h
  refine zw_gf hm_144 dX11_needCollector_1 (v := .inr (.inr (some 82))) (zT_is hS s_64) (zT_t hS s_64) rfl f_11_98_11 (congrArg (fun z => Sum.inr (Sum.inr z)) hg) ?_
  refine zw_ifnonnull hm_144 dX11_needCollector_4 (t := 15) rfl (fun z => by cases z) (fun _ _ => ?_)
  refine zw_push hm_144 dX11_needCollector_15 (v := .inr (.inr (some 64))) rfl ?_
  obtain ⟨hg, h⟩ := h
  refine zw_gf hm_144 dX11_needCollector_16 (v := .inr (.inr (some 82))) (zT_is hS s_64) (zT_t hS s_64) rfl f_11_98_11 (congrArg (fun z => Sum.inr (Sum.inr z)) hg) ?_
  refine zw_aret hm_144 dX11_needCollector_19 ?_
  show ma_wp X d w 157 4 [(0, .inr (.inr (some 64))), (1, .inl o)] [.inr (.inr (some 82))] S _
  refine zw_stk hm_157 dX11_wish_4 (st₉ := []) rfl rfl ?_
  refine zw_push hm_157 dX11_wish_5 (v := .inr (.inr (some 64))) rfl ?_
  refine zw_push hm_157 dX11_wish_6 (v := .inl o) rfl ?_
  refine zw_cv hm_157 dX11_wish_7 v_11_123_11 hm_149 [.inl o] [] rfl (zT_rt hS s_64 rfl) ⟨by omega, by omega⟩ rfl (zw_mono h (zo_go ?_ ?_))
  · intro v2 S1 hv
    obtain ⟨hS1, h⟩ := hv
    obtain ⟨c3, hc, h⟩ := h
    subst hc
    show ma_wp X d w 157 10 [(0, .inr (.inr (some 64))), (1, .inl o)] [.inr (.inr (some c3))] S1 _
    refine zw_sto hm_157 dX11_wish_10 [(2, .inr (.inr (some c3))), (0, .inr (.inr (some 64))), (1, .inl o)] rfl rfl rfl ?_
    refine zw_push hm_157 dX11_wish_11 (v := .inr (.inr (some c3))) rfl ?_
    obtain ⟨hg, h⟩ := h
    refine zw_gf hm_157 dX11_wish_12 (v := .inl (mI S1 c3 8)) (zT_tis hS1 hg) (zT_tt hS1 hg) rfl f_11_199_9 rfl ?_
    refine zw_if0 hm_157 dX11_wish_15 (t := 22) rfl zc0_eq ?_ ?_
    · intro hc
      rw [if_pos hc] at h
      refine zw_push hm_157 dX11_wish_22 (v := .inl (1 : Int32)) rfl ?_
      refine zw_sto hm_157 dX11_wish_23 [(3, .inl (1 : Int32)), (2, .inr (.inr (some c3))), (0, .inr (.inr (some 64))), (1, .inl o)] rfl rfl rfl ?_
      refine zw_push hm_157 dX11_wish_24 (v := .inr (.inr (some c3))) rfl ?_
      refine zw_push hm_157 dX11_wish_25 (v := .inl (1 : Int32)) rfl ?_
      obtain ⟨hg, h⟩ := h
      refine zw_pf hm_157 dX11_wish_26 (zT_tis hS1 hg) (zT_tt hS1 hg) p_11_199_9 (zk_bool (by decide)) ?_
      refine zw_push hm_157 dX11_wish_29 (v := .inl (1 : Int32)) rfl ?_
      exact zw_iret hm_157 dX11_wish_30 h
    · intro hc
      rw [if_neg hc] at h
      refine zw_push hm_157 dX11_wish_18 (v := .inl (0 : Int32)) rfl ?_
      refine zw_goto hm_157 dX11_wish_19 (t := 23) rfl ?_
      refine zw_sto hm_157 dX11_wish_23 [(3, .inl (0 : Int32)), (2, .inr (.inr (some c3))), (0, .inr (.inr (some 64))), (1, .inl o)] rfl rfl rfl ?_
      refine zw_push hm_157 dX11_wish_24 (v := .inr (.inr (some c3))) rfl ?_
      refine zw_push hm_157 dX11_wish_25 (v := .inl (1 : Int32)) rfl ?_
      obtain ⟨hg, h⟩ := h
      refine zw_pf hm_157 dX11_wish_26 (zT_tis hS1 hg) (zT_tt hS1 hg) p_11_199_9 (zk_bool (by decide)) ?_
      refine zw_push hm_157 dX11_wish_29 (v := .inl (0 : Int32)) rfl ?_
      exact zw_iret hm_157 dX11_wish_30 h
  · intro x S9 hx
    exact ⟨by decide, hx⟩
theorem sp_157_64_sm_p82 {X : Nat × (Nat → Int32)} {d w : Nat} {f : Nat → Nat → Int32} {r : Nat → Nat → Option Nat} {C Z N : Nat} {Q : Option ma_V ⊕ Nat → ma_S → Prop} {ab : Nat→Nat→Int32} {fp82 : Nat→Int32} {fp83 : Nat→Int32} {S : ma_S} (o : Int32) (hd : 7 ≤ d) (hw : 111 ≤ w) (hI : zB f r C Z N S) (hr : r 64 11 = some 82) (hpre0 : xB S (mR S 70)) (hpre1 : aS 88 S = ab) (hpre2 : (mI S 82) = fp82) (hpre3 : (mI S 83) = fp83) (K : ∀ v S₉, zB f r C Z N S₉ → (True) → (xB S₉ (mR S₉ 70)) → (zRq ab o ∧ aS 88 S₉ = ma_u ab 134 o.toNatClampNeg 1 ∧ v = (if ab 134 o.toNatClampNeg = 0 then 1 else 0)) → ((mI S₉ 82) = fp82) → ((mI S₉ 83) = fp83) → Q (.inl (some (.inl v))) S₉) (KX : ∀ x S₉, (x = 4) → zB f r C Z N S₉ → (xB S₉ (mR S₉ 70)) → (aS 88 S₉ = ab) → (x = 4 ∧ ¬ zRq ab o) → ((mI S₉ 82) = fp82) → ((mI S₉ 83) = fp83) → Q (.inr x) (ma_bump S₉)) : ma_wp X d w 157 0 [(0, .inr (.inr (some 64))), (1, .inl o)] [] S Q := by
  refine g_157_64_sm_p82_0 o (by omega) (by omega) (zG_T hI) ?_
  refine ⟨((zG_r hI (by decide)).trans hr), ?_⟩
  refine ⟨((zG_r hI (by decide)).trans hr), ?_⟩
  have b1 := i_bd o
  refine sp_149_64_s (R := (mR S 70)) (a7 := (aS 75 S)) (a8 := (aS 88 S)) (o) (by omega) (by omega) (zB_dn_zI hI) (show xB S (mR S 70) from by first | (exact (xC_o (W := 75) hpre0).2)) (show aS 75 S = (aS 75 S) from by first | (exact rfl)) (show aS 88 S = (aS 88 S) from by first | (exact rfl)) (fun v2 S1 hL_S1 hq_v2 rp0_S1 rp1_S1 rp2_S1 rp3_S1 => zo_n ⟨zG_T hL_S1, ?_⟩) (fun x S9 hx h9 rx0 rx1 rx2 => by have h9u := (zB_up_zI hI h9); exact zo_x (KX x S9 (by omega) h9u (show xB S9 (mR S9 70) from by first | (exact xB_x (xC_o (W := 75) rx0).2)) (show aS 88 S9 = ab from by first | (exact rx1.trans hpre1)) (show x = 4 ∧ ¬ zRq ab o from by first | (exact ⟨rx2.1, rq_no rx2.2 hpre1⟩)) (show (mI S9 82) = fp82 from by first | (exact ((show mI _ 82 = mI _ 82 from funext (fun _ => zG_z h9 rfl)).trans hpre2))) (show (mI S9 83) = fp83 from by first | (exact ((show mI _ 83 = mI _ 83 from funext (fun _ => zG_z h9 rfl)).trans hpre3)))))
  have hI_S1 := zB_up_zI hI hL_S1
  have rp0_S1 : xB S1 (mR S 70) := by
    have z := rp0_S1
    (try rw [show mI S 65 = f 65 from funext (fun k => zG_z hI rfl)] at z)
    (try rw [show mI S 64 1 = f 64 1 from zG_z hI rfl] at z)
    exact z
  have rp1_S1 : aS 88 S1 = (aS 88 S) := by
    have z := rp1_S1
    (try rw [show mI S 65 = f 65 from funext (fun k => zG_z hI rfl)] at z)
    (try rw [show mI S 64 1 = f 64 1 from zG_z hI rfl] at z)
    exact z
  have rp2_S1 : v2 = zTa (mR S 70) o := by
    have z := rp2_S1
    (try rw [show mI S 65 = f 65 from funext (fun k => zG_z hI rfl)] at z)
    (try rw [show mI S 64 1 = f 64 1 from zG_z hI rfl] at z)
    exact z
  have rp3_S1 : zRq (aS 75 S) o := by
    have z := rp3_S1
    (try rw [show mI S 65 = f 65 from funext (fun k => zG_z hI rfl)] at z)
    (try rw [show mI S 64 1 = f 64 1 from zG_z hI rfl] at z)
    exact z
  obtain ⟨c3, hc, th_c3⟩ := hq_v2
  have rg_c3 : zTa (mR S 70) o = some c3 := rp2_S1.symm.trans hc
  refine ⟨c3, hc, ?_⟩
  refine ⟨zG_n hI_S1 th_c3, ?_⟩
  have b2 := i_bd (mI S1 c3 8)
  have li3 : (0 : Int32).toInt = 0 := rfl
  refine zd (fun h4 => ?_) (fun h4 => ?_)
  · skip
    have g5 := i_eq h4
    refine ⟨zG_n hI_S1 th_c3, ?_⟩
    have hI6 : zB f r C Z N (ma_put S1 c3 8 (.inl (1 : Int32))) := zG_tf hI_S1 th_c3.1 zB_t (by decide) (by decide) (zB_xt (S := S1) th_c3.1 (zG_x hI_S1)) (by decide) (by decide) (by decide)
    have li7 : (1 : Int32).toInt = 1 := rfl
    exact K ((1 : Int32)) _ hI6 trivial (show xB (ma_put S1 c3 8 (.inl (1 : Int32))) (mR (ma_put S1 c3 8 (.inl (1 : Int32))) 70) from by first | (exact xB_x (xC_t (k := 8) (x := (1 : Int32)) (xC_o (W := 75) rp0_S1) xW75 rg_c3 rfl).2)) (show zRq ab o ∧ aS 88 (ma_put S1 c3 8 (.inl (1 : Int32))) = ma_u ab 134 o.toNatClampNeg 1 ∧ (1 : Int32) = (if ab 134 o.toNatClampNeg = 0 then 1 else 0) from by first | (have ty := xB_th (W := 88) rp0_S1 rg_c3; have e8 := ty.2.2.2.2.2.2.2.1; rw [(rp1_S1.trans hpre1)] at e8; refine ⟨(rq_up rp3_S1 hpre1), (xC_t (k := 8) (x := (1 : Int32)) (xC_o (W := 88) rp0_S1) xW88 rg_c3 rfl).1.trans ?_, ?_⟩; (rw [(rp1_S1.trans hpre1)]); (rw [← e8]; exact (if_pos (by assumption)).symm))) (show (mI (ma_put S1 c3 8 (.inl (1 : Int32))) 82) = fp82 from by first | (exact ((zr_n (P := 82) (by have := th_c3.1; omega)).trans ((show mI S1 82 = mI S 82 from funext (fun _ => zG_z hL_S1 rfl)).trans hpre2)))) (show (mI (ma_put S1 c3 8 (.inl (1 : Int32))) 83) = fp83 from by first | (exact ((zr_n (P := 83) (by have := th_c3.1; omega)).trans ((show mI S1 83 = mI S 83 from funext (fun _ => zG_z hL_S1 rfl)).trans hpre3))))
  · skip
    have g8 := i_ne h4
    refine ⟨zG_n hI_S1 th_c3, ?_⟩
    have hI9 : zB f r C Z N (ma_put S1 c3 8 (.inl (1 : Int32))) := zG_tf hI_S1 th_c3.1 zB_t (by decide) (by decide) (zB_xt (S := S1) th_c3.1 (zG_x hI_S1)) (by decide) (by decide) (by decide)
    exact K ((0 : Int32)) _ hI9 trivial (show xB (ma_put S1 c3 8 (.inl (1 : Int32))) (mR (ma_put S1 c3 8 (.inl (1 : Int32))) 70) from by first | (exact xB_x (xC_t (k := 8) (x := (1 : Int32)) (xC_o (W := 75) rp0_S1) xW75 rg_c3 rfl).2)) (show zRq ab o ∧ aS 88 (ma_put S1 c3 8 (.inl (1 : Int32))) = ma_u ab 134 o.toNatClampNeg 1 ∧ (0 : Int32) = (if ab 134 o.toNatClampNeg = 0 then 1 else 0) from by first | (have ty := xB_th (W := 88) rp0_S1 rg_c3; have e8 := ty.2.2.2.2.2.2.2.1; rw [(rp1_S1.trans hpre1)] at e8; refine ⟨(rq_up rp3_S1 hpre1), (xC_t (k := 8) (x := (1 : Int32)) (xC_o (W := 88) rp0_S1) xW88 rg_c3 rfl).1.trans ?_, ?_⟩; (rw [(rp1_S1.trans hpre1)]); (rw [← e8]; exact (if_neg (by assumption)).symm))) (show (mI (ma_put S1 c3 8 (.inl (1 : Int32))) 82) = fp82 from by first | (exact ((zr_n (P := 82) (by have := th_c3.1; omega)).trans ((show mI S1 82 = mI S 82 from funext (fun _ => zG_z hL_S1 rfl)).trans hpre2)))) (show (mI (ma_put S1 c3 8 (.inl (1 : Int32))) 83) = fp83 from by first | (exact ((zr_n (P := 83) (by have := th_c3.1; omega)).trans ((show mI S1 83 = mI S 83 from funext (fun _ => zG_z hL_S1 rfl)).trans hpre3))))
theorem g_153_64_sm_p82_0 {X : Nat × (Nat → Int32)} {d w : Nat} {S : ma_S} {Q : Option ma_V ⊕ Nat → ma_S → Prop} (i : Int32) (o : Int32) (hd : 8 ≤ d) (hw : 134 ≤ w) (hS : zT S) (h : if i < 0 then (Q (.inr 2) (ma_bump S)) else (if (16 : Int32) ≤ i then (Q (.inr 2) (ma_bump S)) else (mR S 64 11 = some 82 ∧ (mR S 64 11 = some 82 ∧ (ma_wp X (d - 1) (w - 21) 151 0 [(0, .inr (.inr (some 64))), (1, .inl o)] [] S (zo (fun v2 S1 => zT S1 ∧ (ma_wp X (d - 1) (w - 24) 145 0 [(0, .inr (.inr (some 64))), (1, .inr (.inr (some 82))), (2, .inl i), (3, .inr (.inr v2))] [] S1 (zo (fun v4 S3 => zT S3 ∧ ((v4 = none → Q (.inl (some (.inl (-1 : Int32)))) S3) ∧ (∀ c5, v4 = some c5 → (126 ≤ c5 ∧ c5 < mN S3) ∧ (Q (.inl (some (.inl (mI S3 c5 0)))) S3)))) (fun x S9 => Q (.inr x) S9)))) (fun x S9 => Q (.inr x) S9))))))) : ma_wp X d w 153 0 [(0, .inr (.inr (some 64))), (1, .inl i), (2, .inl o)] [] S Q := by
  refine zw_push hm_153 dX11_root_0 (v := .inl i) rfl ?_
  refine zw_cs hm_153 dX11_root_1 pn_11_109 sl_11_109 hm_142 [.inl i] [] rfl ⟨by omega, by omega⟩ rfl ?_
  show ma_wp X (d - 1) (w - 20) 142 0 [(0, .inl i)] [] S _
  refine zw_push hm_142 dX11_isSlot_0 (v := .inl i) rfl ?_
  refine zw_if0 hm_142 dX11_isSlot_1 (t := 14) rfl zc0_lt ?_ ?_
  · intro hc
    rw [if_pos hc] at h
    refine zw_push hm_142 dX11_isSlot_14 (v := .inl (0 : Int32)) rfl ?_
    refine zw_bret hm_142 dX11_isSlot_15 (by decide) ?_
    show ma_wp X d w 153 4 [(0, .inr (.inr (some 64))), (1, .inl i), (2, .inl o)] [.inl (0 : Int32)] S _
    refine zw_if0 hm_153 dX11_root_4 (t := 15) rfl zc0_ne (fun hc => absurd hc (by decide)) (fun _ => ?_)
    exact zw_thr hm_153 dX11_root_7 dX11_root_10 dX11_root_11 dX11_root_14 x_11_79_81 n_11_79 (by omega) (by show 0 + 81 ≤ w; omega) h
  · intro hc
    rw [if_neg hc] at h
    refine zw_push hm_142 dX11_isSlot_4 (v := .inl i) rfl ?_
    refine zw_push hm_142 dX11_isSlot_5 (v := .inl (16 : Int32)) rfl ?_
    refine zw_if2 hm_142 dX11_isSlot_7 (t := 14) rfl zc2_ge ?_ ?_
    · intro hc
      rw [if_pos hc] at h
      refine zw_push hm_142 dX11_isSlot_14 (v := .inl (0 : Int32)) rfl ?_
      refine zw_bret hm_142 dX11_isSlot_15 (by decide) ?_
      show ma_wp X d w 153 4 [(0, .inr (.inr (some 64))), (1, .inl i), (2, .inl o)] [.inl (0 : Int32)] S _
      refine zw_if0 hm_153 dX11_root_4 (t := 15) rfl zc0_ne (fun hc => absurd hc (by decide)) (fun _ => ?_)
      exact zw_thr hm_153 dX11_root_7 dX11_root_10 dX11_root_11 dX11_root_14 x_11_79_81 n_11_79 (by omega) (by show 0 + 81 ≤ w; omega) h
    · intro hc
      rw [if_neg hc] at h
      refine zw_push hm_142 dX11_isSlot_10 (v := .inl (1 : Int32)) rfl ?_
      refine zw_goto hm_142 dX11_isSlot_11 (t := 15) rfl ?_
      refine zw_bret hm_142 dX11_isSlot_15 (by decide) ?_
      show ma_wp X d w 153 4 [(0, .inr (.inr (some 64))), (1, .inl i), (2, .inl o)] [.inl (1 : Int32)] S _
      refine zw_if0 hm_153 dX11_root_4 (t := 15) rfl zc0_ne (fun _ => ?_) (fun hc => absurd (by decide) hc)
      refine zw_push hm_153 dX11_root_15 (v := .inr (.inr (some 64))) rfl ?_
      refine zw_cv hm_153 dX11_root_16 v_11_119_11 hm_144 [] [] rfl (zT_rt hS s_64 rfl) ⟨by omega, by omega⟩ rfl ?_
      show ma_wp X (d - 1) (w - 20) 144 0 [(0, .inr (.inr (some 64)))] [] S _
      refine zw_push hm_144 dX11_needCollector_0 (v := .inr (.inr (some 64))) rfl ?_
      obtain ⟨hg, h⟩ := h
      refine zw_gf hm_144 dX11_needCollector_1 (v := .inr (.inr (some 82))) (zT_is hS s_64) (zT_t hS s_64) rfl f_11_98_11 (congrArg (fun z => Sum.inr (Sum.inr z)) hg) ?_
      refine zw_ifnonnull hm_144 dX11_needCollector_4 (t := 15) rfl (fun z => by cases z) (fun _ _ => ?_)
      refine zw_push hm_144 dX11_needCollector_15 (v := .inr (.inr (some 64))) rfl ?_
      obtain ⟨hg, h⟩ := h
      refine zw_gf hm_144 dX11_needCollector_16 (v := .inr (.inr (some 82))) (zT_is hS s_64) (zT_t hS s_64) rfl f_11_98_11 (congrArg (fun z => Sum.inr (Sum.inr z)) hg) ?_
      refine zw_aret hm_144 dX11_needCollector_19 ?_
      show ma_wp X d w 153 19 [(0, .inr (.inr (some 64))), (1, .inl i), (2, .inl o)] [.inr (.inr (some 82))] S _
      refine zw_sto hm_153 dX11_root_19 [(3, .inr (.inr (some 82))), (0, .inr (.inr (some 64))), (1, .inl i), (2, .inl o)] rfl rfl rfl ?_
      refine zw_push hm_153 dX11_root_20 (v := .inr (.inr (some 64))) rfl ?_
      refine zw_push hm_153 dX11_root_21 (v := .inl o) rfl ?_
      refine zw_cv hm_153 dX11_root_22 v_11_142_11 hm_151 [.inl o] [] rfl (zT_rt hS s_64 rfl) ⟨by omega, by omega⟩ rfl (zw_mono h (zo_go ?_ ?_))
      · intro v2 S1 hv
        obtain ⟨hS1, h⟩ := hv
        refine zw_sto hm_153 dX11_root_25 [(4, .inr (.inr v2)), (3, .inr (.inr (some 82))), (0, .inr (.inr (some 64))), (1, .inl i), (2, .inl o)] rfl rfl rfl ?_
        refine zw_push hm_153 dX11_root_27 (v := .inr (.inr (some 64))) rfl ?_
        refine zw_push hm_153 dX11_root_28 (v := .inr (.inr (some 82))) rfl ?_
        refine zw_push hm_153 dX11_root_29 (v := .inl i) rfl ?_
        refine zw_push hm_153 dX11_root_30 (v := .inr (.inr v2)) rfl ?_
        refine zw_cv hm_153 dX11_root_32 v_11_169_11 hm_145 [.inr (.inr v2), .inl i, .inr (.inr (some 82))] [] rfl (zT_rt hS1 s_64 rfl) ⟨by omega, by omega⟩ rfl (zw_mono h (zo_go ?_ ?_))
        · intro v4 S3 hv
          obtain ⟨hS3, h⟩ := hv
          refine zw_cs hm_153 dX11_root_35 pn_11_161 sl_11_161 hm_146 [.inr (.inr v4)] [] rfl ⟨by omega, by omega⟩ rfl ?_
          show ma_wp X (d - 1) (w - 20) 146 0 [(0, .inr (.inr v4))] [] S3 _
          refine zw_push hm_146 dX11_numberOf_0 (v := .inr (.inr v4)) rfl ?_
          refine zw_ifnonnull hm_146 dX11_numberOf_1 (t := 8) rfl ?_ ?_
          · intro hc
            have h := h.1 hc
            (try rw [hc])
            show ma_wp X (d - 1) (w - 20) 146 4 [(0, .inr (.inr none))] [] S3 _
            refine zw_push hm_146 dX11_numberOf_4 (v := .inl (-1 : Int32)) rfl ?_
            refine zw_goto hm_146 dX11_numberOf_5 (t := 12) rfl ?_
            refine zw_iret hm_146 dX11_numberOf_12 ?_
            show ma_wp X d w 153 38 [(4, .inr (.inr v2)), (3, .inr (.inr (some 82))), (0, .inr (.inr (some 64))), (1, .inl i), (2, .inl o)] [.inl (-1 : Int32)] S3 _
            exact zw_iret hm_153 dX11_root_38 h
          · intro c5 hc
            have h := h.2 c5 hc
            (try rw [hc])
            show ma_wp X (d - 1) (w - 20) 146 8 [(0, .inr (.inr (some c5)))] [] S3 _
            refine zw_push hm_146 dX11_numberOf_8 (v := .inr (.inr (some c5))) rfl ?_
            obtain ⟨hg, h⟩ := h
            refine zw_gf hm_146 dX11_numberOf_9 (v := .inl (mI S3 c5 0)) (zT_tis hS3 hg) (zT_tt hS3 hg) rfl f_11_182_9 rfl ?_
            refine zw_iret hm_146 dX11_numberOf_12 ?_
            show ma_wp X d w 153 38 [(4, .inr (.inr v2)), (3, .inr (.inr (some 82))), (0, .inr (.inr (some 64))), (1, .inl i), (2, .inl o)] [.inl (mI S3 c5 0)] S3 _
            exact zw_iret hm_153 dX11_root_38 h
        · intro x S9 hx
          exact ⟨by decide, hx⟩
      · intro x S9 hx
        exact ⟨by decide, hx⟩
theorem sp_153_64_sm_p82 {X : Nat × (Nat → Int32)} {d w : Nat} {f : Nat → Nat → Int32} {r : Nat → Nat → Option Nat} {C Z N : Nat} {Q : Option ma_V ⊕ Nat → ma_S → Prop} {ab : Nat→Nat→Int32} {fp82 : Nat→Int32} {fp83 : Nat→Int32} {S : ma_S} (i : Int32) (o : Int32) (hd : 8 ≤ d) (hw : 134 ≤ w) (hI : zB f r C Z N S) (hr : r 64 11 = some 82) (hpre0 : xB S (mR S 70)) (hpre1 : aS 88 S = ab) (hpre2 : (mI S 82) = fp82) (hpre3 : (mI S 83) = fp83) (K : ∀ v S₉, zB f r C Z N S₉ → (True) → (xB S₉ (mR S₉ 70)) → ((0 ≤ i.toInt ∧ i.toInt ≤ 15) ∧ (o = -1 ∨ zRq ab o) ∧ aS 88 S₉ = aR0 ab i o ∧ v = aNm ab (ab 72 i.toNatClampNeg)) → ((mI S₉ 82) = fp82) → ((mI S₉ 83) = fp83) → Q (.inl (some (.inl v))) S₉) (KX : ∀ x S₉, (x = 2 ∨ x = 4) → zB f r C Z N S₉ → (xB S₉ (mR S₉ 70)) → (aS 88 S₉ = ab) → ((x = 2 ∧ ¬ (0 ≤ i.toInt ∧ i.toInt ≤ 15)) ∨ ((0 ≤ i.toInt ∧ i.toInt ≤ 15) ∧ x = 4 ∧ o ≠ -1 ∧ ¬ zRq ab o)) → ((mI S₉ 82) = fp82) → ((mI S₉ 83) = fp83) → Q (.inr x) (ma_bump S₉)) : ma_wp X d w 153 0 [(0, .inr (.inr (some 64))), (1, .inl i), (2, .inl o)] [] S Q := by
  refine g_153_64_sm_p82_0 i o (by omega) (by omega) (zG_T hI) ?_
  have b1 := i_bd i
  have li2 : (0 : Int32).toInt = 0 := rfl
  refine zd (fun h3 => ?_) (fun h3 => ?_)
  · skip
    have g4 := i_lt h3
    exact KX 2 _ (by decide) hI (show xB S (mR S 70) from by first | (exact xB_x (xC_o (W := 75) hpre0).2)) (show aS 88 S = ab from by first | (exact (xC_o (W := 88) hpre0).1.trans hpre1)) (show (2 = 2 ∧ ¬ (0 ≤ i.toInt ∧ i.toInt ≤ 15)) ∨ ((0 ≤ i.toInt ∧ i.toInt ≤ 15) ∧ 2 = 4 ∧ o ≠ -1 ∧ ¬ zRq ab o) from by first | (exact Or.inl ⟨rfl, by omega⟩)) (show (mI S 82) = fp82 from by first | (exact hpre2)) (show (mI S 83) = fp83 from by first | (exact hpre3))
  · skip
    have g5 := i_nlt h3
    have li6 : (16 : Int32).toInt = 16 := rfl
    refine zd (fun h7 => ?_) (fun h7 => ?_)
    · skip
      have g8 := i_le h7
      exact KX 2 _ (by decide) hI (show xB S (mR S 70) from by first | (exact xB_x (xC_o (W := 75) hpre0).2)) (show aS 88 S = ab from by first | (exact (xC_o (W := 88) hpre0).1.trans hpre1)) (show (2 = 2 ∧ ¬ (0 ≤ i.toInt ∧ i.toInt ≤ 15)) ∨ ((0 ≤ i.toInt ∧ i.toInt ≤ 15) ∧ 2 = 4 ∧ o ≠ -1 ∧ ¬ zRq ab o) from by first | (exact Or.inl ⟨rfl, by omega⟩)) (show (mI S 82) = fp82 from by first | (exact hpre2)) (show (mI S 83) = fp83 from by first | (exact hpre3))
    · skip
      have g9 := i_nle h7
      refine ⟨((zG_r hI (by decide)).trans hr), ?_⟩
      refine ⟨((zG_r hI (by decide)).trans hr), ?_⟩
      have b10 := i_bd o
      refine sp_151_64_s (R := (mR S 70)) (a7 := (aS 75 S)) (a8 := (aS 88 S)) (o) (by omega) (by omega) (zB_dn_zI hI) (show xB S (mR S 70) from by first | (exact (xC_o (W := 75) hpre0).2)) (show aS 75 S = (aS 75 S) from by first | (exact rfl)) (show aS 88 S = (aS 88 S) from by first | (exact rfl)) (fun v2 S1 hL_S1 hq_v2 rp0_S1 rp1_S1 rp2_S1 rp3_S1 => zo_n ⟨zG_T hL_S1, ?_⟩) (fun x S9 hx h9 rx0 rx1 rx2 => by have h9u := (zB_up_zI hI h9); exact zo_x (KX x S9 (by omega) h9u (show xB S9 (mR S9 70) from by first | (exact xB_x (xC_o (W := 75) rx0).2)) (show aS 88 S9 = ab from by first | (exact rx1.trans hpre1)) (show (x = 2 ∧ ¬ (0 ≤ i.toInt ∧ i.toInt ≤ 15)) ∨ ((0 ≤ i.toInt ∧ i.toInt ≤ 15) ∧ x = 4 ∧ o ≠ -1 ∧ ¬ zRq ab o) from by first | (exact Or.inr ⟨⟨by omega, by omega⟩, ⟨rx2.1, rx2.2.1, rq_no rx2.2.2 hpre1⟩⟩)) (show (mI S9 82) = fp82 from by first | (exact ((show mI _ 82 = mI _ 82 from funext (fun _ => zG_z h9 rfl)).trans hpre2))) (show (mI S9 83) = fp83 from by first | (exact ((show mI _ 83 = mI _ 83 from funext (fun _ => zG_z h9 rfl)).trans hpre3)))))
      have hI_S1 := zB_up_zI hI hL_S1
      have rp0_S1 : xB S1 (mR S 70) := by
        have z := rp0_S1
        (try rw [show mI S 65 = f 65 from funext (fun k => zG_z hI rfl)] at z)
        (try rw [show mI S 64 1 = f 64 1 from zG_z hI rfl] at z)
        exact z
      have rp1_S1 : aS 88 S1 = (aS 88 S) := by
        have z := rp1_S1
        (try rw [show mI S 65 = f 65 from funext (fun k => zG_z hI rfl)] at z)
        (try rw [show mI S 64 1 = f 64 1 from zG_z hI rfl] at z)
        exact z
      have rp2_S1 : v2 = zTa (mR S 70) o := by
        have z := rp2_S1
        (try rw [show mI S 65 = f 65 from funext (fun k => zG_z hI rfl)] at z)
        (try rw [show mI S 64 1 = f 64 1 from zG_z hI rfl] at z)
        exact z
      have rp3_S1 : o = -1 ∨ zRq (aS 75 S) o := by
        have z := rp3_S1
        (try rw [show mI S 65 = f 65 from funext (fun k => zG_z hI rfl)] at z)
        (try rw [show mI S 64 1 = f 64 1 from zG_z hI rfl] at z)
        exact z
      refine sp_145_64_82_sm (ab := (aS 88 S1)) (R := (mR S 70)) (y := (o)) (fp82 := (mI S1 82)) (fp83 := (mI S1 83)) (i) (v2) (by omega) (by omega) (zB_dn_zJ82 hI_S1) hq_v2 (show xB S1 (mR S 70) from by first | (exact (xC_o (W := 75) rp0_S1).2)) (show aS 88 S1 = (aS 88 S1) from by first | (exact rfl)) (show v2 = zTa (mR S 70) (o) from by first | (exact rp2_S1)) (by omega) (by omega) (show (mI S1 82) = (mI S1 82) from by first | (exact rfl)) (show (mI S1 83) = (mI S1 83) from by first | (exact rfl)) (fun v4 S3 hL_S3 hq_v4 rp0_S3 rp1_S3 rp2_S3 rp3_S3 rp4_S3 => zo_n ⟨zG_T hL_S3, ?_⟩)
      have hI_S3 := zB_up_zJ82 hI_S1 hL_S3
      have rp0_S3 : xB S3 (mR S 70) := by
        have z := rp0_S3
        (try rw [show mI S1 65 = f 65 from funext (fun k => zG_z hI_S1 rfl)] at z)
        (try rw [show mI S1 64 1 = f 64 1 from zG_z hI_S1 rfl] at z)
        exact z
      have rp1_S3 : aS 88 S3 = aR0 (aS 88 S1) i (o) := by
        have z := rp1_S3
        (try rw [show mI S1 65 = f 65 from funext (fun k => zG_z hI_S1 rfl)] at z)
        (try rw [show mI S1 64 1 = f 64 1 from zG_z hI_S1 rfl] at z)
        exact z
      have rp2_S3 : v4 = zTa (mR S 70) ((aS 88 S1) 72 i.toNatClampNeg) := by
        have z := rp2_S3
        (try rw [show mI S1 65 = f 65 from funext (fun k => zG_z hI_S1 rfl)] at z)
        (try rw [show mI S1 64 1 = f 64 1 from zG_z hI_S1 rfl] at z)
        exact z
      have rp3_S3 : (mI S3 82) = (mI S1 82) := by
        have z := rp3_S3
        (try rw [show mI S1 65 = f 65 from funext (fun k => zG_z hI_S1 rfl)] at z)
        (try rw [show mI S1 64 1 = f 64 1 from zG_z hI_S1 rfl] at z)
        exact z
      have rp4_S3 : (mI S3 83) = (mI S1 83) := by
        have z := rp4_S3
        (try rw [show mI S1 65 = f 65 from funext (fun k => zG_z hI_S1 rfl)] at z)
        (try rw [show mI S1 64 1 = f 64 1 from zG_z hI_S1 rfl] at z)
        exact z
      refine ⟨fun hc => ?_, fun c5 hc => ?_⟩
      · skip
        have rn_c5 : zTa (mR S 70) ((aS 88 S1) 72 i.toNatClampNeg) = none := rp2_S3.symm.trans hc
        have li11 : (-1 : Int32).toInt = -1 := rfl
        exact K ((-1 : Int32)) _ hI_S3 trivial (show xB S3 (mR S3 70) from by first | (exact xB_x (xC_o (W := 75) rp0_S3).2)) (show (0 ≤ i.toInt ∧ i.toInt ≤ 15) ∧ (o = -1 ∨ zRq ab o) ∧ aS 88 S3 = aR0 ab i o ∧ (-1 : Int32) = aNm ab (ab 72 i.toNatClampNeg) from by first | (exfalso; omega) | (have rt := rp1_S3; rw [(rp1_S1.trans hpre1)] at rt; have nn := nm_n (W := 88) hpre0 rn_c5; rw [hpre1] at nn; rw [(rp1_S1.trans hpre1)] at nn; refine ⟨⟨by omega, by omega⟩, (rp3_S1.imp id (fun w => rq_up w hpre1)), rt, ?_⟩; exact nn.symm) | (have rt := rp1_S3; rw [(rp1_S1.trans hpre1)] at rt; have nn := nm_n (W := 88) hpre0 rn_c5; rw [hpre1, (rp1_S1.trans hpre1)] at nn; refine ⟨⟨by omega, by omega⟩, (rp3_S1.imp id (fun w => rq_up w hpre1)), rt, ?_⟩; (try rw [(rp1_S1.trans hpre1)]); exact nn.symm)) (show (mI S3 82) = fp82 from by first | (exact (rp3_S3.trans ((show mI S1 82 = mI S 82 from funext (fun _ => zG_z hL_S1 rfl)).trans hpre2)))) (show (mI S3 83) = fp83 from by first | (exact (rp4_S3.trans ((show mI S1 83 = mI S 83 from funext (fun _ => zG_z hL_S1 rfl)).trans hpre3))))
      · skip
        have th_c5 := hq_v4 c5 hc
        have rg_c5 : zTa (mR S 70) ((aS 88 S1) 72 i.toNatClampNeg) = some c5 := rp2_S3.symm.trans hc
        subst hc
        refine ⟨zG_n hI_S3 th_c5, ?_⟩
        have f12 := zG_th hI_S3 th_c5
        exact K ((mI S3 c5 0)) _ hI_S3 trivial (show xB S3 (mR S3 70) from by first | (exact xB_x (xC_o (W := 75) rp0_S3).2)) (show (0 ≤ i.toInt ∧ i.toInt ≤ 15) ∧ (o = -1 ∨ zRq ab o) ∧ aS 88 S3 = aR0 ab i o ∧ (mI S3 c5 0) = aNm ab (ab 72 i.toNatClampNeg) from by first | (exfalso; omega) | (have rt := rp1_S3; rw [(rp1_S1.trans hpre1)] at rt; have nn := nm_y (W := 88) hpre0 rg_c5; have tn := (xB_th (W := 88) rp0_S3 rg_c5).2.2.1; rw [hpre1] at nn; rw [(rp1_S1.trans hpre1)] at nn; refine ⟨⟨by omega, by omega⟩, (rp3_S1.imp id (fun w => rq_up w hpre1)), rt, ?_⟩; rw [tn]; exact nn.symm) | (have rt := rp1_S3; rw [(rp1_S1.trans hpre1)] at rt; have nn := nm_y (W := 88) hpre0 rg_c5; have tn := (xB_th (W := 88) rp0_S3 rg_c5).2.2.1; rw [hpre1, (rp1_S1.trans hpre1)] at nn; refine ⟨⟨by omega, by omega⟩, (rp3_S1.imp id (fun w => rq_up w hpre1)), rt, ?_⟩; (try rw [(rp1_S1.trans hpre1)]); (rw [tn]; (try rw [(rp1_S1.trans hpre1)])); exact nn.symm)) (show (mI S3 82) = fp82 from by first | (exact (rp3_S3.trans ((show mI S1 82 = mI S 82 from funext (fun _ => zG_z hL_S1 rfl)).trans hpre2)))) (show (mI S3 83) = fp83 from by first | (exact (rp4_S3.trans ((show mI S1 83 = mI S 83 from funext (fun _ => zG_z hL_S1 rfl)).trans hpre3))))

/-! from 95.u35 -/
/-! AGES, the class (written by wip/tools/gen15y.py) -/
theorem g_158_64_sm_p82_0 {X : Nat × (Nat → Int32)} {d w : Nat} {S : ma_S} {Q : Option ma_V ⊕ Nat → ma_S → Prop} (rt : Int32) (hd : 7 ≤ d) (hw : 134 ≤ w) (hS : zT S) (h : if rt < 0 then (Q (.inr 2) (ma_bump S)) else (if (16 : Int32) ≤ rt then (Q (.inr 2) (ma_bump S)) else (mR S 64 11 = some 82 ∧ (mR S 64 11 = some 82 ∧ (ma_wp X (d - 1) (w - 22) 98 0 [(0, .inr (.inr (some 69)))] [] S (zo (fun v2 S1 => zT S1 ∧ ((v2 = none → Q (.inl (some (.inl (-1 : Int32)))) S1) ∧ (∀ c3, v2 = some c3 → ma_wp X (d - 1) (w - 24) 145 0 [(0, .inr (.inr (some 64))), (1, .inr (.inr (some 82))), (2, .inl rt), (3, .inr (.inr (some c3)))] [] S1 (zo (fun v5 S4 => zT S4 ∧ ((126 ≤ c3 ∧ c3 < mN S4) ∧ (Q (.inl (some (.inl (mI S4 c3 0)))) S4))) (fun x S9 => Q (.inr x) S9))))) (fun x S9 => Q (.inr x) S9))))))) : ma_wp X d w 158 0 [(0, .inr (.inr (some 64))), (1, .inl rt)] [] S Q := by
  refine zw_push hm_158 dX11_granted_0 (v := .inl rt) rfl ?_
  refine zw_cs hm_158 dX11_granted_1 pn_11_109 sl_11_109 hm_142 [.inl rt] [] rfl ⟨by omega, by omega⟩ rfl ?_
  show ma_wp X (d - 1) (w - 20) 142 0 [(0, .inl rt)] [] S _
  refine zw_push hm_142 dX11_isSlot_0 (v := .inl rt) rfl ?_
  refine zw_if0 hm_142 dX11_isSlot_1 (t := 14) rfl zc0_lt ?_ ?_
  · intro hc
    rw [if_pos hc] at h
    refine zw_push hm_142 dX11_isSlot_14 (v := .inl (0 : Int32)) rfl ?_
    refine zw_bret hm_142 dX11_isSlot_15 (by decide) ?_
    show ma_wp X d w 158 4 [(0, .inr (.inr (some 64))), (1, .inl rt)] [.inl (0 : Int32)] S _
    refine zw_if0 hm_158 dX11_granted_4 (t := 15) rfl zc0_ne (fun hc => absurd hc (by decide)) (fun _ => ?_)
    exact zw_thr hm_158 dX11_granted_7 dX11_granted_10 dX11_granted_11 dX11_granted_14 x_11_79_81 n_11_79 (by omega) (by show 0 + 81 ≤ w; omega) h
  · intro hc
    rw [if_neg hc] at h
    refine zw_push hm_142 dX11_isSlot_4 (v := .inl rt) rfl ?_
    refine zw_push hm_142 dX11_isSlot_5 (v := .inl (16 : Int32)) rfl ?_
    refine zw_if2 hm_142 dX11_isSlot_7 (t := 14) rfl zc2_ge ?_ ?_
    · intro hc
      rw [if_pos hc] at h
      refine zw_push hm_142 dX11_isSlot_14 (v := .inl (0 : Int32)) rfl ?_
      refine zw_bret hm_142 dX11_isSlot_15 (by decide) ?_
      show ma_wp X d w 158 4 [(0, .inr (.inr (some 64))), (1, .inl rt)] [.inl (0 : Int32)] S _
      refine zw_if0 hm_158 dX11_granted_4 (t := 15) rfl zc0_ne (fun hc => absurd hc (by decide)) (fun _ => ?_)
      exact zw_thr hm_158 dX11_granted_7 dX11_granted_10 dX11_granted_11 dX11_granted_14 x_11_79_81 n_11_79 (by omega) (by show 0 + 81 ≤ w; omega) h
    · intro hc
      rw [if_neg hc] at h
      refine zw_push hm_142 dX11_isSlot_10 (v := .inl (1 : Int32)) rfl ?_
      refine zw_goto hm_142 dX11_isSlot_11 (t := 15) rfl ?_
      refine zw_bret hm_142 dX11_isSlot_15 (by decide) ?_
      show ma_wp X d w 158 4 [(0, .inr (.inr (some 64))), (1, .inl rt)] [.inl (1 : Int32)] S _
      refine zw_if0 hm_158 dX11_granted_4 (t := 15) rfl zc0_ne (fun _ => ?_) (fun hc => absurd (by decide) hc)
      refine zw_push hm_158 dX11_granted_15 (v := .inr (.inr (some 64))) rfl ?_
      refine zw_cv hm_158 dX11_granted_16 v_11_119_11 hm_144 [] [] rfl (zT_rt hS s_64 rfl) ⟨by omega, by omega⟩ rfl ?_
      show ma_wp X (d - 1) (w - 20) 144 0 [(0, .inr (.inr (some 64)))] [] S _
      refine zw_push hm_144 dX11_needCollector_0 (v := .inr (.inr (some 64))) rfl ?_
      obtain ⟨hg, h⟩ := h
      refine zw_gf hm_144 dX11_needCollector_1 (v := .inr (.inr (some 82))) (zT_is hS s_64) (zT_t hS s_64) rfl f_11_98_11 (congrArg (fun z => Sum.inr (Sum.inr z)) hg) ?_
      refine zw_ifnonnull hm_144 dX11_needCollector_4 (t := 15) rfl (fun z => by cases z) (fun _ _ => ?_)
      refine zw_push hm_144 dX11_needCollector_15 (v := .inr (.inr (some 64))) rfl ?_
      obtain ⟨hg, h⟩ := h
      refine zw_gf hm_144 dX11_needCollector_16 (v := .inr (.inr (some 82))) (zT_is hS s_64) (zT_t hS s_64) rfl f_11_98_11 (congrArg (fun z => Sum.inr (Sum.inr z)) hg) ?_
      refine zw_aret hm_144 dX11_needCollector_19 ?_
      show ma_wp X d w 158 19 [(0, .inr (.inr (some 64))), (1, .inl rt)] [.inr (.inr (some 82))] S _
      refine zw_sto hm_158 dX11_granted_19 [(2, .inr (.inr (some 82))), (0, .inr (.inr (some 64))), (1, .inl rt)] rfl rfl rfl ?_
      refine zw_push hm_158 dX11_granted_20 (v := .inr (.inr (some 64))) rfl ?_
      refine zw_gf hm_158 dX11_granted_21 (v := .inr (.inr (some 69))) (zT_is hS s_64) (zT_t hS s_64) rfl f_11_26_11 (zT_f hS r_64_8) ?_
      refine zw_cv hm_158 dX11_granted_24 v_11_203_7 hm_98 [] [] rfl (zT_rt hS s_69 rfl) ⟨by omega, by omega⟩ rfl (zw_mono h (zo_go ?_ ?_))
      · intro v2 S1 hv
        obtain ⟨hS1, h⟩ := hv
        refine zw_sto hm_158 dX11_granted_27 [(3, .inr (.inr v2)), (2, .inr (.inr (some 82))), (0, .inr (.inr (some 64))), (1, .inl rt)] rfl rfl rfl ?_
        refine zw_push hm_158 dX11_granted_28 (v := .inr (.inr v2)) rfl ?_
        refine zw_ifnonnull hm_158 dX11_granted_29 (t := 34) rfl ?_ ?_
        · intro hc
          have h := h.1 hc
          (try rw [hc])
          show ma_wp X d w 158 32 [(3, .inr (.inr none)), (2, .inr (.inr (some 82))), (0, .inr (.inr (some 64))), (1, .inl rt)] [] S1 _
          refine zw_push hm_158 dX11_granted_32 (v := .inl (-1 : Int32)) rfl ?_
          exact zw_iret hm_158 dX11_granted_33 h
        · intro c3 hc
          have h := h.2 c3 hc
          (try rw [hc])
          show ma_wp X d w 158 34 [(3, .inr (.inr (some c3))), (2, .inr (.inr (some 82))), (0, .inr (.inr (some 64))), (1, .inl rt)] [] S1 _
          refine zw_push hm_158 dX11_granted_34 (v := .inr (.inr (some 64))) rfl ?_
          refine zw_push hm_158 dX11_granted_35 (v := .inr (.inr (some 82))) rfl ?_
          refine zw_push hm_158 dX11_granted_36 (v := .inl rt) rfl ?_
          refine zw_push hm_158 dX11_granted_37 (v := .inr (.inr (some c3))) rfl ?_
          refine zw_cv hm_158 dX11_granted_38 v_11_169_11 hm_145 [.inr (.inr (some c3)), .inl rt, .inr (.inr (some 82))] [] rfl (zT_rt hS1 s_64 rfl) ⟨by omega, by omega⟩ rfl (zw_mono h (zo_go ?_ ?_))
          · intro v5 S4 hv
            obtain ⟨hS4, h⟩ := hv
            refine zw_stk hm_158 dX11_granted_41 (st₉ := []) rfl rfl ?_
            refine zw_push hm_158 dX11_granted_42 (v := .inr (.inr (some c3))) rfl ?_
            obtain ⟨hg, h⟩ := h
            refine zw_gf hm_158 dX11_granted_43 (v := .inl (mI S4 c3 0)) (zT_tis hS4 hg) (zT_tt hS4 hg) rfl f_11_182_9 rfl ?_
            exact zw_iret hm_158 dX11_granted_46 h
          · intro x S9 hx
            exact ⟨by decide, hx⟩
      · intro x S9 hx
        exact ⟨by decide, hx⟩
theorem sp_158_64_sm_p82 {X : Nat × (Nat → Int32)} {d w : Nat} {f : Nat → Nat → Int32} {r : Nat → Nat → Option Nat} {C Z N : Nat} {Q : Option ma_V ⊕ Nat → ma_S → Prop} {ab : Nat→Nat→Int32} {fp82 : Nat→Int32} {fp83 : Nat→Int32} {S : ma_S} (rt : Int32) (hd : 7 ≤ d) (hw : 134 ≤ w) (hI : zB f r C Z N S) (hr : r 64 11 = some 82) (hpre0 : xB S (mR S 70)) (hpre1 : aS 88 S = ab) (hpre2 : (mI S 82) = fp82) (hpre3 : (mI S 83) = fp83) (K : ∀ v S₉, zB f r C Z N S₉ → (True) → (xB S₉ (mR S₉ 70)) → ((0 ≤ rt.toInt ∧ rt.toInt ≤ 15) ∧ ((aNm ab (aTy ab) = -1 ∧ aS 88 S₉ = aTw ab ∧ v = -1) ∨ (aNm ab (aTy ab) = aTy ab ∧ 0 ≤ (aTy ab).toInt ∧ aS 88 S₉ = aR0 (aTw ab) rt (aTy ab) ∧ v = aTy ab))) → ((mI S₉ 82) = fp82) → ((mI S₉ 83) = fp83) → Q (.inl (some (.inl v))) S₉) (KX : ∀ x S₉, (x = 2) → zB f r C Z N S₉ → (xB S₉ (mR S₉ 70)) → (aS 88 S₉ = ab) → (x = 2 ∧ ¬ (0 ≤ rt.toInt ∧ rt.toInt ≤ 15)) → ((mI S₉ 82) = fp82) → ((mI S₉ 83) = fp83) → Q (.inr x) (ma_bump S₉)) : ma_wp X d w 158 0 [(0, .inr (.inr (some 64))), (1, .inl rt)] [] S Q := by
  refine g_158_64_sm_p82_0 rt (by omega) (by omega) (zG_T hI) ?_
  have b1 := i_bd rt
  have li2 : (0 : Int32).toInt = 0 := rfl
  refine zd (fun h3 => ?_) (fun h3 => ?_)
  · skip
    have g4 := i_lt h3
    exact KX 2 _ (by decide) hI (show xB S (mR S 70) from by first | (exact xB_x (xC_o (W := 75) hpre0).2)) (show aS 88 S = ab from by first | (exact (xC_o (W := 88) hpre0).1.trans hpre1)) (show 2 = 2 ∧ ¬ (0 ≤ rt.toInt ∧ rt.toInt ≤ 15) from by first | (exact ⟨rfl, by omega⟩)) (show (mI S 82) = fp82 from by first | (exact hpre2)) (show (mI S 83) = fp83 from by first | (exact hpre3))
  · skip
    have g5 := i_nlt h3
    have li6 : (16 : Int32).toInt = 16 := rfl
    refine zd (fun h7 => ?_) (fun h7 => ?_)
    · skip
      have g8 := i_le h7
      exact KX 2 _ (by decide) hI (show xB S (mR S 70) from by first | (exact xB_x (xC_o (W := 75) hpre0).2)) (show aS 88 S = ab from by first | (exact (xC_o (W := 88) hpre0).1.trans hpre1)) (show 2 = 2 ∧ ¬ (0 ≤ rt.toInt ∧ rt.toInt ≤ 15) from by first | (exact ⟨rfl, by omega⟩)) (show (mI S 82) = fp82 from by first | (exact hpre2)) (show (mI S 83) = fp83 from by first | (exact hpre3))
    · skip
      have g9 := i_nle h7
      refine ⟨((zG_r hI (by decide)).trans hr), ?_⟩
      refine ⟨((zG_r hI (by decide)).trans hr), ?_⟩
      refine sp_98_69_s (ab := (aS 88 S)) (R := (mR S 70)) (W := 88) (by omega) (by omega) (zB_dn_zI hI) (show xB S (mR S 70) from by first | (exact (xC_o (W := 75) hpre0).2)) (show aS 88 S = (aS 88 S) from by first | (exact rfl)) (show xW 88 from by first | (exact xW88) | (exact xW75)) (fun v2 S1 hL_S1 hq_v2 rp0_S1 rp1_S1 => zo_n ⟨zG_T hL_S1, ?_⟩)
      have hI_S1 := zB_up_zI hI hL_S1
      have rp0_S1 : xB S1 (mR S 70) := by
        have z := rp0_S1
        (try rw [show mI S 65 = f 65 from funext (fun k => zG_z hI rfl)] at z)
        (try rw [show mI S 64 1 = f 64 1 from zG_z hI rfl] at z)
        exact z
      have rp1_S1 : v2 = zTa (mR S 70) (aTy (aS 88 S)) ∧ aS 88 S1 = aTw (aS 88 S) := by
        have z := rp1_S1
        (try rw [show mI S 65 = f 65 from funext (fun k => zG_z hI rfl)] at z)
        (try rw [show mI S 64 1 = f 64 1 from zG_z hI rfl] at z)
        exact z
      refine ⟨fun hc => ?_, fun c3 hc => ?_⟩
      · skip
        have rn_c3 : zTa (mR S 70) (aTy (aS 88 S)) = none := rp1_S1.1.symm.trans hc
        have li10 : (-1 : Int32).toInt = -1 := rfl
        exact K ((-1 : Int32)) _ hI_S1 trivial (show xB S1 (mR S1 70) from by first | (exact xB_x (xC_o (W := 75) rp0_S1).2)) (show (0 ≤ rt.toInt ∧ rt.toInt ≤ 15) ∧ ((aNm ab (aTy ab) = -1 ∧ aS 88 S1 = aTw ab ∧ (-1 : Int32) = -1) ∨ (aNm ab (aTy ab) = aTy ab ∧ 0 ≤ (aTy ab).toInt ∧ aS 88 S1 = aR0 (aTw ab) rt (aTy ab) ∧ (-1 : Int32) = aTy ab)) from by first | (have tw := rp1_S1; rw [hpre1] at tw; have nn := nm_n (W := 88) hpre0 rn_c3; rw [hpre1] at nn; refine ⟨⟨by omega, by omega⟩, Or.inl ⟨nn, tw.2, rfl⟩⟩)) (show (mI S1 82) = fp82 from by first | (exact ((show mI S1 82 = mI S 82 from funext (fun _ => zG_z hL_S1 rfl)).trans hpre2))) (show (mI S1 83) = fp83 from by first | (exact ((show mI S1 83 = mI S 83 from funext (fun _ => zG_z hL_S1 rfl)).trans hpre3)))
      · skip
        have th_c3 := hq_v2 c3 hc
        have rg_c3 : zTa (mR S 70) (aTy (aS 88 S)) = some c3 := rp1_S1.1.symm.trans hc
        subst hc
        refine sp_145_64_82_sm (ab := (aS 88 S1)) (R := (mR S 70)) (y := ((aTy (aS 88 S)))) (fp82 := (mI S1 82)) (fp83 := (mI S1 83)) (rt) ((some c3)) (by omega) (by omega) (zB_dn_zJ82 hI_S1) (fun _ z => by cases z; exact th_c3) (show xB S1 (mR S 70) from by first | (exact (xC_o (W := 75) rp0_S1).2)) (show aS 88 S1 = (aS 88 S1) from by first | (exact rfl)) (show (some c3) = zTa (mR S 70) ((aTy (aS 88 S))) from by first | (exact rg_c3.symm)) (by omega) (by omega) (show (mI S1 82) = (mI S1 82) from by first | (exact rfl)) (show (mI S1 83) = (mI S1 83) from by first | (exact rfl)) (fun v5 S4 hL_S4 hq_v5 rp0_S4 rp1_S4 rp2_S4 rp3_S4 rp4_S4 => zo_n ⟨zG_T hL_S4, ?_⟩)
        have hI_S4 := zB_up_zJ82 hI_S1 hL_S4
        have rp0_S4 : xB S4 (mR S 70) := by
          have z := rp0_S4
          (try rw [show mI S1 65 = f 65 from funext (fun k => zG_z hI_S1 rfl)] at z)
          (try rw [show mI S1 64 1 = f 64 1 from zG_z hI_S1 rfl] at z)
          exact z
        have rp1_S4 : aS 88 S4 = aR0 (aS 88 S1) rt ((aTy (aS 88 S))) := by
          have z := rp1_S4
          (try rw [show mI S1 65 = f 65 from funext (fun k => zG_z hI_S1 rfl)] at z)
          (try rw [show mI S1 64 1 = f 64 1 from zG_z hI_S1 rfl] at z)
          exact z
        have rp2_S4 : v5 = zTa (mR S 70) ((aS 88 S1) 72 rt.toNatClampNeg) := by
          have z := rp2_S4
          (try rw [show mI S1 65 = f 65 from funext (fun k => zG_z hI_S1 rfl)] at z)
          (try rw [show mI S1 64 1 = f 64 1 from zG_z hI_S1 rfl] at z)
          exact z
        have rp3_S4 : (mI S4 82) = (mI S1 82) := by
          have z := rp3_S4
          (try rw [show mI S1 65 = f 65 from funext (fun k => zG_z hI_S1 rfl)] at z)
          (try rw [show mI S1 64 1 = f 64 1 from zG_z hI_S1 rfl] at z)
          exact z
        have rp4_S4 : (mI S4 83) = (mI S1 83) := by
          have z := rp4_S4
          (try rw [show mI S1 65 = f 65 from funext (fun k => zG_z hI_S1 rfl)] at z)
          (try rw [show mI S1 64 1 = f 64 1 from zG_z hI_S1 rfl] at z)
          exact z
        refine ⟨zG_n hI_S4 th_c3, ?_⟩
        have f11 := zG_th hI_S4 th_c3
        exact K ((mI S4 c3 0)) _ hI_S4 trivial (show xB S4 (mR S4 70) from by first | (exact xB_x (xC_o (W := 75) rp0_S4).2)) (show (0 ≤ rt.toInt ∧ rt.toInt ≤ 15) ∧ ((aNm ab (aTy ab) = -1 ∧ aS 88 S4 = aTw ab ∧ (mI S4 c3 0) = -1) ∨ (aNm ab (aTy ab) = aTy ab ∧ 0 ≤ (aTy ab).toInt ∧ aS 88 S4 = aR0 (aTw ab) rt (aTy ab) ∧ (mI S4 c3 0) = aTy ab)) from by first | (have tw := rp1_S1; rw [hpre1] at tw; have nn := nm_y (W := 88) hpre0 rg_c3; rw [hpre1] at nn; have w0 := (zTa_p rg_c3).1; rw [hpre1] at w0; have st := rp1_S4; rw [tw.2, hpre1] at st; have tn := (xB_th (W := 88) rp0_S4 rg_c3).2.2.1; rw [hpre1] at tn; refine ⟨⟨by omega, by omega⟩, Or.inr ⟨nn, w0, st, tn⟩⟩)) (show (mI S4 82) = fp82 from by first | (exact (rp3_S4.trans ((show mI S1 82 = mI S 82 from funext (fun _ => zG_z hL_S1 rfl)).trans hpre2)))) (show (mI S4 83) = fp83 from by first | (exact (rp4_S4.trans ((show mI S1 83 = mI S 83 from funext (fun _ => zG_z hL_S1 rfl)).trans hpre3))))

/-! from 95.u36 -/
/-! AGES, the class (written by wip/tools/gen15y.py) -/
theorem g_155_64_sm_p82_0 {X : Nat × (Nat → Int32)} {d w : Nat} {S : ma_S} {Q : Option ma_V ⊕ Nat → ma_S → Prop} (i : Int32) (rt : Int32) (hd : 7 ≤ d) (hw : 134 ≤ w) (hS : zT S) (h : if i < 0 then (Q (.inr 2) (ma_bump S)) else (if (16 : Int32) ≤ i then (Q (.inr 2) (ma_bump S)) else (if rt < 0 then (Q (.inr 2) (ma_bump S)) else (if (16 : Int32) ≤ rt then (Q (.inr 2) (ma_bump S)) else (mR S 64 11 = some 82 ∧ (mR S 64 11 = some 82 ∧ ((0 ≤ i ∧ i.toNatClampNeg < 16) ∧ (if (mI S 73 i.toNatClampNeg) < 0 then (Q (.inl (some (.inl (-1 : Int32)))) S) else (if (512 : Int32) ≤ (mI S 73 i.toNatClampNeg) then (Q (.inl (some (.inl (-1 : Int32)))) S) else ((0 ≤ (mI S 73 i.toNatClampNeg) ∧ (mI S 73 i.toNatClampNeg).toNatClampNeg < 512) ∧ (((mR S 70 (mI S 73 i.toNatClampNeg).toNatClampNeg) = none → Q (.inl (some (.inl (-1 : Int32)))) S) ∧ (∀ c1, (mR S 70 (mI S 73 i.toNatClampNeg).toNatClampNeg) = some c1 → ma_wp X (d - 1) (w - 24) 145 0 [(0, .inr (.inr (some 64))), (1, .inr (.inr (some 82))), (2, .inl rt), (3, .inr (.inr (some c1)))] [] S (zo (fun v3 S2 => zT S2 ∧ ((126 ≤ c1 ∧ c1 < mN S2) ∧ (Q (.inl (some (.inl (mI S2 c1 0)))) S2))) (fun x S9 => Q (.inr x) S9)))))))))))))) : ma_wp X d w 155 0 [(0, .inr (.inr (some 64))), (1, .inl i), (2, .inl rt)] [] S Q := by
  refine zw_push hm_155 dX11_strong_0 (v := .inl i) rfl ?_
  refine zw_cs hm_155 dX11_strong_1 pn_11_109 sl_11_109 hm_142 [.inl i] [] rfl ⟨by omega, by omega⟩ rfl ?_
  show ma_wp X (d - 1) (w - 20) 142 0 [(0, .inl i)] [] S _
  refine zw_push hm_142 dX11_isSlot_0 (v := .inl i) rfl ?_
  refine zw_if0 hm_142 dX11_isSlot_1 (t := 14) rfl zc0_lt ?_ ?_
  · intro hc
    rw [if_pos hc] at h
    refine zw_push hm_142 dX11_isSlot_14 (v := .inl (0 : Int32)) rfl ?_
    refine zw_bret hm_142 dX11_isSlot_15 (by decide) ?_
    show ma_wp X d w 155 4 [(0, .inr (.inr (some 64))), (1, .inl i), (2, .inl rt)] [.inl (0 : Int32)] S _
    refine zw_if0 hm_155 dX11_strong_4 (t := 14) rfl zc0_eq (fun _ => ?_) (fun hc => absurd (by decide) hc)
    exact zw_thr hm_155 dX11_strong_14 dX11_strong_17 dX11_strong_18 dX11_strong_21 x_11_79_81 n_11_79 (by omega) (by show 0 + 81 ≤ w; omega) h
  · intro hc
    rw [if_neg hc] at h
    refine zw_push hm_142 dX11_isSlot_4 (v := .inl i) rfl ?_
    refine zw_push hm_142 dX11_isSlot_5 (v := .inl (16 : Int32)) rfl ?_
    refine zw_if2 hm_142 dX11_isSlot_7 (t := 14) rfl zc2_ge ?_ ?_
    · intro hc
      rw [if_pos hc] at h
      refine zw_push hm_142 dX11_isSlot_14 (v := .inl (0 : Int32)) rfl ?_
      refine zw_bret hm_142 dX11_isSlot_15 (by decide) ?_
      show ma_wp X d w 155 4 [(0, .inr (.inr (some 64))), (1, .inl i), (2, .inl rt)] [.inl (0 : Int32)] S _
      refine zw_if0 hm_155 dX11_strong_4 (t := 14) rfl zc0_eq (fun _ => ?_) (fun hc => absurd (by decide) hc)
      exact zw_thr hm_155 dX11_strong_14 dX11_strong_17 dX11_strong_18 dX11_strong_21 x_11_79_81 n_11_79 (by omega) (by show 0 + 81 ≤ w; omega) h
    · intro hc
      rw [if_neg hc] at h
      refine zw_push hm_142 dX11_isSlot_10 (v := .inl (1 : Int32)) rfl ?_
      refine zw_goto hm_142 dX11_isSlot_11 (t := 15) rfl ?_
      refine zw_bret hm_142 dX11_isSlot_15 (by decide) ?_
      show ma_wp X d w 155 4 [(0, .inr (.inr (some 64))), (1, .inl i), (2, .inl rt)] [.inl (1 : Int32)] S _
      refine zw_if0 hm_155 dX11_strong_4 (t := 14) rfl zc0_eq (fun hc => absurd hc (by decide)) (fun _ => ?_)
      refine zw_push hm_155 dX11_strong_7 (v := .inl rt) rfl ?_
      refine zw_cs hm_155 dX11_strong_8 pn_11_109 sl_11_109 hm_142 [.inl rt] [] rfl ⟨by omega, by omega⟩ rfl ?_
      show ma_wp X (d - 1) (w - 20) 142 0 [(0, .inl rt)] [] S _
      refine zw_push hm_142 dX11_isSlot_0 (v := .inl rt) rfl ?_
      refine zw_if0 hm_142 dX11_isSlot_1 (t := 14) rfl zc0_lt ?_ ?_
      · intro hc
        rw [if_pos hc] at h
        refine zw_push hm_142 dX11_isSlot_14 (v := .inl (0 : Int32)) rfl ?_
        refine zw_bret hm_142 dX11_isSlot_15 (by decide) ?_
        show ma_wp X d w 155 11 [(0, .inr (.inr (some 64))), (1, .inl i), (2, .inl rt)] [.inl (0 : Int32)] S _
        refine zw_if0 hm_155 dX11_strong_11 (t := 22) rfl zc0_ne (fun hc => absurd hc (by decide)) (fun _ => ?_)
        exact zw_thr hm_155 dX11_strong_14 dX11_strong_17 dX11_strong_18 dX11_strong_21 x_11_79_81 n_11_79 (by omega) (by show 0 + 81 ≤ w; omega) h
      · intro hc
        rw [if_neg hc] at h
        refine zw_push hm_142 dX11_isSlot_4 (v := .inl rt) rfl ?_
        refine zw_push hm_142 dX11_isSlot_5 (v := .inl (16 : Int32)) rfl ?_
        refine zw_if2 hm_142 dX11_isSlot_7 (t := 14) rfl zc2_ge ?_ ?_
        · intro hc
          rw [if_pos hc] at h
          refine zw_push hm_142 dX11_isSlot_14 (v := .inl (0 : Int32)) rfl ?_
          refine zw_bret hm_142 dX11_isSlot_15 (by decide) ?_
          show ma_wp X d w 155 11 [(0, .inr (.inr (some 64))), (1, .inl i), (2, .inl rt)] [.inl (0 : Int32)] S _
          refine zw_if0 hm_155 dX11_strong_11 (t := 22) rfl zc0_ne (fun hc => absurd hc (by decide)) (fun _ => ?_)
          exact zw_thr hm_155 dX11_strong_14 dX11_strong_17 dX11_strong_18 dX11_strong_21 x_11_79_81 n_11_79 (by omega) (by show 0 + 81 ≤ w; omega) h
        · intro hc
          rw [if_neg hc] at h
          refine zw_push hm_142 dX11_isSlot_10 (v := .inl (1 : Int32)) rfl ?_
          refine zw_goto hm_142 dX11_isSlot_11 (t := 15) rfl ?_
          refine zw_bret hm_142 dX11_isSlot_15 (by decide) ?_
          show ma_wp X d w 155 11 [(0, .inr (.inr (some 64))), (1, .inl i), (2, .inl rt)] [.inl (1 : Int32)] S _
          refine zw_if0 hm_155 dX11_strong_11 (t := 22) rfl zc0_ne (fun _ => ?_) (fun hc => absurd (by decide) hc)
          refine zw_push hm_155 dX11_strong_22 (v := .inr (.inr (some 64))) rfl ?_
          refine zw_cv hm_155 dX11_strong_23 v_11_119_11 hm_144 [] [] rfl (zT_rt hS s_64 rfl) ⟨by omega, by omega⟩ rfl ?_
          show ma_wp X (d - 1) (w - 20) 144 0 [(0, .inr (.inr (some 64)))] [] S _
          refine zw_push hm_144 dX11_needCollector_0 (v := .inr (.inr (some 64))) rfl ?_
          obtain ⟨hg, h⟩ := h
          refine zw_gf hm_144 dX11_needCollector_1 (v := .inr (.inr (some 82))) (zT_is hS s_64) (zT_t hS s_64) rfl f_11_98_11 (congrArg (fun z => Sum.inr (Sum.inr z)) hg) ?_
          refine zw_ifnonnull hm_144 dX11_needCollector_4 (t := 15) rfl (fun z => by cases z) (fun _ _ => ?_)
          refine zw_push hm_144 dX11_needCollector_15 (v := .inr (.inr (some 64))) rfl ?_
          obtain ⟨hg, h⟩ := h
          refine zw_gf hm_144 dX11_needCollector_16 (v := .inr (.inr (some 82))) (zT_is hS s_64) (zT_t hS s_64) rfl f_11_98_11 (congrArg (fun z => Sum.inr (Sum.inr z)) hg) ?_
          refine zw_aret hm_144 dX11_needCollector_19 ?_
          show ma_wp X d w 155 26 [(0, .inr (.inr (some 64))), (1, .inl i), (2, .inl rt)] [.inr (.inr (some 82))] S _
          refine zw_sto hm_155 dX11_strong_26 [(3, .inr (.inr (some 82))), (0, .inr (.inr (some 64))), (1, .inl i), (2, .inl rt)] rfl rfl rfl ?_
          refine zw_push hm_155 dX11_strong_27 (v := .inr (.inr (some 64))) rfl ?_
          refine zw_gf hm_155 dX11_strong_28 (v := .inr (.inr (some 69))) (zT_is hS s_64) (zT_t hS s_64) rfl f_11_26_11 (zT_f hS r_64_8) ?_
          refine zw_push hm_155 dX11_strong_31 (v := .inr (.inr (some 64))) rfl ?_
          refine zw_gf hm_155 dX11_strong_32 (v := .inr (.inr (some 69))) (zT_is hS s_64) (zT_t hS s_64) rfl f_11_26_11 (zT_f hS r_64_8) ?_
          refine zw_gf hm_155 dX11_strong_35 (v := .inr (.inr (some 73))) (zT_is hS s_69) (zT_t hS s_69) rfl f_11_173_7 (zT_f hS r_69_3) ?_
          refine zw_push hm_155 dX11_strong_38 (v := .inl i) rfl ?_
          obtain ⟨hg, h⟩ := h
          refine zw_ia hm_155 dX11_strong_39 (zT_is hS s_73) (zT_h hS s_73) rfl hg ?_
          show ma_wp X d w 155 40 [(3, .inr (.inr (some 82))), (0, .inr (.inr (some 64))), (1, .inl i), (2, .inl rt)] [.inl (mI S 73 i.toNatClampNeg), .inr (.inr (some 69))] S _
          refine zw_cv hm_155 dX11_strong_40 v_11_176_7 hm_81 [.inl (mI S 73 i.toNatClampNeg)] [] rfl (zT_rt hS s_69 rfl) ⟨by omega, by omega⟩ rfl ?_
          show ma_wp X (d - 1) (w - 21) 81 0 [(0, .inr (.inr (some 69))), (1, .inl (mI S 73 i.toNatClampNeg))] [] S _
          refine zw_push hm_81 dX7_thingAt_0 (v := .inl (mI S 73 i.toNatClampNeg)) rfl ?_
          refine zw_if0 hm_81 dX7_thingAt_1 (t := 20) rfl zc0_lt ?_ ?_
          · intro hc
            rw [if_pos hc] at h
            refine zw_push hm_81 dX7_thingAt_20 (v := .inr (.inr none)) rfl ?_
            refine zw_aret hm_81 dX7_thingAt_21 ?_
            show ma_wp X d w 155 43 [(3, .inr (.inr (some 82))), (0, .inr (.inr (some 64))), (1, .inl i), (2, .inl rt)] [.inr (.inr none)] S _
            refine zw_sto hm_155 dX11_strong_43 [(4, .inr (.inr none)), (3, .inr (.inr (some 82))), (0, .inr (.inr (some 64))), (1, .inl i), (2, .inl rt)] rfl rfl rfl ?_
            refine zw_push hm_155 dX11_strong_45 (v := .inr (.inr none)) rfl ?_
            refine zw_ifnonnull hm_155 dX11_strong_47 (t := 52) rfl (fun _ => ?_) (fun _ z => by cases z)
            refine zw_push hm_155 dX11_strong_50 (v := .inl (-1 : Int32)) rfl ?_
            exact zw_iret hm_155 dX11_strong_51 h
          · intro hc
            rw [if_neg hc] at h
            refine zw_push hm_81 dX7_thingAt_4 (v := .inl (mI S 73 i.toNatClampNeg)) rfl ?_
            refine zw_push hm_81 dX7_thingAt_5 (v := .inl (512 : Int32)) rfl ?_
            refine zw_if2 hm_81 dX7_thingAt_8 (t := 20) rfl zc2_ge ?_ ?_
            · intro hc
              rw [if_pos hc] at h
              refine zw_push hm_81 dX7_thingAt_20 (v := .inr (.inr none)) rfl ?_
              refine zw_aret hm_81 dX7_thingAt_21 ?_
              show ma_wp X d w 155 43 [(3, .inr (.inr (some 82))), (0, .inr (.inr (some 64))), (1, .inl i), (2, .inl rt)] [.inr (.inr none)] S _
              refine zw_sto hm_155 dX11_strong_43 [(4, .inr (.inr none)), (3, .inr (.inr (some 82))), (0, .inr (.inr (some 64))), (1, .inl i), (2, .inl rt)] rfl rfl rfl ?_
              refine zw_push hm_155 dX11_strong_45 (v := .inr (.inr none)) rfl ?_
              refine zw_ifnonnull hm_155 dX11_strong_47 (t := 52) rfl (fun _ => ?_) (fun _ z => by cases z)
              refine zw_push hm_155 dX11_strong_50 (v := .inl (-1 : Int32)) rfl ?_
              exact zw_iret hm_155 dX11_strong_51 h
            · intro hc
              rw [if_neg hc] at h
              refine zw_push hm_81 dX7_thingAt_11 (v := .inr (.inr (some 69))) rfl ?_
              refine zw_gf hm_81 dX7_thingAt_12 (v := .inr (.inr (some 70))) (zT_is hS s_69) (zT_t hS s_69) rfl f_7_11_7 (zT_f hS r_69_0) ?_
              refine zw_push hm_81 dX7_thingAt_15 (v := .inl (mI S 73 i.toNatClampNeg)) rfl ?_
              obtain ⟨hg, h⟩ := h
              refine zw_aa hm_81 dX7_thingAt_16 (zT_is hS s_70) (zT_h hS s_70) rfl rfl hg rfl ?_
              show ma_wp X (d - 1) (w - 21) 81 17 [(0, .inr (.inr (some 69))), (1, .inl (mI S 73 i.toNatClampNeg))] [.inr (.inr (mR S 70 (mI S 73 i.toNatClampNeg).toNatClampNeg))] S _
              refine zw_goto hm_81 dX7_thingAt_17 (t := 21) rfl ?_
              refine zw_aret hm_81 dX7_thingAt_21 ?_
              show ma_wp X d w 155 43 [(3, .inr (.inr (some 82))), (0, .inr (.inr (some 64))), (1, .inl i), (2, .inl rt)] [.inr (.inr (mR S 70 (mI S 73 i.toNatClampNeg).toNatClampNeg))] S _
              refine zw_sto hm_155 dX11_strong_43 [(4, .inr (.inr (mR S 70 (mI S 73 i.toNatClampNeg).toNatClampNeg))), (3, .inr (.inr (some 82))), (0, .inr (.inr (some 64))), (1, .inl i), (2, .inl rt)] rfl rfl rfl ?_
              refine zw_push hm_155 dX11_strong_45 (v := .inr (.inr (mR S 70 (mI S 73 i.toNatClampNeg).toNatClampNeg))) rfl ?_
              refine zw_ifnonnull hm_155 dX11_strong_47 (t := 52) rfl ?_ ?_
              · intro hc
                have h := h.1 hc
                (try rw [hc])
                show ma_wp X d w 155 50 [(4, .inr (.inr none)), (3, .inr (.inr (some 82))), (0, .inr (.inr (some 64))), (1, .inl i), (2, .inl rt)] [] S _
                refine zw_push hm_155 dX11_strong_50 (v := .inl (-1 : Int32)) rfl ?_
                exact zw_iret hm_155 dX11_strong_51 h
              · intro c1 hc
                have h := h.2 c1 hc
                (try rw [hc])
                show ma_wp X d w 155 52 [(4, .inr (.inr (some c1))), (3, .inr (.inr (some 82))), (0, .inr (.inr (some 64))), (1, .inl i), (2, .inl rt)] [] S _
                refine zw_push hm_155 dX11_strong_52 (v := .inr (.inr (some 64))) rfl ?_
                refine zw_push hm_155 dX11_strong_53 (v := .inr (.inr (some 82))) rfl ?_
                refine zw_push hm_155 dX11_strong_54 (v := .inl rt) rfl ?_
                refine zw_push hm_155 dX11_strong_55 (v := .inr (.inr (some c1))) rfl ?_
                refine zw_cv hm_155 dX11_strong_57 v_11_169_11 hm_145 [.inr (.inr (some c1)), .inl rt, .inr (.inr (some 82))] [] rfl (zT_rt hS s_64 rfl) ⟨by omega, by omega⟩ rfl (zw_mono h (zo_go ?_ ?_))
                · intro v3 S2 hv
                  obtain ⟨hS2, h⟩ := hv
                  refine zw_stk hm_155 dX11_strong_60 (st₉ := []) rfl rfl ?_
                  refine zw_push hm_155 dX11_strong_61 (v := .inr (.inr (some 82))) rfl ?_
                  refine zw_push hm_155 dX11_strong_62 (v := .inr (.inr (some c1))) rfl ?_
                  refine zw_cv hm_155 dX11_strong_64 v_11_179_1 hm_268 [.inr (.inr (some c1))] [] rfl (zT_rt hS2 s_82 rfl) ⟨by omega, by omega⟩ rfl ?_
                  show ma_wp X (d - 1) (w - 21) 268 0 [(0, .inr (.inr (some 82))), (1, .inr (.inr (some c1)))] [] S2 _
                  refine zw_vret hm_268 dX1_noteStrong_0 ?_
                  show ma_wp X d w 155 67 [(4, .inr (.inr (some c1))), (3, .inr (.inr (some 82))), (0, .inr (.inr (some 64))), (1, .inl i), (2, .inl rt)] [] S2 _
                  refine zw_push hm_155 dX11_strong_67 (v := .inr (.inr (some c1))) rfl ?_
                  obtain ⟨hg, h⟩ := h
                  refine zw_gf hm_155 dX11_strong_69 (v := .inl (mI S2 c1 0)) (zT_tis hS2 hg) (zT_tt hS2 hg) rfl f_11_182_9 rfl ?_
                  exact zw_iret hm_155 dX11_strong_72 h
                · intro x S9 hx
                  exact ⟨by decide, hx⟩
theorem sp_155_64_sm_p82 {X : Nat × (Nat → Int32)} {d w : Nat} {f : Nat → Nat → Int32} {r : Nat → Nat → Option Nat} {C Z N : Nat} {Q : Option ma_V ⊕ Nat → ma_S → Prop} {ab : Nat→Nat→Int32} {fp82 : Nat→Int32} {fp83 : Nat→Int32} {S : ma_S} (i : Int32) (rt : Int32) (hd : 7 ≤ d) (hw : 134 ≤ w) (hI : zB f r C Z N S) (hr : r 64 11 = some 82) (hpre0 : xB S (mR S 70)) (hpre1 : aS 88 S = ab) (hpre2 : (mI S 82) = fp82) (hpre3 : (mI S 83) = fp83) (K : ∀ v S₉, zB f r C Z N S₉ → (True) → (xB S₉ (mR S₉ 70)) → ((0 ≤ i.toInt ∧ i.toInt ≤ 15) ∧ (0 ≤ rt.toInt ∧ rt.toInt ≤ 15) ∧ ((aNm ab (ab 73 i.toNatClampNeg) = -1 ∧ aS 88 S₉ = ab ∧ v = -1) ∨ (aNm ab (ab 73 i.toNatClampNeg) = ab 73 i.toNatClampNeg ∧ 0 ≤ (ab 73 i.toNatClampNeg).toInt ∧ aS 88 S₉ = aR0 ab rt (ab 73 i.toNatClampNeg) ∧ v = ab 73 i.toNatClampNeg))) → ((mI S₉ 82) = fp82) → ((mI S₉ 83) = fp83) → Q (.inl (some (.inl v))) S₉) (KX : ∀ x S₉, (x = 2) → zB f r C Z N S₉ → (xB S₉ (mR S₉ 70)) → (aS 88 S₉ = ab) → (x = 2 ∧ ¬ ((0 ≤ i.toInt ∧ i.toInt ≤ 15) ∧ (0 ≤ rt.toInt ∧ rt.toInt ≤ 15))) → ((mI S₉ 82) = fp82) → ((mI S₉ 83) = fp83) → Q (.inr x) (ma_bump S₉)) : ma_wp X d w 155 0 [(0, .inr (.inr (some 64))), (1, .inl i), (2, .inl rt)] [] S Q := by
  refine g_155_64_sm_p82_0 i rt (by omega) (by omega) (zG_T hI) ?_
  have b1 := i_bd i
  have li2 : (0 : Int32).toInt = 0 := rfl
  refine zd (fun h3 => ?_) (fun h3 => ?_)
  · skip
    have g4 := i_lt h3
    exact KX 2 _ (by decide) hI (show xB S (mR S 70) from by first | (exact xB_x (xC_o (W := 75) hpre0).2)) (show aS 88 S = ab from by first | (exact (xC_o (W := 88) hpre0).1.trans hpre1)) (show 2 = 2 ∧ ¬ ((0 ≤ i.toInt ∧ i.toInt ≤ 15) ∧ (0 ≤ rt.toInt ∧ rt.toInt ≤ 15)) from by first | (exact ⟨rfl, by omega⟩)) (show (mI S 82) = fp82 from by first | (exact hpre2)) (show (mI S 83) = fp83 from by first | (exact hpre3))
  · skip
    have g5 := i_nlt h3
    have li6 : (16 : Int32).toInt = 16 := rfl
    refine zd (fun h7 => ?_) (fun h7 => ?_)
    · skip
      have g8 := i_le h7
      exact KX 2 _ (by decide) hI (show xB S (mR S 70) from by first | (exact xB_x (xC_o (W := 75) hpre0).2)) (show aS 88 S = ab from by first | (exact (xC_o (W := 88) hpre0).1.trans hpre1)) (show 2 = 2 ∧ ¬ ((0 ≤ i.toInt ∧ i.toInt ≤ 15) ∧ (0 ≤ rt.toInt ∧ rt.toInt ≤ 15)) from by first | (exact ⟨rfl, by omega⟩)) (show (mI S 82) = fp82 from by first | (exact hpre2)) (show (mI S 83) = fp83 from by first | (exact hpre3))
    · skip
      have g9 := i_nle h7
      have b10 := i_bd rt
      refine zd (fun h11 => ?_) (fun h11 => ?_)
      · skip
        have g12 := i_lt h11
        exact KX 2 _ (by decide) hI (show xB S (mR S 70) from by first | (exact xB_x (xC_o (W := 75) hpre0).2)) (show aS 88 S = ab from by first | (exact (xC_o (W := 88) hpre0).1.trans hpre1)) (show 2 = 2 ∧ ¬ ((0 ≤ i.toInt ∧ i.toInt ≤ 15) ∧ (0 ≤ rt.toInt ∧ rt.toInt ≤ 15)) from by first | (exact ⟨rfl, by omega⟩)) (show (mI S 82) = fp82 from by first | (exact hpre2)) (show (mI S 83) = fp83 from by first | (exact hpre3))
      · skip
        have g13 := i_nlt h11
        refine zd (fun h14 => ?_) (fun h14 => ?_)
        · skip
          have g15 := i_le h14
          exact KX 2 _ (by decide) hI (show xB S (mR S 70) from by first | (exact xB_x (xC_o (W := 75) hpre0).2)) (show aS 88 S = ab from by first | (exact (xC_o (W := 88) hpre0).1.trans hpre1)) (show 2 = 2 ∧ ¬ ((0 ≤ i.toInt ∧ i.toInt ≤ 15) ∧ (0 ≤ rt.toInt ∧ rt.toInt ≤ 15)) from by first | (exact ⟨rfl, by omega⟩)) (show (mI S 82) = fp82 from by first | (exact hpre2)) (show (mI S 83) = fp83 from by first | (exact hpre3))
        · skip
          have g16 := i_nle h14
          refine ⟨((zG_r hI (by decide)).trans hr), ?_⟩
          refine ⟨((zG_r hI (by decide)).trans hr), ?_⟩
          refine ⟨i_ix (by omega) (by omega), ?_⟩
          have b17 := i_bd (mI S 73 i.toNatClampNeg)
          refine zd (fun h18 => ?_) (fun h18 => ?_)
          · skip
            have g19 := i_lt h18
            have li20 : (-1 : Int32).toInt = -1 := rfl
            exact K ((-1 : Int32)) _ hI trivial (show xB S (mR S 70) from by first | (exact xB_x (xC_o (W := 75) hpre0).2)) (show (0 ≤ i.toInt ∧ i.toInt ≤ 15) ∧ (0 ≤ rt.toInt ∧ rt.toInt ≤ 15) ∧ ((aNm ab (ab 73 i.toNatClampNeg) = -1 ∧ aS 88 S = ab ∧ (-1 : Int32) = -1) ∨ (aNm ab (ab 73 i.toNatClampNeg) = ab 73 i.toNatClampNeg ∧ 0 ≤ (ab 73 i.toNatClampNeg).toInt ∧ aS 88 S = aR0 ab rt (ab 73 i.toNatClampNeg) ∧ (-1 : Int32) = ab 73 i.toNatClampNeg)) from by first | (have we : mI S 73 i.toNatClampNeg = ab 73 i.toNatClampNeg := (aS_I (W := 88) (S := S) (c := 73) (c₉ := 73) (k := i.toNatClampNeg) rfl rfl).symm.trans (congrFun (congrFun hpre1 73) i.toNatClampNeg); have wi := congrArg Int32.toInt we; refine ⟨⟨by omega, by omega⟩, ⟨by omega, by omega⟩, ?_⟩; exact Or.inl ⟨if_neg (fun q => by omega), hpre1, rfl⟩)) (show (mI S 82) = fp82 from by first | (exact hpre2)) (show (mI S 83) = fp83 from by first | (exact hpre3))
          · skip
            have g21 := i_nlt h18
            have li22 : (512 : Int32).toInt = 512 := rfl
            refine zd (fun h23 => ?_) (fun h23 => ?_)
            · skip
              have g24 := i_le h23
              have li25 : (-1 : Int32).toInt = -1 := rfl
              exact K ((-1 : Int32)) _ hI trivial (show xB S (mR S 70) from by first | (exact xB_x (xC_o (W := 75) hpre0).2)) (show (0 ≤ i.toInt ∧ i.toInt ≤ 15) ∧ (0 ≤ rt.toInt ∧ rt.toInt ≤ 15) ∧ ((aNm ab (ab 73 i.toNatClampNeg) = -1 ∧ aS 88 S = ab ∧ (-1 : Int32) = -1) ∨ (aNm ab (ab 73 i.toNatClampNeg) = ab 73 i.toNatClampNeg ∧ 0 ≤ (ab 73 i.toNatClampNeg).toInt ∧ aS 88 S = aR0 ab rt (ab 73 i.toNatClampNeg) ∧ (-1 : Int32) = ab 73 i.toNatClampNeg)) from by first | (have we : mI S 73 i.toNatClampNeg = ab 73 i.toNatClampNeg := (aS_I (W := 88) (S := S) (c := 73) (c₉ := 73) (k := i.toNatClampNeg) rfl rfl).symm.trans (congrFun (congrFun hpre1 73) i.toNatClampNeg); have wi := congrArg Int32.toInt we; refine ⟨⟨by omega, by omega⟩, ⟨by omega, by omega⟩, ?_⟩; exact Or.inl ⟨if_neg (fun q => by omega), hpre1, rfl⟩)) (show (mI S 82) = fp82 from by first | (exact hpre2)) (show (mI S 83) = fp83 from by first | (exact hpre3))
            · skip
              have g26 := i_nle h23
              refine ⟨i_ix (by omega) (by omega), ?_⟩
              refine ⟨fun hc => ?_, fun c1 hc => ?_⟩
              · skip
                have rn_c1 : zTa (mR S 70) (mI S 73 i.toNatClampNeg) = none := (ta_rd (y := (mI S 73 i.toNatClampNeg)) hpre0 (by omega) (by omega)).symm.trans hc
                have li27 : (-1 : Int32).toInt = -1 := rfl
                exact K ((-1 : Int32)) _ hI trivial (show xB S (mR S 70) from by first | (exact xB_x (xC_o (W := 75) hpre0).2)) (show (0 ≤ i.toInt ∧ i.toInt ≤ 15) ∧ (0 ≤ rt.toInt ∧ rt.toInt ≤ 15) ∧ ((aNm ab (ab 73 i.toNatClampNeg) = -1 ∧ aS 88 S = ab ∧ (-1 : Int32) = -1) ∨ (aNm ab (ab 73 i.toNatClampNeg) = ab 73 i.toNatClampNeg ∧ 0 ≤ (ab 73 i.toNatClampNeg).toInt ∧ aS 88 S = aR0 ab rt (ab 73 i.toNatClampNeg) ∧ (-1 : Int32) = ab 73 i.toNatClampNeg)) from by first | (have we : mI S 73 i.toNatClampNeg = ab 73 i.toNatClampNeg := (aS_I (W := 88) (S := S) (c := 73) (c₉ := 73) (k := i.toNatClampNeg) rfl rfl).symm.trans (congrFun (congrFun hpre1 73) i.toNatClampNeg); have wi := congrArg Int32.toInt we; have nn := nm_n (W := 88) hpre0 rn_c1; rw [hpre1, we] at nn; refine ⟨⟨by omega, by omega⟩, ⟨by omega, by omega⟩, ?_⟩; exact Or.inl ⟨nn, hpre1, rfl⟩)) (show (mI S 82) = fp82 from by first | (exact hpre2)) (show (mI S 83) = fp83 from by first | (exact hpre3))
              · skip
                have th_c1 := (fun _ z => zG_70 hI (c := 70) (by decide) z) c1 hc
                have rg_c1 : zTa (mR S 70) (mI S 73 i.toNatClampNeg) = some c1 := (ta_rd (y := (mI S 73 i.toNatClampNeg)) hpre0 (by omega) (by omega)).symm.trans hc
                refine sp_145_64_82_sm (ab := (aS 88 S)) (R := (mR S 70)) (y := ((mI S 73 i.toNatClampNeg))) (fp82 := (mI S 82)) (fp83 := (mI S 83)) (rt) ((some c1)) (by omega) (by omega) (zB_dn_zJ82 hI) (fun _ z => by cases z; exact th_c1) (show xB S (mR S 70) from by first | (exact (xC_o (W := 75) hpre0).2)) (show aS 88 S = (aS 88 S) from by first | (exact rfl)) (show (some c1) = zTa (mR S 70) ((mI S 73 i.toNatClampNeg)) from by first | (exact rg_c1.symm)) (by omega) (by omega) (show (mI S 82) = (mI S 82) from by first | (exact rfl)) (show (mI S 83) = (mI S 83) from by first | (exact rfl)) (fun v3 S2 hL_S2 hq_v3 rp0_S2 rp1_S2 rp2_S2 rp3_S2 rp4_S2 => zo_n ⟨zG_T hL_S2, ?_⟩)
                have hI_S2 := zB_up_zJ82 hI hL_S2
                have rp0_S2 : xB S2 (mR S 70) := by
                  have z := rp0_S2
                  (try rw [show mI S 65 = f 65 from funext (fun k => zG_z hI rfl)] at z)
                  (try rw [show mI S 64 1 = f 64 1 from zG_z hI rfl] at z)
                  exact z
                have rp1_S2 : aS 88 S2 = aR0 (aS 88 S) rt ((mI S 73 i.toNatClampNeg)) := by
                  have z := rp1_S2
                  (try rw [show mI S 65 = f 65 from funext (fun k => zG_z hI rfl)] at z)
                  (try rw [show mI S 64 1 = f 64 1 from zG_z hI rfl] at z)
                  exact z
                have rp2_S2 : v3 = zTa (mR S 70) ((aS 88 S) 72 rt.toNatClampNeg) := by
                  have z := rp2_S2
                  (try rw [show mI S 65 = f 65 from funext (fun k => zG_z hI rfl)] at z)
                  (try rw [show mI S 64 1 = f 64 1 from zG_z hI rfl] at z)
                  exact z
                have rp3_S2 : (mI S2 82) = (mI S 82) := by
                  have z := rp3_S2
                  (try rw [show mI S 65 = f 65 from funext (fun k => zG_z hI rfl)] at z)
                  (try rw [show mI S 64 1 = f 64 1 from zG_z hI rfl] at z)
                  exact z
                have rp4_S2 : (mI S2 83) = (mI S 83) := by
                  have z := rp4_S2
                  (try rw [show mI S 65 = f 65 from funext (fun k => zG_z hI rfl)] at z)
                  (try rw [show mI S 64 1 = f 64 1 from zG_z hI rfl] at z)
                  exact z
                refine ⟨zG_n hI_S2 th_c1, ?_⟩
                have f28 := zG_th hI_S2 th_c1
                exact K ((mI S2 c1 0)) _ hI_S2 trivial (show xB S2 (mR S2 70) from by first | (exact xB_x (xC_o (W := 75) rp0_S2).2)) (show (0 ≤ i.toInt ∧ i.toInt ≤ 15) ∧ (0 ≤ rt.toInt ∧ rt.toInt ≤ 15) ∧ ((aNm ab (ab 73 i.toNatClampNeg) = -1 ∧ aS 88 S2 = ab ∧ (mI S2 c1 0) = -1) ∨ (aNm ab (ab 73 i.toNatClampNeg) = ab 73 i.toNatClampNeg ∧ 0 ≤ (ab 73 i.toNatClampNeg).toInt ∧ aS 88 S2 = aR0 ab rt (ab 73 i.toNatClampNeg) ∧ (mI S2 c1 0) = ab 73 i.toNatClampNeg)) from by first | (have we : mI S 73 i.toNatClampNeg = ab 73 i.toNatClampNeg := (aS_I (W := 88) (S := S) (c := 73) (c₉ := 73) (k := i.toNatClampNeg) rfl rfl).symm.trans (congrFun (congrFun hpre1 73) i.toNatClampNeg); have wi := congrArg Int32.toInt we; have nn := nm_y (W := 88) hpre0 rg_c1; rw [hpre1, we] at nn; have w0 := (zTa_p rg_c1).1; have st := rp1_S2; rw [hpre1, we] at st; have tn := (xB_th (W := 88) rp0_S2 rg_c1).2.2.1; refine ⟨⟨by omega, by omega⟩, ⟨by omega, by omega⟩, ?_⟩; exact Or.inr ⟨nn, (by omega), st, tn.trans we⟩)) (show (mI S2 82) = fp82 from by first | (exact (rp3_S2.trans hpre2))) (show (mI S2 83) = fp83 from by first | (exact (rp4_S2.trans hpre3)))

/-! from 95.u37 -/
/-! AGES, the class (written by wip/tools/gen15y.py) -/
theorem g_161_64_sm_p82_0 {X : Nat × (Nat → Int32)} {d w : Nat} {S : ma_S} {Q : Option ma_V ⊕ Nat → ma_S → Prop} (o : Int32) (wh : Int32) (hd : 7 ≤ d) (hw : 111 ≤ w) (hS : zT S) (h : if wh < 0 then (Q (.inr 2) (ma_bump S)) else (if wh ≤ (7 : Int32) then (mR S 64 11 = some 82 ∧ (mR S 64 11 = some 82 ∧ (ma_wp X (d - 1) (w - 22) 149 0 [(0, .inr (.inr (some 64))), (1, .inl o)] [] S (zo (fun v2 S1 => zT S1 ∧ ((∃ c3, v2 = some c3 ∧ (if wh = (0 : Int32) then ((126 ≤ c3 ∧ c3 < mN S1) ∧ (Q (.inl (some (.inl (mI S1 c3 4)))) S1)) else (if wh = (1 : Int32) then ((126 ≤ c3 ∧ c3 < mN S1) ∧ (Q (.inl (some (.inl (mI S1 c3 2)))) S1)) else (if wh = (2 : Int32) then ((126 ≤ c3 ∧ c3 < mN S1) ∧ (Q (.inl (some (.inl (mI S1 c3 1)))) S1)) else (if wh = (3 : Int32) then ((126 ≤ c3 ∧ c3 < mN S1) ∧ (Q (.inl (some (.inl (mI S1 c3 5)))) S1)) else (if wh = (4 : Int32) then (Q (.inl (some (.inl (0 : Int32)))) S1) else (if wh = (5 : Int32) then (Q (.inl (some (.inl (0 : Int32)))) S1) else (if wh = (6 : Int32) then ((126 ≤ c3 ∧ c3 < mN S1) ∧ (Q (.inl (some (.inl (mI S1 c3 7)))) S1)) else ((126 ≤ c3 ∧ c3 < mN S1) ∧ (if (mI S1 c3 8) = 0 then (Q (.inl (some (.inl (0 : Int32)))) S1) else (Q (.inl (some (.inl (1 : Int32)))) S1))))))))))))) (fun x S9 => Q (.inr x) S9))))) else (Q (.inr 2) (ma_bump S)))) : ma_wp X d w 161 0 [(0, .inr (.inr (some 64))), (1, .inl o), (2, .inl wh)] [] S Q := by
  refine zw_push hm_161 dX11_about_0 (v := .inl wh) rfl ?_
  refine zw_if0 hm_161 dX11_about_1 (t := 10) rfl zc0_lt ?_ ?_
  · intro hc
    rw [if_pos hc] at h
    exact zw_thr hm_161 dX11_about_10 dX11_about_13 dX11_about_14 dX11_about_17 x_11_79_81 n_11_79 (by omega) (by show 0 + 81 ≤ w; omega) h
  · intro hc
    rw [if_neg hc] at h
    refine zw_push hm_161 dX11_about_4 (v := .inl wh) rfl ?_
    refine zw_push hm_161 dX11_about_5 (v := .inl (7 : Int32)) rfl ?_
    refine zw_if2 hm_161 dX11_about_7 (t := 18) rfl zc2_le ?_ ?_
    · intro hc
      rw [if_pos hc] at h
      refine zw_push hm_161 dX11_about_18 (v := .inr (.inr (some 64))) rfl ?_
      refine zw_cv hm_161 dX11_about_19 v_11_119_11 hm_144 [] [] rfl (zT_rt hS s_64 rfl) ⟨by omega, by omega⟩ rfl ?_
      show ma_wp X (d - 1) (w - 20) 144 0 [(0, .inr (.inr (some 64)))] [] S _
      refine zw_push hm_144 dX11_needCollector_0 (v := .inr (.inr (some 64))) rfl ?_
      obtain ⟨hg, h⟩ := h
      refine zw_gf hm_144 dX11_needCollector_1 (v := .inr (.inr (some 82))) (zT_is hS s_64) (zT_t hS s_64) rfl f_11_98_11 (congrArg (fun z => Sum.inr (Sum.inr z)) hg) ?_
      refine zw_ifnonnull hm_144 dX11_needCollector_4 (t := 15) rfl (fun z => by cases z) (fun _ _ => ?_)
      refine zw_push hm_144 dX11_needCollector_15 (v := .inr (.inr (some 64))) rfl ?_
      obtain ⟨hg, h⟩ := h
      refine zw_gf hm_144 dX11_needCollector_16 (v := .inr (.inr (some 82))) (zT_is hS s_64) (zT_t hS s_64) rfl f_11_98_11 (congrArg (fun z => Sum.inr (Sum.inr z)) hg) ?_
      refine zw_aret hm_144 dX11_needCollector_19 ?_
      show ma_wp X d w 161 22 [(0, .inr (.inr (some 64))), (1, .inl o), (2, .inl wh)] [.inr (.inr (some 82))] S _
      refine zw_sto hm_161 dX11_about_22 [(3, .inr (.inr (some 82))), (0, .inr (.inr (some 64))), (1, .inl o), (2, .inl wh)] rfl rfl rfl ?_
      refine zw_push hm_161 dX11_about_23 (v := .inr (.inr (some 64))) rfl ?_
      refine zw_push hm_161 dX11_about_24 (v := .inl o) rfl ?_
      refine zw_cv hm_161 dX11_about_25 v_11_123_11 hm_149 [.inl o] [] rfl (zT_rt hS s_64 rfl) ⟨by omega, by omega⟩ rfl (zw_mono h (zo_go ?_ ?_))
      · intro v2 S1 hv
        obtain ⟨hS1, h⟩ := hv
        obtain ⟨c3, hc, h⟩ := h
        subst hc
        show ma_wp X d w 161 28 [(3, .inr (.inr (some 82))), (0, .inr (.inr (some 64))), (1, .inl o), (2, .inl wh)] [.inr (.inr (some c3))] S1 _
        refine zw_sto hm_161 dX11_about_28 [(4, .inr (.inr (some c3))), (3, .inr (.inr (some 82))), (0, .inr (.inr (some 64))), (1, .inl o), (2, .inl wh)] rfl rfl rfl ?_
        refine zw_push hm_161 dX11_about_30 (v := .inl wh) rfl ?_
        by_cases hc0 : wh = (0 : Int32)
        · rw [if_pos hc0] at h
          refine zw_jmp hm_161 dX11_about_31 (t := 72) (st₉ := []) rfl rfl rfl (ma_jmp_tab (by rw [hc0]; decide +kernel)) ?_
          refine zw_push hm_161 dX11_about_72 (v := .inr (.inr (some c3))) rfl ?_
          obtain ⟨hg, h⟩ := h
          refine zw_gf hm_161 dX11_about_74 (v := .inl (mI S1 c3 4)) (zT_tis hS1 hg) (zT_tt hS1 hg) rfl f_11_214_9 rfl ?_
          exact zw_iret hm_161 dX11_about_77 h
        rw [if_neg hc0] at h
        by_cases hc1 : wh = (1 : Int32)
        · rw [if_pos hc1] at h
          refine zw_jmp hm_161 dX11_about_31 (t := 78) (st₉ := []) rfl rfl rfl (ma_jmp_tab (by rw [hc1]; decide +kernel)) ?_
          refine zw_push hm_161 dX11_about_78 (v := .inr (.inr (some c3))) rfl ?_
          obtain ⟨hg, h⟩ := h
          refine zw_gf hm_161 dX11_about_80 (v := .inl (mI S1 c3 2)) (zT_tis hS1 hg) (zT_tt hS1 hg) rfl f_11_217_9 rfl ?_
          exact zw_iret hm_161 dX11_about_83 h
        rw [if_neg hc1] at h
        by_cases hc2 : wh = (2 : Int32)
        · rw [if_pos hc2] at h
          refine zw_jmp hm_161 dX11_about_31 (t := 84) (st₉ := []) rfl rfl rfl (ma_jmp_tab (by rw [hc2]; decide +kernel)) ?_
          refine zw_push hm_161 dX11_about_84 (v := .inr (.inr (some c3))) rfl ?_
          obtain ⟨hg, h⟩ := h
          refine zw_gf hm_161 dX11_about_86 (v := .inl (mI S1 c3 1)) (zT_tis hS1 hg) (zT_tt hS1 hg) rfl f_11_220_9 rfl ?_
          exact zw_iret hm_161 dX11_about_89 h
        rw [if_neg hc2] at h
        by_cases hc3 : wh = (3 : Int32)
        · rw [if_pos hc3] at h
          refine zw_jmp hm_161 dX11_about_31 (t := 90) (st₉ := []) rfl rfl rfl (ma_jmp_tab (by rw [hc3]; decide +kernel)) ?_
          refine zw_push hm_161 dX11_about_90 (v := .inr (.inr (some c3))) rfl ?_
          obtain ⟨hg, h⟩ := h
          refine zw_gf hm_161 dX11_about_92 (v := .inl (mI S1 c3 5)) (zT_tis hS1 hg) (zT_tt hS1 hg) rfl f_11_223_9 rfl ?_
          exact zw_iret hm_161 dX11_about_95 h
        rw [if_neg hc3] at h
        by_cases hc4 : wh = (4 : Int32)
        · rw [if_pos hc4] at h
          refine zw_jmp hm_161 dX11_about_31 (t := 96) (st₉ := []) rfl rfl rfl (ma_jmp_tab (by rw [hc4]; decide +kernel)) ?_
          refine zw_push hm_161 dX11_about_96 (v := .inr (.inr (some 82))) rfl ?_
          refine zw_push hm_161 dX11_about_97 (v := .inr (.inr (some c3))) rfl ?_
          refine zw_cv hm_161 dX11_about_99 v_11_226_1 hm_270 [.inr (.inr (some c3))] [] rfl (zT_rt hS1 s_82 rfl) ⟨by omega, by omega⟩ rfl ?_
          show ma_wp X (d - 1) (w - 21) 270 0 [(0, .inr (.inr (some 82))), (1, .inr (.inr (some c3)))] [] S1 _
          refine zw_push hm_270 dX1_countOf_0 (v := .inl (0 : Int32)) rfl ?_
          refine zw_iret hm_270 dX1_countOf_1 ?_
          show ma_wp X d w 161 102 [(4, .inr (.inr (some c3))), (3, .inr (.inr (some 82))), (0, .inr (.inr (some 64))), (1, .inl o), (2, .inl wh)] [.inl (0 : Int32)] S1 _
          exact zw_iret hm_161 dX11_about_102 h
        rw [if_neg hc4] at h
        by_cases hc5 : wh = (5 : Int32)
        · rw [if_pos hc5] at h
          refine zw_jmp hm_161 dX11_about_31 (t := 103) (st₉ := []) rfl rfl rfl (ma_jmp_tab (by rw [hc5]; decide +kernel)) ?_
          refine zw_push hm_161 dX11_about_103 (v := .inr (.inr (some 82))) rfl ?_
          refine zw_push hm_161 dX11_about_104 (v := .inr (.inr (some c3))) rfl ?_
          refine zw_cv hm_161 dX11_about_106 v_11_229_1 hm_271 [.inr (.inr (some c3))] [] rfl (zT_rt hS1 s_82 rfl) ⟨by omega, by omega⟩ rfl ?_
          show ma_wp X (d - 1) (w - 21) 271 0 [(0, .inr (.inr (some 82))), (1, .inr (.inr (some c3)))] [] S1 _
          refine zw_push hm_271 dX1_colourOf_0 (v := .inl (0 : Int32)) rfl ?_
          refine zw_iret hm_271 dX1_colourOf_1 ?_
          show ma_wp X d w 161 109 [(4, .inr (.inr (some c3))), (3, .inr (.inr (some 82))), (0, .inr (.inr (some 64))), (1, .inl o), (2, .inl wh)] [.inl (0 : Int32)] S1 _
          exact zw_iret hm_161 dX11_about_109 h
        rw [if_neg hc5] at h
        by_cases hc6 : wh = (6 : Int32)
        · rw [if_pos hc6] at h
          refine zw_jmp hm_161 dX11_about_31 (t := 110) (st₉ := []) rfl rfl rfl (ma_jmp_tab (by rw [hc6]; decide +kernel)) ?_
          refine zw_push hm_161 dX11_about_110 (v := .inr (.inr (some c3))) rfl ?_
          obtain ⟨hg, h⟩ := h
          refine zw_gf hm_161 dX11_about_112 (v := .inl (mI S1 c3 7)) (zT_tis hS1 hg) (zT_tt hS1 hg) rfl f_11_189_9 rfl ?_
          exact zw_iret hm_161 dX11_about_115 h
        rw [if_neg hc6] at h
        refine zw_jmp hm_161 dX11_about_31 (t := 116) (st₉ := []) rfl rfl rfl (ma_jmp_def (m := 7) (by decide) (fun j hj => by
            have hj2 : j = 0 ∨ j = 1 ∨ j = 2 ∨ j = 3 ∨ j = 4 ∨ j = 5 ∨ j = 6 := by omega
            rcases hj2 with rfl | rfl | rfl | rfl | rfl | rfl | rfl
            · exact hc0
            · exact hc1
            · exact hc2
            · exact hc3
            · exact hc4
            · exact hc5
            · exact hc6
            ) rfl) ?_
        refine zw_push hm_161 dX11_about_116 (v := .inr (.inr (some c3))) rfl ?_
        obtain ⟨hg, h⟩ := h
        refine zw_gf hm_161 dX11_about_118 (v := .inl (mI S1 c3 8)) (zT_tis hS1 hg) (zT_tt hS1 hg) rfl f_11_199_9 rfl ?_
        refine zw_if0 hm_161 dX11_about_121 (t := 128) rfl zc0_eq ?_ ?_
        · intro hc
          rw [if_pos hc] at h
          refine zw_push hm_161 dX11_about_128 (v := .inl (0 : Int32)) rfl ?_
          exact zw_iret hm_161 dX11_about_129 h
        · intro hc
          rw [if_neg hc] at h
          refine zw_push hm_161 dX11_about_124 (v := .inl (1 : Int32)) rfl ?_
          refine zw_goto hm_161 dX11_about_125 (t := 129) rfl ?_
          exact zw_iret hm_161 dX11_about_129 h
      · intro x S9 hx
        exact ⟨by decide, hx⟩
    · intro hc
      rw [if_neg hc] at h
      exact zw_thr hm_161 dX11_about_10 dX11_about_13 dX11_about_14 dX11_about_17 x_11_79_81 n_11_79 (by omega) (by show 0 + 81 ≤ w; omega) h
theorem sp_161_64_sm_p82 {X : Nat × (Nat → Int32)} {d w : Nat} {f : Nat → Nat → Int32} {r : Nat → Nat → Option Nat} {C Z N : Nat} {Q : Option ma_V ⊕ Nat → ma_S → Prop} {ab : Nat→Nat→Int32} {fp82 : Nat→Int32} {fp83 : Nat→Int32} {S : ma_S} (o : Int32) (wh : Int32) (hd : 7 ≤ d) (hw : 111 ≤ w) (hI : zB f r C Z N S) (hr : r 64 11 = some 82) (hpre0 : xB S (mR S 70)) (hpre1 : aS 88 S = ab) (hpre2 : (mI S 82) = fp82) (hpre3 : (mI S 83) = fp83) (K : ∀ v S₉, zB f r C Z N S₉ → (True) → (xB S₉ (mR S₉ 70)) → (aS 88 S₉ = ab) → ((mI S₉ 82) = fp82) → ((mI S₉ 83) = fp83) → Q (.inl (some (.inl v))) S₉) (KX : ∀ x S₉, (x = 2 ∨ x = 4) → zB f r C Z N S₉ → (xB S₉ (mR S₉ 70)) → (aS 88 S₉ = ab) → ((mI S₉ 82) = fp82) → ((mI S₉ 83) = fp83) → Q (.inr x) (ma_bump S₉)) : ma_wp X d w 161 0 [(0, .inr (.inr (some 64))), (1, .inl o), (2, .inl wh)] [] S Q := by
  refine g_161_64_sm_p82_0 o wh (by omega) (by omega) (zG_T hI) ?_
  have b1 := i_bd wh
  have li2 : (0 : Int32).toInt = 0 := rfl
  refine zd (fun h3 => ?_) (fun h3 => ?_)
  · skip
    have g4 := i_lt h3
    exact KX 2 _ (by decide) hI (show xB S (mR S 70) from by first | (exact xB_x (xC_o (W := 75) hpre0).2)) (show aS 88 S = ab from by first | (exact (xC_o (W := 88) hpre0).1.trans hpre1)) (show (mI S 82) = fp82 from by first | (exact hpre2)) (show (mI S 83) = fp83 from by first | (exact hpre3))
  · skip
    have g5 := i_nlt h3
    have li6 : (7 : Int32).toInt = 7 := rfl
    refine zd (fun h7 => ?_) (fun h7 => ?_)
    · skip
      have g8 := i_le h7
      refine ⟨((zG_r hI (by decide)).trans hr), ?_⟩
      refine ⟨((zG_r hI (by decide)).trans hr), ?_⟩
      have b9 := i_bd o
      refine sp_149_64_s (R := (mR S 70)) (a7 := (aS 75 S)) (a8 := (aS 88 S)) (o) (by omega) (by omega) (zB_dn_zI hI) (show xB S (mR S 70) from by first | (exact (xC_o (W := 75) hpre0).2)) (show aS 75 S = (aS 75 S) from by first | (exact rfl)) (show aS 88 S = (aS 88 S) from by first | (exact rfl)) (fun v2 S1 hL_S1 hq_v2 rp0_S1 rp1_S1 rp2_S1 rp3_S1 => zo_n ⟨zG_T hL_S1, ?_⟩) (fun x S9 hx h9 rx0 rx1 rx2 => by have h9u := (zB_up_zI hI h9); exact zo_x (KX x S9 (by omega) h9u (show xB S9 (mR S9 70) from by first | (exact xB_x (xC_o (W := 75) rx0).2)) (show aS 88 S9 = ab from by first | (exact rx1.trans hpre1)) (show (mI S9 82) = fp82 from by first | (exact ((show mI _ 82 = mI _ 82 from funext (fun _ => zG_z h9 rfl)).trans hpre2))) (show (mI S9 83) = fp83 from by first | (exact ((show mI _ 83 = mI _ 83 from funext (fun _ => zG_z h9 rfl)).trans hpre3)))))
      have hI_S1 := zB_up_zI hI hL_S1
      have rp0_S1 : xB S1 (mR S 70) := by
        have z := rp0_S1
        (try rw [show mI S 65 = f 65 from funext (fun k => zG_z hI rfl)] at z)
        (try rw [show mI S 64 1 = f 64 1 from zG_z hI rfl] at z)
        exact z
      have rp1_S1 : aS 88 S1 = (aS 88 S) := by
        have z := rp1_S1
        (try rw [show mI S 65 = f 65 from funext (fun k => zG_z hI rfl)] at z)
        (try rw [show mI S 64 1 = f 64 1 from zG_z hI rfl] at z)
        exact z
      have rp2_S1 : v2 = zTa (mR S 70) o := by
        have z := rp2_S1
        (try rw [show mI S 65 = f 65 from funext (fun k => zG_z hI rfl)] at z)
        (try rw [show mI S 64 1 = f 64 1 from zG_z hI rfl] at z)
        exact z
      have rp3_S1 : zRq (aS 75 S) o := by
        have z := rp3_S1
        (try rw [show mI S 65 = f 65 from funext (fun k => zG_z hI rfl)] at z)
        (try rw [show mI S 64 1 = f 64 1 from zG_z hI rfl] at z)
        exact z
      obtain ⟨c3, hc, th_c3⟩ := hq_v2
      have rg_c3 : zTa (mR S 70) o = some c3 := rp2_S1.symm.trans hc
      refine ⟨c3, hc, ?_⟩
      refine zd (fun h10 => ?_) (fun h10 => ?_)
      · skip
        have g11 := i_eq h10
        refine ⟨zG_n hI_S1 th_c3, ?_⟩
        have f12 := zG_th hI_S1 th_c3
        exact K ((mI S1 c3 4)) _ hI_S1 trivial (show xB S1 (mR S1 70) from by first | (exact xB_x (xC_o (W := 75) rp0_S1).2)) (show aS 88 S1 = ab from by first | (exact (xC_o (W := 88) rp0_S1).1.trans (rp1_S1.trans hpre1))) (show (mI S1 82) = fp82 from by first | (exact ((show mI S1 82 = mI S 82 from funext (fun _ => zG_z hL_S1 rfl)).trans hpre2))) (show (mI S1 83) = fp83 from by first | (exact ((show mI S1 83 = mI S 83 from funext (fun _ => zG_z hL_S1 rfl)).trans hpre3)))
      · skip
        have g13 := i_ne h10
        have li14 : (1 : Int32).toInt = 1 := rfl
        refine zd (fun h15 => ?_) (fun h15 => ?_)
        · skip
          have g16 := i_eq h15
          refine ⟨zG_n hI_S1 th_c3, ?_⟩
          have f17 := zG_th hI_S1 th_c3
          exact K ((mI S1 c3 2)) _ hI_S1 trivial (show xB S1 (mR S1 70) from by first | (exact xB_x (xC_o (W := 75) rp0_S1).2)) (show aS 88 S1 = ab from by first | (exact (xC_o (W := 88) rp0_S1).1.trans (rp1_S1.trans hpre1))) (show (mI S1 82) = fp82 from by first | (exact ((show mI S1 82 = mI S 82 from funext (fun _ => zG_z hL_S1 rfl)).trans hpre2))) (show (mI S1 83) = fp83 from by first | (exact ((show mI S1 83 = mI S 83 from funext (fun _ => zG_z hL_S1 rfl)).trans hpre3)))
        · skip
          have g18 := i_ne h15
          have li19 : (2 : Int32).toInt = 2 := rfl
          refine zd (fun h20 => ?_) (fun h20 => ?_)
          · skip
            have g21 := i_eq h20
            refine ⟨zG_n hI_S1 th_c3, ?_⟩
            have b22 := i_bd (mI S1 c3 1)
            exact K ((mI S1 c3 1)) _ hI_S1 trivial (show xB S1 (mR S1 70) from by first | (exact xB_x (xC_o (W := 75) rp0_S1).2)) (show aS 88 S1 = ab from by first | (exact (xC_o (W := 88) rp0_S1).1.trans (rp1_S1.trans hpre1))) (show (mI S1 82) = fp82 from by first | (exact ((show mI S1 82 = mI S 82 from funext (fun _ => zG_z hL_S1 rfl)).trans hpre2))) (show (mI S1 83) = fp83 from by first | (exact ((show mI S1 83 = mI S 83 from funext (fun _ => zG_z hL_S1 rfl)).trans hpre3)))
          · skip
            have g23 := i_ne h20
            have li24 : (3 : Int32).toInt = 3 := rfl
            refine zd (fun h25 => ?_) (fun h25 => ?_)
            · skip
              have g26 := i_eq h25
              refine ⟨zG_n hI_S1 th_c3, ?_⟩
              have b27 := i_bd (mI S1 c3 5)
              exact K ((mI S1 c3 5)) _ hI_S1 trivial (show xB S1 (mR S1 70) from by first | (exact xB_x (xC_o (W := 75) rp0_S1).2)) (show aS 88 S1 = ab from by first | (exact (xC_o (W := 88) rp0_S1).1.trans (rp1_S1.trans hpre1))) (show (mI S1 82) = fp82 from by first | (exact ((show mI S1 82 = mI S 82 from funext (fun _ => zG_z hL_S1 rfl)).trans hpre2))) (show (mI S1 83) = fp83 from by first | (exact ((show mI S1 83 = mI S 83 from funext (fun _ => zG_z hL_S1 rfl)).trans hpre3)))
            · skip
              have g28 := i_ne h25
              have li29 : (4 : Int32).toInt = 4 := rfl
              refine zd (fun h30 => ?_) (fun h30 => ?_)
              · skip
                have g31 := i_eq h30
                exact K ((0 : Int32)) _ hI_S1 trivial (show xB S1 (mR S1 70) from by first | (exact xB_x (xC_o (W := 75) rp0_S1).2)) (show aS 88 S1 = ab from by first | (exact (xC_o (W := 88) rp0_S1).1.trans (rp1_S1.trans hpre1))) (show (mI S1 82) = fp82 from by first | (exact ((show mI S1 82 = mI S 82 from funext (fun _ => zG_z hL_S1 rfl)).trans hpre2))) (show (mI S1 83) = fp83 from by first | (exact ((show mI S1 83 = mI S 83 from funext (fun _ => zG_z hL_S1 rfl)).trans hpre3)))
              · skip
                have g32 := i_ne h30
                have li33 : (5 : Int32).toInt = 5 := rfl
                refine zd (fun h34 => ?_) (fun h34 => ?_)
                · skip
                  have g35 := i_eq h34
                  exact K ((0 : Int32)) _ hI_S1 trivial (show xB S1 (mR S1 70) from by first | (exact xB_x (xC_o (W := 75) rp0_S1).2)) (show aS 88 S1 = ab from by first | (exact (xC_o (W := 88) rp0_S1).1.trans (rp1_S1.trans hpre1))) (show (mI S1 82) = fp82 from by first | (exact ((show mI S1 82 = mI S 82 from funext (fun _ => zG_z hL_S1 rfl)).trans hpre2))) (show (mI S1 83) = fp83 from by first | (exact ((show mI S1 83 = mI S 83 from funext (fun _ => zG_z hL_S1 rfl)).trans hpre3)))
                · skip
                  have g36 := i_ne h34
                  have li37 : (6 : Int32).toInt = 6 := rfl
                  refine zd (fun h38 => ?_) (fun h38 => ?_)
                  · skip
                    have g39 := i_eq h38
                    refine ⟨zG_n hI_S1 th_c3, ?_⟩
                    have b40 := i_bd (mI S1 c3 7)
                    exact K ((mI S1 c3 7)) _ hI_S1 trivial (show xB S1 (mR S1 70) from by first | (exact xB_x (xC_o (W := 75) rp0_S1).2)) (show aS 88 S1 = ab from by first | (exact (xC_o (W := 88) rp0_S1).1.trans (rp1_S1.trans hpre1))) (show (mI S1 82) = fp82 from by first | (exact ((show mI S1 82 = mI S 82 from funext (fun _ => zG_z hL_S1 rfl)).trans hpre2))) (show (mI S1 83) = fp83 from by first | (exact ((show mI S1 83 = mI S 83 from funext (fun _ => zG_z hL_S1 rfl)).trans hpre3)))
                  · skip
                    have g41 := i_ne h38
                    refine ⟨zG_n hI_S1 th_c3, ?_⟩
                    have b42 := i_bd (mI S1 c3 8)
                    refine zd (fun h43 => ?_) (fun h43 => ?_)
                    · skip
                      have g44 := i_eq h43
                      exact K ((0 : Int32)) _ hI_S1 trivial (show xB S1 (mR S1 70) from by first | (exact xB_x (xC_o (W := 75) rp0_S1).2)) (show aS 88 S1 = ab from by first | (exact (xC_o (W := 88) rp0_S1).1.trans (rp1_S1.trans hpre1))) (show (mI S1 82) = fp82 from by first | (exact ((show mI S1 82 = mI S 82 from funext (fun _ => zG_z hL_S1 rfl)).trans hpre2))) (show (mI S1 83) = fp83 from by first | (exact ((show mI S1 83 = mI S 83 from funext (fun _ => zG_z hL_S1 rfl)).trans hpre3)))
                    · skip
                      have g45 := i_ne h43
                      exact K ((1 : Int32)) _ hI_S1 trivial (show xB S1 (mR S1 70) from by first | (exact xB_x (xC_o (W := 75) rp0_S1).2)) (show aS 88 S1 = ab from by first | (exact (xC_o (W := 88) rp0_S1).1.trans (rp1_S1.trans hpre1))) (show (mI S1 82) = fp82 from by first | (exact ((show mI S1 82 = mI S 82 from funext (fun _ => zG_z hL_S1 rfl)).trans hpre2))) (show (mI S1 83) = fp83 from by first | (exact ((show mI S1 83 = mI S 83 from funext (fun _ => zG_z hL_S1 rfl)).trans hpre3)))
    · skip
      have g46 := i_nle h7
      exact KX 2 _ (by decide) hI (show xB S (mR S 70) from by first | (exact xB_x (xC_o (W := 75) hpre0).2)) (show aS 88 S = ab from by first | (exact (xC_o (W := 88) hpre0).1.trans hpre1)) (show (mI S 82) = fp82 from by first | (exact hpre2)) (show (mI S 83) = fp83 from by first | (exact hpre3))

/-! from 95.u38 -/
/-! AGES, the class (written by wip/tools/gen15y.py) -/
theorem g_163_64_sm_p82_0 {X : Nat × (Nat → Int32)} {d w : Nat} {S : ma_S} {Q : Option ma_V ⊕ Nat → ma_S → Prop} (wh : Int32) (hd : 7 ≤ d) (hw : 109 ≤ w) (hS : zT S) (h : if wh < 0 then (Q (.inr 2) (ma_bump S)) else (if wh ≤ (13 : Int32) then (if wh = 0 then (Q (.inl (some (.inl (mI S 64 1)))) S) else (if wh = (1 : Int32) then (Q (.inl (some (.inl (mI S 64 7)))) S) else (mR S 64 11 = some 82 ∧ (mR S 64 11 = some 82 ∧ (if wh = (2 : Int32) then (Q (.inl (some (.inl (mI S 69 7)))) S) else (if wh = (3 : Int32) then (Q (.inl (some (.inl (mI S 69 8)))) S) else (if wh = (4 : Int32) then (Q (.inl (some (.inl (mI S 69 6)))) S) else (if wh = (5 : Int32) then (Q (.inl (some (.inl (mI S 69 9)))) S) else (if wh = (6 : Int32) then (Q (.inl (some (.inl (mI S 69 10)))) S) else (if wh = (7 : Int32) then (Q (.inl (some (.inl (mI S 69 11)))) S) else (if wh = (8 : Int32) then (Q (.inl (some (.inl (mI S 69 12)))) S) else (if wh = (9 : Int32) then (Q (.inl (some (.inl (mI S 69 5)))) S) else (if wh = (10 : Int32) then (ma_wp X (d - 1) (w - 22) 20 0 [(0, .inr (.inr (some 82)))] [] S (zi (fun v2 S1 => zT S1 ∧ (Q (.inl (some (.inl v2))) S1)) (fun _ _ => False))) else (if wh = (11 : Int32) then (ma_wp X (d - 1) (w - 20) 21 0 [(0, .inr (.inr (some 82)))] [] S (zi (fun v4 S3 => zT S3 ∧ (Q (.inl (some (.inl v4))) S3)) (fun _ _ => False))) else (if wh = (12 : Int32) then (Q (.inl (some (.inl (0 : Int32)))) S) else (ma_wp X (d - 1) (w - 20) 22 0 [(0, .inr (.inr (some 82)))] [] S (zi (fun v6 S5 => zT S5 ∧ (Q (.inl (some (.inl v6))) S5)) (fun _ _ => False)))))))))))))))))) else (Q (.inr 2) (ma_bump S)))) : ma_wp X d w 163 0 [(0, .inr (.inr (some 64))), (1, .inl wh)] [] S Q := by
  refine zw_push hm_163 dX11_count_0 (v := .inl wh) rfl ?_
  refine zw_if0 hm_163 dX11_count_1 (t := 10) rfl zc0_lt ?_ ?_
  · intro hc
    rw [if_pos hc] at h
    exact zw_thr hm_163 dX11_count_10 dX11_count_13 dX11_count_14 dX11_count_17 x_11_79_81 n_11_79 (by omega) (by show 0 + 81 ≤ w; omega) h
  · intro hc
    rw [if_neg hc] at h
    refine zw_push hm_163 dX11_count_4 (v := .inl wh) rfl ?_
    refine zw_push hm_163 dX11_count_5 (v := .inl (13 : Int32)) rfl ?_
    refine zw_if2 hm_163 dX11_count_7 (t := 18) rfl zc2_le ?_ ?_
    · intro hc
      rw [if_pos hc] at h
      refine zw_push hm_163 dX11_count_18 (v := .inl wh) rfl ?_
      refine zw_if0 hm_163 dX11_count_19 (t := 27) rfl zc0_ne ?_ ?_
      · intro hc
        rw [if_neg hc] at h
        refine zw_push hm_163 dX11_count_27 (v := .inl wh) rfl ?_
        refine zw_push hm_163 dX11_count_28 (v := .inl (1 : Int32)) rfl ?_
        refine zw_if2 hm_163 dX11_count_29 (t := 37) rfl zc2_ne ?_ ?_
        · intro hc
          rw [if_neg hc] at h
          refine zw_push hm_163 dX11_count_37 (v := .inr (.inr (some 64))) rfl ?_
          refine zw_cv hm_163 dX11_count_38 v_11_119_11 hm_144 [] [] rfl (zT_rt hS s_64 rfl) ⟨by omega, by omega⟩ rfl ?_
          show ma_wp X (d - 1) (w - 20) 144 0 [(0, .inr (.inr (some 64)))] [] S _
          refine zw_push hm_144 dX11_needCollector_0 (v := .inr (.inr (some 64))) rfl ?_
          obtain ⟨hg, h⟩ := h
          refine zw_gf hm_144 dX11_needCollector_1 (v := .inr (.inr (some 82))) (zT_is hS s_64) (zT_t hS s_64) rfl f_11_98_11 (congrArg (fun z => Sum.inr (Sum.inr z)) hg) ?_
          refine zw_ifnonnull hm_144 dX11_needCollector_4 (t := 15) rfl (fun z => by cases z) (fun _ _ => ?_)
          refine zw_push hm_144 dX11_needCollector_15 (v := .inr (.inr (some 64))) rfl ?_
          obtain ⟨hg, h⟩ := h
          refine zw_gf hm_144 dX11_needCollector_16 (v := .inr (.inr (some 82))) (zT_is hS s_64) (zT_t hS s_64) rfl f_11_98_11 (congrArg (fun z => Sum.inr (Sum.inr z)) hg) ?_
          refine zw_aret hm_144 dX11_needCollector_19 ?_
          show ma_wp X d w 163 41 [(0, .inr (.inr (some 64))), (1, .inl wh)] [.inr (.inr (some 82))] S _
          refine zw_sto hm_163 dX11_count_41 [(2, .inr (.inr (some 82))), (0, .inr (.inr (some 64))), (1, .inl wh)] rfl rfl rfl ?_
          refine zw_push hm_163 dX11_count_42 (v := .inl wh) rfl ?_
          by_cases hc0 : wh = (2 : Int32)
          · rw [if_pos hc0] at h
            refine zw_jmp hm_163 dX11_count_43 (t := 100) (st₉ := []) rfl rfl rfl (ma_jmp_tab (by rw [hc0]; decide +kernel)) ?_
            refine zw_push hm_163 dX11_count_100 (v := .inr (.inr (some 64))) rfl ?_
            refine zw_gf hm_163 dX11_count_101 (v := .inr (.inr (some 69))) (zT_is hS s_64) (zT_t hS s_64) rfl f_11_26_11 (zT_f hS r_64_8) ?_
            refine zw_gf hm_163 dX11_count_104 (v := .inl (mI S 69 7)) (zT_is hS s_69) (zT_t hS s_69) rfl f_11_238_7 rfl ?_
            exact zw_iret hm_163 dX11_count_107 h
          rw [if_neg hc0] at h
          by_cases hc1 : wh = (3 : Int32)
          · rw [if_pos hc1] at h
            refine zw_jmp hm_163 dX11_count_43 (t := 108) (st₉ := []) rfl rfl rfl (ma_jmp_tab (by rw [hc1]; decide +kernel)) ?_
            refine zw_push hm_163 dX11_count_108 (v := .inr (.inr (some 64))) rfl ?_
            refine zw_gf hm_163 dX11_count_109 (v := .inr (.inr (some 69))) (zT_is hS s_64) (zT_t hS s_64) rfl f_11_26_11 (zT_f hS r_64_8) ?_
            refine zw_gf hm_163 dX11_count_112 (v := .inl (mI S 69 8)) (zT_is hS s_69) (zT_t hS s_69) rfl f_11_241_7 rfl ?_
            exact zw_iret hm_163 dX11_count_115 h
          rw [if_neg hc1] at h
          by_cases hc2 : wh = (4 : Int32)
          · rw [if_pos hc2] at h
            refine zw_jmp hm_163 dX11_count_43 (t := 116) (st₉ := []) rfl rfl rfl (ma_jmp_tab (by rw [hc2]; decide +kernel)) ?_
            refine zw_push hm_163 dX11_count_116 (v := .inr (.inr (some 64))) rfl ?_
            refine zw_gf hm_163 dX11_count_117 (v := .inr (.inr (some 69))) (zT_is hS s_64) (zT_t hS s_64) rfl f_11_26_11 (zT_f hS r_64_8) ?_
            refine zw_gf hm_163 dX11_count_120 (v := .inl (mI S 69 6)) (zT_is hS s_69) (zT_t hS s_69) rfl f_11_244_7 rfl ?_
            exact zw_iret hm_163 dX11_count_123 h
          rw [if_neg hc2] at h
          by_cases hc3 : wh = (5 : Int32)
          · rw [if_pos hc3] at h
            refine zw_jmp hm_163 dX11_count_43 (t := 124) (st₉ := []) rfl rfl rfl (ma_jmp_tab (by rw [hc3]; decide +kernel)) ?_
            refine zw_push hm_163 dX11_count_124 (v := .inr (.inr (some 64))) rfl ?_
            refine zw_gf hm_163 dX11_count_125 (v := .inr (.inr (some 69))) (zT_is hS s_64) (zT_t hS s_64) rfl f_11_26_11 (zT_f hS r_64_8) ?_
            refine zw_gf hm_163 dX11_count_128 (v := .inl (mI S 69 9)) (zT_is hS s_69) (zT_t hS s_69) rfl f_11_247_7 rfl ?_
            exact zw_iret hm_163 dX11_count_131 h
          rw [if_neg hc3] at h
          by_cases hc4 : wh = (6 : Int32)
          · rw [if_pos hc4] at h
            refine zw_jmp hm_163 dX11_count_43 (t := 132) (st₉ := []) rfl rfl rfl (ma_jmp_tab (by rw [hc4]; decide +kernel)) ?_
            refine zw_push hm_163 dX11_count_132 (v := .inr (.inr (some 64))) rfl ?_
            refine zw_gf hm_163 dX11_count_133 (v := .inr (.inr (some 69))) (zT_is hS s_64) (zT_t hS s_64) rfl f_11_26_11 (zT_f hS r_64_8) ?_
            refine zw_gf hm_163 dX11_count_136 (v := .inl (mI S 69 10)) (zT_is hS s_69) (zT_t hS s_69) rfl f_11_250_7 rfl ?_
            exact zw_iret hm_163 dX11_count_139 h
          rw [if_neg hc4] at h
          by_cases hc5 : wh = (7 : Int32)
          · rw [if_pos hc5] at h
            refine zw_jmp hm_163 dX11_count_43 (t := 140) (st₉ := []) rfl rfl rfl (ma_jmp_tab (by rw [hc5]; decide +kernel)) ?_
            refine zw_push hm_163 dX11_count_140 (v := .inr (.inr (some 64))) rfl ?_
            refine zw_gf hm_163 dX11_count_141 (v := .inr (.inr (some 69))) (zT_is hS s_64) (zT_t hS s_64) rfl f_11_26_11 (zT_f hS r_64_8) ?_
            refine zw_gf hm_163 dX11_count_144 (v := .inl (mI S 69 11)) (zT_is hS s_69) (zT_t hS s_69) rfl f_11_253_7 rfl ?_
            exact zw_iret hm_163 dX11_count_147 h
          rw [if_neg hc5] at h
          by_cases hc6 : wh = (8 : Int32)
          · rw [if_pos hc6] at h
            refine zw_jmp hm_163 dX11_count_43 (t := 148) (st₉ := []) rfl rfl rfl (ma_jmp_tab (by rw [hc6]; decide +kernel)) ?_
            refine zw_push hm_163 dX11_count_148 (v := .inr (.inr (some 64))) rfl ?_
            refine zw_gf hm_163 dX11_count_149 (v := .inr (.inr (some 69))) (zT_is hS s_64) (zT_t hS s_64) rfl f_11_26_11 (zT_f hS r_64_8) ?_
            refine zw_gf hm_163 dX11_count_152 (v := .inl (mI S 69 12)) (zT_is hS s_69) (zT_t hS s_69) rfl f_11_256_7 rfl ?_
            exact zw_iret hm_163 dX11_count_155 h
          rw [if_neg hc6] at h
          by_cases hc7 : wh = (9 : Int32)
          · rw [if_pos hc7] at h
            refine zw_jmp hm_163 dX11_count_43 (t := 156) (st₉ := []) rfl rfl rfl (ma_jmp_tab (by rw [hc7]; decide +kernel)) ?_
            refine zw_push hm_163 dX11_count_156 (v := .inr (.inr (some 64))) rfl ?_
            refine zw_gf hm_163 dX11_count_157 (v := .inr (.inr (some 69))) (zT_is hS s_64) (zT_t hS s_64) rfl f_11_26_11 (zT_f hS r_64_8) ?_
            refine zw_gf hm_163 dX11_count_160 (v := .inl (mI S 69 5)) (zT_is hS s_69) (zT_t hS s_69) rfl f_11_259_7 rfl ?_
            exact zw_iret hm_163 dX11_count_163 h
          rw [if_neg hc7] at h
          by_cases hc8 : wh = (10 : Int32)
          · rw [if_pos hc8] at h
            refine zw_jmp hm_163 dX11_count_43 (t := 164) (st₉ := []) rfl rfl rfl (ma_jmp_tab (by rw [hc8]; decide +kernel)) ?_
            refine zw_push hm_163 dX11_count_164 (v := .inr (.inr (some 82))) rfl ?_
            refine zw_cv hm_163 dX11_count_165 v_11_262_1 hm_20 [] [] rfl (zT_rt hS s_82 rfl) ⟨by omega, by omega⟩ rfl (zw_mono h (zi_go ?_ ?_))
            · intro v2 S1 hv
              obtain ⟨hS1, h⟩ := hv
              exact zw_iret hm_163 dX11_count_168 h
            · intro x S9 hx
              exact hx.elim
          rw [if_neg hc8] at h
          by_cases hc9 : wh = (11 : Int32)
          · rw [if_pos hc9] at h
            refine zw_jmp hm_163 dX11_count_43 (t := 169) (st₉ := []) rfl rfl rfl (ma_jmp_tab (by rw [hc9]; decide +kernel)) ?_
            refine zw_push hm_163 dX11_count_169 (v := .inr (.inr (some 82))) rfl ?_
            refine zw_cv hm_163 dX11_count_170 v_11_265_1 hm_21 [] [] rfl (zT_rt hS s_82 rfl) ⟨by omega, by omega⟩ rfl (zw_mono h (zi_go ?_ ?_))
            · intro v4 S3 hv
              obtain ⟨hS3, h⟩ := hv
              exact zw_iret hm_163 dX11_count_173 h
            · intro x S9 hx
              exact hx.elim
          rw [if_neg hc9] at h
          by_cases hc10 : wh = (12 : Int32)
          · rw [if_pos hc10] at h
            refine zw_jmp hm_163 dX11_count_43 (t := 174) (st₉ := []) rfl rfl rfl (ma_jmp_tab (by rw [hc10]; decide +kernel)) ?_
            refine zw_push hm_163 dX11_count_174 (v := .inr (.inr (some 82))) rfl ?_
            refine zw_cv hm_163 dX11_count_175 v_11_268_1 hm_274 [] [] rfl (zT_rt hS s_82 rfl) ⟨by omega, by omega⟩ rfl ?_
            show ma_wp X (d - 1) (w - 20) 274 0 [(0, .inr (.inr (some 82)))] [] S _
            refine zw_push hm_274 dX1_isMarking_0 (v := .inl (0 : Int32)) rfl ?_
            refine zw_bret hm_274 dX1_isMarking_1 (by decide) ?_
            show ma_wp X d w 163 178 [(2, .inr (.inr (some 82))), (0, .inr (.inr (some 64))), (1, .inl wh)] [.inl (0 : Int32)] S _
            refine zw_if0 hm_163 dX11_count_178 (t := 185) rfl zc0_eq (fun _ => ?_) (fun hc => absurd (by decide) hc)
            refine zw_push hm_163 dX11_count_185 (v := .inl (0 : Int32)) rfl ?_
            exact zw_iret hm_163 dX11_count_186 h
          rw [if_neg hc10] at h
          refine zw_jmp hm_163 dX11_count_43 (t := 187) (st₉ := []) rfl rfl rfl (ma_jmp_def (m := 11) (by decide) (fun j hj => by
              have hj2 : j = 0 ∨ j = 1 ∨ j = 2 ∨ j = 3 ∨ j = 4 ∨ j = 5 ∨ j = 6 ∨ j = 7 ∨ j = 8 ∨ j = 9 ∨ j = 10 := by omega
              rcases hj2 with rfl | rfl | rfl | rfl | rfl | rfl | rfl | rfl | rfl | rfl | rfl
              · exact hc0
              · exact hc1
              · exact hc2
              · exact hc3
              · exact hc4
              · exact hc5
              · exact hc6
              · exact hc7
              · exact hc8
              · exact hc9
              · exact hc10
              ) rfl) ?_
          refine zw_push hm_163 dX11_count_187 (v := .inr (.inr (some 82))) rfl ?_
          refine zw_cv hm_163 dX11_count_188 v_11_272_1 hm_22 [] [] rfl (zT_rt hS s_82 rfl) ⟨by omega, by omega⟩ rfl (zw_mono h (zi_go ?_ ?_))
          · intro v6 S5 hv
            obtain ⟨hS5, h⟩ := hv
            exact zw_iret hm_163 dX11_count_191 h
          · intro x S9 hx
            exact hx.elim
        · intro hc
          rw [if_pos (Classical.not_not.mp hc)] at h
          refine zw_push hm_163 dX11_count_32 (v := .inr (.inr (some 64))) rfl ?_
          refine zw_gf hm_163 dX11_count_33 (v := .inl (mI S 64 7)) (zT_is hS s_64) (zT_t hS s_64) rfl f_11_82_11 rfl ?_
          exact zw_iret hm_163 dX11_count_36 h
      · intro hc
        rw [if_pos (Classical.not_not.mp hc)] at h
        refine zw_push hm_163 dX11_count_22 (v := .inr (.inr (some 64))) rfl ?_
        refine zw_gf hm_163 dX11_count_23 (v := .inl (mI S 64 1)) (zT_is hS s_64) (zT_t hS s_64) rfl f_11_68_11 rfl ?_
        exact zw_iret hm_163 dX11_count_26 h
    · intro hc
      rw [if_neg hc] at h
      exact zw_thr hm_163 dX11_count_10 dX11_count_13 dX11_count_14 dX11_count_17 x_11_79_81 n_11_79 (by omega) (by show 0 + 81 ≤ w; omega) h
theorem sp_163_64_sm_p82 {X : Nat × (Nat → Int32)} {d w : Nat} {f : Nat → Nat → Int32} {r : Nat → Nat → Option Nat} {C Z N : Nat} {Q : Option ma_V ⊕ Nat → ma_S → Prop} {ab : Nat→Nat→Int32} {fp82 : Nat→Int32} {fp83 : Nat→Int32} {S : ma_S} (wh : Int32) (hd : 7 ≤ d) (hw : 109 ≤ w) (hI : zB f r C Z N S) (hr : r 64 11 = some 82) (hpre0 : xB S (mR S 70)) (hpre1 : aS 88 S = ab) (hpre2 : (mI S 82) = fp82) (hpre3 : (mI S 83) = fp83) (K : ∀ v S₉, zB f r C Z N S₉ → (True) → (xB S₉ (mR S₉ 70)) → (aS 88 S₉ = ab) → ((mI S₉ 82) = fp82) → ((mI S₉ 83) = fp83) → Q (.inl (some (.inl v))) S₉) (KX : ∀ x S₉, (x = 2) → zB f r C Z N S₉ → (xB S₉ (mR S₉ 70)) → (aS 88 S₉ = ab) → ((mI S₉ 82) = fp82) → ((mI S₉ 83) = fp83) → Q (.inr x) (ma_bump S₉)) : ma_wp X d w 163 0 [(0, .inr (.inr (some 64))), (1, .inl wh)] [] S Q := by
  refine g_163_64_sm_p82_0 wh (by omega) (by omega) (zG_T hI) ?_
  have b1 := i_bd wh
  have li2 : (0 : Int32).toInt = 0 := rfl
  refine zd (fun h3 => ?_) (fun h3 => ?_)
  · skip
    have g4 := i_lt h3
    exact KX 2 _ (by decide) hI (show xB S (mR S 70) from by first | (exact xB_x (xC_o (W := 75) hpre0).2)) (show aS 88 S = ab from by first | (exact (xC_o (W := 88) hpre0).1.trans hpre1)) (show (mI S 82) = fp82 from by first | (exact hpre2)) (show (mI S 83) = fp83 from by first | (exact hpre3))
  · skip
    have g5 := i_nlt h3
    have li6 : (13 : Int32).toInt = 13 := rfl
    refine zd (fun h7 => ?_) (fun h7 => ?_)
    · skip
      have g8 := i_le h7
      refine zd (fun h9 => ?_) (fun h9 => ?_)
      · skip
        have g10 := i_eq h9
        have f11 := zG_s hI (0) (100) (c := 64) (k := 1) (by decide)
        exact K ((mI S 64 1)) _ hI trivial (show xB S (mR S 70) from by first | (exact xB_x (xC_o (W := 75) hpre0).2)) (show aS 88 S = ab from by first | (exact (xC_o (W := 88) hpre0).1.trans hpre1)) (show (mI S 82) = fp82 from by first | (exact hpre2)) (show (mI S 83) = fp83 from by first | (exact hpre3))
      · skip
        have g12 := i_ne h9
        have li13 : (1 : Int32).toInt = 1 := rfl
        refine zd (fun h14 => ?_) (fun h14 => ?_)
        · skip
          have g15 := i_eq h14
          have f16 := zG_s hI (0) (16) (c := 64) (k := 7) (by decide)
          exact K ((mI S 64 7)) _ hI trivial (show xB S (mR S 70) from by first | (exact xB_x (xC_o (W := 75) hpre0).2)) (show aS 88 S = ab from by first | (exact (xC_o (W := 88) hpre0).1.trans hpre1)) (show (mI S 82) = fp82 from by first | (exact hpre2)) (show (mI S 83) = fp83 from by first | (exact hpre3))
        · skip
          have g17 := i_ne h14
          refine ⟨((zG_r hI (by decide)).trans hr), ?_⟩
          refine ⟨((zG_r hI (by decide)).trans hr), ?_⟩
          have li18 : (2 : Int32).toInt = 2 := rfl
          refine zd (fun h19 => ?_) (fun h19 => ?_)
          · skip
            have g20 := i_eq h19
            have b21 := i_bd (mI S 69 7)
            exact K ((mI S 69 7)) _ hI trivial (show xB S (mR S 70) from by first | (exact xB_x (xC_o (W := 75) hpre0).2)) (show aS 88 S = ab from by first | (exact (xC_o (W := 88) hpre0).1.trans hpre1)) (show (mI S 82) = fp82 from by first | (exact hpre2)) (show (mI S 83) = fp83 from by first | (exact hpre3))
          · skip
            have g22 := i_ne h19
            have li23 : (3 : Int32).toInt = 3 := rfl
            refine zd (fun h24 => ?_) (fun h24 => ?_)
            · skip
              have g25 := i_eq h24
              have b26 := i_bd (mI S 69 8)
              exact K ((mI S 69 8)) _ hI trivial (show xB S (mR S 70) from by first | (exact xB_x (xC_o (W := 75) hpre0).2)) (show aS 88 S = ab from by first | (exact (xC_o (W := 88) hpre0).1.trans hpre1)) (show (mI S 82) = fp82 from by first | (exact hpre2)) (show (mI S 83) = fp83 from by first | (exact hpre3))
            · skip
              have g27 := i_ne h24
              have li28 : (4 : Int32).toInt = 4 := rfl
              refine zd (fun h29 => ?_) (fun h29 => ?_)
              · skip
                have g30 := i_eq h29
                have f31 := zG_s hI (0) (512) (c := 69) (k := 6) (by decide)
                exact K ((mI S 69 6)) _ hI trivial (show xB S (mR S 70) from by first | (exact xB_x (xC_o (W := 75) hpre0).2)) (show aS 88 S = ab from by first | (exact (xC_o (W := 88) hpre0).1.trans hpre1)) (show (mI S 82) = fp82 from by first | (exact hpre2)) (show (mI S 83) = fp83 from by first | (exact hpre3))
              · skip
                have g32 := i_ne h29
                have li33 : (5 : Int32).toInt = 5 := rfl
                refine zd (fun h34 => ?_) (fun h34 => ?_)
                · skip
                  have g35 := i_eq h34
                  have b36 := i_bd (mI S 69 9)
                  exact K ((mI S 69 9)) _ hI trivial (show xB S (mR S 70) from by first | (exact xB_x (xC_o (W := 75) hpre0).2)) (show aS 88 S = ab from by first | (exact (xC_o (W := 88) hpre0).1.trans hpre1)) (show (mI S 82) = fp82 from by first | (exact hpre2)) (show (mI S 83) = fp83 from by first | (exact hpre3))
                · skip
                  have g37 := i_ne h34
                  have li38 : (6 : Int32).toInt = 6 := rfl
                  refine zd (fun h39 => ?_) (fun h39 => ?_)
                  · skip
                    have g40 := i_eq h39
                    have b41 := i_bd (mI S 69 10)
                    exact K ((mI S 69 10)) _ hI trivial (show xB S (mR S 70) from by first | (exact xB_x (xC_o (W := 75) hpre0).2)) (show aS 88 S = ab from by first | (exact (xC_o (W := 88) hpre0).1.trans hpre1)) (show (mI S 82) = fp82 from by first | (exact hpre2)) (show (mI S 83) = fp83 from by first | (exact hpre3))
                  · skip
                    have g42 := i_ne h39
                    have li43 : (7 : Int32).toInt = 7 := rfl
                    refine zd (fun h44 => ?_) (fun h44 => ?_)
                    · skip
                      have g45 := i_eq h44
                      have b46 := i_bd (mI S 69 11)
                      exact K ((mI S 69 11)) _ hI trivial (show xB S (mR S 70) from by first | (exact xB_x (xC_o (W := 75) hpre0).2)) (show aS 88 S = ab from by first | (exact (xC_o (W := 88) hpre0).1.trans hpre1)) (show (mI S 82) = fp82 from by first | (exact hpre2)) (show (mI S 83) = fp83 from by first | (exact hpre3))
                    · skip
                      have g47 := i_ne h44
                      have li48 : (8 : Int32).toInt = 8 := rfl
                      refine zd (fun h49 => ?_) (fun h49 => ?_)
                      · skip
                        have g50 := i_eq h49
                        have b51 := i_bd (mI S 69 12)
                        exact K ((mI S 69 12)) _ hI trivial (show xB S (mR S 70) from by first | (exact xB_x (xC_o (W := 75) hpre0).2)) (show aS 88 S = ab from by first | (exact (xC_o (W := 88) hpre0).1.trans hpre1)) (show (mI S 82) = fp82 from by first | (exact hpre2)) (show (mI S 83) = fp83 from by first | (exact hpre3))
                      · skip
                        have g52 := i_ne h49
                        have li53 : (9 : Int32).toInt = 9 := rfl
                        refine zd (fun h54 => ?_) (fun h54 => ?_)
                        · skip
                          have g55 := i_eq h54
                          have f56 := zG_s hI (0) (512) (c := 69) (k := 5) (by decide)
                          exact K ((mI S 69 5)) _ hI trivial (show xB S (mR S 70) from by first | (exact xB_x (xC_o (W := 75) hpre0).2)) (show aS 88 S = ab from by first | (exact (xC_o (W := 88) hpre0).1.trans hpre1)) (show (mI S 82) = fp82 from by first | (exact hpre2)) (show (mI S 83) = fp83 from by first | (exact hpre3))
                        · skip
                          have g57 := i_ne h54
                          have li58 : (10 : Int32).toInt = 10 := rfl
                          refine zd (fun h59 => ?_) (fun h59 => ?_)
                          · skip
                            have g60 := i_eq h59
                            refine sp_20_82_s  (by omega) (by omega) (zB_dn_zJ82 hI)  (fun v2 S1 eS_S1 hp_v2 => zi_n ⟨(by rw [eS_S1]; exact zG_T hI), ?_⟩)
                            replace eS_S1 := eS_S1.symm; subst eS_S1
                            have b61 := i_bd v2
                            exact K (v2) _ hI trivial (show xB S (mR S 70) from by first | (exact xB_x (xC_o (W := 75) hpre0).2)) (show aS 88 S = ab from by first | (exact (xC_o (W := 88) hpre0).1.trans hpre1)) (show (mI S 82) = fp82 from by first | (exact hpre2)) (show (mI S 83) = fp83 from by first | (exact hpre3))
                          · skip
                            have g62 := i_ne h59
                            have li63 : (11 : Int32).toInt = 11 := rfl
                            refine zd (fun h64 => ?_) (fun h64 => ?_)
                            · skip
                              have g65 := i_eq h64
                              refine sp_21_82_s  (by omega) (by omega) (zB_dn_zJ82 hI)  (fun v4 S3 eS_S3 hp_v4 => zi_n ⟨(by rw [eS_S3]; exact zG_T hI), ?_⟩)
                              replace eS_S3 := eS_S3.symm; subst eS_S3
                              have b66 := i_bd v4
                              exact K (v4) _ hI trivial (show xB S (mR S 70) from by first | (exact xB_x (xC_o (W := 75) hpre0).2)) (show aS 88 S = ab from by first | (exact (xC_o (W := 88) hpre0).1.trans hpre1)) (show (mI S 82) = fp82 from by first | (exact hpre2)) (show (mI S 83) = fp83 from by first | (exact hpre3))
                            · skip
                              have g67 := i_ne h64
                              have li68 : (12 : Int32).toInt = 12 := rfl
                              refine zd (fun h69 => ?_) (fun h69 => ?_)
                              · skip
                                have g70 := i_eq h69
                                exact K ((0 : Int32)) _ hI trivial (show xB S (mR S 70) from by first | (exact xB_x (xC_o (W := 75) hpre0).2)) (show aS 88 S = ab from by first | (exact (xC_o (W := 88) hpre0).1.trans hpre1)) (show (mI S 82) = fp82 from by first | (exact hpre2)) (show (mI S 83) = fp83 from by first | (exact hpre3))
                              · skip
                                have g71 := i_ne h69
                                refine sp_22_82_s  (by omega) (by omega) (zB_dn_zJ82 hI)  (fun v6 S5 eS_S5 hp_v6 => zi_n ⟨(by rw [eS_S5]; exact zG_T hI), ?_⟩)
                                replace eS_S5 := eS_S5.symm; subst eS_S5
                                have b72 := i_bd v6
                                exact K (v6) _ hI trivial (show xB S (mR S 70) from by first | (exact xB_x (xC_o (W := 75) hpre0).2)) (show aS 88 S = ab from by first | (exact (xC_o (W := 88) hpre0).1.trans hpre1)) (show (mI S 82) = fp82 from by first | (exact hpre2)) (show (mI S 83) = fp83 from by first | (exact hpre3))
    · skip
      have g73 := i_nle h7
      exact KX 2 _ (by decide) hI (show xB S (mR S 70) from by first | (exact xB_x (xC_o (W := 75) hpre0).2)) (show aS 88 S = ab from by first | (exact (xC_o (W := 88) hpre0).1.trans hpre1)) (show (mI S 82) = fp82 from by first | (exact hpre2)) (show (mI S 83) = fp83 from by first | (exact hpre3))

/-! from 95.u39 -/
/-! AGES, the class (written by wip/tools/gen15y.py) -/
theorem g_8_82_sm_0 {X : Nat × (Nat → Int32)} {d w : Nat} {S : ma_S} {Q : Option ma_V ⊕ Nat → ma_S → Prop} (t : Nat) (i : Int32) (x : Option Nat) (hd : 1 ≤ d) (hw : 22 ≤ w) (hS : zT S) (h : if (mI S 82 5) ≤ 0 then ((x = none → Q (.inl none) S) ∧ (∀ c1, x = some c1 → (126 ≤ t ∧ t < mN S) ∧ (if (mI S t 4) < (mI S 82 3) then ((126 ≤ c1 ∧ c1 < mN S) ∧ (if (mI S c1 4) < (mI S 82 3) then (Q (.inl none) S) else (Q (.inl none) S))) else (Q (.inl none) S)))) else ((126 ≤ t ∧ t < mN S) ∧ ((mI S 82 5) ≠ 0 ∧ ((x = none → Q (.inl none) S) ∧ (∀ c2, x = some c2 → (126 ≤ t ∧ t < mN S) ∧ (if (mI S t 4) < (mI S 82 3) then ((126 ≤ c2 ∧ c2 < mN S) ∧ (if (mI S c2 4) < (mI S 82 3) then (Q (.inl none) S) else (if ((((mI S t 4) + (1 : Int32)) + i) / (mI S 82 5)) < 0 then (Q (.inl none) S) else (if (375 : Int32) ≤ ((((mI S t 4) + (1 : Int32)) + i) / (mI S 82 5)) then (Q (.inl none) S) else ((0 ≤ ((((mI S t 4) + (1 : Int32)) + i) / (mI S 82 5)) ∧ ((((mI S t 4) + (1 : Int32)) + i) / (mI S 82 5)).toNatClampNeg < 375) ∧ (Q (.inl none) (ma_put S 83 ((((mI S t 4) + (1 : Int32)) + i) / (mI S 82 5)).toNatClampNeg (.inl (1 : Int32))))))))) else (Q (.inl none) S))))))) : ma_wp X d w 8 0 [(0, .inr (.inr (some 82))), (1, .inr (.inr (some t))), (2, .inl i), (3, .inr (.inr x))] [] S Q := by
  refine zw_push hm_8 dX0_noteReference_0 (v := .inr (.inr (some 82))) rfl ?_
  refine zw_push hm_8 dX0_noteReference_1 (v := .inr (.inr (some t))) rfl ?_
  refine zw_push hm_8 dX0_noteReference_2 (v := .inl i) rfl ?_
  refine zw_cv hm_8 dX0_noteReference_3 v_1_136_1 hm_9 [.inl i, .inr (.inr (some t))] [] rfl (zT_rt hS s_82 rfl) ⟨by omega, by omega⟩ rfl ?_
  show ma_wp X (d - 1) (w - 22) 9 0 [(0, .inr (.inr (some 82))), (1, .inr (.inr (some t))), (2, .inl i)] [] S _
  refine zw_push hm_9 dX0_cardOf_0 (v := .inr (.inr (some 82))) rfl ?_
  refine zw_gf hm_9 dX0_cardOf_1 (v := .inl (mI S 82 5)) (zT_is hS s_82) (zT_t hS s_82) rfl f_1_25_1 rfl ?_
  refine zw_if0 hm_9 dX0_cardOf_4 (t := 23) rfl zc0_le ?_ ?_
  · intro hc
    rw [if_pos hc] at h
    refine zw_push hm_9 dX0_cardOf_23 (v := .inl (-1 : Int32)) rfl ?_
    refine zw_iret hm_9 dX0_cardOf_24 ?_
    show ma_wp X d w 8 6 [(0, .inr (.inr (some 82))), (1, .inr (.inr (some t))), (2, .inl i), (3, .inr (.inr x))] [.inl (-1 : Int32)] S _
    refine zw_sto hm_8 dX0_noteReference_6 [(4, .inl (-1 : Int32)), (0, .inr (.inr (some 82))), (1, .inr (.inr (some t))), (2, .inl i), (3, .inr (.inr x))] rfl rfl rfl ?_
    refine zw_push hm_8 dX0_noteReference_8 (v := .inr (.inr x)) rfl ?_
    refine zw_ifnull hm_8 dX0_noteReference_9 (t := 49) rfl ?_ ?_
    · intro hc
      have h := h.1 hc
      (try rw [hc])
      show ma_wp X d w 8 49 [(4, .inl (-1 : Int32)), (0, .inr (.inr (some 82))), (1, .inr (.inr (some t))), (2, .inl i), (3, .inr (.inr none))] [] S _
      exact zw_vret hm_8 dX0_noteReference_49 h
    · intro c1 hc
      have h := h.2 c1 hc
      (try rw [hc])
      show ma_wp X d w 8 12 [(4, .inl (-1 : Int32)), (0, .inr (.inr (some 82))), (1, .inr (.inr (some t))), (2, .inl i), (3, .inr (.inr (some c1)))] [] S _
      refine zw_push hm_8 dX0_noteReference_12 (v := .inr (.inr (some 82))) rfl ?_
      refine zw_push hm_8 dX0_noteReference_13 (v := .inr (.inr (some t))) rfl ?_
      refine zw_cv hm_8 dX0_noteReference_14 v_1_58_1 hm_7 [.inr (.inr (some t))] [] rfl (zT_rt hS s_82 rfl) ⟨by omega, by omega⟩ rfl ?_
      show ma_wp X (d - 1) (w - 21) 7 0 [(0, .inr (.inr (some 82))), (1, .inr (.inr (some t)))] [] S _
      refine zw_push hm_7 dX0_isYoung_0 (v := .inr (.inr (some t))) rfl ?_
      obtain ⟨hg, h⟩ := h
      refine zw_gf hm_7 dX0_isYoung_1 (v := .inl (mI S t 4)) (zT_tis hS hg) (zT_tt hS hg) rfl f_1_62_9 rfl ?_
      refine zw_push hm_7 dX0_isYoung_4 (v := .inr (.inr (some 82))) rfl ?_
      refine zw_gf hm_7 dX0_isYoung_5 (v := .inl (mI S 82 3)) (zT_is hS s_82) (zT_t hS s_82) rfl f_1_19_1 rfl ?_
      refine zw_if2 hm_7 dX0_isYoung_8 (t := 15) rfl zc2_lt ?_ ?_
      · intro hc
        rw [if_pos hc] at h
        refine zw_push hm_7 dX0_isYoung_15 (v := .inl (0 : Int32)) rfl ?_
        refine zw_bret hm_7 dX0_isYoung_16 (by decide) ?_
        show ma_wp X d w 8 17 [(4, .inl (-1 : Int32)), (0, .inr (.inr (some 82))), (1, .inr (.inr (some t))), (2, .inl i), (3, .inr (.inr (some c1)))] [.inl (0 : Int32)] S _
        refine zw_if0 hm_8 dX0_noteReference_17 (t := 49) rfl zc0_ne (fun hc => absurd hc (by decide)) (fun _ => ?_)
        refine zw_push hm_8 dX0_noteReference_20 (v := .inr (.inr (some 82))) rfl ?_
        refine zw_push hm_8 dX0_noteReference_21 (v := .inr (.inr (some c1))) rfl ?_
        refine zw_cv hm_8 dX0_noteReference_22 v_1_58_1 hm_7 [.inr (.inr (some c1))] [] rfl (zT_rt hS s_82 rfl) ⟨by omega, by omega⟩ rfl ?_
        show ma_wp X (d - 1) (w - 21) 7 0 [(0, .inr (.inr (some 82))), (1, .inr (.inr (some c1)))] [] S _
        refine zw_push hm_7 dX0_isYoung_0 (v := .inr (.inr (some c1))) rfl ?_
        obtain ⟨hg, h⟩ := h
        refine zw_gf hm_7 dX0_isYoung_1 (v := .inl (mI S c1 4)) (zT_tis hS hg) (zT_tt hS hg) rfl f_1_62_9 rfl ?_
        refine zw_push hm_7 dX0_isYoung_4 (v := .inr (.inr (some 82))) rfl ?_
        refine zw_gf hm_7 dX0_isYoung_5 (v := .inl (mI S 82 3)) (zT_is hS s_82) (zT_t hS s_82) rfl f_1_19_1 rfl ?_
        refine zw_if2 hm_7 dX0_isYoung_8 (t := 15) rfl zc2_lt ?_ ?_
        · intro hc
          rw [if_pos hc] at h
          refine zw_push hm_7 dX0_isYoung_15 (v := .inl (0 : Int32)) rfl ?_
          refine zw_bret hm_7 dX0_isYoung_16 (by decide) ?_
          show ma_wp X d w 8 25 [(4, .inl (-1 : Int32)), (0, .inr (.inr (some 82))), (1, .inr (.inr (some t))), (2, .inl i), (3, .inr (.inr (some c1)))] [.inl (0 : Int32)] S _
          refine zw_if0 hm_8 dX0_noteReference_25 (t := 49) rfl zc0_eq (fun _ => ?_) (fun hc => absurd (by decide) hc)
          exact zw_vret hm_8 dX0_noteReference_49 h
        · intro hc
          rw [if_neg hc] at h
          refine zw_push hm_7 dX0_isYoung_11 (v := .inl (1 : Int32)) rfl ?_
          refine zw_goto hm_7 dX0_isYoung_12 (t := 16) rfl ?_
          refine zw_bret hm_7 dX0_isYoung_16 (by decide) ?_
          show ma_wp X d w 8 25 [(4, .inl (-1 : Int32)), (0, .inr (.inr (some 82))), (1, .inr (.inr (some t))), (2, .inl i), (3, .inr (.inr (some c1)))] [.inl (1 : Int32)] S _
          refine zw_if0 hm_8 dX0_noteReference_25 (t := 49) rfl zc0_eq (fun hc => absurd hc (by decide)) (fun _ => ?_)
          refine zw_push hm_8 dX0_noteReference_28 (v := .inl (-1 : Int32)) rfl ?_
          refine zw_if0 hm_8 dX0_noteReference_30 (t := 49) rfl zc0_lt (fun _ => ?_) (fun hc => absurd (by decide) hc)
          exact zw_vret hm_8 dX0_noteReference_49 h
      · intro hc
        rw [if_neg hc] at h
        refine zw_push hm_7 dX0_isYoung_11 (v := .inl (1 : Int32)) rfl ?_
        refine zw_goto hm_7 dX0_isYoung_12 (t := 16) rfl ?_
        refine zw_bret hm_7 dX0_isYoung_16 (by decide) ?_
        show ma_wp X d w 8 17 [(4, .inl (-1 : Int32)), (0, .inr (.inr (some 82))), (1, .inr (.inr (some t))), (2, .inl i), (3, .inr (.inr (some c1)))] [.inl (1 : Int32)] S _
        refine zw_if0 hm_8 dX0_noteReference_17 (t := 49) rfl zc0_ne (fun _ => ?_) (fun hc => absurd (by decide) hc)
        exact zw_vret hm_8 dX0_noteReference_49 h
  · intro hc
    rw [if_neg hc] at h
    refine zw_push hm_9 dX0_cardOf_7 (v := .inr (.inr (some t))) rfl ?_
    obtain ⟨hg, h⟩ := h
    refine zw_gf hm_9 dX0_cardOf_8 (v := .inl (mI S t 4)) (zT_tis hS hg) (zT_tt hS hg) rfl f_1_62_9 rfl ?_
    refine zw_push hm_9 dX0_cardOf_11 (v := .inl (1 : Int32)) rfl ?_
    refine zw_stk hm_9 dX0_cardOf_12 (st₉ := [.inl ((mI S t 4) + (1 : Int32))]) rfl rfl ?_
    refine zw_push hm_9 dX0_cardOf_13 (v := .inl i) rfl ?_
    refine zw_stk hm_9 dX0_cardOf_14 (st₉ := [.inl (((mI S t 4) + (1 : Int32)) + i)]) rfl rfl ?_
    refine zw_push hm_9 dX0_cardOf_15 (v := .inr (.inr (some 82))) rfl ?_
    refine zw_gf hm_9 dX0_cardOf_16 (v := .inl (mI S 82 5)) (zT_is hS s_82) (zT_t hS s_82) rfl f_1_25_1 rfl ?_
    obtain ⟨hg, h⟩ := h
    refine zw_stk hm_9 dX0_cardOf_19 (st₉ := [.inl ((((mI S t 4) + (1 : Int32)) + i) / (mI S 82 5))]) rfl (if_neg hg) ?_
    refine zw_goto hm_9 dX0_cardOf_20 (t := 24) rfl ?_
    refine zw_iret hm_9 dX0_cardOf_24 ?_
    show ma_wp X d w 8 6 [(0, .inr (.inr (some 82))), (1, .inr (.inr (some t))), (2, .inl i), (3, .inr (.inr x))] [.inl ((((mI S t 4) + (1 : Int32)) + i) / (mI S 82 5))] S _
    refine zw_sto hm_8 dX0_noteReference_6 [(4, .inl ((((mI S t 4) + (1 : Int32)) + i) / (mI S 82 5))), (0, .inr (.inr (some 82))), (1, .inr (.inr (some t))), (2, .inl i), (3, .inr (.inr x))] rfl rfl rfl ?_
    refine zw_push hm_8 dX0_noteReference_8 (v := .inr (.inr x)) rfl ?_
    refine zw_ifnull hm_8 dX0_noteReference_9 (t := 49) rfl ?_ ?_
    · intro hc
      have h := h.1 hc
      (try rw [hc])
      show ma_wp X d w 8 49 [(4, .inl ((((mI S t 4) + (1 : Int32)) + i) / (mI S 82 5))), (0, .inr (.inr (some 82))), (1, .inr (.inr (some t))), (2, .inl i), (3, .inr (.inr none))] [] S _
      exact zw_vret hm_8 dX0_noteReference_49 h
    · intro c2 hc
      have h := h.2 c2 hc
      (try rw [hc])
      show ma_wp X d w 8 12 [(4, .inl ((((mI S t 4) + (1 : Int32)) + i) / (mI S 82 5))), (0, .inr (.inr (some 82))), (1, .inr (.inr (some t))), (2, .inl i), (3, .inr (.inr (some c2)))] [] S _
      refine zw_push hm_8 dX0_noteReference_12 (v := .inr (.inr (some 82))) rfl ?_
      refine zw_push hm_8 dX0_noteReference_13 (v := .inr (.inr (some t))) rfl ?_
      refine zw_cv hm_8 dX0_noteReference_14 v_1_58_1 hm_7 [.inr (.inr (some t))] [] rfl (zT_rt hS s_82 rfl) ⟨by omega, by omega⟩ rfl ?_
      show ma_wp X (d - 1) (w - 21) 7 0 [(0, .inr (.inr (some 82))), (1, .inr (.inr (some t)))] [] S _
      refine zw_push hm_7 dX0_isYoung_0 (v := .inr (.inr (some t))) rfl ?_
      obtain ⟨hg, h⟩ := h
      refine zw_gf hm_7 dX0_isYoung_1 (v := .inl (mI S t 4)) (zT_tis hS hg) (zT_tt hS hg) rfl f_1_62_9 rfl ?_
      refine zw_push hm_7 dX0_isYoung_4 (v := .inr (.inr (some 82))) rfl ?_
      refine zw_gf hm_7 dX0_isYoung_5 (v := .inl (mI S 82 3)) (zT_is hS s_82) (zT_t hS s_82) rfl f_1_19_1 rfl ?_
      refine zw_if2 hm_7 dX0_isYoung_8 (t := 15) rfl zc2_lt ?_ ?_
      · intro hc
        rw [if_pos hc] at h
        refine zw_push hm_7 dX0_isYoung_15 (v := .inl (0 : Int32)) rfl ?_
        refine zw_bret hm_7 dX0_isYoung_16 (by decide) ?_
        show ma_wp X d w 8 17 [(4, .inl ((((mI S t 4) + (1 : Int32)) + i) / (mI S 82 5))), (0, .inr (.inr (some 82))), (1, .inr (.inr (some t))), (2, .inl i), (3, .inr (.inr (some c2)))] [.inl (0 : Int32)] S _
        refine zw_if0 hm_8 dX0_noteReference_17 (t := 49) rfl zc0_ne (fun hc => absurd hc (by decide)) (fun _ => ?_)
        refine zw_push hm_8 dX0_noteReference_20 (v := .inr (.inr (some 82))) rfl ?_
        refine zw_push hm_8 dX0_noteReference_21 (v := .inr (.inr (some c2))) rfl ?_
        refine zw_cv hm_8 dX0_noteReference_22 v_1_58_1 hm_7 [.inr (.inr (some c2))] [] rfl (zT_rt hS s_82 rfl) ⟨by omega, by omega⟩ rfl ?_
        show ma_wp X (d - 1) (w - 21) 7 0 [(0, .inr (.inr (some 82))), (1, .inr (.inr (some c2)))] [] S _
        refine zw_push hm_7 dX0_isYoung_0 (v := .inr (.inr (some c2))) rfl ?_
        obtain ⟨hg, h⟩ := h
        refine zw_gf hm_7 dX0_isYoung_1 (v := .inl (mI S c2 4)) (zT_tis hS hg) (zT_tt hS hg) rfl f_1_62_9 rfl ?_
        refine zw_push hm_7 dX0_isYoung_4 (v := .inr (.inr (some 82))) rfl ?_
        refine zw_gf hm_7 dX0_isYoung_5 (v := .inl (mI S 82 3)) (zT_is hS s_82) (zT_t hS s_82) rfl f_1_19_1 rfl ?_
        refine zw_if2 hm_7 dX0_isYoung_8 (t := 15) rfl zc2_lt ?_ ?_
        · intro hc
          rw [if_pos hc] at h
          refine zw_push hm_7 dX0_isYoung_15 (v := .inl (0 : Int32)) rfl ?_
          refine zw_bret hm_7 dX0_isYoung_16 (by decide) ?_
          show ma_wp X d w 8 25 [(4, .inl ((((mI S t 4) + (1 : Int32)) + i) / (mI S 82 5))), (0, .inr (.inr (some 82))), (1, .inr (.inr (some t))), (2, .inl i), (3, .inr (.inr (some c2)))] [.inl (0 : Int32)] S _
          refine zw_if0 hm_8 dX0_noteReference_25 (t := 49) rfl zc0_eq (fun _ => ?_) (fun hc => absurd (by decide) hc)
          exact zw_vret hm_8 dX0_noteReference_49 h
        · intro hc
          rw [if_neg hc] at h
          refine zw_push hm_7 dX0_isYoung_11 (v := .inl (1 : Int32)) rfl ?_
          refine zw_goto hm_7 dX0_isYoung_12 (t := 16) rfl ?_
          refine zw_bret hm_7 dX0_isYoung_16 (by decide) ?_
          show ma_wp X d w 8 25 [(4, .inl ((((mI S t 4) + (1 : Int32)) + i) / (mI S 82 5))), (0, .inr (.inr (some 82))), (1, .inr (.inr (some t))), (2, .inl i), (3, .inr (.inr (some c2)))] [.inl (1 : Int32)] S _
          refine zw_if0 hm_8 dX0_noteReference_25 (t := 49) rfl zc0_eq (fun hc => absurd hc (by decide)) (fun _ => ?_)
          refine zw_push hm_8 dX0_noteReference_28 (v := .inl ((((mI S t 4) + (1 : Int32)) + i) / (mI S 82 5))) rfl ?_
          refine zw_if0 hm_8 dX0_noteReference_30 (t := 49) rfl zc0_lt ?_ ?_
          · intro hc
            rw [if_pos hc] at h
            exact zw_vret hm_8 dX0_noteReference_49 h
          · intro hc
            rw [if_neg hc] at h
            refine zw_push hm_8 dX0_noteReference_33 (v := .inl ((((mI S t 4) + (1 : Int32)) + i) / (mI S 82 5))) rfl ?_
            refine zw_push hm_8 dX0_noteReference_35 (v := .inl (375 : Int32)) rfl ?_
            refine zw_if2 hm_8 dX0_noteReference_38 (t := 49) rfl zc2_ge ?_ ?_
            · intro hc
              rw [if_pos hc] at h
              exact zw_vret hm_8 dX0_noteReference_49 h
            · intro hc
              rw [if_neg hc] at h
              refine zw_push hm_8 dX0_noteReference_41 (v := .inr (.inr (some 82))) rfl ?_
              refine zw_gf hm_8 dX0_noteReference_42 (v := .inr (.inr (some 83))) (zT_is hS s_82) (zT_t hS s_82) rfl f_1_9_1 (zT_f hS r_82_9) ?_
              refine zw_push hm_8 dX0_noteReference_45 (v := .inl ((((mI S t 4) + (1 : Int32)) + i) / (mI S 82 5))) rfl ?_
              refine zw_push hm_8 dX0_noteReference_47 (v := .inl (1 : Int32)) rfl ?_
              obtain ⟨hg, h⟩ := h
              refine zw_ias hm_8 dX0_noteReference_48 (zT_is hS s_83) (zT_h hS s_83) rfl hg ?_
              exact zw_vret hm_8 dX0_noteReference_49 h
      · intro hc
        rw [if_neg hc] at h
        refine zw_push hm_7 dX0_isYoung_11 (v := .inl (1 : Int32)) rfl ?_
        refine zw_goto hm_7 dX0_isYoung_12 (t := 16) rfl ?_
        refine zw_bret hm_7 dX0_isYoung_16 (by decide) ?_
        show ma_wp X d w 8 17 [(4, .inl ((((mI S t 4) + (1 : Int32)) + i) / (mI S 82 5))), (0, .inr (.inr (some 82))), (1, .inr (.inr (some t))), (2, .inl i), (3, .inr (.inr (some c2)))] [.inl (1 : Int32)] S _
        refine zw_if0 hm_8 dX0_noteReference_17 (t := 49) rfl zc0_ne (fun _ => ?_) (fun hc => absurd (by decide) hc)
        exact zw_vret hm_8 dX0_noteReference_49 h
theorem sp_8_82_sm {X : Nat × (Nat → Int32)} {d w : Nat} {f : Nat → Nat → Int32} {r : Nat → Nat → Option Nat} {C Z N : Nat} {Q : Option ma_V ⊕ Nat → ma_S → Prop} {ab : Nat→Nat→Int32} {R : zRT} {yt : Int32} {y : Int32} {ag : Nat→Nat→Int32} {fp82 : Nat→Int32} {S : ma_S} (t : Nat) (i : Int32) (x : Option Nat) (hd : 1 ≤ d) (hw : 22 ≤ w) (hI : zJ82 f r C Z N S) (th_t : 126 ≤ t ∧ t < N) (hq_x : ∀ c, x = some c → 126 ≤ c ∧ c < N) (hpre0 : xB S R) (hpre1 : aS 88 S = ab) (hpre2 : aG S = ag) (hpre3 : (mI S 82) = fp82) (hpre4 : zTa R yt = some t) (hpre5 : x = zTa R y) (hpre6 : 0 ≤ i.toInt) (hpre7 : i.toInt ≤ 61) (K : ∀ S₉, zJ82 f r C Z N S₉ → (xB S₉ R) → (aS 88 S₉ = ab) → (aG S₉ = (gNr ag yt.toNatClampNeg i.toInt y)) → ((mI S₉ 82) = fp82) → Q (.inl none) S₉) : ma_wp X d w 8 0 [(0, .inr (.inr (some 82))), (1, .inr (.inr (some t))), (2, .inl i), (3, .inr (.inr x))] [] S Q := by
  refine g_8_82_sm_0 t i x (by omega) (by omega) (zG_T hI) ?_
  have b1 := i_bd (mI S 82 5)
  have li2 : (0 : Int32).toInt = 0 := rfl
  refine zd (fun h3 => ?_) (fun h3 => ?_)
  · skip
    have g4 := i_le h3
    refine ⟨fun hc => ?_, fun c1 hc => ?_⟩
    · skip
      have rn_c1 : zTa R y = none := hpre5.symm.trans hc
      exact K _ hI (show xB S R from by first | (exact (xC_o (W := 75) hpre0).2)) (show aS 88 S = ab from by first | (exact (xC_o (W := 88) hpre0).1.trans hpre1)) (show aG S = (gNr ag yt.toNatClampNeg i.toInt y) from by first | (have tt := xB_th (W := 75) hpre0 hpre4; have e9 : (ag 87 9).toInt = (mI S 82 3).toInt := (by rw [← hpre2]; rfl); have e12 : (ag 87 12).toInt = (mI S 82 5).toInt := (by rw [← hpre2]; rfl); have et : (ag 130 yt.toNatClampNeg).toInt = (mI S t 4).toInt := (by rw [← hpre2, aG_o (by decide) (by decide), ← tt.2.2.2.2.2.1]); unfold gNr; rw [if_neg (fun z => ?_)]; (exact hpre2); (exact xB_nt (W := 75) hpre0 rn_c1 ⟨z.1.1, z.1.2.1, by rw [← aG_o (by decide) (by decide), hpre2]; exact z.1.2.2.1⟩)) | (exfalso; omega)) (show (mI S 82) = fp82 from by first | (exact hpre3))
    · skip
      have th_c1 := hq_x c1 hc
      have rg_c1 : zTa R y = some c1 := hpre5.symm.trans hc
      subst hc
      refine ⟨zG_n hI th_t, ?_⟩
      have f5 := zG_th hI th_t
      have x6 : (mI S 82 3).toInt ≤ (mI S 82 7).toInt ∧ (mI S 82 7).toInt ≤ (mI S 82 3).toInt + (mI S 82 2).toInt := zG_x hI
      have f7 := zG_s hI (0) (1500) (c := 82) (k := 3) (by decide)
      refine zd (fun h8 => ?_) (fun h8 => ?_)
      · skip
        have g9 := i_lt h8
        refine ⟨zG_n hI th_c1, ?_⟩
        have f10 := zG_th hI th_c1
        refine zd (fun h11 => ?_) (fun h11 => ?_)
        · skip
          have g12 := i_lt h11
          exact K _ hI (show xB S R from by first | (exact (xC_o (W := 75) hpre0).2)) (show aS 88 S = ab from by first | (exact (xC_o (W := 88) hpre0).1.trans hpre1)) (show aG S = (gNr ag yt.toNatClampNeg i.toInt y) from by first | (have tt := xB_th (W := 75) hpre0 hpre4; have e9 : (ag 87 9).toInt = (mI S 82 3).toInt := (by rw [← hpre2]; rfl); have e12 : (ag 87 12).toInt = (mI S 82 5).toInt := (by rw [← hpre2]; rfl); have et : (ag 130 yt.toNatClampNeg).toInt = (mI S t 4).toInt := (by rw [← hpre2, aG_o (by decide) (by decide), ← tt.2.2.2.2.2.1]); have tx := xB_th (W := 75) hpre0 rg_c1; have ex : (ag 130 y.toNatClampNeg).toInt = (mI S c1 4).toInt := (by rw [← hpre2, aG_o (by decide) (by decide), ← tx.2.2.2.2.2.1]); have ea : ag 126 y.toNatClampNeg ≠ 0 := (by rw [← hpre2, aG_o (by decide) (by decide), tx.2.2.2.2.2.2.2.2]; decide); unfold gNr; rw [if_neg (fun z => ?_)]; (exact hpre2); omega) | (have tt := xB_th (W := 75) hpre0 hpre4; have e9 : (ag 87 9).toInt = (mI S 82 3).toInt := (by rw [← hpre2]; rfl); have e12 : (ag 87 12).toInt = (mI S 82 5).toInt := (by rw [← hpre2]; rfl); have et : (ag 130 yt.toNatClampNeg).toInt = (mI S t 4).toInt := (by rw [← hpre2, aG_o (by decide) (by decide), ← tt.2.2.2.2.2.1]); have tx := xB_th (W := 75) hpre0 rg_c1; have ex : (ag 130 y.toNatClampNeg).toInt = (mI S c1 4).toInt := (by rw [← hpre2, aG_o (by decide) (by decide), ← tx.2.2.2.2.2.1]); have ea : ag 126 y.toNatClampNeg ≠ 0 := (by rw [← hpre2, aG_o (by decide) (by decide), tx.2.2.2.2.2.2.2.2]; decide); have d := dy_e hpre0 hpre4 (i := i) (by omega) (by omega) (by omega) (by omega); rw [hpre2] at d; unfold gNr; rw [if_neg (fun z => ?_)]; (exact hpre2); omega) | (exfalso; omega)) (show (mI S 82) = fp82 from by first | (exact hpre3))
        · skip
          have g13 := i_nlt h11
          exact K _ hI (show xB S R from by first | (exact (xC_o (W := 75) hpre0).2)) (show aS 88 S = ab from by first | (exact (xC_o (W := 88) hpre0).1.trans hpre1)) (show aG S = (gNr ag yt.toNatClampNeg i.toInt y) from by first | (have tt := xB_th (W := 75) hpre0 hpre4; have e9 : (ag 87 9).toInt = (mI S 82 3).toInt := (by rw [← hpre2]; rfl); have e12 : (ag 87 12).toInt = (mI S 82 5).toInt := (by rw [← hpre2]; rfl); have et : (ag 130 yt.toNatClampNeg).toInt = (mI S t 4).toInt := (by rw [← hpre2, aG_o (by decide) (by decide), ← tt.2.2.2.2.2.1]); have tx := xB_th (W := 75) hpre0 rg_c1; have ex : (ag 130 y.toNatClampNeg).toInt = (mI S c1 4).toInt := (by rw [← hpre2, aG_o (by decide) (by decide), ← tx.2.2.2.2.2.1]); have ea : ag 126 y.toNatClampNeg ≠ 0 := (by rw [← hpre2, aG_o (by decide) (by decide), tx.2.2.2.2.2.2.2.2]; decide); unfold gNr; rw [if_neg (fun z => ?_)]; (exact hpre2); omega) | (have tt := xB_th (W := 75) hpre0 hpre4; have e9 : (ag 87 9).toInt = (mI S 82 3).toInt := (by rw [← hpre2]; rfl); have e12 : (ag 87 12).toInt = (mI S 82 5).toInt := (by rw [← hpre2]; rfl); have et : (ag 130 yt.toNatClampNeg).toInt = (mI S t 4).toInt := (by rw [← hpre2, aG_o (by decide) (by decide), ← tt.2.2.2.2.2.1]); have tx := xB_th (W := 75) hpre0 rg_c1; have ex : (ag 130 y.toNatClampNeg).toInt = (mI S c1 4).toInt := (by rw [← hpre2, aG_o (by decide) (by decide), ← tx.2.2.2.2.2.1]); have ea : ag 126 y.toNatClampNeg ≠ 0 := (by rw [← hpre2, aG_o (by decide) (by decide), tx.2.2.2.2.2.2.2.2]; decide); have d := dy_e hpre0 hpre4 (i := i) (by omega) (by omega) (by omega) (by omega); rw [hpre2] at d; unfold gNr; rw [if_neg (fun z => ?_)]; (exact hpre2); omega) | (exfalso; omega)) (show (mI S 82) = fp82 from by first | (exact hpre3))
      · skip
        have g14 := i_nlt h8
        exact K _ hI (show xB S R from by first | (exact (xC_o (W := 75) hpre0).2)) (show aS 88 S = ab from by first | (exact (xC_o (W := 88) hpre0).1.trans hpre1)) (show aG S = (gNr ag yt.toNatClampNeg i.toInt y) from by first | (have tt := xB_th (W := 75) hpre0 hpre4; have e9 : (ag 87 9).toInt = (mI S 82 3).toInt := (by rw [← hpre2]; rfl); have e12 : (ag 87 12).toInt = (mI S 82 5).toInt := (by rw [← hpre2]; rfl); have et : (ag 130 yt.toNatClampNeg).toInt = (mI S t 4).toInt := (by rw [← hpre2, aG_o (by decide) (by decide), ← tt.2.2.2.2.2.1]); have tx := xB_th (W := 75) hpre0 rg_c1; have ex : (ag 130 y.toNatClampNeg).toInt = (mI S c1 4).toInt := (by rw [← hpre2, aG_o (by decide) (by decide), ← tx.2.2.2.2.2.1]); have ea : ag 126 y.toNatClampNeg ≠ 0 := (by rw [← hpre2, aG_o (by decide) (by decide), tx.2.2.2.2.2.2.2.2]; decide); unfold gNr; rw [if_neg (fun z => ?_)]; (exact hpre2); omega) | (have tt := xB_th (W := 75) hpre0 hpre4; have e9 : (ag 87 9).toInt = (mI S 82 3).toInt := (by rw [← hpre2]; rfl); have e12 : (ag 87 12).toInt = (mI S 82 5).toInt := (by rw [← hpre2]; rfl); have et : (ag 130 yt.toNatClampNeg).toInt = (mI S t 4).toInt := (by rw [← hpre2, aG_o (by decide) (by decide), ← tt.2.2.2.2.2.1]); have tx := xB_th (W := 75) hpre0 rg_c1; have ex : (ag 130 y.toNatClampNeg).toInt = (mI S c1 4).toInt := (by rw [← hpre2, aG_o (by decide) (by decide), ← tx.2.2.2.2.2.1]); have ea : ag 126 y.toNatClampNeg ≠ 0 := (by rw [← hpre2, aG_o (by decide) (by decide), tx.2.2.2.2.2.2.2.2]; decide); have d := dy_e hpre0 hpre4 (i := i) (by omega) (by omega) (by omega) (by omega); rw [hpre2] at d; unfold gNr; rw [if_neg (fun z => ?_)]; (exact hpre2); omega) | (exfalso; omega)) (show (mI S 82) = fp82 from by first | (exact hpre3))
  · skip
    have g15 := i_nle h3
    refine ⟨zG_n hI th_t, ?_⟩
    refine ⟨i_nz (by omega), ?_⟩
    refine ⟨fun hc => ?_, fun c2 hc => ?_⟩
    · skip
      have rn_c2 : zTa R y = none := hpre5.symm.trans hc
      exact K _ hI (show xB S R from by first | (exact (xC_o (W := 75) hpre0).2)) (show aS 88 S = ab from by first | (exact (xC_o (W := 88) hpre0).1.trans hpre1)) (show aG S = (gNr ag yt.toNatClampNeg i.toInt y) from by first | (have tt := xB_th (W := 75) hpre0 hpre4; have e9 : (ag 87 9).toInt = (mI S 82 3).toInt := (by rw [← hpre2]; rfl); have e12 : (ag 87 12).toInt = (mI S 82 5).toInt := (by rw [← hpre2]; rfl); have et : (ag 130 yt.toNatClampNeg).toInt = (mI S t 4).toInt := (by rw [← hpre2, aG_o (by decide) (by decide), ← tt.2.2.2.2.2.1]); unfold gNr; rw [if_neg (fun z => ?_)]; (exact hpre2); (exact xB_nt (W := 75) hpre0 rn_c2 ⟨z.1.1, z.1.2.1, by rw [← aG_o (by decide) (by decide), hpre2]; exact z.1.2.2.1⟩)) | (exfalso; omega)) (show (mI S 82) = fp82 from by first | (exact hpre3))
    · skip
      have th_c2 := hq_x c2 hc
      have rg_c2 : zTa R y = some c2 := hpre5.symm.trans hc
      subst hc
      refine ⟨zG_n hI th_t, ?_⟩
      have f16 := zG_th hI th_t
      have x17 : (mI S 82 3).toInt ≤ (mI S 82 7).toInt ∧ (mI S 82 7).toInt ≤ (mI S 82 3).toInt + (mI S 82 2).toInt := zG_x hI
      have f18 := zG_s hI (0) (1500) (c := 82) (k := 3) (by decide)
      refine zd (fun h19 => ?_) (fun h19 => ?_)
      · skip
        have g20 := i_lt h19
        refine ⟨zG_n hI th_c2, ?_⟩
        have f21 := zG_th hI th_c2
        refine zd (fun h22 => ?_) (fun h22 => ?_)
        · skip
          have g23 := i_lt h22
          exact K _ hI (show xB S R from by first | (exact (xC_o (W := 75) hpre0).2)) (show aS 88 S = ab from by first | (exact (xC_o (W := 88) hpre0).1.trans hpre1)) (show aG S = (gNr ag yt.toNatClampNeg i.toInt y) from by first | (have tt := xB_th (W := 75) hpre0 hpre4; have e9 : (ag 87 9).toInt = (mI S 82 3).toInt := (by rw [← hpre2]; rfl); have e12 : (ag 87 12).toInt = (mI S 82 5).toInt := (by rw [← hpre2]; rfl); have et : (ag 130 yt.toNatClampNeg).toInt = (mI S t 4).toInt := (by rw [← hpre2, aG_o (by decide) (by decide), ← tt.2.2.2.2.2.1]); have tx := xB_th (W := 75) hpre0 rg_c2; have ex : (ag 130 y.toNatClampNeg).toInt = (mI S c2 4).toInt := (by rw [← hpre2, aG_o (by decide) (by decide), ← tx.2.2.2.2.2.1]); have ea : ag 126 y.toNatClampNeg ≠ 0 := (by rw [← hpre2, aG_o (by decide) (by decide), tx.2.2.2.2.2.2.2.2]; decide); unfold gNr; rw [if_neg (fun z => ?_)]; (exact hpre2); omega) | (have tt := xB_th (W := 75) hpre0 hpre4; have e9 : (ag 87 9).toInt = (mI S 82 3).toInt := (by rw [← hpre2]; rfl); have e12 : (ag 87 12).toInt = (mI S 82 5).toInt := (by rw [← hpre2]; rfl); have et : (ag 130 yt.toNatClampNeg).toInt = (mI S t 4).toInt := (by rw [← hpre2, aG_o (by decide) (by decide), ← tt.2.2.2.2.2.1]); have tx := xB_th (W := 75) hpre0 rg_c2; have ex : (ag 130 y.toNatClampNeg).toInt = (mI S c2 4).toInt := (by rw [← hpre2, aG_o (by decide) (by decide), ← tx.2.2.2.2.2.1]); have ea : ag 126 y.toNatClampNeg ≠ 0 := (by rw [← hpre2, aG_o (by decide) (by decide), tx.2.2.2.2.2.2.2.2]; decide); have d := dy_e hpre0 hpre4 (i := i) (by omega) (by omega) (by omega) (by omega); rw [hpre2] at d; unfold gNr; rw [if_neg (fun z => ?_)]; (exact hpre2); omega) | (exfalso; omega)) (show (mI S 82) = fp82 from by first | (exact hpre3))
        · skip
          have g24 := i_nlt h22
          first | have e25 : ((mI S t 4) + (1 : Int32)).toInt = (mI S t 4).toInt + (1) := i_addk rfl (by omega) (by omega) | have b26 := i_bd ((mI S t 4) + (1 : Int32))
          have b27 := i_bd i
          first | have e28 : (((mI S t 4) + (1 : Int32)) + i).toInt = ((mI S t 4) + (1 : Int32)).toInt + i.toInt := i_add (by omega) (by omega) | have b29 := i_bd (((mI S t 4) + (1 : Int32)) + i)
          first | have f30 := i_div (x := (((mI S t 4) + (1 : Int32)) + i)) (y := (mI S 82 5)) (by omega) (by omega) | have b31 := i_bd ((((mI S t 4) + (1 : Int32)) + i) / (mI S 82 5))
          refine zd (fun h32 => ?_) (fun h32 => ?_)
          · skip
            have g33 := i_lt h32
            exact K _ hI (show xB S R from by first | (exact (xC_o (W := 75) hpre0).2)) (show aS 88 S = ab from by first | (exact (xC_o (W := 88) hpre0).1.trans hpre1)) (show aG S = (gNr ag yt.toNatClampNeg i.toInt y) from by first | (have tt := xB_th (W := 75) hpre0 hpre4; have e9 : (ag 87 9).toInt = (mI S 82 3).toInt := (by rw [← hpre2]; rfl); have e12 : (ag 87 12).toInt = (mI S 82 5).toInt := (by rw [← hpre2]; rfl); have et : (ag 130 yt.toNatClampNeg).toInt = (mI S t 4).toInt := (by rw [← hpre2, aG_o (by decide) (by decide), ← tt.2.2.2.2.2.1]); have tx := xB_th (W := 75) hpre0 rg_c2; have ex : (ag 130 y.toNatClampNeg).toInt = (mI S c2 4).toInt := (by rw [← hpre2, aG_o (by decide) (by decide), ← tx.2.2.2.2.2.1]); have ea : ag 126 y.toNatClampNeg ≠ 0 := (by rw [← hpre2, aG_o (by decide) (by decide), tx.2.2.2.2.2.2.2.2]; decide); unfold gNr; rw [if_neg (fun z => ?_)]; (exact hpre2); omega) | (have tt := xB_th (W := 75) hpre0 hpre4; have e9 : (ag 87 9).toInt = (mI S 82 3).toInt := (by rw [← hpre2]; rfl); have e12 : (ag 87 12).toInt = (mI S 82 5).toInt := (by rw [← hpre2]; rfl); have et : (ag 130 yt.toNatClampNeg).toInt = (mI S t 4).toInt := (by rw [← hpre2, aG_o (by decide) (by decide), ← tt.2.2.2.2.2.1]); have tx := xB_th (W := 75) hpre0 rg_c2; have ex : (ag 130 y.toNatClampNeg).toInt = (mI S c2 4).toInt := (by rw [← hpre2, aG_o (by decide) (by decide), ← tx.2.2.2.2.2.1]); have ea : ag 126 y.toNatClampNeg ≠ 0 := (by rw [← hpre2, aG_o (by decide) (by decide), tx.2.2.2.2.2.2.2.2]; decide); have d := dy_e hpre0 hpre4 (i := i) (by omega) (by omega) (by omega) (by omega); rw [hpre2] at d; unfold gNr; rw [if_neg (fun z => ?_)]; (exact hpre2); omega) | (exfalso; omega)) (show (mI S 82) = fp82 from by first | (exact hpre3))
          · skip
            have g34 := i_nlt h32
            have li35 : (375 : Int32).toInt = 375 := rfl
            refine zd (fun h36 => ?_) (fun h36 => ?_)
            · skip
              have g37 := i_le h36
              exact K _ hI (show xB S R from by first | (exact (xC_o (W := 75) hpre0).2)) (show aS 88 S = ab from by first | (exact (xC_o (W := 88) hpre0).1.trans hpre1)) (show aG S = (gNr ag yt.toNatClampNeg i.toInt y) from by first | (have tt := xB_th (W := 75) hpre0 hpre4; have e9 : (ag 87 9).toInt = (mI S 82 3).toInt := (by rw [← hpre2]; rfl); have e12 : (ag 87 12).toInt = (mI S 82 5).toInt := (by rw [← hpre2]; rfl); have et : (ag 130 yt.toNatClampNeg).toInt = (mI S t 4).toInt := (by rw [← hpre2, aG_o (by decide) (by decide), ← tt.2.2.2.2.2.1]); have tx := xB_th (W := 75) hpre0 rg_c2; have ex : (ag 130 y.toNatClampNeg).toInt = (mI S c2 4).toInt := (by rw [← hpre2, aG_o (by decide) (by decide), ← tx.2.2.2.2.2.1]); have ea : ag 126 y.toNatClampNeg ≠ 0 := (by rw [← hpre2, aG_o (by decide) (by decide), tx.2.2.2.2.2.2.2.2]; decide); unfold gNr; rw [if_neg (fun z => ?_)]; (exact hpre2); omega) | (have tt := xB_th (W := 75) hpre0 hpre4; have e9 : (ag 87 9).toInt = (mI S 82 3).toInt := (by rw [← hpre2]; rfl); have e12 : (ag 87 12).toInt = (mI S 82 5).toInt := (by rw [← hpre2]; rfl); have et : (ag 130 yt.toNatClampNeg).toInt = (mI S t 4).toInt := (by rw [← hpre2, aG_o (by decide) (by decide), ← tt.2.2.2.2.2.1]); have tx := xB_th (W := 75) hpre0 rg_c2; have ex : (ag 130 y.toNatClampNeg).toInt = (mI S c2 4).toInt := (by rw [← hpre2, aG_o (by decide) (by decide), ← tx.2.2.2.2.2.1]); have ea : ag 126 y.toNatClampNeg ≠ 0 := (by rw [← hpre2, aG_o (by decide) (by decide), tx.2.2.2.2.2.2.2.2]; decide); have d := dy_e hpre0 hpre4 (i := i) (by omega) (by omega) (by omega) (by omega); rw [hpre2] at d; unfold gNr; rw [if_neg (fun z => ?_)]; (exact hpre2); omega) | (exfalso; omega)) (show (mI S 82) = fp82 from by first | (exact hpre3))
            · skip
              have g38 := i_nle h36
              refine ⟨i_ix (by omega) (by omega), ?_⟩
              have hI39 : zJ82 f r C Z N (ma_put S 83 ((((mI S t 4) + (1 : Int32)) + i) / (mI S 82 5)).toNatClampNeg (.inl (1 : Int32))) := zG_fa hI rfl (by decide) (by decide) (by decide) (show zJ82_x (mI S) from zG_x hI)
              exact K _ hI39 (show xB (ma_put S 83 ((((mI S t 4) + (1 : Int32)) + i) / (mI S 82 5)).toNatClampNeg (.inl (1 : Int32))) R from by first | (exact (xC_n (c := 83) (k := ((((mI S t 4) + (1 : Int32)) + i) / (mI S 82 5)).toNatClampNeg) (x := (1 : Int32)) (xC_o (W := 75) hpre0) ⟨by decide, Or.inl ⟨rfl, rfl⟩⟩).2)) (show aS 88 (ma_put S 83 ((((mI S t 4) + (1 : Int32)) + i) / (mI S 82 5)).toNatClampNeg (.inl (1 : Int32))) = ab from by first | (exact (xC_n (c := 83) (k := ((((mI S t 4) + (1 : Int32)) + i) / (mI S 82 5)).toNatClampNeg) (x := (1 : Int32)) (xC_o (W := 88) hpre0) ⟨by decide, Or.inr ⟨rfl, Or.inr ⟨rfl, by decide⟩⟩⟩).1.trans hpre1)) (show aG (ma_put S 83 ((((mI S t 4) + (1 : Int32)) + i) / (mI S 82 5)).toNatClampNeg (.inl (1 : Int32))) = (gNr ag yt.toNatClampNeg i.toInt y) from by first | (have tt := xB_th (W := 75) hpre0 hpre4; have e9 : (ag 87 9).toInt = (mI S 82 3).toInt := (by rw [← hpre2]; rfl); have e12 : (ag 87 12).toInt = (mI S 82 5).toInt := (by rw [← hpre2]; rfl); have et : (ag 130 yt.toNatClampNeg).toInt = (mI S t 4).toInt := (by rw [← hpre2, aG_o (by decide) (by decide), ← tt.2.2.2.2.2.1]); have tx := xB_th (W := 75) hpre0 rg_c2; have ex : (ag 130 y.toNatClampNeg).toInt = (mI S c2 4).toInt := (by rw [← hpre2, aG_o (by decide) (by decide), ← tx.2.2.2.2.2.1]); have ea : ag 126 y.toNatClampNeg ≠ 0 := (by rw [← hpre2, aG_o (by decide) (by decide), tx.2.2.2.2.2.2.2.2]; decide); have d := dy_e hpre0 hpre4 (i := i) (by omega) (by omega) (by omega) (by omega); rw [hpre2] at d; have tc := tn_cast (x := (mI S t 4 + (1 : Int32) + i) / mI S 82 5) (by omega); unfold gNr; rw [if_pos ⟨⟨tx.1, tx.2.1, ea, by omega⟩, by omega, by omega, by omega⟩, ((G_p8 (n := ((((mI S t 4) + (1 : Int32)) + i) / (mI S 82 5)).toNatClampNeg) (x := (1 : Int32)) (xC_o (W := 75) hpre0).2).trans (congrArg (fun q => ma_u q 83 ((((mI S t 4) + (1 : Int32)) + i) / (mI S 82 5)).toNatClampNeg (1 : Int32)) (show aG S = aG S from rfl))), hpre2, show (gCx ag yt.toNatClampNeg i.toInt).toNat = ((mI S t 4 + (1 : Int32) + i) / mI S 82 5).toNatClampNeg from by omega]) | (exfalso; omega)) (show (mI (ma_put S 83 ((((mI S t 4) + (1 : Int32)) + i) / (mI S 82 5)).toNatClampNeg (.inl (1 : Int32))) 82) = fp82 from by first | (exact ((zr_n (P := 82) (c := 83) (by decide)).trans hpre3)))
      · skip
        have g40 := i_nlt h19
        exact K _ hI (show xB S R from by first | (exact (xC_o (W := 75) hpre0).2)) (show aS 88 S = ab from by first | (exact (xC_o (W := 88) hpre0).1.trans hpre1)) (show aG S = (gNr ag yt.toNatClampNeg i.toInt y) from by first | (have tt := xB_th (W := 75) hpre0 hpre4; have e9 : (ag 87 9).toInt = (mI S 82 3).toInt := (by rw [← hpre2]; rfl); have e12 : (ag 87 12).toInt = (mI S 82 5).toInt := (by rw [← hpre2]; rfl); have et : (ag 130 yt.toNatClampNeg).toInt = (mI S t 4).toInt := (by rw [← hpre2, aG_o (by decide) (by decide), ← tt.2.2.2.2.2.1]); have tx := xB_th (W := 75) hpre0 rg_c2; have ex : (ag 130 y.toNatClampNeg).toInt = (mI S c2 4).toInt := (by rw [← hpre2, aG_o (by decide) (by decide), ← tx.2.2.2.2.2.1]); have ea : ag 126 y.toNatClampNeg ≠ 0 := (by rw [← hpre2, aG_o (by decide) (by decide), tx.2.2.2.2.2.2.2.2]; decide); unfold gNr; rw [if_neg (fun z => ?_)]; (exact hpre2); omega) | (have tt := xB_th (W := 75) hpre0 hpre4; have e9 : (ag 87 9).toInt = (mI S 82 3).toInt := (by rw [← hpre2]; rfl); have e12 : (ag 87 12).toInt = (mI S 82 5).toInt := (by rw [← hpre2]; rfl); have et : (ag 130 yt.toNatClampNeg).toInt = (mI S t 4).toInt := (by rw [← hpre2, aG_o (by decide) (by decide), ← tt.2.2.2.2.2.1]); have tx := xB_th (W := 75) hpre0 rg_c2; have ex : (ag 130 y.toNatClampNeg).toInt = (mI S c2 4).toInt := (by rw [← hpre2, aG_o (by decide) (by decide), ← tx.2.2.2.2.2.1]); have ea : ag 126 y.toNatClampNeg ≠ 0 := (by rw [← hpre2, aG_o (by decide) (by decide), tx.2.2.2.2.2.2.2.2]; decide); have d := dy_e hpre0 hpre4 (i := i) (by omega) (by omega) (by omega) (by omega); rw [hpre2] at d; unfold gNr; rw [if_neg (fun z => ?_)]; (exact hpre2); omega) | (exfalso; omega)) (show (mI S 82) = fp82 from by first | (exact hpre3))

/-! from 95.u40 -/
/-! AGES, the class (written by wip/tools/gen15y.py) -/
theorem g_150_64_sm_p82_0 {X : Nat × (Nat → Int32)} {d w : Nat} {S : ma_S} {Q : Option ma_V ⊕ Nat → ma_S → Prop} (o : Int32) (i : Int32) (t : Int32) (hd : 8 ≤ d) (hw : 132 ≤ w) (hS : zT S) (h : mR S 64 11 = some 82 ∧ (mR S 64 11 = some 82 ∧ (ma_wp X (d - 1) (w - 22) 149 0 [(0, .inr (.inr (some 64))), (1, .inl o)] [] S (zo (fun v2 S1 => zT S1 ∧ ((∃ c3, v2 = some c3 ∧ (ma_wp X (d - 1) (w - 21) 151 0 [(0, .inr (.inr (some 64))), (1, .inl t)] [] S1 (zo (fun v5 S4 => zT S4 ∧ ((126 ≤ c3 ∧ c3 < mN S4) ∧ (if i < 0 then (Q (.inr 1) (ma_bump S4)) else ((126 ≤ c3 ∧ c3 < mN S4) ∧ (if ((mI S4 c3 2) - (1 : Int32)) ≤ i then (Q (.inr 1) (ma_bump S4)) else ((126 ≤ c3 ∧ c3 < mN S4) ∧ ((126 ≤ c3 ∧ c3 < mN S4) ∧ (if i < 0 then (Q (.inr 5) (ma_bump S4)) else ((126 ≤ c3 ∧ c3 < mN S4) ∧ (if ((mI S4 c3 2) - (1 : Int32)) ≤ i then (Q (.inr 5) (ma_bump S4)) else ((126 ≤ c3 ∧ c3 < mN S4) ∧ (if (lg_cmp ((((mL S4 c3 3).toUInt64 >>> (i.toInt64.toUInt64 &&& Int64.toUInt64 63)).toInt64) &&& (1 : Int64)) (0 : Int64)) = 0 then (Q (.inr 5) (ma_bump S4)) else (ma_wp X (d - 1) (w - 24) 94 0 [(0, .inr (.inr (some 69))), (1, .inr (.inr (some c3))), (2, .inl i), (3, .inr (.inr v5))] [] S4 (zo (fun v7 S6 => zT S6 ∧ (ma_wp X (d - 1) (w - 24) 8 0 [(0, .inr (.inr (some 82))), (1, .inr (.inr (some c3))), (2, .inl i), (3, .inr (.inr v5))] [] S6 (zv (fun S8 => zT S8 ∧ ((v7 = none → Q (.inl (some (.inl (-1 : Int32)))) S8) ∧ (∀ c10, v7 = some c10 → (126 ≤ c10 ∧ c10 < mN S8) ∧ (Q (.inl (some (.inl (mI S8 c10 0)))) S8)))) (fun _ _ => False)))) (fun x S9 => Q (.inr x) S9))))))))))))))) (fun x S9 => Q (.inr x) S9)))))) (fun x S9 => Q (.inr x) S9))))) : ma_wp X d w 150 0 [(0, .inr (.inr (some 64))), (1, .inl o), (2, .inl i), (3, .inl t)] [] S Q := by
  refine zw_push hm_150 dX11_link_0 (v := .inr (.inr (some 64))) rfl ?_
  refine zw_cv hm_150 dX11_link_1 v_11_119_11 hm_144 [] [] rfl (zT_rt hS s_64 rfl) ⟨by omega, by omega⟩ rfl ?_
  show ma_wp X (d - 1) (w - 20) 144 0 [(0, .inr (.inr (some 64)))] [] S _
  refine zw_push hm_144 dX11_needCollector_0 (v := .inr (.inr (some 64))) rfl ?_
  obtain ⟨hg, h⟩ := h
  refine zw_gf hm_144 dX11_needCollector_1 (v := .inr (.inr (some 82))) (zT_is hS s_64) (zT_t hS s_64) rfl f_11_98_11 (congrArg (fun z => Sum.inr (Sum.inr z)) hg) ?_
  refine zw_ifnonnull hm_144 dX11_needCollector_4 (t := 15) rfl (fun z => by cases z) (fun _ _ => ?_)
  refine zw_push hm_144 dX11_needCollector_15 (v := .inr (.inr (some 64))) rfl ?_
  obtain ⟨hg, h⟩ := h
  refine zw_gf hm_144 dX11_needCollector_16 (v := .inr (.inr (some 82))) (zT_is hS s_64) (zT_t hS s_64) rfl f_11_98_11 (congrArg (fun z => Sum.inr (Sum.inr z)) hg) ?_
  refine zw_aret hm_144 dX11_needCollector_19 ?_
  show ma_wp X d w 150 4 [(0, .inr (.inr (some 64))), (1, .inl o), (2, .inl i), (3, .inl t)] [.inr (.inr (some 82))] S _
  refine zw_sto hm_150 dX11_link_4 [(4, .inr (.inr (some 82))), (0, .inr (.inr (some 64))), (1, .inl o), (2, .inl i), (3, .inl t)] rfl rfl rfl ?_
  refine zw_push hm_150 dX11_link_6 (v := .inr (.inr (some 64))) rfl ?_
  refine zw_push hm_150 dX11_link_7 (v := .inl o) rfl ?_
  refine zw_cv hm_150 dX11_link_8 v_11_123_11 hm_149 [.inl o] [] rfl (zT_rt hS s_64 rfl) ⟨by omega, by omega⟩ rfl (zw_mono h (zo_go ?_ ?_))
  · intro v2 S1 hv
    obtain ⟨hS1, h⟩ := hv
    obtain ⟨c3, hc, h⟩ := h
    subst hc
    show ma_wp X d w 150 11 [(4, .inr (.inr (some 82))), (0, .inr (.inr (some 64))), (1, .inl o), (2, .inl i), (3, .inl t)] [.inr (.inr (some c3))] S1 _
    refine zw_sto hm_150 dX11_link_11 [(5, .inr (.inr (some c3))), (4, .inr (.inr (some 82))), (0, .inr (.inr (some 64))), (1, .inl o), (2, .inl i), (3, .inl t)] rfl rfl rfl ?_
    refine zw_push hm_150 dX11_link_13 (v := .inr (.inr (some 64))) rfl ?_
    refine zw_push hm_150 dX11_link_14 (v := .inl t) rfl ?_
    refine zw_cv hm_150 dX11_link_15 v_11_142_11 hm_151 [.inl t] [] rfl (zT_rt hS1 s_64 rfl) ⟨by omega, by omega⟩ rfl (zw_mono h (zo_go ?_ ?_))
    · intro v5 S4 hv
      obtain ⟨hS4, h⟩ := hv
      refine zw_sto hm_150 dX11_link_18 [(6, .inr (.inr v5)), (5, .inr (.inr (some c3))), (4, .inr (.inr (some 82))), (0, .inr (.inr (some 64))), (1, .inl o), (2, .inl i), (3, .inl t)] rfl rfl rfl ?_
      refine zw_push hm_150 dX11_link_20 (v := .inr (.inr (some c3))) rfl ?_
      refine zw_push hm_150 dX11_link_22 (v := .inl i) rfl ?_
      obtain ⟨hg, h⟩ := h
      refine zw_cv hm_150 dX11_link_23 v_11_127_9 hm_114 [.inl i] [] rfl (zT_trt hS4 hg) ⟨by omega, by omega⟩ rfl ?_
      show ma_wp X (d - 1) (w - 21) 114 0 [(0, .inr (.inr (some c3))), (1, .inl i)] [] S4 _
      refine zw_push hm_114 dX9_hasWord_0 (v := .inl i) rfl ?_
      refine zw_if0 hm_114 dX9_hasWord_1 (t := 18) rfl zc0_lt ?_ ?_
      · intro hc
        rw [if_pos hc] at h
        refine zw_push hm_114 dX9_hasWord_18 (v := .inl (0 : Int32)) rfl ?_
        refine zw_bret hm_114 dX9_hasWord_19 (by decide) ?_
        show ma_wp X d w 150 26 [(6, .inr (.inr v5)), (5, .inr (.inr (some c3))), (4, .inr (.inr (some 82))), (0, .inr (.inr (some 64))), (1, .inl o), (2, .inl i), (3, .inl t)] [.inl (0 : Int32)] S4 _
        refine zw_if0 hm_150 dX11_link_26 (t := 37) rfl zc0_ne (fun hc => absurd hc (by decide)) (fun _ => ?_)
        exact zw_thr hm_150 dX11_link_29 dX11_link_32 dX11_link_33 dX11_link_36 x_11_72_74 n_11_72 (by omega) (by show 0 + 81 ≤ w; omega) h
      · intro hc
        rw [if_neg hc] at h
        refine zw_push hm_114 dX9_hasWord_4 (v := .inl i) rfl ?_
        refine zw_push hm_114 dX9_hasWord_5 (v := .inr (.inr (some c3))) rfl ?_
        obtain ⟨hg, h⟩ := h
        refine zw_gf hm_114 dX9_hasWord_6 (v := .inl (mI S4 c3 2)) (zT_tis hS4 hg) (zT_tt hS4 hg) rfl f_9_16_9 rfl ?_
        refine zw_push hm_114 dX9_hasWord_9 (v := .inl (1 : Int32)) rfl ?_
        refine zw_stk hm_114 dX9_hasWord_10 (st₉ := [.inl ((mI S4 c3 2) - (1 : Int32)), .inl i]) rfl rfl ?_
        refine zw_if2 hm_114 dX9_hasWord_11 (t := 18) rfl zc2_ge ?_ ?_
        · intro hc
          rw [if_pos hc] at h
          refine zw_push hm_114 dX9_hasWord_18 (v := .inl (0 : Int32)) rfl ?_
          refine zw_bret hm_114 dX9_hasWord_19 (by decide) ?_
          show ma_wp X d w 150 26 [(6, .inr (.inr v5)), (5, .inr (.inr (some c3))), (4, .inr (.inr (some 82))), (0, .inr (.inr (some 64))), (1, .inl o), (2, .inl i), (3, .inl t)] [.inl (0 : Int32)] S4 _
          refine zw_if0 hm_150 dX11_link_26 (t := 37) rfl zc0_ne (fun hc => absurd hc (by decide)) (fun _ => ?_)
          exact zw_thr hm_150 dX11_link_29 dX11_link_32 dX11_link_33 dX11_link_36 x_11_72_74 n_11_72 (by omega) (by show 0 + 81 ≤ w; omega) h
        · intro hc
          rw [if_neg hc] at h
          refine zw_push hm_114 dX9_hasWord_14 (v := .inl (1 : Int32)) rfl ?_
          refine zw_goto hm_114 dX9_hasWord_15 (t := 19) rfl ?_
          refine zw_bret hm_114 dX9_hasWord_19 (by decide) ?_
          show ma_wp X d w 150 26 [(6, .inr (.inr v5)), (5, .inr (.inr (some c3))), (4, .inr (.inr (some 82))), (0, .inr (.inr (some 64))), (1, .inl o), (2, .inl i), (3, .inl t)] [.inl (1 : Int32)] S4 _
          refine zw_if0 hm_150 dX11_link_26 (t := 37) rfl zc0_ne (fun _ => ?_) (fun hc => absurd (by decide) hc)
          refine zw_push hm_150 dX11_link_37 (v := .inr (.inr (some c3))) rfl ?_
          refine zw_push hm_150 dX11_link_39 (v := .inl i) rfl ?_
          obtain ⟨hg, h⟩ := h
          refine zw_cv hm_150 dX11_link_40 v_11_132_9 hm_113 [.inl i] [] rfl (zT_trt hS4 hg) ⟨by omega, by omega⟩ rfl ?_
          show ma_wp X (d - 1) (w - 21) 113 0 [(0, .inr (.inr (some c3))), (1, .inl i)] [] S4 _
          refine zw_push hm_113 dX9_isReference_0 (v := .inr (.inr (some c3))) rfl ?_
          refine zw_push hm_113 dX9_isReference_1 (v := .inl i) rfl ?_
          obtain ⟨hg, h⟩ := h
          refine zw_cv hm_113 dX9_isReference_2 v_9_26_9 hm_114 [.inl i] [] rfl (zT_trt hS4 hg) ⟨by omega, by omega⟩ rfl ?_
          show ma_wp X ((d - 1) - 1) ((w - 21) - 21) 114 0 [(0, .inr (.inr (some c3))), (1, .inl i)] [] S4 _
          refine zw_push hm_114 dX9_hasWord_0 (v := .inl i) rfl ?_
          refine zw_if0 hm_114 dX9_hasWord_1 (t := 18) rfl zc0_lt ?_ ?_
          · intro hc
            rw [if_pos hc] at h
            refine zw_push hm_114 dX9_hasWord_18 (v := .inl (0 : Int32)) rfl ?_
            refine zw_bret hm_114 dX9_hasWord_19 (by decide) ?_
            show ma_wp X (d - 1) (w - 21) 113 5 [(0, .inr (.inr (some c3))), (1, .inl i)] [.inl (0 : Int32)] S4 _
            refine zw_if0 hm_113 dX9_isReference_5 (t := 25) rfl zc0_eq (fun _ => ?_) (fun hc => absurd (by decide) hc)
            refine zw_push hm_113 dX9_isReference_25 (v := .inl (0 : Int32)) rfl ?_
            refine zw_bret hm_113 dX9_isReference_26 (by decide) ?_
            show ma_wp X d w 150 43 [(6, .inr (.inr v5)), (5, .inr (.inr (some c3))), (4, .inr (.inr (some 82))), (0, .inr (.inr (some 64))), (1, .inl o), (2, .inl i), (3, .inl t)] [.inl (0 : Int32)] S4 _
            refine zw_if0 hm_150 dX11_link_43 (t := 54) rfl zc0_ne (fun hc => absurd hc (by decide)) (fun _ => ?_)
            exact zw_thr hm_150 dX11_link_46 dX11_link_49 dX11_link_50 dX11_link_53 x_11_135_137 n_11_135 (by omega) (by show 0 + 81 ≤ w; omega) h
          · intro hc
            rw [if_neg hc] at h
            refine zw_push hm_114 dX9_hasWord_4 (v := .inl i) rfl ?_
            refine zw_push hm_114 dX9_hasWord_5 (v := .inr (.inr (some c3))) rfl ?_
            obtain ⟨hg, h⟩ := h
            refine zw_gf hm_114 dX9_hasWord_6 (v := .inl (mI S4 c3 2)) (zT_tis hS4 hg) (zT_tt hS4 hg) rfl f_9_16_9 rfl ?_
            refine zw_push hm_114 dX9_hasWord_9 (v := .inl (1 : Int32)) rfl ?_
            refine zw_stk hm_114 dX9_hasWord_10 (st₉ := [.inl ((mI S4 c3 2) - (1 : Int32)), .inl i]) rfl rfl ?_
            refine zw_if2 hm_114 dX9_hasWord_11 (t := 18) rfl zc2_ge ?_ ?_
            · intro hc
              rw [if_pos hc] at h
              refine zw_push hm_114 dX9_hasWord_18 (v := .inl (0 : Int32)) rfl ?_
              refine zw_bret hm_114 dX9_hasWord_19 (by decide) ?_
              show ma_wp X (d - 1) (w - 21) 113 5 [(0, .inr (.inr (some c3))), (1, .inl i)] [.inl (0 : Int32)] S4 _
              refine zw_if0 hm_113 dX9_isReference_5 (t := 25) rfl zc0_eq (fun _ => ?_) (fun hc => absurd (by decide) hc)
              refine zw_push hm_113 dX9_isReference_25 (v := .inl (0 : Int32)) rfl ?_
              refine zw_bret hm_113 dX9_isReference_26 (by decide) ?_
              show ma_wp X d w 150 43 [(6, .inr (.inr v5)), (5, .inr (.inr (some c3))), (4, .inr (.inr (some 82))), (0, .inr (.inr (some 64))), (1, .inl o), (2, .inl i), (3, .inl t)] [.inl (0 : Int32)] S4 _
              refine zw_if0 hm_150 dX11_link_43 (t := 54) rfl zc0_ne (fun hc => absurd hc (by decide)) (fun _ => ?_)
              exact zw_thr hm_150 dX11_link_46 dX11_link_49 dX11_link_50 dX11_link_53 x_11_135_137 n_11_135 (by omega) (by show 0 + 81 ≤ w; omega) h
            · intro hc
              rw [if_neg hc] at h
              refine zw_push hm_114 dX9_hasWord_14 (v := .inl (1 : Int32)) rfl ?_
              refine zw_goto hm_114 dX9_hasWord_15 (t := 19) rfl ?_
              refine zw_bret hm_114 dX9_hasWord_19 (by decide) ?_
              show ma_wp X (d - 1) (w - 21) 113 5 [(0, .inr (.inr (some c3))), (1, .inl i)] [.inl (1 : Int32)] S4 _
              refine zw_if0 hm_113 dX9_isReference_5 (t := 25) rfl zc0_eq (fun hc => absurd hc (by decide)) (fun _ => ?_)
              refine zw_push hm_113 dX9_isReference_8 (v := .inr (.inr (some c3))) rfl ?_
              obtain ⟨hg, h⟩ := h
              refine zw_gf hm_113 dX9_isReference_9 (v := .inr (.inl (mL S4 c3 3))) (zT_tis hS4 hg) (zT_tt hS4 hg) rfl f_9_19_9 rfl ?_
              refine zw_push hm_113 dX9_isReference_12 (v := .inl i) rfl ?_
              refine zw_stk hm_113 dX9_isReference_13 (st₉ := [.inr (.inl (((mL S4 c3 3).toUInt64 >>> (i.toInt64.toUInt64 &&& Int64.toUInt64 63)).toInt64))]) rfl rfl ?_
              refine zw_push hm_113 dX9_isReference_14 (v := .inr (.inl (1 : Int64))) rfl ?_
              refine zw_stk hm_113 dX9_isReference_15 (st₉ := [.inr (.inl ((((mL S4 c3 3).toUInt64 >>> (i.toInt64.toUInt64 &&& Int64.toUInt64 63)).toInt64) &&& (1 : Int64)))]) rfl rfl ?_
              refine zw_push hm_113 dX9_isReference_16 (v := .inr (.inl (0 : Int64))) rfl ?_
              refine zw_stk hm_113 dX9_isReference_17 (st₉ := [.inl (lg_cmp ((((mL S4 c3 3).toUInt64 >>> (i.toInt64.toUInt64 &&& Int64.toUInt64 63)).toInt64) &&& (1 : Int64)) (0 : Int64))]) rfl rfl ?_
              refine zw_if0 hm_113 dX9_isReference_18 (t := 25) rfl zc0_eq ?_ ?_
              · intro hc
                rw [if_pos hc] at h
                refine zw_push hm_113 dX9_isReference_25 (v := .inl (0 : Int32)) rfl ?_
                refine zw_bret hm_113 dX9_isReference_26 (by decide) ?_
                show ma_wp X d w 150 43 [(6, .inr (.inr v5)), (5, .inr (.inr (some c3))), (4, .inr (.inr (some 82))), (0, .inr (.inr (some 64))), (1, .inl o), (2, .inl i), (3, .inl t)] [.inl (0 : Int32)] S4 _
                refine zw_if0 hm_150 dX11_link_43 (t := 54) rfl zc0_ne (fun hc => absurd hc (by decide)) (fun _ => ?_)
                exact zw_thr hm_150 dX11_link_46 dX11_link_49 dX11_link_50 dX11_link_53 x_11_135_137 n_11_135 (by omega) (by show 0 + 81 ≤ w; omega) h
              · intro hc
                rw [if_neg hc] at h
                refine zw_push hm_113 dX9_isReference_21 (v := .inl (1 : Int32)) rfl ?_
                refine zw_goto hm_113 dX9_isReference_22 (t := 26) rfl ?_
                refine zw_bret hm_113 dX9_isReference_26 (by decide) ?_
                show ma_wp X d w 150 43 [(6, .inr (.inr v5)), (5, .inr (.inr (some c3))), (4, .inr (.inr (some 82))), (0, .inr (.inr (some 64))), (1, .inl o), (2, .inl i), (3, .inl t)] [.inl (1 : Int32)] S4 _
                refine zw_if0 hm_150 dX11_link_43 (t := 54) rfl zc0_ne (fun _ => ?_) (fun hc => absurd (by decide) hc)
                refine zw_push hm_150 dX11_link_54 (v := .inr (.inr (some 64))) rfl ?_
                refine zw_gf hm_150 dX11_link_55 (v := .inr (.inr (some 69))) (zT_is hS4 s_64) (zT_t hS4 s_64) rfl f_11_26_11 (zT_f hS4 r_64_8) ?_
                refine zw_push hm_150 dX11_link_58 (v := .inr (.inr (some c3))) rfl ?_
                refine zw_push hm_150 dX11_link_60 (v := .inl i) rfl ?_
                refine zw_push hm_150 dX11_link_61 (v := .inr (.inr v5)) rfl ?_
                refine zw_cv hm_150 dX11_link_63 v_11_145_7 hm_94 [.inr (.inr v5), .inl i, .inr (.inr (some c3))] [] rfl (zT_rt hS4 s_69 rfl) ⟨by omega, by omega⟩ rfl (zw_mono h (zo_go ?_ ?_))
                · intro v7 S6 hv
                  obtain ⟨hS6, h⟩ := hv
                  refine zw_sto hm_150 dX11_link_66 [(7, .inr (.inr v7)), (6, .inr (.inr v5)), (5, .inr (.inr (some c3))), (4, .inr (.inr (some 82))), (0, .inr (.inr (some 64))), (1, .inl o), (2, .inl i), (3, .inl t)] rfl rfl rfl ?_
                  refine zw_push hm_150 dX11_link_68 (v := .inr (.inr (some 82))) rfl ?_
                  refine zw_push hm_150 dX11_link_70 (v := .inr (.inr (some c3))) rfl ?_
                  refine zw_push hm_150 dX11_link_72 (v := .inl i) rfl ?_
                  refine zw_push hm_150 dX11_link_73 (v := .inr (.inr v5)) rfl ?_
                  refine zw_cv hm_150 dX11_link_75 v_11_149_1 hm_8 [.inr (.inr v5), .inl i, .inr (.inr (some c3))] [] rfl (zT_rt hS6 s_82 rfl) ⟨by omega, by omega⟩ rfl (zw_mono h (zv_go ?_ ?_))
                  · intro S8 hv
                    obtain ⟨hS8, h⟩ := hv
                    refine zw_push hm_150 dX11_link_78 (v := .inr (.inr (some 82))) rfl ?_
                    refine zw_push hm_150 dX11_link_80 (v := .inr (.inr v7)) rfl ?_
                    refine zw_push hm_150 dX11_link_82 (v := .inr (.inr v5)) rfl ?_
                    refine zw_cv hm_150 dX11_link_84 v_11_153_1 hm_265 [.inr (.inr v5), .inr (.inr v7)] [] rfl (zT_rt hS8 s_82 rfl) ⟨by omega, by omega⟩ rfl ?_
                    show ma_wp X (d - 1) (w - 22) 265 0 [(0, .inr (.inr (some 82))), (1, .inr (.inr v7)), (2, .inr (.inr v5))] [] S8 _
                    refine zw_vret hm_265 dX1_noteChange_0 ?_
                    show ma_wp X d w 150 87 [(7, .inr (.inr v7)), (6, .inr (.inr v5)), (5, .inr (.inr (some c3))), (4, .inr (.inr (some 82))), (0, .inr (.inr (some 64))), (1, .inl o), (2, .inl i), (3, .inl t)] [] S8 _
                    refine zw_push hm_150 dX11_link_87 (v := .inr (.inr (some 82))) rfl ?_
                    refine zw_push hm_150 dX11_link_89 (v := .inr (.inr v7)) rfl ?_
                    refine zw_cv hm_150 dX11_link_91 v_11_157_1 hm_266 [.inr (.inr v7)] [] rfl (zT_rt hS8 s_82 rfl) ⟨by omega, by omega⟩ rfl ?_
                    show ma_wp X (d - 1) (w - 21) 266 0 [(0, .inr (.inr (some 82))), (1, .inr (.inr v7))] [] S8 _
                    refine zw_vret hm_266 dX1_noteFewer_0 ?_
                    show ma_wp X d w 150 94 [(7, .inr (.inr v7)), (6, .inr (.inr v5)), (5, .inr (.inr (some c3))), (4, .inr (.inr (some 82))), (0, .inr (.inr (some 64))), (1, .inl o), (2, .inl i), (3, .inl t)] [] S8 _
                    refine zw_push hm_150 dX11_link_94 (v := .inr (.inr v7)) rfl ?_
                    refine zw_cs hm_150 dX11_link_96 pn_11_161 sl_11_161 hm_146 [.inr (.inr v7)] [] rfl ⟨by omega, by omega⟩ rfl ?_
                    show ma_wp X (d - 1) (w - 20) 146 0 [(0, .inr (.inr v7))] [] S8 _
                    refine zw_push hm_146 dX11_numberOf_0 (v := .inr (.inr v7)) rfl ?_
                    refine zw_ifnonnull hm_146 dX11_numberOf_1 (t := 8) rfl ?_ ?_
                    · intro hc
                      have h := h.1 hc
                      (try rw [hc])
                      show ma_wp X (d - 1) (w - 20) 146 4 [(0, .inr (.inr none))] [] S8 _
                      refine zw_push hm_146 dX11_numberOf_4 (v := .inl (-1 : Int32)) rfl ?_
                      refine zw_goto hm_146 dX11_numberOf_5 (t := 12) rfl ?_
                      refine zw_iret hm_146 dX11_numberOf_12 ?_
                      show ma_wp X d w 150 99 [(7, .inr (.inr none)), (6, .inr (.inr v5)), (5, .inr (.inr (some c3))), (4, .inr (.inr (some 82))), (0, .inr (.inr (some 64))), (1, .inl o), (2, .inl i), (3, .inl t)] [.inl (-1 : Int32)] S8 _
                      exact zw_iret hm_150 dX11_link_99 h
                    · intro c10 hc
                      have h := h.2 c10 hc
                      (try rw [hc])
                      show ma_wp X (d - 1) (w - 20) 146 8 [(0, .inr (.inr (some c10)))] [] S8 _
                      refine zw_push hm_146 dX11_numberOf_8 (v := .inr (.inr (some c10))) rfl ?_
                      obtain ⟨hg, h⟩ := h
                      refine zw_gf hm_146 dX11_numberOf_9 (v := .inl (mI S8 c10 0)) (zT_tis hS8 hg) (zT_tt hS8 hg) rfl f_11_182_9 rfl ?_
                      refine zw_iret hm_146 dX11_numberOf_12 ?_
                      show ma_wp X d w 150 99 [(7, .inr (.inr (some c10))), (6, .inr (.inr v5)), (5, .inr (.inr (some c3))), (4, .inr (.inr (some 82))), (0, .inr (.inr (some 64))), (1, .inl o), (2, .inl i), (3, .inl t)] [.inl (mI S8 c10 0)] S8 _
                      exact zw_iret hm_150 dX11_link_99 h
                  · intro x S9 hx
                    exact hx.elim
                · intro x S9 hx
                  exact ⟨by decide, hx⟩
    · intro x S9 hx
      exact ⟨by decide, hx⟩
  · intro x S9 hx
    exact ⟨by decide, hx⟩
theorem sp_150_64_sm_p82 {X : Nat × (Nat → Int32)} {d w : Nat} {f : Nat → Nat → Int32} {r : Nat → Nat → Option Nat} {C Z N : Nat} {Q : Option ma_V ⊕ Nat → ma_S → Prop} {ab : Nat→Nat→Int32} {ag : Nat→Nat→Int32} {fp82 : Nat→Int32} {fp83 : Nat→Int32} {S : ma_S} (o : Int32) (i : Int32) (t : Int32) (hd : 8 ≤ d) (hw : 132 ≤ w) (hI : zB f r C Z N S) (hr : r 64 11 = some 82) (hpre0 : xB S (mR S 70)) (hpre1 : aS 88 S = ab) (hpre2 : aG S = ag) (hpre3 : (mI S 82) = fp82) (hpre4 : (mI S 83) = fp83) (K : ∀ v S₉, zB f r C Z N S₉ → (True) → (xB S₉ (mR S₉ 70)) → (zRq ab o ∧ (t = -1 ∨ zRq ab t) ∧ zHw ab o i ∧ zIr ab o i ∧ aS 88 S₉ = aL0 ab o.toNatClampNeg i t ∧ v = aNm ab (aRef ab o.toNatClampNeg i)) → ((mI S₉ 82) = fp82) → ((mI S₉ 83) = gNr ag o.toNatClampNeg i.toInt t 83) → Q (.inl (some (.inl v))) S₉) (KX : ∀ x S₉, (x = 1 ∨ x = 4 ∨ x = 5) → zB f r C Z N S₉ → (xB S₉ (mR S₉ 70)) → (aS 88 S₉ = ab) → ((x = 4 ∧ (¬ zRq ab o ∨ (zRq ab o ∧ t ≠ -1 ∧ ¬ zRq ab t))) ∨ (x = 1 ∧ zRq ab o ∧ (t = -1 ∨ zRq ab t) ∧ ¬ zHw ab o i) ∨ (x = 5 ∧ zRq ab o ∧ (t = -1 ∨ zRq ab t) ∧ zHw ab o i ∧ ¬ zIr ab o i)) → ((mI S₉ 82) = fp82) → ((mI S₉ 83) = fp83) → Q (.inr x) (ma_bump S₉)) : ma_wp X d w 150 0 [(0, .inr (.inr (some 64))), (1, .inl o), (2, .inl i), (3, .inl t)] [] S Q := by
  refine g_150_64_sm_p82_0 o i t (by omega) (by omega) (zG_T hI) ?_
  refine ⟨((zG_r hI (by decide)).trans hr), ?_⟩
  refine ⟨((zG_r hI (by decide)).trans hr), ?_⟩
  have b1 := i_bd o
  refine sp_149_64_s (R := (mR S 70)) (a7 := (aS 75 S)) (a8 := (aS 88 S)) (o) (by omega) (by omega) (zB_dn_zI hI) (show xB S (mR S 70) from by first | (exact (xC_o (W := 75) hpre0).2)) (show aS 75 S = (aS 75 S) from by first | (exact rfl)) (show aS 88 S = (aS 88 S) from by first | (exact rfl)) (fun v2 S1 hL_S1 hq_v2 rp0_S1 rp1_S1 rp2_S1 rp3_S1 => zo_n ⟨zG_T hL_S1, ?_⟩) (fun x S9 hx h9 rx0 rx1 rx2 => by have h9u := (zB_up_zI hI h9); exact zo_x (KX x S9 (by omega) h9u (show xB S9 (mR S9 70) from by first | (exact xB_x (xC_o (W := 75) rx0).2)) (show aS 88 S9 = ab from by first | (exact rx1.trans hpre1)) (show (x = 4 ∧ (¬ zRq ab o ∨ (zRq ab o ∧ t ≠ -1 ∧ ¬ zRq ab t))) ∨ (x = 1 ∧ zRq ab o ∧ (t = -1 ∨ zRq ab t) ∧ ¬ zHw ab o i) ∨ (x = 5 ∧ zRq ab o ∧ (t = -1 ∨ zRq ab t) ∧ zHw ab o i ∧ ¬ zIr ab o i) from by first | (exact Or.inl ⟨rx2.1, Or.inl (rq_no rx2.2 hpre1)⟩)) (show (mI S9 82) = fp82 from by first | (exact ((show mI _ 82 = mI _ 82 from funext (fun _ => zG_z h9 rfl)).trans hpre3))) (show (mI S9 83) = fp83 from by first | (exact ((show mI _ 83 = mI _ 83 from funext (fun _ => zG_z h9 rfl)).trans hpre4)))))
  have hI_S1 := zB_up_zI hI hL_S1
  have rp0_S1 : xB S1 (mR S 70) := by
    have z := rp0_S1
    (try rw [show mI S 65 = f 65 from funext (fun k => zG_z hI rfl)] at z)
    (try rw [show mI S 64 1 = f 64 1 from zG_z hI rfl] at z)
    exact z
  have rp1_S1 : aS 88 S1 = (aS 88 S) := by
    have z := rp1_S1
    (try rw [show mI S 65 = f 65 from funext (fun k => zG_z hI rfl)] at z)
    (try rw [show mI S 64 1 = f 64 1 from zG_z hI rfl] at z)
    exact z
  have rp2_S1 : v2 = zTa (mR S 70) o := by
    have z := rp2_S1
    (try rw [show mI S 65 = f 65 from funext (fun k => zG_z hI rfl)] at z)
    (try rw [show mI S 64 1 = f 64 1 from zG_z hI rfl] at z)
    exact z
  have rp3_S1 : zRq (aS 75 S) o := by
    have z := rp3_S1
    (try rw [show mI S 65 = f 65 from funext (fun k => zG_z hI rfl)] at z)
    (try rw [show mI S 64 1 = f 64 1 from zG_z hI rfl] at z)
    exact z
  obtain ⟨c3, hc, th_c3⟩ := hq_v2
  have rg_c3 : zTa (mR S 70) o = some c3 := rp2_S1.symm.trans hc
  refine ⟨c3, hc, ?_⟩
  have b2 := i_bd t
  refine sp_151_64_s (R := (mR S 70)) (a7 := (aS 75 S1)) (a8 := (aS 88 S1)) (t) (by omega) (by omega) (zB_dn_zI hI_S1) (show xB S1 (mR S 70) from by first | (exact (xC_o (W := 75) rp0_S1).2)) (show aS 75 S1 = (aS 75 S1) from by first | (exact rfl)) (show aS 88 S1 = (aS 88 S1) from by first | (exact rfl) | (exact (xC_o (W := 88) rp0_S1).1.trans rp1_S1)) (fun v5 S4 hL_S4 hq_v5 rp0_S4 rp1_S4 rp2_S4 rp3_S4 => zo_n ⟨zG_T hL_S4, ?_⟩) (fun x S9 hx h9 rx0 rx1 rx2 => by have h9u := (zB_up_zI hI_S1 h9); exact zo_x (KX x S9 (by omega) h9u (show xB S9 (mR S9 70) from by first | (exact xB_x (xC_o (W := 75) rx0).2)) (show aS 88 S9 = ab from by first | (exact rx1.trans (rp1_S1.trans hpre1))) (show (x = 4 ∧ (¬ zRq ab o ∨ (zRq ab o ∧ t ≠ -1 ∧ ¬ zRq ab t))) ∨ (x = 1 ∧ zRq ab o ∧ (t = -1 ∨ zRq ab t) ∧ ¬ zHw ab o i) ∨ (x = 5 ∧ zRq ab o ∧ (t = -1 ∨ zRq ab t) ∧ zHw ab o i ∧ ¬ zIr ab o i) from by first | (exact Or.inl ⟨rx2.1, Or.inr ⟨(rq_up rp3_S1 hpre1), rx2.2.1, rq_no rx2.2.2 (rp1_S1.trans hpre1)⟩⟩)) (show (mI S9 82) = fp82 from by first | (exact ((show mI _ 82 = mI _ 82 from funext (fun _ => zG_z h9 rfl)).trans ((show mI S1 82 = mI S 82 from funext (fun _ => zG_z hL_S1 rfl)).trans hpre3)))) (show (mI S9 83) = fp83 from by first | (exact ((show mI _ 83 = mI _ 83 from funext (fun _ => zG_z h9 rfl)).trans ((show mI S1 83 = mI S 83 from funext (fun _ => zG_z hL_S1 rfl)).trans hpre4))))))
  have hI_S4 := zB_up_zI hI_S1 hL_S4
  have rp0_S4 : xB S4 (mR S 70) := by
    have z := rp0_S4
    (try rw [show mI S1 65 = f 65 from funext (fun k => zG_z hI_S1 rfl)] at z)
    (try rw [show mI S1 64 1 = f 64 1 from zG_z hI_S1 rfl] at z)
    exact z
  have rp1_S4 : aS 88 S4 = (aS 88 S1) := by
    have z := rp1_S4
    (try rw [show mI S1 65 = f 65 from funext (fun k => zG_z hI_S1 rfl)] at z)
    (try rw [show mI S1 64 1 = f 64 1 from zG_z hI_S1 rfl] at z)
    exact z
  have rp2_S4 : v5 = zTa (mR S 70) t := by
    have z := rp2_S4
    (try rw [show mI S1 65 = f 65 from funext (fun k => zG_z hI_S1 rfl)] at z)
    (try rw [show mI S1 64 1 = f 64 1 from zG_z hI_S1 rfl] at z)
    exact z
  have rp3_S4 : t = -1 ∨ zRq (aS 75 S1) t := by
    have z := rp3_S4
    (try rw [show mI S1 65 = f 65 from funext (fun k => zG_z hI_S1 rfl)] at z)
    (try rw [show mI S1 64 1 = f 64 1 from zG_z hI_S1 rfl] at z)
    exact z
  refine ⟨zG_n hI_S4 th_c3, ?_⟩
  have b3 := i_bd i
  have li4 : (0 : Int32).toInt = 0 := rfl
  refine zd (fun h5 => ?_) (fun h5 => ?_)
  · skip
    have g6 := i_lt h5
    exact KX 1 _ (by decide) hI_S4 (show xB S4 (mR S4 70) from by first | (exact xB_x (xC_o (W := 75) rp0_S4).2)) (show aS 88 S4 = ab from by first | (exact (xC_o (W := 88) rp0_S4).1.trans (rp1_S4.trans (rp1_S1.trans hpre1)))) (show (1 = 4 ∧ (¬ zRq ab o ∨ (zRq ab o ∧ t ≠ -1 ∧ ¬ zRq ab t))) ∨ (1 = 1 ∧ zRq ab o ∧ (t = -1 ∨ zRq ab t) ∧ ¬ zHw ab o i) ∨ (1 = 5 ∧ zRq ab o ∧ (t = -1 ∨ zRq ab t) ∧ zHw ab o i ∧ ¬ zIr ab o i) from by first | (have ty := xB_th (W := 88) rp0_S4 rg_c3; have z2 := congrArg Int32.toInt ty.2.2.2.2.1; rw [(rp1_S4.trans (rp1_S1.trans hpre1))] at z2; exact Or.inr (Or.inl ⟨rfl, (rq_up rp3_S1 hpre1), (rp3_S4.imp id (fun w => rq_up w (rp1_S1.trans hpre1))), fun w => by have w1 := w.1; have w2 := w.2; omega⟩))) (show (mI S4 82) = fp82 from by first | (exact ((show mI S4 82 = mI S1 82 from funext (fun _ => zG_z hL_S4 rfl)).trans ((show mI S1 82 = mI S 82 from funext (fun _ => zG_z hL_S1 rfl)).trans hpre3)))) (show (mI S4 83) = fp83 from by first | (exact ((show mI S4 83 = mI S1 83 from funext (fun _ => zG_z hL_S4 rfl)).trans ((show mI S1 83 = mI S 83 from funext (fun _ => zG_z hL_S1 rfl)).trans hpre4))))
  · skip
    have g7 := i_nlt h5
    refine ⟨zG_n hI_S4 th_c3, ?_⟩
    have f8 := zG_th hI_S4 th_c3
    first | have e9 : ((mI S4 c3 2) - (1 : Int32)).toInt = (mI S4 c3 2).toInt - (1) := i_subk rfl (by omega) (by omega) | have b10 := i_bd ((mI S4 c3 2) - (1 : Int32))
    refine zd (fun h11 => ?_) (fun h11 => ?_)
    · skip
      have g12 := i_le h11
      exact KX 1 _ (by decide) hI_S4 (show xB S4 (mR S4 70) from by first | (exact xB_x (xC_o (W := 75) rp0_S4).2)) (show aS 88 S4 = ab from by first | (exact (xC_o (W := 88) rp0_S4).1.trans (rp1_S4.trans (rp1_S1.trans hpre1)))) (show (1 = 4 ∧ (¬ zRq ab o ∨ (zRq ab o ∧ t ≠ -1 ∧ ¬ zRq ab t))) ∨ (1 = 1 ∧ zRq ab o ∧ (t = -1 ∨ zRq ab t) ∧ ¬ zHw ab o i) ∨ (1 = 5 ∧ zRq ab o ∧ (t = -1 ∨ zRq ab t) ∧ zHw ab o i ∧ ¬ zIr ab o i) from by first | (have ty := xB_th (W := 88) rp0_S4 rg_c3; have z2 := congrArg Int32.toInt ty.2.2.2.2.1; rw [(rp1_S4.trans (rp1_S1.trans hpre1))] at z2; exact Or.inr (Or.inl ⟨rfl, (rq_up rp3_S1 hpre1), (rp3_S4.imp id (fun w => rq_up w (rp1_S1.trans hpre1))), fun w => by have w1 := w.1; have w2 := w.2; omega⟩))) (show (mI S4 82) = fp82 from by first | (exact ((show mI S4 82 = mI S1 82 from funext (fun _ => zG_z hL_S4 rfl)).trans ((show mI S1 82 = mI S 82 from funext (fun _ => zG_z hL_S1 rfl)).trans hpre3)))) (show (mI S4 83) = fp83 from by first | (exact ((show mI S4 83 = mI S1 83 from funext (fun _ => zG_z hL_S4 rfl)).trans ((show mI S1 83 = mI S 83 from funext (fun _ => zG_z hL_S1 rfl)).trans hpre4))))
    · skip
      have g13 := i_nle h11
      refine ⟨zG_n hI_S4 th_c3, ?_⟩
      refine ⟨zG_n hI_S4 th_c3, ?_⟩
      refine zd (fun h14 => ?_) (fun h14 => ?_)
      · skip
        have g15 := i_lt h14
        exact KX 5 _ (by decide) hI_S4 (show xB S4 (mR S4 70) from by first | (exact xB_x (xC_o (W := 75) rp0_S4).2)) (show aS 88 S4 = ab from by first | (exact (xC_o (W := 88) rp0_S4).1.trans (rp1_S4.trans (rp1_S1.trans hpre1)))) (show (5 = 4 ∧ (¬ zRq ab o ∨ (zRq ab o ∧ t ≠ -1 ∧ ¬ zRq ab t))) ∨ (5 = 1 ∧ zRq ab o ∧ (t = -1 ∨ zRq ab t) ∧ ¬ zHw ab o i) ∨ (5 = 5 ∧ zRq ab o ∧ (t = -1 ∨ zRq ab t) ∧ zHw ab o i ∧ ¬ zIr ab o i) from by first | (exfalso; omega) | (have ty := xB_th (W := 88) rp0_S4 rg_c3; have z2 := congrArg Int32.toInt ty.2.2.2.2.1; rw [(rp1_S4.trans (rp1_S1.trans hpre1))] at z2; exact Or.inr (Or.inr ⟨rfl, (rq_up rp3_S1 hpre1), (rp3_S4.imp id (fun w => rq_up w (rp1_S1.trans hpre1))), ⟨by omega, by omega⟩, ir_n rp0_S4 rg_c3 (rp1_S4.trans (rp1_S1.trans hpre1)) (by omega) (by assumption)⟩))) (show (mI S4 82) = fp82 from by first | (exact ((show mI S4 82 = mI S1 82 from funext (fun _ => zG_z hL_S4 rfl)).trans ((show mI S1 82 = mI S 82 from funext (fun _ => zG_z hL_S1 rfl)).trans hpre3)))) (show (mI S4 83) = fp83 from by first | (exact ((show mI S4 83 = mI S1 83 from funext (fun _ => zG_z hL_S4 rfl)).trans ((show mI S1 83 = mI S 83 from funext (fun _ => zG_z hL_S1 rfl)).trans hpre4))))
      · skip
        have g16 := i_nlt h14
        refine ⟨zG_n hI_S4 th_c3, ?_⟩
        refine zd (fun h17 => ?_) (fun h17 => ?_)
        · skip
          have g18 := i_le h17
          exact KX 5 _ (by decide) hI_S4 (show xB S4 (mR S4 70) from by first | (exact xB_x (xC_o (W := 75) rp0_S4).2)) (show aS 88 S4 = ab from by first | (exact (xC_o (W := 88) rp0_S4).1.trans (rp1_S4.trans (rp1_S1.trans hpre1)))) (show (5 = 4 ∧ (¬ zRq ab o ∨ (zRq ab o ∧ t ≠ -1 ∧ ¬ zRq ab t))) ∨ (5 = 1 ∧ zRq ab o ∧ (t = -1 ∨ zRq ab t) ∧ ¬ zHw ab o i) ∨ (5 = 5 ∧ zRq ab o ∧ (t = -1 ∨ zRq ab t) ∧ zHw ab o i ∧ ¬ zIr ab o i) from by first | (exfalso; omega) | (have ty := xB_th (W := 88) rp0_S4 rg_c3; have z2 := congrArg Int32.toInt ty.2.2.2.2.1; rw [(rp1_S4.trans (rp1_S1.trans hpre1))] at z2; exact Or.inr (Or.inr ⟨rfl, (rq_up rp3_S1 hpre1), (rp3_S4.imp id (fun w => rq_up w (rp1_S1.trans hpre1))), ⟨by omega, by omega⟩, ir_n rp0_S4 rg_c3 (rp1_S4.trans (rp1_S1.trans hpre1)) (by omega) (by assumption)⟩))) (show (mI S4 82) = fp82 from by first | (exact ((show mI S4 82 = mI S1 82 from funext (fun _ => zG_z hL_S4 rfl)).trans ((show mI S1 82 = mI S 82 from funext (fun _ => zG_z hL_S1 rfl)).trans hpre3)))) (show (mI S4 83) = fp83 from by first | (exact ((show mI S4 83 = mI S1 83 from funext (fun _ => zG_z hL_S4 rfl)).trans ((show mI S1 83 = mI S 83 from funext (fun _ => zG_z hL_S1 rfl)).trans hpre4))))
        · skip
          have g19 := i_nle h17
          refine ⟨zG_n hI_S4 th_c3, ?_⟩
          have b20 := i_bd (lg_cmp ((((mL S4 c3 3).toUInt64 >>> (i.toInt64.toUInt64 &&& Int64.toUInt64 63)).toInt64) &&& (1 : Int64)) (0 : Int64))
          refine zd (fun h21 => ?_) (fun h21 => ?_)
          · skip
            have g22 := i_eq h21
            exact KX 5 _ (by decide) hI_S4 (show xB S4 (mR S4 70) from by first | (exact xB_x (xC_o (W := 75) rp0_S4).2)) (show aS 88 S4 = ab from by first | (exact (xC_o (W := 88) rp0_S4).1.trans (rp1_S4.trans (rp1_S1.trans hpre1)))) (show (5 = 4 ∧ (¬ zRq ab o ∨ (zRq ab o ∧ t ≠ -1 ∧ ¬ zRq ab t))) ∨ (5 = 1 ∧ zRq ab o ∧ (t = -1 ∨ zRq ab t) ∧ ¬ zHw ab o i) ∨ (5 = 5 ∧ zRq ab o ∧ (t = -1 ∨ zRq ab t) ∧ zHw ab o i ∧ ¬ zIr ab o i) from by first | (exfalso; omega) | (have ty := xB_th (W := 88) rp0_S4 rg_c3; have z2 := congrArg Int32.toInt ty.2.2.2.2.1; rw [(rp1_S4.trans (rp1_S1.trans hpre1))] at z2; exact Or.inr (Or.inr ⟨rfl, (rq_up rp3_S1 hpre1), (rp3_S4.imp id (fun w => rq_up w (rp1_S1.trans hpre1))), ⟨by omega, by omega⟩, ir_n rp0_S4 rg_c3 (rp1_S4.trans (rp1_S1.trans hpre1)) (by omega) (by assumption)⟩))) (show (mI S4 82) = fp82 from by first | (exact ((show mI S4 82 = mI S1 82 from funext (fun _ => zG_z hL_S4 rfl)).trans ((show mI S1 82 = mI S 82 from funext (fun _ => zG_z hL_S1 rfl)).trans hpre3)))) (show (mI S4 83) = fp83 from by first | (exact ((show mI S4 83 = mI S1 83 from funext (fun _ => zG_z hL_S4 rfl)).trans ((show mI S1 83 = mI S 83 from funext (fun _ => zG_z hL_S1 rfl)).trans hpre4))))
          · skip
            have g23 := i_ne h21
            refine sp_94_69_s (ab := (aS 88 S4)) (R := (mR S 70)) (W := 88) (y := (t)) (yt := (o)) c3 (i) (v5) (by omega) (by omega) (zB_dn_zI hI_S4) th_c3 hq_v5 (show xB S4 (mR S 70) from by first | (exact (xC_o (W := 75) rp0_S4).2)) (show aS 88 S4 = (aS 88 S4) from by first | (exact rfl)) (show xW 88 from by first | (exact xW88) | (exact xW75)) (show zTa (mR S 70) (o) = some c3 from by first | (exact rg_c3)) (show v5 = zTa (mR S 70) (t) from by first | (exact rp2_S4)) (by omega) (fun v7 S6 hL_S6 hq_v7 rp0_S6 rp1_S6 rp2_S6 => zo_n ⟨zG_T hL_S6, ?_⟩)
            have hI_S6 := zB_up_zI hI_S4 hL_S6
            have rp0_S6 : xB S6 (mR S 70) := by
              have z := rp0_S6
              (try rw [show mI S4 65 = f 65 from funext (fun k => zG_z hI_S4 rfl)] at z)
              (try rw [show mI S4 64 1 = f 64 1 from zG_z hI_S4 rfl] at z)
              exact z
            have rp1_S6 : aS 88 S6 = aCi (aS 88 S4) (o).toNatClampNeg i (aNm (aS 88 S4) (t)) := by
              have z := rp1_S6
              (try rw [show mI S4 65 = f 65 from funext (fun k => zG_z hI_S4 rfl)] at z)
              (try rw [show mI S4 64 1 = f 64 1 from zG_z hI_S4 rfl] at z)
              exact z
            have rp2_S6 : v7 = zTa (mR S 70) (aRef (aS 88 S4) (o).toNatClampNeg i) := by
              have z := rp2_S6
              (try rw [show mI S4 65 = f 65 from funext (fun k => zG_z hI_S4 rfl)] at z)
              (try rw [show mI S4 64 1 = f 64 1 from zG_z hI_S4 rfl] at z)
              exact z
            refine sp_8_82_sm (ab := (aS 88 S6)) (R := (mR S 70)) (y := (t)) (yt := (o)) (ag := (aG S6)) (fp82 := (mI S6 82)) c3 (i) (v5) (by omega) (by omega) (zB_dn_zJ82 hI_S6) th_c3 hq_v5 (show xB S6 (mR S 70) from by first | (exact (xC_o (W := 75) rp0_S6).2)) (show aS 88 S6 = (aS 88 S6) from by first | (exact rfl)) (show aG S6 = (aG S6) from by first | (exact rfl)) (show (mI S6 82) = (mI S6 82) from by first | (exact rfl)) (show zTa (mR S 70) (o) = some c3 from by first | (exact rg_c3)) (show v5 = zTa (mR S 70) (t) from by first | (exact rp2_S4)) (by omega) (by omega) (fun S8 hL_S8 rp0_S8 rp1_S8 rp2_S8 rp3_S8 => zv_n ⟨zG_T hL_S8, ?_⟩)
            have hI_S8 := zB_up_zJ82 hI_S6 hL_S8
            have rp0_S8 : xB S8 (mR S 70) := by
              have z := rp0_S8
              (try rw [show mI S6 65 = f 65 from funext (fun k => zG_z hI_S6 rfl)] at z)
              (try rw [show mI S6 64 1 = f 64 1 from zG_z hI_S6 rfl] at z)
              exact z
            have rp1_S8 : aS 88 S8 = (aS 88 S6) := by
              have z := rp1_S8
              (try rw [show mI S6 65 = f 65 from funext (fun k => zG_z hI_S6 rfl)] at z)
              (try rw [show mI S6 64 1 = f 64 1 from zG_z hI_S6 rfl] at z)
              exact z
            have rp2_S8 : aG S8 = (gNr (aG S6) (o).toNatClampNeg i.toInt (t)) := by
              have z := rp2_S8
              (try rw [show mI S6 65 = f 65 from funext (fun k => zG_z hI_S6 rfl)] at z)
              (try rw [show mI S6 64 1 = f 64 1 from zG_z hI_S6 rfl] at z)
              exact z
            have rp3_S8 : (mI S8 82) = (mI S6 82) := by
              have z := rp3_S8
              (try rw [show mI S6 65 = f 65 from funext (fun k => zG_z hI_S6 rfl)] at z)
              (try rw [show mI S6 64 1 = f 64 1 from zG_z hI_S6 rfl] at z)
              exact z
            refine ⟨fun hc => ?_, fun c10 hc => ?_⟩
            · skip
              have rn_c10 : zTa (mR S 70) (aRef (aS 88 S4) (o).toNatClampNeg i) = none := rp2_S6.symm.trans hc
              have li24 : (-1 : Int32).toInt = -1 := rfl
              exact K ((-1 : Int32)) _ hI_S8 trivial (show xB S8 (mR S8 70) from by first | (exact xB_x (xC_o (W := 75) rp0_S8).2)) (show zRq ab o ∧ (t = -1 ∨ zRq ab t) ∧ zHw ab o i ∧ zIr ab o i ∧ aS 88 S8 = aL0 ab o.toNatClampNeg i t ∧ (-1 : Int32) = aNm ab (aRef ab o.toNatClampNeg i) from by first | (exfalso; omega) | (have ty := xB_th (W := 88) rp0_S4 rg_c3; have z2 := congrArg Int32.toInt ty.2.2.2.2.1; rw [(rp1_S4.trans (rp1_S1.trans hpre1))] at z2; have ns := rp1_S8.trans rp1_S6; rw [(rp1_S4.trans (rp1_S1.trans hpre1))] at ns; have nn := nm_n (W := 88) rp0_S4 rn_c10; rw [(rp1_S4.trans (rp1_S1.trans hpre1))] at nn; exact ⟨(rq_up rp3_S1 hpre1), (rp3_S4.imp id (fun w => rq_up w (rp1_S1.trans hpre1))), ⟨by omega, by omega⟩, ir_y rp0_S4 rg_c3 (rp1_S4.trans (rp1_S1.trans hpre1)) (by omega) (by assumption), ns, (by exact nn.symm)⟩)) (show (mI S8 82) = fp82 from by first | (exact (rp3_S8.trans ((show mI S6 82 = mI S4 82 from funext (fun _ => zG_z hL_S6 rfl)).trans ((show mI S4 82 = mI S1 82 from funext (fun _ => zG_z hL_S4 rfl)).trans ((show mI S1 82 = mI S 82 from funext (fun _ => zG_z hL_S1 rfl)).trans hpre3)))))) (show (mI S8 83) = gNr ag o.toNatClampNeg i.toInt t 83 from by first | (exfalso; omega) | (have ns := rp1_S6; rw [(rp1_S4.trans (rp1_S1.trans hpre1))] at ns; exact Nr_row rp2_S8 (Nr_li hpre1 ns (((show mI S6 82 = mI S4 82 from funext (fun _ => zG_z hL_S6 rfl)).trans ((show mI S4 82 = mI S1 82 from funext (fun _ => zG_z hL_S4 rfl)).trans ((show mI S1 82 = mI S 82 from funext (fun _ => zG_z hL_S1 rfl)).trans hpre3))).trans hpre3.symm) (((show mI S6 83 = mI S4 83 from funext (fun _ => zG_z hL_S6 rfl)).trans ((show mI S4 83 = mI S1 83 from funext (fun _ => zG_z hL_S4 rfl)).trans ((show mI S1 83 = mI S 83 from funext (fun _ => zG_z hL_S1 rfl)).trans hpre4))).trans hpre4.symm) hpre2)))
            · skip
              have th_c10 := hq_v7 c10 hc
              have rg_c10 : zTa (mR S 70) (aRef (aS 88 S4) (o).toNatClampNeg i) = some c10 := rp2_S6.symm.trans hc
              subst hc
              refine ⟨zG_n hI_S8 th_c10, ?_⟩
              have f25 := zG_th hI_S8 th_c10
              exact K ((mI S8 c10 0)) _ hI_S8 trivial (show xB S8 (mR S8 70) from by first | (exact xB_x (xC_o (W := 75) rp0_S8).2)) (show zRq ab o ∧ (t = -1 ∨ zRq ab t) ∧ zHw ab o i ∧ zIr ab o i ∧ aS 88 S8 = aL0 ab o.toNatClampNeg i t ∧ (mI S8 c10 0) = aNm ab (aRef ab o.toNatClampNeg i) from by first | (exfalso; omega) | (have ty := xB_th (W := 88) rp0_S4 rg_c3; have z2 := congrArg Int32.toInt ty.2.2.2.2.1; rw [(rp1_S4.trans (rp1_S1.trans hpre1))] at z2; have ns := rp1_S8.trans rp1_S6; rw [(rp1_S4.trans (rp1_S1.trans hpre1))] at ns; have nn := nm_y (W := 88) rp0_S4 rg_c10; have tn := (xB_th (W := 88) rp0_S8 rg_c10).2.2.1; rw [(rp1_S4.trans (rp1_S1.trans hpre1))] at nn; exact ⟨(rq_up rp3_S1 hpre1), (rp3_S4.imp id (fun w => rq_up w (rp1_S1.trans hpre1))), ⟨by omega, by omega⟩, ir_y rp0_S4 rg_c3 (rp1_S4.trans (rp1_S1.trans hpre1)) (by omega) (by assumption), ns, (by rw [tn]; (try rw [(rp1_S4.trans (rp1_S1.trans hpre1))]); exact nn.symm)⟩)) (show (mI S8 82) = fp82 from by first | (exact (rp3_S8.trans ((show mI S6 82 = mI S4 82 from funext (fun _ => zG_z hL_S6 rfl)).trans ((show mI S4 82 = mI S1 82 from funext (fun _ => zG_z hL_S4 rfl)).trans ((show mI S1 82 = mI S 82 from funext (fun _ => zG_z hL_S1 rfl)).trans hpre3)))))) (show (mI S8 83) = gNr ag o.toNatClampNeg i.toInt t 83 from by first | (exfalso; omega) | (have ns := rp1_S6; rw [(rp1_S4.trans (rp1_S1.trans hpre1))] at ns; exact Nr_row rp2_S8 (Nr_li hpre1 ns (((show mI S6 82 = mI S4 82 from funext (fun _ => zG_z hL_S6 rfl)).trans ((show mI S4 82 = mI S1 82 from funext (fun _ => zG_z hL_S4 rfl)).trans ((show mI S1 82 = mI S 82 from funext (fun _ => zG_z hL_S1 rfl)).trans hpre3))).trans hpre3.symm) (((show mI S6 83 = mI S4 83 from funext (fun _ => zG_z hL_S6 rfl)).trans ((show mI S4 83 = mI S1 83 from funext (fun _ => zG_z hL_S4 rfl)).trans ((show mI S1 83 = mI S 83 from funext (fun _ => zG_z hL_S1 rfl)).trans hpre4))).trans hpre4.symm) hpre2)))

/-! from 95.u41 -/
/-! AGES, the class (written by wip/tools/gen15y.py) -/
theorem g_18_82_sm_0 {X : Nat × (Nat → Int32)} {d w : Nat} {S : ma_S} {Q : Option ma_V ⊕ Nat → ma_S → Prop} (t : Nat) (hd : 1 ≤ d) (hw : 21 ≤ w) (hS : zT S) (h : (126 ≤ t ∧ t < mN S) ∧ (if (mI S t 4) < (mI S 82 3) then (Q (.inl (some (.inl (1 : Int32)))) S) else (Q (.inl (some (.inl (0 : Int32)))) S))) : ma_wp X d w 18 0 [(0, .inr (.inr (some 82))), (1, .inr (.inr (some t)))] [] S Q := by
  refine zw_push hm_18 dX0_canHold_0 (v := .inr (.inr (some 82))) rfl ?_
  refine zw_push hm_18 dX0_canHold_1 (v := .inr (.inr (some t))) rfl ?_
  refine zw_cv hm_18 dX0_canHold_2 v_1_58_1 hm_7 [.inr (.inr (some t))] [] rfl (zT_rt hS s_82 rfl) ⟨by omega, by omega⟩ rfl ?_
  show ma_wp X (d - 1) (w - 21) 7 0 [(0, .inr (.inr (some 82))), (1, .inr (.inr (some t)))] [] S _
  refine zw_push hm_7 dX0_isYoung_0 (v := .inr (.inr (some t))) rfl ?_
  obtain ⟨hg, h⟩ := h
  refine zw_gf hm_7 dX0_isYoung_1 (v := .inl (mI S t 4)) (zT_tis hS hg) (zT_tt hS hg) rfl f_1_62_9 rfl ?_
  refine zw_push hm_7 dX0_isYoung_4 (v := .inr (.inr (some 82))) rfl ?_
  refine zw_gf hm_7 dX0_isYoung_5 (v := .inl (mI S 82 3)) (zT_is hS s_82) (zT_t hS s_82) rfl f_1_19_1 rfl ?_
  refine zw_if2 hm_7 dX0_isYoung_8 (t := 15) rfl zc2_lt ?_ ?_
  · intro hc
    rw [if_pos hc] at h
    refine zw_push hm_7 dX0_isYoung_15 (v := .inl (0 : Int32)) rfl ?_
    refine zw_bret hm_7 dX0_isYoung_16 (by decide) ?_
    show ma_wp X d w 18 5 [(0, .inr (.inr (some 82))), (1, .inr (.inr (some t)))] [.inl (0 : Int32)] S _
    refine zw_if0 hm_18 dX0_canHold_5 (t := 12) rfl zc0_ne (fun hc => absurd hc (by decide)) (fun _ => ?_)
    refine zw_push hm_18 dX0_canHold_8 (v := .inl (1 : Int32)) rfl ?_
    refine zw_goto hm_18 dX0_canHold_9 (t := 13) rfl ?_
    exact zw_bret hm_18 dX0_canHold_13 (by decide) h
  · intro hc
    rw [if_neg hc] at h
    refine zw_push hm_7 dX0_isYoung_11 (v := .inl (1 : Int32)) rfl ?_
    refine zw_goto hm_7 dX0_isYoung_12 (t := 16) rfl ?_
    refine zw_bret hm_7 dX0_isYoung_16 (by decide) ?_
    show ma_wp X d w 18 5 [(0, .inr (.inr (some 82))), (1, .inr (.inr (some t)))] [.inl (1 : Int32)] S _
    refine zw_if0 hm_18 dX0_canHold_5 (t := 12) rfl zc0_ne (fun _ => ?_) (fun hc => absurd (by decide) hc)
    refine zw_push hm_18 dX0_canHold_12 (v := .inl (0 : Int32)) rfl ?_
    exact zw_bret hm_18 dX0_canHold_13 (by decide) h
theorem sp_18_82_sm {X : Nat × (Nat → Int32)} {d w : Nat} {f : Nat → Nat → Int32} {r : Nat → Nat → Option Nat} {C Z N : Nat} {Q : Option ma_V ⊕ Nat → ma_S → Prop} {S : ma_S} (t : Nat) (hd : 1 ≤ d) (hw : 21 ≤ w) (hI : zJ82 f r C Z N S) (th_t : 126 ≤ t ∧ t < N) (K : ∀ v S₉, S₉ = S → (v = 0 ∨ v = 1) → ((v.toInt = 1 ∧ (mI S t 4).toInt < (mI S 82 3).toInt) ∨ (v.toInt = 0 ∧ (mI S 82 3).toInt ≤ (mI S t 4).toInt)) → Q (.inl (some (.inl v))) S₉) : ma_wp X d w 18 0 [(0, .inr (.inr (some 82))), (1, .inr (.inr (some t)))] [] S Q := by
  refine g_18_82_sm_0 t (by omega) (by omega) (zG_T hI) ?_
  refine ⟨zG_n hI th_t, ?_⟩
  have f1 := zG_th hI th_t
  have x2 : (mI S 82 3).toInt ≤ (mI S 82 7).toInt ∧ (mI S 82 7).toInt ≤ (mI S 82 3).toInt + (mI S 82 2).toInt := zG_x hI
  have f3 := zG_s hI (0) (1500) (c := 82) (k := 3) (by decide)
  refine zd (fun h4 => ?_) (fun h4 => ?_)
  · skip
    have g5 := i_lt h4
    have li6 : (1 : Int32).toInt = 1 := rfl
    exact K ((1 : Int32)) _ rfl (by decide) (show ((1 : Int32).toInt = 1 ∧ (mI S t 4).toInt < (mI S 82 3).toInt) ∨ ((1 : Int32).toInt = 0 ∧ (mI S 82 3).toInt ≤ (mI S t 4).toInt) from by first | (exact Or.inl ⟨rfl, by omega⟩) | (exact Or.inr ⟨rfl, by omega⟩))
  · skip
    have g7 := i_nlt h4
    have li8 : (0 : Int32).toInt = 0 := rfl
    exact K ((0 : Int32)) _ rfl (by decide) (show ((0 : Int32).toInt = 1 ∧ (mI S t 4).toInt < (mI S 82 3).toInt) ∨ ((0 : Int32).toInt = 0 ∧ (mI S 82 3).toInt ≤ (mI S t 4).toInt) from by first | (exact Or.inl ⟨rfl, by omega⟩) | (exact Or.inr ⟨rfl, by omega⟩))

/-! from 95.u42 -/
/-! AGES, the class (written by wip/tools/gen15y.py) -/
theorem g_156_64_sm_p82_0 {X : Nat × (Nat → Int32)} {d w : Nat} {S : ma_S} {Q : Option ma_V ⊕ Nat → ma_S → Prop} (o : Int32) (b : Int32) (hd : 7 ≤ d) (hw : 111 ≤ w) (hS : zT S) (h : mR S 64 11 = some 82 ∧ (mR S 64 11 = some 82 ∧ (ma_wp X (d - 1) (w - 22) 149 0 [(0, .inr (.inr (some 64))), (1, .inl o)] [] S (zo (fun v2 S1 => zT S1 ∧ ((∃ c3, v2 = some c3 ∧ (ma_wp X (d - 1) (w - 21) 18 0 [(0, .inr (.inr (some 82))), (1, .inr (.inr (some c3)))] [] S1 (zi (fun v5 S4 => zT S4 ∧ (if v5 = 0 then (Q (.inr 6) (ma_bump S4)) else (if b = 0 then ((126 ≤ c3 ∧ c3 < mN S4) ∧ (if (mI S4 c3 7) = 0 then (Q (.inr 6) (ma_bump S4)) else (if b = 0 then (ma_wp X (d - 1) (w - 22) 97 0 [(0, .inr (.inr (some 69))), (1, .inr (.inr (some c3))), (2, .inl (-1 : Int32))] [] S4 (zv (fun S10 => zT S10 ∧ ((126 ≤ c3 ∧ c3 < mN S10) ∧ (Q (.inl (some (.inl (mI S10 c3 7)))) S10))) (fun x S9 => Q (.inr x) S9))) else (ma_wp X (d - 1) (w - 22) 97 0 [(0, .inr (.inr (some 69))), (1, .inr (.inr (some c3))), (2, .inl (1 : Int32))] [] S4 (zv (fun S12 => zT S12 ∧ ((126 ≤ c3 ∧ c3 < mN S12) ∧ (Q (.inl (some (.inl (mI S12 c3 7)))) S12))) (fun x S9 => Q (.inr x) S9)))))) else (if b = 0 then (ma_wp X (d - 1) (w - 22) 97 0 [(0, .inr (.inr (some 69))), (1, .inr (.inr (some c3))), (2, .inl (-1 : Int32))] [] S4 (zv (fun S6 => zT S6 ∧ ((126 ≤ c3 ∧ c3 < mN S6) ∧ (Q (.inl (some (.inl (mI S6 c3 7)))) S6))) (fun x S9 => Q (.inr x) S9))) else (ma_wp X (d - 1) (w - 22) 97 0 [(0, .inr (.inr (some 69))), (1, .inr (.inr (some c3))), (2, .inl (1 : Int32))] [] S4 (zv (fun S8 => zT S8 ∧ ((126 ≤ c3 ∧ c3 < mN S8) ∧ (Q (.inl (some (.inl (mI S8 c3 7)))) S8))) (fun x S9 => Q (.inr x) S9))))))) (fun _ _ => False)))))) (fun x S9 => Q (.inr x) S9))))) : ma_wp X d w 156 0 [(0, .inr (.inr (some 64))), (1, .inl o), (2, .inl b)] [] S Q := by
  refine zw_push hm_156 dX11_hold_0 (v := .inr (.inr (some 64))) rfl ?_
  refine zw_cv hm_156 dX11_hold_1 v_11_119_11 hm_144 [] [] rfl (zT_rt hS s_64 rfl) ⟨by omega, by omega⟩ rfl ?_
  show ma_wp X (d - 1) (w - 20) 144 0 [(0, .inr (.inr (some 64)))] [] S _
  refine zw_push hm_144 dX11_needCollector_0 (v := .inr (.inr (some 64))) rfl ?_
  obtain ⟨hg, h⟩ := h
  refine zw_gf hm_144 dX11_needCollector_1 (v := .inr (.inr (some 82))) (zT_is hS s_64) (zT_t hS s_64) rfl f_11_98_11 (congrArg (fun z => Sum.inr (Sum.inr z)) hg) ?_
  refine zw_ifnonnull hm_144 dX11_needCollector_4 (t := 15) rfl (fun z => by cases z) (fun _ _ => ?_)
  refine zw_push hm_144 dX11_needCollector_15 (v := .inr (.inr (some 64))) rfl ?_
  obtain ⟨hg, h⟩ := h
  refine zw_gf hm_144 dX11_needCollector_16 (v := .inr (.inr (some 82))) (zT_is hS s_64) (zT_t hS s_64) rfl f_11_98_11 (congrArg (fun z => Sum.inr (Sum.inr z)) hg) ?_
  refine zw_aret hm_144 dX11_needCollector_19 ?_
  show ma_wp X d w 156 4 [(0, .inr (.inr (some 64))), (1, .inl o), (2, .inl b)] [.inr (.inr (some 82))] S _
  refine zw_sto hm_156 dX11_hold_4 [(3, .inr (.inr (some 82))), (0, .inr (.inr (some 64))), (1, .inl o), (2, .inl b)] rfl rfl rfl ?_
  refine zw_push hm_156 dX11_hold_5 (v := .inr (.inr (some 64))) rfl ?_
  refine zw_push hm_156 dX11_hold_6 (v := .inl o) rfl ?_
  refine zw_cv hm_156 dX11_hold_7 v_11_123_11 hm_149 [.inl o] [] rfl (zT_rt hS s_64 rfl) ⟨by omega, by omega⟩ rfl (zw_mono h (zo_go ?_ ?_))
  · intro v2 S1 hv
    obtain ⟨hS1, h⟩ := hv
    obtain ⟨c3, hc, h⟩ := h
    subst hc
    show ma_wp X d w 156 10 [(3, .inr (.inr (some 82))), (0, .inr (.inr (some 64))), (1, .inl o), (2, .inl b)] [.inr (.inr (some c3))] S1 _
    refine zw_sto hm_156 dX11_hold_10 [(4, .inr (.inr (some c3))), (3, .inr (.inr (some 82))), (0, .inr (.inr (some 64))), (1, .inl o), (2, .inl b)] rfl rfl rfl ?_
    refine zw_push hm_156 dX11_hold_12 (v := .inr (.inr (some 82))) rfl ?_
    refine zw_push hm_156 dX11_hold_13 (v := .inr (.inr (some c3))) rfl ?_
    refine zw_cv hm_156 dX11_hold_15 v_11_185_1 hm_18 [.inr (.inr (some c3))] [] rfl (zT_rt hS1 s_82 rfl) ⟨by omega, by omega⟩ rfl (zw_mono h (zi_go ?_ ?_))
    · intro v5 S4 hv
      obtain ⟨hS4, h⟩ := hv
      refine zw_if0 hm_156 dX11_hold_18 (t := 33) rfl zc0_eq ?_ ?_
      · intro hc
        rw [if_pos hc] at h
        exact zw_thr hm_156 dX11_hold_33 dX11_hold_36 dX11_hold_37 dX11_hold_40 x_11_192_194 n_11_192 (by omega) (by show 0 + 81 ≤ w; omega) h
      · intro hc
        rw [if_neg hc] at h
        refine zw_push hm_156 dX11_hold_21 (v := .inl b) rfl ?_
        refine zw_if0 hm_156 dX11_hold_22 (t := 41) rfl zc0_ne ?_ ?_
        · intro hc
          rw [if_neg hc] at h
          refine zw_push hm_156 dX11_hold_41 (v := .inr (.inr (some 64))) rfl ?_
          refine zw_gf hm_156 dX11_hold_42 (v := .inr (.inr (some 69))) (zT_is hS4 s_64) (zT_t hS4 s_64) rfl f_11_26_11 (zT_f hS4 r_64_8) ?_
          refine zw_push hm_156 dX11_hold_45 (v := .inr (.inr (some c3))) rfl ?_
          refine zw_push hm_156 dX11_hold_47 (v := .inl b) rfl ?_
          refine zw_if0 hm_156 dX11_hold_48 (t := 55) rfl zc0_eq ?_ ?_
          · intro hc
            rw [if_pos hc] at h
            refine zw_push hm_156 dX11_hold_55 (v := .inl (-1 : Int32)) rfl ?_
            refine zw_cv hm_156 dX11_hold_56 v_11_195_7 hm_97 [.inl (-1 : Int32), .inr (.inr (some c3))] [] rfl (zT_rt hS4 s_69 rfl) ⟨by omega, by omega⟩ rfl (zw_mono h (zv_go ?_ ?_))
            · intro S6 hv
              obtain ⟨hS6, h⟩ := hv
              refine zw_push hm_156 dX11_hold_59 (v := .inr (.inr (some 82))) rfl ?_
              refine zw_push hm_156 dX11_hold_60 (v := .inr (.inr (some c3))) rfl ?_
              refine zw_cv hm_156 dX11_hold_62 v_11_157_1 hm_266 [.inr (.inr (some c3))] [] rfl (zT_rt hS6 s_82 rfl) ⟨by omega, by omega⟩ rfl ?_
              show ma_wp X (d - 1) (w - 21) 266 0 [(0, .inr (.inr (some 82))), (1, .inr (.inr (some c3)))] [] S6 _
              refine zw_vret hm_266 dX1_noteFewer_0 ?_
              show ma_wp X d w 156 65 [(4, .inr (.inr (some c3))), (3, .inr (.inr (some 82))), (0, .inr (.inr (some 64))), (1, .inl o), (2, .inl b)] [] S6 _
              refine zw_push hm_156 dX11_hold_65 (v := .inr (.inr (some c3))) rfl ?_
              obtain ⟨hg, h⟩ := h
              refine zw_gf hm_156 dX11_hold_67 (v := .inl (mI S6 c3 7)) (zT_tis hS6 hg) (zT_tt hS6 hg) rfl f_11_189_9 rfl ?_
              exact zw_iret hm_156 dX11_hold_70 h
            · intro x S9 hx
              exact ⟨by decide, hx⟩
          · intro hc
            rw [if_neg hc] at h
            refine zw_push hm_156 dX11_hold_51 (v := .inl (1 : Int32)) rfl ?_
            refine zw_goto hm_156 dX11_hold_52 (t := 56) rfl ?_
            refine zw_cv hm_156 dX11_hold_56 v_11_195_7 hm_97 [.inl (1 : Int32), .inr (.inr (some c3))] [] rfl (zT_rt hS4 s_69 rfl) ⟨by omega, by omega⟩ rfl (zw_mono h (zv_go ?_ ?_))
            · intro S8 hv
              obtain ⟨hS8, h⟩ := hv
              refine zw_push hm_156 dX11_hold_59 (v := .inr (.inr (some 82))) rfl ?_
              refine zw_push hm_156 dX11_hold_60 (v := .inr (.inr (some c3))) rfl ?_
              refine zw_cv hm_156 dX11_hold_62 v_11_157_1 hm_266 [.inr (.inr (some c3))] [] rfl (zT_rt hS8 s_82 rfl) ⟨by omega, by omega⟩ rfl ?_
              show ma_wp X (d - 1) (w - 21) 266 0 [(0, .inr (.inr (some 82))), (1, .inr (.inr (some c3)))] [] S8 _
              refine zw_vret hm_266 dX1_noteFewer_0 ?_
              show ma_wp X d w 156 65 [(4, .inr (.inr (some c3))), (3, .inr (.inr (some 82))), (0, .inr (.inr (some 64))), (1, .inl o), (2, .inl b)] [] S8 _
              refine zw_push hm_156 dX11_hold_65 (v := .inr (.inr (some c3))) rfl ?_
              obtain ⟨hg, h⟩ := h
              refine zw_gf hm_156 dX11_hold_67 (v := .inl (mI S8 c3 7)) (zT_tis hS8 hg) (zT_tt hS8 hg) rfl f_11_189_9 rfl ?_
              exact zw_iret hm_156 dX11_hold_70 h
            · intro x S9 hx
              exact ⟨by decide, hx⟩
        · intro hc
          rw [if_pos (Classical.not_not.mp hc)] at h
          refine zw_push hm_156 dX11_hold_25 (v := .inr (.inr (some c3))) rfl ?_
          obtain ⟨hg, h⟩ := h
          refine zw_gf hm_156 dX11_hold_27 (v := .inl (mI S4 c3 7)) (zT_tis hS4 hg) (zT_tt hS4 hg) rfl f_11_189_9 rfl ?_
          refine zw_if0 hm_156 dX11_hold_30 (t := 41) rfl zc0_ne ?_ ?_
          · intro hc
            rw [if_neg hc] at h
            refine zw_push hm_156 dX11_hold_41 (v := .inr (.inr (some 64))) rfl ?_
            refine zw_gf hm_156 dX11_hold_42 (v := .inr (.inr (some 69))) (zT_is hS4 s_64) (zT_t hS4 s_64) rfl f_11_26_11 (zT_f hS4 r_64_8) ?_
            refine zw_push hm_156 dX11_hold_45 (v := .inr (.inr (some c3))) rfl ?_
            refine zw_push hm_156 dX11_hold_47 (v := .inl b) rfl ?_
            refine zw_if0 hm_156 dX11_hold_48 (t := 55) rfl zc0_eq ?_ ?_
            · intro hc
              rw [if_pos hc] at h
              refine zw_push hm_156 dX11_hold_55 (v := .inl (-1 : Int32)) rfl ?_
              refine zw_cv hm_156 dX11_hold_56 v_11_195_7 hm_97 [.inl (-1 : Int32), .inr (.inr (some c3))] [] rfl (zT_rt hS4 s_69 rfl) ⟨by omega, by omega⟩ rfl (zw_mono h (zv_go ?_ ?_))
              · intro S10 hv
                obtain ⟨hS10, h⟩ := hv
                refine zw_push hm_156 dX11_hold_59 (v := .inr (.inr (some 82))) rfl ?_
                refine zw_push hm_156 dX11_hold_60 (v := .inr (.inr (some c3))) rfl ?_
                refine zw_cv hm_156 dX11_hold_62 v_11_157_1 hm_266 [.inr (.inr (some c3))] [] rfl (zT_rt hS10 s_82 rfl) ⟨by omega, by omega⟩ rfl ?_
                show ma_wp X (d - 1) (w - 21) 266 0 [(0, .inr (.inr (some 82))), (1, .inr (.inr (some c3)))] [] S10 _
                refine zw_vret hm_266 dX1_noteFewer_0 ?_
                show ma_wp X d w 156 65 [(4, .inr (.inr (some c3))), (3, .inr (.inr (some 82))), (0, .inr (.inr (some 64))), (1, .inl o), (2, .inl b)] [] S10 _
                refine zw_push hm_156 dX11_hold_65 (v := .inr (.inr (some c3))) rfl ?_
                obtain ⟨hg, h⟩ := h
                refine zw_gf hm_156 dX11_hold_67 (v := .inl (mI S10 c3 7)) (zT_tis hS10 hg) (zT_tt hS10 hg) rfl f_11_189_9 rfl ?_
                exact zw_iret hm_156 dX11_hold_70 h
              · intro x S9 hx
                exact ⟨by decide, hx⟩
            · intro hc
              rw [if_neg hc] at h
              refine zw_push hm_156 dX11_hold_51 (v := .inl (1 : Int32)) rfl ?_
              refine zw_goto hm_156 dX11_hold_52 (t := 56) rfl ?_
              refine zw_cv hm_156 dX11_hold_56 v_11_195_7 hm_97 [.inl (1 : Int32), .inr (.inr (some c3))] [] rfl (zT_rt hS4 s_69 rfl) ⟨by omega, by omega⟩ rfl (zw_mono h (zv_go ?_ ?_))
              · intro S12 hv
                obtain ⟨hS12, h⟩ := hv
                refine zw_push hm_156 dX11_hold_59 (v := .inr (.inr (some 82))) rfl ?_
                refine zw_push hm_156 dX11_hold_60 (v := .inr (.inr (some c3))) rfl ?_
                refine zw_cv hm_156 dX11_hold_62 v_11_157_1 hm_266 [.inr (.inr (some c3))] [] rfl (zT_rt hS12 s_82 rfl) ⟨by omega, by omega⟩ rfl ?_
                show ma_wp X (d - 1) (w - 21) 266 0 [(0, .inr (.inr (some 82))), (1, .inr (.inr (some c3)))] [] S12 _
                refine zw_vret hm_266 dX1_noteFewer_0 ?_
                show ma_wp X d w 156 65 [(4, .inr (.inr (some c3))), (3, .inr (.inr (some 82))), (0, .inr (.inr (some 64))), (1, .inl o), (2, .inl b)] [] S12 _
                refine zw_push hm_156 dX11_hold_65 (v := .inr (.inr (some c3))) rfl ?_
                obtain ⟨hg, h⟩ := h
                refine zw_gf hm_156 dX11_hold_67 (v := .inl (mI S12 c3 7)) (zT_tis hS12 hg) (zT_tt hS12 hg) rfl f_11_189_9 rfl ?_
                exact zw_iret hm_156 dX11_hold_70 h
              · intro x S9 hx
                exact ⟨by decide, hx⟩
          · intro hc
            rw [if_pos (Classical.not_not.mp hc)] at h
            exact zw_thr hm_156 dX11_hold_33 dX11_hold_36 dX11_hold_37 dX11_hold_40 x_11_192_194 n_11_192 (by omega) (by show 0 + 81 ≤ w; omega) h
    · intro x S9 hx
      exact hx.elim
  · intro x S9 hx
    exact ⟨by decide, hx⟩
theorem sp_156_64_sm_p82 {X : Nat × (Nat → Int32)} {d w : Nat} {f : Nat → Nat → Int32} {r : Nat → Nat → Option Nat} {C Z N : Nat} {Q : Option ma_V ⊕ Nat → ma_S → Prop} {ab : Nat→Nat→Int32} {fp82 : Nat→Int32} {fp83 : Nat→Int32} {S : ma_S} (o : Int32) (b : Int32) (hd : 7 ≤ d) (hw : 111 ≤ w) (hI : zB f r C Z N S) (hr : r 64 11 = some 82) (hpre0 : xB S (mR S 70)) (hpre1 : aS 88 S = ab) (hpre2 : 0 ≤ b.toInt) (hpre3 : b.toInt ≤ 1) (hpre4 : (mI S 82) = fp82) (hpre5 : (mI S 83) = fp83) (K : ∀ v S₉, zB f r C Z N S₉ → (True) → (xB S₉ (mR S₉ 70)) → (zRq ab o ∧ (ab 130 o.toNatClampNeg).toInt < (fp82 3).toInt ∧ (¬ b = 0 ∨ ¬ ab 133 o.toNatClampNeg = 0) ∧ aS 88 S₉ = ma_u ab 133 o.toNatClampNeg (ab 133 o.toNatClampNeg + (if b = 0 then -1 else 1)) ∧ v = ab 133 o.toNatClampNeg + (if b = 0 then -1 else 1)) → ((mI S₉ 82) = fp82) → ((mI S₉ 83) = fp83) → Q (.inl (some (.inl v))) S₉) (KX : ∀ x S₉, (x = 4 ∨ x = 6) → zB f r C Z N S₉ → (xB S₉ (mR S₉ 70)) → (aS 88 S₉ = ab) → ((x = 4 ∧ ¬ zRq ab o) ∨ (x = 6 ∧ zRq ab o ∧ (¬ (ab 130 o.toNatClampNeg).toInt < (fp82 3).toInt ∨ (b = 0 ∧ ab 133 o.toNatClampNeg = 0)))) → ((mI S₉ 82) = fp82) → ((mI S₉ 83) = fp83) → Q (.inr x) (ma_bump S₉)) : ma_wp X d w 156 0 [(0, .inr (.inr (some 64))), (1, .inl o), (2, .inl b)] [] S Q := by
  refine g_156_64_sm_p82_0 o b (by omega) (by omega) (zG_T hI) ?_
  refine ⟨((zG_r hI (by decide)).trans hr), ?_⟩
  refine ⟨((zG_r hI (by decide)).trans hr), ?_⟩
  have b1 := i_bd o
  refine sp_149_64_s (R := (mR S 70)) (a7 := (aS 75 S)) (a8 := (aS 88 S)) (o) (by omega) (by omega) (zB_dn_zI hI) (show xB S (mR S 70) from by first | (exact (xC_o (W := 75) hpre0).2)) (show aS 75 S = (aS 75 S) from by first | (exact rfl)) (show aS 88 S = (aS 88 S) from by first | (exact rfl)) (fun v2 S1 hL_S1 hq_v2 rp0_S1 rp1_S1 rp2_S1 rp3_S1 => zo_n ⟨zG_T hL_S1, ?_⟩) (fun x S9 hx h9 rx0 rx1 rx2 => by have h9u := (zB_up_zI hI h9); exact zo_x (KX x S9 (by omega) h9u (show xB S9 (mR S9 70) from by first | (exact xB_x (xC_o (W := 75) rx0).2)) (show aS 88 S9 = ab from by first | (exact rx1.trans hpre1)) (show (x = 4 ∧ ¬ zRq ab o) ∨ (x = 6 ∧ zRq ab o ∧ (¬ (ab 130 o.toNatClampNeg).toInt < (fp82 3).toInt ∨ (b = 0 ∧ ab 133 o.toNatClampNeg = 0))) from by first | (exact Or.inl ⟨rx2.1, rq_no rx2.2 hpre1⟩)) (show (mI S9 82) = fp82 from by first | (exact ((show mI _ 82 = mI _ 82 from funext (fun _ => zG_z h9 rfl)).trans hpre4))) (show (mI S9 83) = fp83 from by first | (exact ((show mI _ 83 = mI _ 83 from funext (fun _ => zG_z h9 rfl)).trans hpre5)))))
  have hI_S1 := zB_up_zI hI hL_S1
  have rp0_S1 : xB S1 (mR S 70) := by
    have z := rp0_S1
    (try rw [show mI S 65 = f 65 from funext (fun k => zG_z hI rfl)] at z)
    (try rw [show mI S 64 1 = f 64 1 from zG_z hI rfl] at z)
    exact z
  have rp1_S1 : aS 88 S1 = (aS 88 S) := by
    have z := rp1_S1
    (try rw [show mI S 65 = f 65 from funext (fun k => zG_z hI rfl)] at z)
    (try rw [show mI S 64 1 = f 64 1 from zG_z hI rfl] at z)
    exact z
  have rp2_S1 : v2 = zTa (mR S 70) o := by
    have z := rp2_S1
    (try rw [show mI S 65 = f 65 from funext (fun k => zG_z hI rfl)] at z)
    (try rw [show mI S 64 1 = f 64 1 from zG_z hI rfl] at z)
    exact z
  have rp3_S1 : zRq (aS 75 S) o := by
    have z := rp3_S1
    (try rw [show mI S 65 = f 65 from funext (fun k => zG_z hI rfl)] at z)
    (try rw [show mI S 64 1 = f 64 1 from zG_z hI rfl] at z)
    exact z
  obtain ⟨c3, hc, th_c3⟩ := hq_v2
  have rg_c3 : zTa (mR S 70) o = some c3 := rp2_S1.symm.trans hc
  refine ⟨c3, hc, ?_⟩
  refine sp_18_82_sm c3 (by omega) (by omega) (zB_dn_zJ82 hI_S1) th_c3 (fun v5 S4 eS_S4 hp_v5 rp0_S4 => zi_n ⟨(by rw [eS_S4]; exact zG_T hI_S1), ?_⟩)
  replace eS_S4 := eS_S4.symm; subst eS_S4
  have rp0_S4 : (v5.toInt = 1 ∧ (mI S1 c3 4).toInt < (mI S1 82 3).toInt) ∨ (v5.toInt = 0 ∧ (mI S1 82 3).toInt ≤ (mI S1 c3 4).toInt) := rp0_S4
  have b2 := i_bd v5
  have li3 : (0 : Int32).toInt = 0 := rfl
  refine zd (fun h4 => ?_) (fun h4 => ?_)
  · skip
    have g5 := i_eq h4
    exact KX 6 _ (by decide) hI_S1 (show xB S1 (mR S1 70) from by first | (exact xB_x (xC_o (W := 75) rp0_S1).2)) (show aS 88 S1 = ab from by first | (exact (xC_o (W := 88) rp0_S1).1.trans (rp1_S1.trans hpre1))) (show (6 = 4 ∧ ¬ zRq ab o) ∨ (6 = 6 ∧ zRq ab o ∧ (¬ (ab 130 o.toNatClampNeg).toInt < (fp82 3).toInt ∨ (b = 0 ∧ ab 133 o.toNatClampNeg = 0))) from by first | (have ty := xB_th (W := 88) rp0_S1 rg_c3; have e7 := ty.2.2.2.2.2.2.1; rw [(rp1_S1.trans hpre1)] at e7; have e4 := congrArg Int32.toInt ty.2.2.2.2.2.1; rw [(rp1_S1.trans hpre1)] at e4; have e3 := congrArg Int32.toInt (congrFun ((show mI S1 82 = mI S 82 from funext (fun _ => zG_z hL_S1 rfl)).trans hpre4) 3); have cv := rp0_S4; exact Or.inr ⟨rfl, (rq_up rp3_S1 hpre1), Or.inl (by omega)⟩) | (have ty := xB_th (W := 88) rp0_S1 rg_c3; have e7 := ty.2.2.2.2.2.2.1; rw [(rp1_S1.trans hpre1)] at e7; have e4 := congrArg Int32.toInt ty.2.2.2.2.2.1; rw [(rp1_S1.trans hpre1)] at e4; have e3 := congrArg Int32.toInt (congrFun ((show mI S1 82 = mI S 82 from funext (fun _ => zG_z hL_S1 rfl)).trans hpre4) 3); have cv := rp0_S4; exact Or.inr ⟨rfl, (rq_up rp3_S1 hpre1), Or.inr ⟨by assumption, by rw [← e7]; assumption⟩⟩)) (show (mI S1 82) = fp82 from by first | (exact ((show mI S1 82 = mI S 82 from funext (fun _ => zG_z hL_S1 rfl)).trans hpre4))) (show (mI S1 83) = fp83 from by first | (exact ((show mI S1 83 = mI S 83 from funext (fun _ => zG_z hL_S1 rfl)).trans hpre5)))
  · skip
    have g6 := i_ne h4
    have b7 := i_bd b
    refine zd (fun h8 => ?_) (fun h8 => ?_)
    · skip
      have g9 := i_eq h8
      refine ⟨zG_n hI_S1 th_c3, ?_⟩
      have b10 := i_bd (mI S1 c3 7)
      refine zd (fun h11 => ?_) (fun h11 => ?_)
      · skip
        have g12 := i_eq h11
        exact KX 6 _ (by decide) hI_S1 (show xB S1 (mR S1 70) from by first | (exact xB_x (xC_o (W := 75) rp0_S1).2)) (show aS 88 S1 = ab from by first | (exact (xC_o (W := 88) rp0_S1).1.trans (rp1_S1.trans hpre1))) (show (6 = 4 ∧ ¬ zRq ab o) ∨ (6 = 6 ∧ zRq ab o ∧ (¬ (ab 130 o.toNatClampNeg).toInt < (fp82 3).toInt ∨ (b = 0 ∧ ab 133 o.toNatClampNeg = 0))) from by first | (have ty := xB_th (W := 88) rp0_S1 rg_c3; have e7 := ty.2.2.2.2.2.2.1; rw [(rp1_S1.trans hpre1)] at e7; have e4 := congrArg Int32.toInt ty.2.2.2.2.2.1; rw [(rp1_S1.trans hpre1)] at e4; have e3 := congrArg Int32.toInt (congrFun ((show mI S1 82 = mI S 82 from funext (fun _ => zG_z hL_S1 rfl)).trans hpre4) 3); have cv := rp0_S4; exact Or.inr ⟨rfl, (rq_up rp3_S1 hpre1), Or.inl (by omega)⟩) | (have ty := xB_th (W := 88) rp0_S1 rg_c3; have e7 := ty.2.2.2.2.2.2.1; rw [(rp1_S1.trans hpre1)] at e7; have e4 := congrArg Int32.toInt ty.2.2.2.2.2.1; rw [(rp1_S1.trans hpre1)] at e4; have e3 := congrArg Int32.toInt (congrFun ((show mI S1 82 = mI S 82 from funext (fun _ => zG_z hL_S1 rfl)).trans hpre4) 3); have cv := rp0_S4; exact Or.inr ⟨rfl, (rq_up rp3_S1 hpre1), Or.inr ⟨by assumption, by rw [← e7]; assumption⟩⟩)) (show (mI S1 82) = fp82 from by first | (exact ((show mI S1 82 = mI S 82 from funext (fun _ => zG_z hL_S1 rfl)).trans hpre4))) (show (mI S1 83) = fp83 from by first | (exact ((show mI S1 83 = mI S 83 from funext (fun _ => zG_z hL_S1 rfl)).trans hpre5)))
      · skip
        have g13 := i_ne h11
        refine zd (fun h14 => ?_) (fun h14 => ?_)
        · skip
          have g15 := i_eq h14
          have li16 : (-1 : Int32).toInt = -1 := rfl
          refine sp_97_69_s (ab := (aS 88 S1)) (R := (mR S 70)) (W := 88) (y := (o)) c3 ((-1 : Int32)) (by omega) (by omega) (zB_dn_zI hI_S1) th_c3 (show xB S1 (mR S 70) from by first | (exact (xC_o (W := 75) rp0_S1).2)) (show aS 88 S1 = (aS 88 S1) from by first | (exact rfl)) (show xW 88 from by first | (exact xW88) | (exact xW75)) (show zTa (mR S 70) (o) = some c3 from by first | (exact rg_c3)) (fun S10 hL_S10 rp0_S10 rp1_S10 => zv_n ⟨zG_T hL_S10, ?_⟩)
          have hI_S10 := zB_up_zI hI_S1 hL_S10
          have rp0_S10 : xB S10 (mR S 70) := by
            have z := rp0_S10
            (try rw [show mI S1 65 = f 65 from funext (fun k => zG_z hI_S1 rfl)] at z)
            (try rw [show mI S1 64 1 = f 64 1 from zG_z hI_S1 rfl] at z)
            exact z
          have rp1_S10 : aS 88 S10 = ma_u (aS 88 S1) 133 (o).toNatClampNeg ((aS 88 S1) 133 (o).toNatClampNeg + (-1 : Int32)) := by
            have z := rp1_S10
            (try rw [show mI S1 65 = f 65 from funext (fun k => zG_z hI_S1 rfl)] at z)
            (try rw [show mI S1 64 1 = f 64 1 from zG_z hI_S1 rfl] at z)
            exact z
          refine ⟨zG_n hI_S10 th_c3, ?_⟩
          have b17 := i_bd (mI S10 c3 7)
          exact K ((mI S10 c3 7)) _ hI_S10 trivial (show xB S10 (mR S10 70) from by first | (exact xB_x (xC_o (W := 75) rp0_S10).2)) (show zRq ab o ∧ (ab 130 o.toNatClampNeg).toInt < (fp82 3).toInt ∧ (¬ b = 0 ∨ ¬ ab 133 o.toNatClampNeg = 0) ∧ aS 88 S10 = ma_u ab 133 o.toNatClampNeg (ab 133 o.toNatClampNeg + (if b = 0 then -1 else 1)) ∧ (mI S10 c3 7) = ab 133 o.toNatClampNeg + (if b = 0 then -1 else 1) from by first | (exfalso; omega) | (have ty := xB_th (W := 88) rp0_S1 rg_c3; have e7 := ty.2.2.2.2.2.2.1; rw [(rp1_S1.trans hpre1)] at e7; have e4 := congrArg Int32.toInt ty.2.2.2.2.2.1; rw [(rp1_S1.trans hpre1)] at e4; have e3 := congrArg Int32.toInt (congrFun ((show mI S1 82 = mI S 82 from funext (fun _ => zG_z hL_S1 rfl)).trans hpre4) 3); have cv := rp0_S4; have t2 := xB_th (W := 88) rp0_S10 rg_c3; have f7 := t2.2.2.2.2.2.2.1; have hl := rp1_S10; rw [(rp1_S1.trans hpre1)] at hl; rw [hl, xu_s] at f7; refine ⟨(rq_up rp3_S1 hpre1), by omega, Or.inl (by assumption), ?_, ?_⟩; (rw [hl, if_neg (by assumption)]); (rw [if_neg (by assumption)]; exact f7)) | (have ty := xB_th (W := 88) rp0_S1 rg_c3; have e7 := ty.2.2.2.2.2.2.1; rw [(rp1_S1.trans hpre1)] at e7; have e4 := congrArg Int32.toInt ty.2.2.2.2.2.1; rw [(rp1_S1.trans hpre1)] at e4; have e3 := congrArg Int32.toInt (congrFun ((show mI S1 82 = mI S 82 from funext (fun _ => zG_z hL_S1 rfl)).trans hpre4) 3); have cv := rp0_S4; have t2 := xB_th (W := 88) rp0_S10 rg_c3; have f7 := t2.2.2.2.2.2.2.1; have hl := rp1_S10; rw [(rp1_S1.trans hpre1)] at hl; rw [hl, xu_s] at f7; refine ⟨(rq_up rp3_S1 hpre1), by omega, Or.inr (by rw [← e7]; assumption), ?_, ?_⟩; (rw [hl, if_pos (by assumption)]); (rw [if_pos (by assumption)]; exact f7))) (show (mI S10 82) = fp82 from by first | (exact ((show mI S10 82 = mI S1 82 from funext (fun _ => zG_z hL_S10 rfl)).trans ((show mI S1 82 = mI S 82 from funext (fun _ => zG_z hL_S1 rfl)).trans hpre4)))) (show (mI S10 83) = fp83 from by first | (exact ((show mI S10 83 = mI S1 83 from funext (fun _ => zG_z hL_S10 rfl)).trans ((show mI S1 83 = mI S 83 from funext (fun _ => zG_z hL_S1 rfl)).trans hpre5))))
        · skip
          have g18 := i_ne h14
          have li19 : (1 : Int32).toInt = 1 := rfl
          refine sp_97_69_s (ab := (aS 88 S1)) (R := (mR S 70)) (W := 88) (y := (o)) c3 ((1 : Int32)) (by omega) (by omega) (zB_dn_zI hI_S1) th_c3 (show xB S1 (mR S 70) from by first | (exact (xC_o (W := 75) rp0_S1).2)) (show aS 88 S1 = (aS 88 S1) from by first | (exact rfl)) (show xW 88 from by first | (exact xW88) | (exact xW75)) (show zTa (mR S 70) (o) = some c3 from by first | (exact rg_c3)) (fun S12 hL_S12 rp0_S12 rp1_S12 => zv_n ⟨zG_T hL_S12, ?_⟩)
          have hI_S12 := zB_up_zI hI_S1 hL_S12
          have rp0_S12 : xB S12 (mR S 70) := by
            have z := rp0_S12
            (try rw [show mI S1 65 = f 65 from funext (fun k => zG_z hI_S1 rfl)] at z)
            (try rw [show mI S1 64 1 = f 64 1 from zG_z hI_S1 rfl] at z)
            exact z
          have rp1_S12 : aS 88 S12 = ma_u (aS 88 S1) 133 (o).toNatClampNeg ((aS 88 S1) 133 (o).toNatClampNeg + (1 : Int32)) := by
            have z := rp1_S12
            (try rw [show mI S1 65 = f 65 from funext (fun k => zG_z hI_S1 rfl)] at z)
            (try rw [show mI S1 64 1 = f 64 1 from zG_z hI_S1 rfl] at z)
            exact z
          refine ⟨zG_n hI_S12 th_c3, ?_⟩
          have b20 := i_bd (mI S12 c3 7)
          exact K ((mI S12 c3 7)) _ hI_S12 trivial (show xB S12 (mR S12 70) from by first | (exact xB_x (xC_o (W := 75) rp0_S12).2)) (show zRq ab o ∧ (ab 130 o.toNatClampNeg).toInt < (fp82 3).toInt ∧ (¬ b = 0 ∨ ¬ ab 133 o.toNatClampNeg = 0) ∧ aS 88 S12 = ma_u ab 133 o.toNatClampNeg (ab 133 o.toNatClampNeg + (if b = 0 then -1 else 1)) ∧ (mI S12 c3 7) = ab 133 o.toNatClampNeg + (if b = 0 then -1 else 1) from by first | (exfalso; omega) | (have ty := xB_th (W := 88) rp0_S1 rg_c3; have e7 := ty.2.2.2.2.2.2.1; rw [(rp1_S1.trans hpre1)] at e7; have e4 := congrArg Int32.toInt ty.2.2.2.2.2.1; rw [(rp1_S1.trans hpre1)] at e4; have e3 := congrArg Int32.toInt (congrFun ((show mI S1 82 = mI S 82 from funext (fun _ => zG_z hL_S1 rfl)).trans hpre4) 3); have cv := rp0_S4; have t2 := xB_th (W := 88) rp0_S12 rg_c3; have f7 := t2.2.2.2.2.2.2.1; have hl := rp1_S12; rw [(rp1_S1.trans hpre1)] at hl; rw [hl, xu_s] at f7; refine ⟨(rq_up rp3_S1 hpre1), by omega, Or.inl (by assumption), ?_, ?_⟩; (rw [hl, if_neg (by assumption)]); (rw [if_neg (by assumption)]; exact f7)) | (have ty := xB_th (W := 88) rp0_S1 rg_c3; have e7 := ty.2.2.2.2.2.2.1; rw [(rp1_S1.trans hpre1)] at e7; have e4 := congrArg Int32.toInt ty.2.2.2.2.2.1; rw [(rp1_S1.trans hpre1)] at e4; have e3 := congrArg Int32.toInt (congrFun ((show mI S1 82 = mI S 82 from funext (fun _ => zG_z hL_S1 rfl)).trans hpre4) 3); have cv := rp0_S4; have t2 := xB_th (W := 88) rp0_S12 rg_c3; have f7 := t2.2.2.2.2.2.2.1; have hl := rp1_S12; rw [(rp1_S1.trans hpre1)] at hl; rw [hl, xu_s] at f7; refine ⟨(rq_up rp3_S1 hpre1), by omega, Or.inr (by rw [← e7]; assumption), ?_, ?_⟩; (rw [hl, if_pos (by assumption)]); (rw [if_pos (by assumption)]; exact f7))) (show (mI S12 82) = fp82 from by first | (exact ((show mI S12 82 = mI S1 82 from funext (fun _ => zG_z hL_S12 rfl)).trans ((show mI S1 82 = mI S 82 from funext (fun _ => zG_z hL_S1 rfl)).trans hpre4)))) (show (mI S12 83) = fp83 from by first | (exact ((show mI S12 83 = mI S1 83 from funext (fun _ => zG_z hL_S12 rfl)).trans ((show mI S1 83 = mI S 83 from funext (fun _ => zG_z hL_S1 rfl)).trans hpre5))))
    · skip
      have g21 := i_ne h8
      refine zd (fun h22 => ?_) (fun h22 => ?_)
      · skip
        have g23 := i_eq h22
        have li24 : (-1 : Int32).toInt = -1 := rfl
        refine sp_97_69_s (ab := (aS 88 S1)) (R := (mR S 70)) (W := 88) (y := (o)) c3 ((-1 : Int32)) (by omega) (by omega) (zB_dn_zI hI_S1) th_c3 (show xB S1 (mR S 70) from by first | (exact (xC_o (W := 75) rp0_S1).2)) (show aS 88 S1 = (aS 88 S1) from by first | (exact rfl)) (show xW 88 from by first | (exact xW88) | (exact xW75)) (show zTa (mR S 70) (o) = some c3 from by first | (exact rg_c3)) (fun S6 hL_S6 rp0_S6 rp1_S6 => zv_n ⟨zG_T hL_S6, ?_⟩)
        have hI_S6 := zB_up_zI hI_S1 hL_S6
        have rp0_S6 : xB S6 (mR S 70) := by
          have z := rp0_S6
          (try rw [show mI S1 65 = f 65 from funext (fun k => zG_z hI_S1 rfl)] at z)
          (try rw [show mI S1 64 1 = f 64 1 from zG_z hI_S1 rfl] at z)
          exact z
        have rp1_S6 : aS 88 S6 = ma_u (aS 88 S1) 133 (o).toNatClampNeg ((aS 88 S1) 133 (o).toNatClampNeg + (-1 : Int32)) := by
          have z := rp1_S6
          (try rw [show mI S1 65 = f 65 from funext (fun k => zG_z hI_S1 rfl)] at z)
          (try rw [show mI S1 64 1 = f 64 1 from zG_z hI_S1 rfl] at z)
          exact z
        refine ⟨zG_n hI_S6 th_c3, ?_⟩
        have b25 := i_bd (mI S6 c3 7)
        exact K ((mI S6 c3 7)) _ hI_S6 trivial (show xB S6 (mR S6 70) from by first | (exact xB_x (xC_o (W := 75) rp0_S6).2)) (show zRq ab o ∧ (ab 130 o.toNatClampNeg).toInt < (fp82 3).toInt ∧ (¬ b = 0 ∨ ¬ ab 133 o.toNatClampNeg = 0) ∧ aS 88 S6 = ma_u ab 133 o.toNatClampNeg (ab 133 o.toNatClampNeg + (if b = 0 then -1 else 1)) ∧ (mI S6 c3 7) = ab 133 o.toNatClampNeg + (if b = 0 then -1 else 1) from by first | (exfalso; omega) | (have ty := xB_th (W := 88) rp0_S1 rg_c3; have e7 := ty.2.2.2.2.2.2.1; rw [(rp1_S1.trans hpre1)] at e7; have e4 := congrArg Int32.toInt ty.2.2.2.2.2.1; rw [(rp1_S1.trans hpre1)] at e4; have e3 := congrArg Int32.toInt (congrFun ((show mI S1 82 = mI S 82 from funext (fun _ => zG_z hL_S1 rfl)).trans hpre4) 3); have cv := rp0_S4; have t2 := xB_th (W := 88) rp0_S6 rg_c3; have f7 := t2.2.2.2.2.2.2.1; have hl := rp1_S6; rw [(rp1_S1.trans hpre1)] at hl; rw [hl, xu_s] at f7; refine ⟨(rq_up rp3_S1 hpre1), by omega, Or.inl (by assumption), ?_, ?_⟩; (rw [hl, if_neg (by assumption)]); (rw [if_neg (by assumption)]; exact f7)) | (have ty := xB_th (W := 88) rp0_S1 rg_c3; have e7 := ty.2.2.2.2.2.2.1; rw [(rp1_S1.trans hpre1)] at e7; have e4 := congrArg Int32.toInt ty.2.2.2.2.2.1; rw [(rp1_S1.trans hpre1)] at e4; have e3 := congrArg Int32.toInt (congrFun ((show mI S1 82 = mI S 82 from funext (fun _ => zG_z hL_S1 rfl)).trans hpre4) 3); have cv := rp0_S4; have t2 := xB_th (W := 88) rp0_S6 rg_c3; have f7 := t2.2.2.2.2.2.2.1; have hl := rp1_S6; rw [(rp1_S1.trans hpre1)] at hl; rw [hl, xu_s] at f7; refine ⟨(rq_up rp3_S1 hpre1), by omega, Or.inr (by rw [← e7]; assumption), ?_, ?_⟩; (rw [hl, if_pos (by assumption)]); (rw [if_pos (by assumption)]; exact f7))) (show (mI S6 82) = fp82 from by first | (exact ((show mI S6 82 = mI S1 82 from funext (fun _ => zG_z hL_S6 rfl)).trans ((show mI S1 82 = mI S 82 from funext (fun _ => zG_z hL_S1 rfl)).trans hpre4)))) (show (mI S6 83) = fp83 from by first | (exact ((show mI S6 83 = mI S1 83 from funext (fun _ => zG_z hL_S6 rfl)).trans ((show mI S1 83 = mI S 83 from funext (fun _ => zG_z hL_S1 rfl)).trans hpre5))))
      · skip
        have g26 := i_ne h22
        have li27 : (1 : Int32).toInt = 1 := rfl
        refine sp_97_69_s (ab := (aS 88 S1)) (R := (mR S 70)) (W := 88) (y := (o)) c3 ((1 : Int32)) (by omega) (by omega) (zB_dn_zI hI_S1) th_c3 (show xB S1 (mR S 70) from by first | (exact (xC_o (W := 75) rp0_S1).2)) (show aS 88 S1 = (aS 88 S1) from by first | (exact rfl)) (show xW 88 from by first | (exact xW88) | (exact xW75)) (show zTa (mR S 70) (o) = some c3 from by first | (exact rg_c3)) (fun S8 hL_S8 rp0_S8 rp1_S8 => zv_n ⟨zG_T hL_S8, ?_⟩)
        have hI_S8 := zB_up_zI hI_S1 hL_S8
        have rp0_S8 : xB S8 (mR S 70) := by
          have z := rp0_S8
          (try rw [show mI S1 65 = f 65 from funext (fun k => zG_z hI_S1 rfl)] at z)
          (try rw [show mI S1 64 1 = f 64 1 from zG_z hI_S1 rfl] at z)
          exact z
        have rp1_S8 : aS 88 S8 = ma_u (aS 88 S1) 133 (o).toNatClampNeg ((aS 88 S1) 133 (o).toNatClampNeg + (1 : Int32)) := by
          have z := rp1_S8
          (try rw [show mI S1 65 = f 65 from funext (fun k => zG_z hI_S1 rfl)] at z)
          (try rw [show mI S1 64 1 = f 64 1 from zG_z hI_S1 rfl] at z)
          exact z
        refine ⟨zG_n hI_S8 th_c3, ?_⟩
        have b28 := i_bd (mI S8 c3 7)
        exact K ((mI S8 c3 7)) _ hI_S8 trivial (show xB S8 (mR S8 70) from by first | (exact xB_x (xC_o (W := 75) rp0_S8).2)) (show zRq ab o ∧ (ab 130 o.toNatClampNeg).toInt < (fp82 3).toInt ∧ (¬ b = 0 ∨ ¬ ab 133 o.toNatClampNeg = 0) ∧ aS 88 S8 = ma_u ab 133 o.toNatClampNeg (ab 133 o.toNatClampNeg + (if b = 0 then -1 else 1)) ∧ (mI S8 c3 7) = ab 133 o.toNatClampNeg + (if b = 0 then -1 else 1) from by first | (exfalso; omega) | (have ty := xB_th (W := 88) rp0_S1 rg_c3; have e7 := ty.2.2.2.2.2.2.1; rw [(rp1_S1.trans hpre1)] at e7; have e4 := congrArg Int32.toInt ty.2.2.2.2.2.1; rw [(rp1_S1.trans hpre1)] at e4; have e3 := congrArg Int32.toInt (congrFun ((show mI S1 82 = mI S 82 from funext (fun _ => zG_z hL_S1 rfl)).trans hpre4) 3); have cv := rp0_S4; have t2 := xB_th (W := 88) rp0_S8 rg_c3; have f7 := t2.2.2.2.2.2.2.1; have hl := rp1_S8; rw [(rp1_S1.trans hpre1)] at hl; rw [hl, xu_s] at f7; refine ⟨(rq_up rp3_S1 hpre1), by omega, Or.inl (by assumption), ?_, ?_⟩; (rw [hl, if_neg (by assumption)]); (rw [if_neg (by assumption)]; exact f7)) | (have ty := xB_th (W := 88) rp0_S1 rg_c3; have e7 := ty.2.2.2.2.2.2.1; rw [(rp1_S1.trans hpre1)] at e7; have e4 := congrArg Int32.toInt ty.2.2.2.2.2.1; rw [(rp1_S1.trans hpre1)] at e4; have e3 := congrArg Int32.toInt (congrFun ((show mI S1 82 = mI S 82 from funext (fun _ => zG_z hL_S1 rfl)).trans hpre4) 3); have cv := rp0_S4; have t2 := xB_th (W := 88) rp0_S8 rg_c3; have f7 := t2.2.2.2.2.2.2.1; have hl := rp1_S8; rw [(rp1_S1.trans hpre1)] at hl; rw [hl, xu_s] at f7; refine ⟨(rq_up rp3_S1 hpre1), by omega, Or.inr (by rw [← e7]; assumption), ?_, ?_⟩; (rw [hl, if_pos (by assumption)]); (rw [if_pos (by assumption)]; exact f7))) (show (mI S8 82) = fp82 from by first | (exact ((show mI S8 82 = mI S1 82 from funext (fun _ => zG_z hL_S8 rfl)).trans ((show mI S1 82 = mI S 82 from funext (fun _ => zG_z hL_S1 rfl)).trans hpre4)))) (show (mI S8 83) = fp83 from by first | (exact ((show mI S8 83 = mI S1 83 from funext (fun _ => zG_z hL_S8 rfl)).trans ((show mI S1 83 = mI S 83 from funext (fun _ => zG_z hL_S1 rfl)).trans hpre5))))

/-! from 95.u43 -/
/-! AGES, the class (written by wip/tools/gen15y.py) -/
theorem g_156_64_sm_p81_0 {X : Nat × (Nat → Int32)} {d w : Nat} {S : ma_S} {Q : Option ma_V ⊕ Nat → ma_S → Prop} (o : Int32) (b : Int32) (hd : 7 ≤ d) (hw : 111 ≤ w) (hS : zT S) (h : mR S 64 11 = some 81 ∧ (mR S 64 11 = some 81 ∧ (ma_wp X (d - 1) (w - 22) 149 0 [(0, .inr (.inr (some 64))), (1, .inl o)] [] S (zo (fun v2 S1 => zT S1 ∧ ((∃ c3, v2 = some c3 ∧ (Q (.inr 6) (ma_bump S1))))) (fun x S9 => Q (.inr x) S9))))) : ma_wp X d w 156 0 [(0, .inr (.inr (some 64))), (1, .inl o), (2, .inl b)] [] S Q := by
  refine zw_push hm_156 dX11_hold_0 (v := .inr (.inr (some 64))) rfl ?_
  refine zw_cv hm_156 dX11_hold_1 v_11_119_11 hm_144 [] [] rfl (zT_rt hS s_64 rfl) ⟨by omega, by omega⟩ rfl ?_
  show ma_wp X (d - 1) (w - 20) 144 0 [(0, .inr (.inr (some 64)))] [] S _
  refine zw_push hm_144 dX11_needCollector_0 (v := .inr (.inr (some 64))) rfl ?_
  obtain ⟨hg, h⟩ := h
  refine zw_gf hm_144 dX11_needCollector_1 (v := .inr (.inr (some 81))) (zT_is hS s_64) (zT_t hS s_64) rfl f_11_98_11 (congrArg (fun z => Sum.inr (Sum.inr z)) hg) ?_
  refine zw_ifnonnull hm_144 dX11_needCollector_4 (t := 15) rfl (fun z => by cases z) (fun _ _ => ?_)
  refine zw_push hm_144 dX11_needCollector_15 (v := .inr (.inr (some 64))) rfl ?_
  obtain ⟨hg, h⟩ := h
  refine zw_gf hm_144 dX11_needCollector_16 (v := .inr (.inr (some 81))) (zT_is hS s_64) (zT_t hS s_64) rfl f_11_98_11 (congrArg (fun z => Sum.inr (Sum.inr z)) hg) ?_
  refine zw_aret hm_144 dX11_needCollector_19 ?_
  show ma_wp X d w 156 4 [(0, .inr (.inr (some 64))), (1, .inl o), (2, .inl b)] [.inr (.inr (some 81))] S _
  refine zw_sto hm_156 dX11_hold_4 [(3, .inr (.inr (some 81))), (0, .inr (.inr (some 64))), (1, .inl o), (2, .inl b)] rfl rfl rfl ?_
  refine zw_push hm_156 dX11_hold_5 (v := .inr (.inr (some 64))) rfl ?_
  refine zw_push hm_156 dX11_hold_6 (v := .inl o) rfl ?_
  refine zw_cv hm_156 dX11_hold_7 v_11_123_11 hm_149 [.inl o] [] rfl (zT_rt hS s_64 rfl) ⟨by omega, by omega⟩ rfl (zw_mono h (zo_go ?_ ?_))
  · intro v2 S1 hv
    obtain ⟨hS1, h⟩ := hv
    obtain ⟨c3, hc, h⟩ := h
    subst hc
    show ma_wp X d w 156 10 [(3, .inr (.inr (some 81))), (0, .inr (.inr (some 64))), (1, .inl o), (2, .inl b)] [.inr (.inr (some c3))] S1 _
    refine zw_sto hm_156 dX11_hold_10 [(4, .inr (.inr (some c3))), (3, .inr (.inr (some 81))), (0, .inr (.inr (some 64))), (1, .inl o), (2, .inl b)] rfl rfl rfl ?_
    refine zw_push hm_156 dX11_hold_12 (v := .inr (.inr (some 81))) rfl ?_
    refine zw_push hm_156 dX11_hold_13 (v := .inr (.inr (some c3))) rfl ?_
    refine zw_cv hm_156 dX11_hold_15 v_11_185_3 hm_35 [.inr (.inr (some c3))] [] rfl (zT_rt hS1 s_81 rfl) ⟨by omega, by omega⟩ rfl ?_
    show ma_wp X (d - 1) (w - 21) 35 0 [(0, .inr (.inr (some 81))), (1, .inr (.inr (some c3)))] [] S1 _
    refine zw_push hm_35 dX3_canHold_0 (v := .inl (0 : Int32)) rfl ?_
    refine zw_bret hm_35 dX3_canHold_1 (by decide) ?_
    show ma_wp X d w 156 18 [(4, .inr (.inr (some c3))), (3, .inr (.inr (some 81))), (0, .inr (.inr (some 64))), (1, .inl o), (2, .inl b)] [.inl (0 : Int32)] S1 _
    refine zw_if0 hm_156 dX11_hold_18 (t := 33) rfl zc0_eq (fun _ => ?_) (fun hc => absurd (by decide) hc)
    exact zw_thr hm_156 dX11_hold_33 dX11_hold_36 dX11_hold_37 dX11_hold_40 x_11_192_194 n_11_192 (by omega) (by show 0 + 81 ≤ w; omega) h
  · intro x S9 hx
    exact ⟨by decide, hx⟩
theorem sp_156_64_sm_p81 {X : Nat × (Nat → Int32)} {d w : Nat} {f : Nat → Nat → Int32} {r : Nat → Nat → Option Nat} {C Z N : Nat} {Q : Option ma_V ⊕ Nat → ma_S → Prop} {ab : Nat→Nat→Int32} {fp81 : Nat→Int32} {S : ma_S} (o : Int32) (b : Int32) (hd : 7 ≤ d) (hw : 111 ≤ w) (hI : zB f r C Z N S) (hr : r 64 11 = some 81) (hpre0 : xB S (mR S 70)) (hpre1 : aS 88 S = ab) (hpre2 : 0 ≤ b.toInt) (hpre3 : b.toInt ≤ 1) (hpre4 : (mI S 81) = fp81) (K : ∀ v S₉, zB f r C Z N S₉ → (True) → (xB S₉ (mR S₉ 70)) → (False) → ((mI S₉ 81) = fp81) → Q (.inl (some (.inl v))) S₉) (KX : ∀ x S₉, (x = 4 ∨ x = 6) → zB f r C Z N S₉ → (xB S₉ (mR S₉ 70)) → (aS 88 S₉ = ab) → ((x = 4 ∧ ¬ zRq ab o) ∨ (x = 6 ∧ zRq ab o)) → ((mI S₉ 81) = fp81) → Q (.inr x) (ma_bump S₉)) : ma_wp X d w 156 0 [(0, .inr (.inr (some 64))), (1, .inl o), (2, .inl b)] [] S Q := by
  refine g_156_64_sm_p81_0 o b (by omega) (by omega) (zG_T hI) ?_
  refine ⟨((zG_r hI (by decide)).trans hr), ?_⟩
  refine ⟨((zG_r hI (by decide)).trans hr), ?_⟩
  have b1 := i_bd o
  refine sp_149_64_s (R := (mR S 70)) (a7 := (aS 75 S)) (a8 := (aS 88 S)) (o) (by omega) (by omega) (zB_dn_zI hI) (show xB S (mR S 70) from by first | (exact (xC_o (W := 75) hpre0).2)) (show aS 75 S = (aS 75 S) from by first | (exact rfl)) (show aS 88 S = (aS 88 S) from by first | (exact rfl)) (fun v2 S1 hL_S1 hq_v2 rp0_S1 rp1_S1 rp2_S1 rp3_S1 => zo_n ⟨zG_T hL_S1, ?_⟩) (fun x S9 hx h9 rx0 rx1 rx2 => by have h9u := (zB_up_zI hI h9); exact zo_x (KX x S9 (by omega) h9u (show xB S9 (mR S9 70) from by first | (exact xB_x (xC_o (W := 75) rx0).2)) (show aS 88 S9 = ab from by first | (exact rx1.trans hpre1)) (show (x = 4 ∧ ¬ zRq ab o) ∨ (x = 6 ∧ zRq ab o) from by first | (exact Or.inl ⟨rx2.1, rq_no rx2.2 hpre1⟩)) (show (mI S9 81) = fp81 from by first | (exact ((show mI _ 81 = mI _ 81 from funext (fun _ => zG_z h9 rfl)).trans hpre4)))))
  have hI_S1 := zB_up_zI hI hL_S1
  have rp0_S1 : xB S1 (mR S 70) := by
    have z := rp0_S1
    (try rw [show mI S 65 = f 65 from funext (fun k => zG_z hI rfl)] at z)
    (try rw [show mI S 64 1 = f 64 1 from zG_z hI rfl] at z)
    exact z
  have rp1_S1 : aS 88 S1 = (aS 88 S) := by
    have z := rp1_S1
    (try rw [show mI S 65 = f 65 from funext (fun k => zG_z hI rfl)] at z)
    (try rw [show mI S 64 1 = f 64 1 from zG_z hI rfl] at z)
    exact z
  have rp2_S1 : v2 = zTa (mR S 70) o := by
    have z := rp2_S1
    (try rw [show mI S 65 = f 65 from funext (fun k => zG_z hI rfl)] at z)
    (try rw [show mI S 64 1 = f 64 1 from zG_z hI rfl] at z)
    exact z
  have rp3_S1 : zRq (aS 75 S) o := by
    have z := rp3_S1
    (try rw [show mI S 65 = f 65 from funext (fun k => zG_z hI rfl)] at z)
    (try rw [show mI S 64 1 = f 64 1 from zG_z hI rfl] at z)
    exact z
  obtain ⟨c3, hc, th_c3⟩ := hq_v2
  have rg_c3 : zTa (mR S 70) o = some c3 := rp2_S1.symm.trans hc
  refine ⟨c3, hc, ?_⟩
  exact KX 6 _ (by decide) hI_S1 (show xB S1 (mR S1 70) from by first | (exact xB_x (xC_o (W := 75) rp0_S1).2)) (show aS 88 S1 = ab from by first | (exact (xC_o (W := 88) rp0_S1).1.trans (rp1_S1.trans hpre1))) (show (6 = 4 ∧ ¬ zRq ab o) ∨ (6 = 6 ∧ zRq ab o) from by first | (exact Or.inr ⟨rfl, (rq_up rp3_S1 hpre1)⟩)) (show (mI S1 81) = fp81 from by first | (exact ((show mI S1 81 = mI S 81 from funext (fun _ => zG_z hL_S1 rfl)).trans hpre4)))

/-! from 95.v00 -/
/-! AGES, the reference (written by wip/tools/gen15v.py) -/
/-! AGES, the reference: who came (kp, the row ca, cat of cm done), where they are, how old they are, held against the class's walk with OLD as its floor -/
def qYQ (kp ca us nr : Nat → Int32) (cat cm : Int32) (c : Nat → Nat → Int32) : Prop := (c 75 3 = cat ∧ c 75 4 = cm) ∧ zFY c ∧ (c 75 4).toInt ≤ (cnt (c 77) 512 : Int) ∧ (∀ s, s < 3100 → kp s ≠ 0 → us s ≠ 0) ∧ (∀ s, s < 3100 → us s ≠ 0 → (kp s ≠ 0 ↔ ((c 130 (nr s).toNatClampNeg).toInt < (c 75 5).toInt ∨ c 77 (nr s).toNatClampNeg ≠ 0))) ∧ ∀ j : Nat, (j : Int) < cm.toInt → (0 ≤ (ca j).toInt ∧ (ca j).toInt < 3100 ∧ us (ca j).toNatClampNeg ≠ 0) ∧ c 76 j = nr (ca j).toNatClampNeg
/-- one that grows OLD when it comes -/
def qYg (c : Nat → Nat → Int32) (n : Nat) : Prop := (c 87 11).toInt ≤ (c 131 n).toInt + 1
/-- those that came lie one behind another: from o0 on those that grew OLD, from st on the others; ages -/
def qYP (us nr ca at2 ow2 ag2 AT AG : Nat → Int32) (cm to o2 : Int32) (st o0 : Int) (c : Nat → Nat → Int32) : Prop := (∀ j : Nat, (j : Int) < cm.toInt → (qYg c (c 76 j).toNatClampNeg → (at2 (ca j).toNatClampNeg).toInt = o0 + zsg (gPf c) j) ∧ (¬ qYg c (c 76 j).toNatClampNeg → (at2 (ca j).toNatClampNeg).toInt = st + zsg (gNf c) j) ∧ ag2 (ca j).toNatClampNeg = AG (ca j).toNatClampNeg + 1) ∧ (to.toInt = st + zsg (gNf c) cm.toInt.toNat ∧ o2.toInt = o0 + zsg (gPf c) cm.toInt.toNat) ∧ (∀ s, s < 3100 → us s ≠ 0 → c 77 (nr s).toNatClampNeg = 0 → at2 s = AT s ∧ ag2 s = AG s) ∧ qR7 us at2 ow2 ∧ (∀ s, s < 3100 → us s ≠ 0 → AG s = c 131 (nr s).toNatClampNeg) ∧ (qA0 c ∧ ¬ gFu c ∧ c 75 5 = c 87 9 ∧ st = 2 * (c 87 9).toInt + (c 87 5).toInt - (c 87 3).toInt ∧ o0 = (c 87 10).toInt)
def qYB (us nr kr kd ws AT ho wd wi OW rt wk wl : Nat → Int32) (wm nu ro fo le ra pi : Int32) (kp ca : Nat → Int32) (cat cm : Int32) (at2 ow2 ag2 AG : Nat → Int32) (to o2 : Int32) (st o0 : Int) (c : Nat → Nat → Int32) : Prop := qRB us nr kr kd ws AT ho wd wi OW rt wk wl wm nu ro fo le ra pi c ∧ qYQ kp ca us nr cat cm c ∧ qYP us nr ca at2 ow2 ag2 AT AG cm to o2 st o0 c
section F31
variable {a b c d : Nat → Nat → Int32} {us nr kr kd ws AT AG at2 at3 ag2 ag3 ho wd wi OW ow2 ow3 rt wk wl kp kp₉ ca ca₉ : Nat → Int32} {wm nu ro fo le ra pi cat cm cm₉ to to₉ o2 o2₉ tg s x y i l : Int32} {st o0 X : Int} {j k n f : Nat} {F G : Nat → Int}
theorem Sg_ext : ∀ N, (∀ k, k < N → F k ≤ G k) → n < N → F n + X ≤ G n → zsg F N + X ≤ zsg G N := by
  intro N
  induction N with
  | zero => intro _ h _; omega
  | succ N ih =>
    intro h hn hx
    have e1 : zsg F (N + 1) = zsg F N + F N := rfl
    have e2 : zsg G (N + 1) = zsg G N + G N := rfl
    by_cases w : n = N
    · have m := sg_mono (F := F) (G := G) N (fun k hk => h k (by omega))
      rw [w] at hx
      omega
    · have m := ih (fun k hk => h k (by omega)) (by omega) hx
      have := h N (by omega)
      omega
theorem Sy_cg (h1 : d 126 = c 126) (h2 : d 87 = c 87) (h3 : d 130 = c 130) (h4 : d 128 = c 128) : gSy d n = gSy c n := by
  rw [Sy_sg, Sy_sg, h1, h2, h3, h4]
theorem Gr_cg (h1 : d 126 = c 126) (h2 : d 87 = c 87) (h3 : d 130 = c 130) (h4 : d 128 = c 128) (h5 : d 131 = c 131) : gGr d n = gGr c n := by
  rw [Gr_sg, Gr_sg, h1, h2, h3, h4, h5]
theorem A0_cg (h : qA0 c) (hI : qI d) (h1 : d 126 = c 126) (h2 : d 87 = c 87) (h3 : d 130 = c 130) (h4 : d 128 = c 128) (h5 : d 131 = c 131) (h6 : d 133 = c 133) : qA0 d := by
  obtain ⟨_, g⟩ := h
  refine ⟨hI, ?_⟩
  unfold qA1 xAl at g ⊢
  rw [Sy_cg h1 h2 h3 h4, h1, h2, h3, h4, h5, h6]
  exact g
theorem Fu_cg (h : ¬ gFu c) (h1 : d 126 = c 126) (h2 : d 87 = c 87) (h3 : d 130 = c 130) (h4 : d 128 = c 128) (h5 : d 131 = c 131) : ¬ gFu d := by
  unfold gFu at h ⊢
  rw [Gr_cg h1 h2 h3 h4 h5, h2]
  exact h
theorem of_r (o : zOf c d) (h1 : k ≠ 75) (h2 : k ≠ 76) (h3 : k ≠ 77) : d k = c k := funext (fun j => (o k j h1 h2 h3).symm)
theorem A0_of (h : qA0 c) (o : zOf c d) : qA0 d := A0_cg h (qI_of h.1 o) (of_r o (by decide) (by decide) (by decide)) (of_r o (by decide) (by decide) (by decide)) (of_r o (by decide) (by decide) (by decide)) (of_r o (by decide) (by decide) (by decide)) (of_r o (by decide) (by decide) (by decide)) (of_r o (by decide) (by decide) (by decide))
theorem Fu_of (h : ¬ gFu c) (o : zOf c d) : ¬ gFu d := Fu_cg h (of_r o (by decide) (by decide) (by decide)) (of_r o (by decide) (by decide) (by decide)) (of_r o (by decide) (by decide) (by decide)) (of_r o (by decide) (by decide) (by decide)) (of_r o (by decide) (by decide) (by decide))
theorem YQ_cc (h : qYQ kp ca us nr cat cm c) (hR : qR1 us nr ws AT ho c) (h0 : 0 ≤ s.toInt) (h3 : s.toInt ≤ 3099) (hu : us s.toNatClampNeg ≠ 0) (hk : kp s.toNatClampNeg = 0) : aCc c (nr s.toNatClampNeg) ∧ c 77 (nr s.toNatClampNeg).toNatClampNeg = 0 ∧ (c 75 5).toInt ≤ (c 130 (nr s.toNatClampNeg).toNatClampNeg).toInt := by
  have q := hR.1 _ (tn_lt h0 (by omega)) hu
  have n5 := tn_cast q.1.1
  have hn : (nr s.toNatClampNeg).toNatClampNeg < 512 := by
    have := q.1.2
    omega
  have g : ¬ ((c 130 (nr s.toNatClampNeg).toNatClampNeg).toInt < (c 75 5).toInt ∨ c 77 (nr s.toNatClampNeg).toNatClampNeg ≠ 0) := fun z => absurd ((h.2.2.2.2.1 _ (tn_lt h0 (by omega)) hu).mpr z) (fun z => z hk)
  have w : c 77 (nr s.toNatClampNeg).toNatClampNeg = 0 := by
    by_cases z : c 77 (nr s.toNatClampNeg).toNatClampNeg = 0
    · exact z
    · exact absurd (Or.inr z) g
  have p : (c 75 5).toInt ≤ (c 130 (nr s.toNatClampNeg).toNatClampNeg).toInt := by
    by_cases z : (c 130 (nr s.toNatClampNeg).toNatClampNeg).toInt < (c 75 5).toInt
    · exact absurd (Or.inl z) g
    · omega
  have ct := cnt_lt (r := c 77) hn w
  have l := h.2.2.1
  exact ⟨⟨q.1.1, q.1.2, q.2.1, p, by omega, w⟩, w, p⟩
theorem Ct_cm (h : (c 75 4).toInt ≤ (cnt (c 77) 512 : Int)) : (aCm c y 75 4).toInt ≤ (cnt (aCm c y 77) 512 : Int) := by
  by_cases hc : aCc c y
  · have e7 : aCm c y 77 = ma_u c 77 y.toNatClampNeg 1 77 := by
      rw [aCm_y hc, ma_u_ne _ _ _ (by decide), ma_u_ne _ _ _ (by decide)]
    have e4 : aCm c y 75 4 = c 75 4 + 1 := by
      rw [aCm_y hc]
      exact xu_s
    have hn : y.toNatClampNeg < 512 := by
      have := tn_cast hc.1
      have := hc.2.1
      omega
    have u := cnt_up (m := c) (c := 77) (x := (1 : Int32)) hn hc.2.2.2.2.2 (by decide)
    have b := i_bd (c 75 4)
    have l := hc.2.2.2.2.1
    have e1 : (c 75 4 + 1).toInt = (c 75 4).toInt + 1 := i_p1 (by omega)
    rw [e7, e4, e1, u]
    omega
  · rw [aCm_n hc]
    exact h
theorem yQ_push (h : qYQ kp ca us nr cat cm c) (hR : qR1 us nr ws AT ho c) (h0 : 0 ≤ s.toInt) (h3 : s.toInt ≤ 3099) (hu : us s.toNatClampNeg ≠ 0) (hk : kp s.toNatClampNeg = 0) (e1 : ∀ t, kp₉ t = if t = s.toNatClampNeg then 1 else kp t) (e2 : ∀ t, ca₉ t = if t = cm.toNatClampNeg then s else ca t) (e3 : cm₉ = cm + 1) : qYQ kp₉ ca₉ us nr cat cm₉ (aCm c (nr s.toNatClampNeg)) := by
  have cc := YQ_cc h hR h0 h3 hu hk
  have r := cm_r cc.1
  obtain ⟨⟨q1, q2⟩, q3, q4, q5, q6, q7⟩ := h
  have q44 := q3.1.2.2.2
  rw [q2] at q44 r
  have sl := tn_lt h0 (by omega : s.toInt < 3100)
  have ecm : (cm + 1).toInt = cm.toInt + 1 := i_p1 (by omega)
  have tc := tn_cast (x := cm) (by omega)
  have o3 : aCm c (nr s.toNatClampNeg) 130 = c 130 := funext (fun k => aCm_o ⟨by decide, by decide, by decide⟩)
  refine ⟨⟨r.1.trans q1, by rw [r.2.1, e3]⟩, FY_cm q3, Ct_cm q4, fun t ht w => ?_, fun t ht hut => ?_, fun j hj => ?_⟩
  · by_cases z : t = s.toNatClampNeg
    · rw [z]
      exact hu
    · rw [e1 t, if_neg z] at w
      exact q5 t ht w
  · rw [o3, cm_5]
    by_cases z : t = s.toNatClampNeg
    · rw [e1 t, if_pos z, z, r.2.2.2.2.2]
      exact ⟨fun _ => Or.inr (by decide), fun _ => by decide⟩
    · have ne : (nr t).toNatClampNeg ≠ (nr s.toNatClampNeg).toNatClampNeg := fun w => z (R1_in hR ht sl hut hu w)
      rw [e1 t, if_neg z, r.2.2.2.2.1 _ ne]
      exact q6 t ht hut
  · rw [e3, ecm] at hj
    by_cases z : j = cm.toNatClampNeg
    · rw [e2 j, if_pos z, z, r.2.2.2.1]
      exact ⟨⟨h0, by omega, hu⟩, rfl⟩
    · rw [e2 j, if_neg z, r.2.2.1 j z]
      exact q7 j (by omega)
theorem yQ_skip (h : qYQ kp ca us nr cat cm c) (hs : s.toInt < 0 ∨ (0 ≤ s.toInt ∧ s.toInt ≤ 3099 ∧ us s.toNatClampNeg ≠ 0 ∧ kp s.toNatClampNeg ≠ 0)) : aCm c (qNo nr s) = c := by
  refine aCm_n (fun z => ?_)
  rcases hs with w | ⟨h0, h3, hu, hk⟩
  · have z1 := z.1
    rw [No_n w] at z1
    exact absurd z1 (by decide)
  · have z6 := z.2.2.2
    rw [No_y h0] at z6
    rcases (h.2.2.2.2.1 _ (tn_lt h0 (by omega)) hu).mp hk with w | w
    · have := z6.1
      omega
    · exact w z6.2.2
/-- in what came each counts once: with one more that has not come there is still room -/
theorem YP_bd (hQ : qYQ kp ca us nr cat cm c) (hA : qA0 c) (h5 : c 75 5 = c 87 9) : (∀ i : Nat, (i : Int) < cm.toInt → 0 ≤ gPf c i ∧ 0 ≤ gNf c i ∧ 1 ≤ (c 128 (c 76 i).toNatClampNeg).toInt) ∧ zsg (gPf c) cm.toInt.toNat ≤ gGr c 512 ∧ zsg (gNf c) cm.toInt.toNat ≤ gSy c 512 ∧ ∀ n, xAl c n → c 77 n = 0 → (c 87 9).toInt ≤ (c 130 n).toInt → (qYg c n → zsg (gPf c) cm.toInt.toNat + (c 128 n).toInt ≤ gGr c 512) ∧ (¬ qYg c n → zsg (gNf c) cm.toInt.toNat + (c 128 n).toInt ≤ gSy c 512) := by
  have FQ := hQ.2.1.1
  have hc := hQ.1.2
  have sz : ∀ n, xAl c n → 1 ≤ (c 128 n).toInt := fun n hn => (hA.1.1 n hn).2.1.1
  have al : ∀ k, k < 512 → c 77 k ≠ 0 → xAl c k ∧ (c 87 9).toInt ≤ (c 130 k).toInt := fun k hk w => by
    obtain ⟨j, hj, e⟩ := FQ.2.2.1 k hk w
    have g := FQ.1 j hj
    rw [e, tn_of hk] at g
    have p := hQ.2.1.2 k hk w
    rw [h5] at p
    exact ⟨⟨hk, g.2.2.2⟩, p⟩
  have eP : zsg (gPf c) cm.toInt.toNat = zsg (fun n => if c 77 n ≠ 0 then (if (c 87 11).toInt ≤ (c 131 n).toInt + 1 then (c 128 n).toInt else 0) else 0) 512 := by
    rw [← hc]
    exact Fq_sum FQ (fun n => if (c 87 11).toInt ≤ (c 131 n).toInt + 1 then (c 128 n).toInt else 0)
  have eN : zsg (gNf c) cm.toInt.toNat = zsg (fun n => if c 77 n ≠ 0 then (if (c 87 11).toInt ≤ (c 131 n).toInt + 1 then 0 else (c 128 n).toInt) else 0) 512 := by
    rw [← hc]
    exact Fq_sum FQ (fun n => if (c 87 11).toInt ≤ (c 131 n).toInt + 1 then 0 else (c 128 n).toInt)
  have mP : ∀ k, k < 512 → (if c 77 k ≠ 0 then (if (c 87 11).toInt ≤ (c 131 k).toInt + 1 then (c 128 k).toInt else 0) else 0) ≤ (if c 126 k ≠ 0 ∧ (c 87 9).toInt ≤ (c 130 k).toInt ∧ (c 87 11).toInt ≤ (c 131 k).toInt + 1 then (c 128 k).toInt else 0) := fun k hk => by
    by_cases w : c 77 k ≠ 0
    · have q := al k hk w
      rw [if_pos w]
      by_cases v : (c 87 11).toInt ≤ (c 131 k).toInt + 1
      · rw [if_pos v, if_pos ⟨q.1.2, q.2, v⟩]
        exact Int.le_refl _
      · rw [if_neg v, if_neg (fun z => v z.2.2)]
        exact Int.le_refl _
    · rw [if_neg w]
      by_cases v : c 126 k ≠ 0 ∧ (c 87 9).toInt ≤ (c 130 k).toInt ∧ (c 87 11).toInt ≤ (c 131 k).toInt + 1
      · rw [if_pos v]
        have := sz k ⟨hk, v.1⟩
        omega
      · rw [if_neg v]
        exact Int.le_refl _
  have mN : ∀ k, k < 512 → (if c 77 k ≠ 0 then (if (c 87 11).toInt ≤ (c 131 k).toInt + 1 then 0 else (c 128 k).toInt) else 0) ≤ (if c 126 k ≠ 0 ∧ (c 87 9).toInt ≤ (c 130 k).toInt then (c 128 k).toInt else 0) := fun k hk => by
    by_cases w : c 77 k ≠ 0
    · have q := al k hk w
      have s1 := sz k q.1
      rw [if_pos w, if_pos (show c 126 k ≠ 0 ∧ (c 87 9).toInt ≤ (c 130 k).toInt from ⟨q.1.2, q.2⟩)]
      by_cases v : (c 87 11).toInt ≤ (c 131 k).toInt + 1
      · rw [if_pos v]
        omega
      · rw [if_neg v]
        exact Int.le_refl _
    · rw [if_neg w]
      by_cases v : c 126 k ≠ 0 ∧ (c 87 9).toInt ≤ (c 130 k).toInt
      · rw [if_pos v]
        have := sz k ⟨hk, v.1⟩
        omega
      · rw [if_neg v]
        exact Int.le_refl _
  refine ⟨fun i hi => ?_, ?_, ?_, fun n hn w p => ⟨fun g => ?_, fun g => ?_⟩⟩
  · have q := FQ.1 i (by rw [hc]; exact hi)
    have t := tn_cast q.1
    have s1 := sz _ ⟨by omega, q.2.2.2⟩
    unfold gPf gNf
    by_cases v : (c 87 11).toInt ≤ (c 131 (c 76 i).toNatClampNeg).toInt + 1
    · rw [if_pos v, if_pos v]
      omega
    · rw [if_neg v, if_neg v]
      omega
  · rw [eP, Gr_sg]
    exact sg_mono _ mP
  · rw [eN, Sy_sg]
    exact sg_mono _ mN
  · rw [eP, Gr_sg]
    refine Sg_ext (n := n) 512 mP hn.1 ?_
    unfold qYg at g
    rw [if_neg (fun z => z w), if_pos ⟨hn.2, p, g⟩]
    omega
  · rw [eN, Sy_sg]
    refine Sg_ext (n := n) 512 mN hn.1 ?_
    rw [if_neg (fun z => z w), if_pos ⟨hn.2, p⟩]
    omega
/-- where the next one goes -/
theorem YP_to (h : qYP us nr ca at2 ow2 ag2 AT AG cm to o2 st o0 c) (hQ : qYQ kp ca us nr cat cm c) (hR : qR1 us nr ws AT ho c) (h0 : 0 ≤ s.toInt) (h3 : s.toInt ≤ 3099) (hu : us s.toNatClampNeg ≠ 0) (hk : kp s.toNatClampNeg = 0) : (c 128 (nr s.toNatClampNeg).toNatClampNeg).toInt = (ws s.toNatClampNeg).toInt + 1 ∧ (0 ≤ o0 ∧ o0 ≤ o2.toInt ∧ st ≤ to.toInt) ∧ (qYg c (nr s.toNatClampNeg).toNatClampNeg → o2.toInt + (ws s.toNatClampNeg).toInt + 1 ≤ (c 87 9).toInt) ∧ (¬ qYg c (nr s.toNatClampNeg).toNatClampNeg → to.toInt + (ws s.toNatClampNeg).toInt + 1 ≤ st + (c 87 5).toInt) := by
  have cc := YQ_cc hQ hR h0 h3 hu hk
  have q := hR.1 _ (tn_lt h0 (by omega)) hu
  obtain ⟨p1, ⟨p2, p2₉⟩, p3, p4, p5, hA, hF, f5, es, eo⟩ := h
  have bd := YP_bd hQ hA f5
  have pl := cc.2.2
  rw [f5] at pl
  have nx := bd.2.2.2 _ (R1_al hR (tn_lt h0 (by omega)) hu) cc.2.1 pl
  have sz : (c 128 (nr s.toNatClampNeg).toNatClampNeg).toInt = (ws s.toNatClampNeg).toInt + 1 := by
    rw [q.2.2.1]
    exact i_addk rfl (by have := q.2.2.2.2.2.1; omega) (by have := q.2.2.2.2.2.1; omega)
  have cl : (cm.toInt.toNat : Int) ≤ 512 := by
    have := hQ.2.1.1.2.2.2
    rw [hQ.1.2] at this
    omega
  have c0 : 0 ≤ cm.toInt := by
    have := hQ.2.1.1.2.2.2
    rw [hQ.1.2] at this
    omega
  have gP := sg_le (F := gPf c) (m := cm.toInt.toNat) (fun i hi => (bd.1 i (by omega)).1) cm.toInt.toNat (Nat.le_refl _) 0 (by omega)
  have gN := sg_le (F := gNf c) (m := cm.toInt.toNat) (fun i hi => (bd.1 i (by omega)).2.1) cm.toInt.toNat (Nat.le_refl _) 0 (by omega)
  have z1 : zsg (gPf c) 0 = 0 := rfl
  have z2 : zsg (gNf c) 0 = 0 := rfl
  unfold gFu at hF
  have a5 := hA.2.2.2.2.1
  have a6 := hA.2.2.2.2.2.1
  refine ⟨sz, ⟨by omega, by omega, by omega⟩, fun g => ?_, fun g => ?_⟩
  · have := nx.1 g
    omega
  · have := nx.2 g
    omega
theorem yg_r (h1 : d 87 = c 87) (h2 : d 131 = c 131) : qYg d n ↔ qYg c n := by
  unfold qYg
  rw [h1, h2]
theorem sg_cgN : ∀ N, (∀ k, k < N → F k = G k) → zsg F N = zsg G N := by
  intro N
  induction N with
  | zero => intro _; rfl
  | succ N ih =>
    intro h
    show zsg F N + F N = zsg G N + G N
    rw [ih (fun k hk => h k (by omega)), h N (by omega)]
/-- the one of number j in what came -/
theorem YQ_j (hQ : qYQ kp ca us nr cat cm c) (hR : qR1 us nr ws AT ho c) (ht : k < 3100) (hu : us k ≠ 0) (hw : c 77 (nr k).toNatClampNeg ≠ 0) : ∃ j : Nat, (j : Int) < cm.toInt ∧ (ca j).toNatClampNeg = k ∧ c 76 j = nr k := by
  obtain ⟨⟨q1, q2⟩, q3, q4, q5, q6, q7⟩ := hQ
  have rt := hR.1 k ht hu
  have n5 := tn_cast rt.1.1
  have n6 := rt.1.2
  obtain ⟨j, hj, e⟩ := q3.1.2.2.1 _ (by omega) hw
  rw [q2] at hj
  have ej := q7 j hj
  have et : (ca j).toNatClampNeg = k := by
    refine R1_in hR (by have := tn_cast ej.1.1; omega) ht ej.1.2.2 hu ?_
    rw [← ej.2, e]
    exact tn_of (by omega)
  exact ⟨j, hj, et, by rw [ej.2, et]⟩
/-- places of the others: never where the next one goes -/
theorem YP_ne (h : qYP us nr ca at2 ow2 ag2 AT AG cm to o2 st o0 c) (hQ : qYQ kp ca us nr cat cm c) (hR : qR1 us nr ws AT ho c) (ht : k < 3100) (hu : us k ≠ 0) : 0 ≤ (at2 k).toInt ∧ (at2 k).toInt < 4500 ∧ (o2.toInt < (c 87 9).toInt → (at2 k).toInt ≠ o2.toInt) ∧ (to.toInt < st + (c 87 5).toInt → (at2 k).toInt ≠ to.toInt) := by
  obtain ⟨p1, ⟨p2, p2₉⟩, p3, p4, p5, hA, hF, f5, es, eo⟩ := h
  have bd := YP_bd hQ hA f5
  have rt := hR.1 k ht hu
  have al := R1_al hR ht hu
  have a1 := hA.2.2.2.2.2.2 _ al
  have sz := (hA.1.1 _ al).2.1.1
  have a3 := hA.2.2.1
  have a4 := hA.2.2.2.1
  have a5 := hA.2.2.2.2.1
  have a6 := hA.2.2.2.2.2.1
  have c0 : 0 ≤ cm.toInt := by
    have := hQ.2.1.1.2.2.2
    rw [hQ.1.2] at this
    omega
  have z1 : zsg (gPf c) 0 = 0 := rfl
  have z2 : zsg (gNf c) 0 = 0 := rfl
  have gP := sg_le (F := gPf c) (m := cm.toInt.toNat) (fun i hi => (bd.1 i (by omega)).1)
  have gN := sg_le (F := gNf c) (m := cm.toInt.toNat) (fun i hi => (bd.1 i (by omega)).2.1)
  have gP0 := gP cm.toInt.toNat (Nat.le_refl _) 0 (by omega)
  have gN0 := gN cm.toInt.toNat (Nat.le_refl _) 0 (by omega)
  unfold gFu at hF
  by_cases w : c 77 (nr k).toNatClampNeg = 0
  · have e := (p3 k ht hu w).1
    have e4 := rt.2.2.2.1
    rw [e, ← e4]
    have e5 := rt.2.2.2.2.2.2
    rw [← e4] at e5
    unfold qA1 at a1
    by_cases o : (c 130 (nr k).toNatClampNeg).toInt < (c 87 9).toInt
    · have := a1.2.1 o
      exact ⟨by omega, by omega, fun _ => by omega, fun _ => by omega⟩
    · have := a1.2.2 (by omega)
      exact ⟨by omega, by omega, fun _ => by omega, fun _ => by omega⟩
  · obtain ⟨j, hj, et, ej⟩ := YQ_j hQ hR ht hu w
    have pj := p1 j hj
    rw [et] at pj
    have b1 := bd.1 j hj
    by_cases g : qYg c (c 76 j).toNatClampNeg
    · have e := pj.1 g
      have l := gP cm.toInt.toNat (Nat.le_refl _) (j + 1) (by omega)
      have l0 := gP j (by omega) 0 (by omega)
      have l2 : zsg (gPf c) (j + 1) = zsg (gPf c) j + gPf c j := rfl
      have l3 : gPf c j = (c 128 (c 76 j).toNatClampNeg).toInt := if_pos g
      have := bd.2.1
      exact ⟨by omega, by omega, fun _ => by omega, fun _ => by omega⟩
    · have e := pj.2.1 g
      have l := gN cm.toInt.toNat (Nat.le_refl _) (j + 1) (by omega)
      have l0 := gN j (by omega) 0 (by omega)
      have l2 : zsg (gNf c) (j + 1) = zsg (gNf c) j + gNf c j := rfl
      have l3 : gNf c j = (c 128 (c 76 j).toNatClampNeg).toInt := if_neg g
      have := bd.2.2.1
      have := bd.2.1
      exact ⟨by omega, by omega, fun _ => by omega, fun _ => by omega⟩
theorem yP_push (h : qYP us nr ca at2 ow2 ag2 AT AG cm to o2 st o0 c) (hQ : qYQ kp ca us nr cat cm c) (hR : qR1 us nr ws AT ho c) (h0 : 0 ≤ s.toInt) (h3 : s.toInt ≤ 3099) (hu : us s.toNatClampNeg ≠ 0) (hk : kp s.toNatClampNeg = 0) (e1 : ∀ t, ag3 t = if t = s.toNatClampNeg then ag2 s.toNatClampNeg + 1 else ag2 t) (e2 : ∀ t, ca₉ t = if t = cm.toNatClampNeg then s else ca t) (e3 : cm₉ = cm + 1) (hm : zmov s tg at2 ow2 at3 ow3) (hg : qYg c (nr s.toNatClampNeg).toNatClampNeg → tg = o2 ∧ to₉ = to ∧ o2₉.toInt = o2.toInt + ((ws s.toNatClampNeg).toInt + 1)) (hn : ¬ qYg c (nr s.toNatClampNeg).toNatClampNeg → tg = to ∧ o2₉ = o2 ∧ to₉.toInt = to.toInt + ((ws s.toNatClampNeg).toInt + 1)) : qYP us nr ca₉ at3 ow3 ag3 AT AG cm₉ to₉ o2₉ st o0 (aCm c (nr s.toNatClampNeg)) := by
  have bt := YP_to h hQ hR h0 h3 hu hk
  have cc := YQ_cc hQ hR h0 h3 hu hk
  have rr := cm_r cc.1
  have sl := tn_lt h0 (by omega : s.toInt < 3100)
  have nes := fun k ht hut => YP_ne h hQ hR (k := k) ht hut
  have w0 := (hR.1 _ sl hu).2.2.2.2.2.1
  obtain ⟨⟨q1, q2⟩, q3, q4, q5, q6, q7⟩ := hQ
  have q44 := q3.1.2.2.2
  rw [q2] at q44 rr
  have ecm : (cm + 1).toInt = cm.toInt + 1 := i_p1 (by omega)
  have tc := tn_cast (x := cm) (by omega)
  obtain ⟨p1, ⟨p2, p2₉⟩, p3, p4, p5, hA, hF, f5, es, eo⟩ := h
  have cn : cm.toInt.toNat = cm.toNatClampNeg := rfl
  rw [cn] at p2 p2₉
  have o : zOf c (aCm c (nr s.toNatClampNeg)) := cm_of
  have r87 := of_r o (k := 87) (by decide) (by decide) (by decide)
  have r131 := of_r o (k := 131) (by decide) (by decide) (by decide)
  have r128 := of_r o (k := 128) (by decide) (by decide) (by decide)
  have yg : ∀ n, qYg (aCm c (nr s.toNatClampNeg)) n ↔ qYg c n := fun n => yg_r r87 r131
  have fP : ∀ j, j ≠ cm.toNatClampNeg → gPf (aCm c (nr s.toNatClampNeg)) j = gPf c j := fun j hj => by
    unfold gPf
    rw [rr.2.2.1 j hj, r87, r131, r128]
  have fN : ∀ j, j ≠ cm.toNatClampNeg → gNf (aCm c (nr s.toNatClampNeg)) j = gNf c j := fun j hj => by
    unfold gNf
    rw [rr.2.2.1 j hj, r87, r131, r128]
  have sP : ∀ j, j ≤ cm.toNatClampNeg → zsg (gPf (aCm c (nr s.toNatClampNeg))) j = zsg (gPf c) j := fun j hj => sg_cgN j (fun k hk => fP k (by omega))
  have sN : ∀ j, j ≤ cm.toNatClampNeg → zsg (gNf (aCm c (nr s.toNatClampNeg))) j = zsg (gNf c) j := fun j hj => sg_cgN j (fun k hk => fN k (by omega))
  have a3 : (at3 s.toNatClampNeg).toInt = tg.toInt := mv_s hm
  have ao : ∀ t, t ≠ s.toNatClampNeg → at3 t = at2 t := fun t ht => by
    rcases hm with ⟨w, _, _⟩ | ⟨w, _, _⟩
    · rw [w]
    · rw [w t, if_neg ht]
  have ca_ne : ∀ j : Nat, (j : Int) < cm.toInt → (ca j).toNatClampNeg ≠ s.toNatClampNeg := fun j hj z => by
    have g := (q3.1.1 j (by rw [q2]; exact hj)).2.2.1
    rw [(q7 j hj).2, z] at g
    exact g cc.2.1
  have tgb : 0 ≤ tg.toInt ∧ ∀ k, k < 3100 → us k ≠ 0 → (at2 k).toInt ≠ tg.toInt := by
    have a4 := hA.2.2.2.1
    have a5 := hA.2.2.2.2.1
    have a30 := hA.2.2.1
    by_cases g : qYg c (nr s.toNatClampNeg).toNatClampNeg
    · rw [(hg g).1]
      have := bt.2.2.1 g
      exact ⟨by omega, fun k hk hku => (nes k hk hku).2.2.1 (by omega)⟩
    · rw [(hn g).1]
      have := bt.2.2.2 g
      exact ⟨by omega, fun k hk hku => (nes k hk hku).2.2.2 (by omega)⟩
  refine ⟨fun j hj => ?_, ⟨?_, ?_⟩, fun t ht hut hw => ?_, fun t ht hut => ?_, fun t ht hut => ?_, A0_of hA o, Fu_of hF o, ?_, ?_, ?_⟩
  · rw [e3, ecm] at hj
    rw [yg]
    by_cases z : j = cm.toNatClampNeg
    · rw [e2 j, if_pos z, a3, z, rr.2.2.2.1, sP _ (by omega), sN _ (by omega), e1, if_pos rfl, (p3 _ sl hu cc.2.1).2]
      exact ⟨fun g => by rw [(hg g).1]; exact p2₉, fun g => by rw [(hn g).1]; exact p2, rfl⟩
    · rw [e2 j, if_neg z, ao _ (ca_ne j (by omega)), e1, if_neg (ca_ne j (by omega)), rr.2.2.1 j z, sP j (by omega), sN j (by omega)]
      exact p1 j (by omega)
  · rw [e3, show (cm + 1).toInt.toNat = cm.toNatClampNeg + 1 from by omega]
    show _ = st + (zsg (gNf (aCm c (nr s.toNatClampNeg))) cm.toNatClampNeg + gNf (aCm c (nr s.toNatClampNeg)) cm.toNatClampNeg)
    rw [sN _ (by omega)]
    unfold gNf
    rw [rr.2.2.2.1, r87, r131, r128, bt.1]
    by_cases g : qYg c (nr s.toNatClampNeg).toNatClampNeg
    · rw [(hg g).2.1]
      unfold qYg at g
      rw [if_pos g]
      unfold gNf at p2
      omega
    · have h9 := (hn g).2.2
      unfold qYg at g
      rw [if_neg g]
      unfold gNf at p2
      omega
  · rw [e3, show (cm + 1).toInt.toNat = cm.toNatClampNeg + 1 from by omega]
    show _ = o0 + (zsg (gPf (aCm c (nr s.toNatClampNeg))) cm.toNatClampNeg + gPf (aCm c (nr s.toNatClampNeg)) cm.toNatClampNeg)
    rw [sP _ (by omega)]
    unfold gPf
    rw [rr.2.2.2.1, r87, r131, r128, bt.1]
    by_cases g : qYg c (nr s.toNatClampNeg).toNatClampNeg
    · have h9 := (hg g).2.2
      unfold qYg at g
      rw [if_pos g]
      unfold gPf at p2₉
      omega
    · rw [(hn g).2.1]
      unfold qYg at g
      rw [if_neg g]
      unfold gPf at p2₉
      omega
  · have z : t ≠ s.toNatClampNeg := fun z => by
      rw [z, rr.2.2.2.2.2] at hw
      exact absurd hw (by decide)
    have ne : (nr t).toNatClampNeg ≠ (nr s.toNatClampNeg).toNatClampNeg := fun w => z (R1_in hR ht sl hut hu w)
    rw [rr.2.2.2.2.1 _ ne] at hw
    rw [ao t z, e1, if_neg z]
    exact p3 t ht hut hw
  · rcases hm with ⟨w1, w2, _⟩ | ⟨w1, w2, w3⟩
    · rw [w1, w2]
      exact p4 t ht hut
    · by_cases z : t = s.toNatClampNeg
      · rw [w1 t, if_pos z, w2, z]
        exact (ofN_tn h0).symm
      · rw [w1 t, if_neg z]
        have ne := tgb.2 t ht hut
        have t0 := tn_cast (x := tg) tgb.1
        have t1 := tn_cast (x := at2 t) (nes t ht hut).1
        rcases w3 (at2 t).toNatClampNeg (fun z2 => ne (by omega)) with g | g
        · rw [g]
          exact p4 t ht hut
        · have g2 := p4 t ht hut
          rw [g.2.1] at g2
          have g3 := congrArg Int32.toInt g2
          rw [ofN_s ht] at g3
          exact absurd (by have := tn_cast h0; omega) z
  · rw [r131]
    exact p5 t ht hut
  · rw [cm_5, r87]
    exact f5
  · rw [r87]
    exact es
  · rw [r87]
    exact eo
theorem YB_push (h : qYB us nr kr kd ws AT ho wd wi OW rt wk wl wm nu ro fo le ra pi kp ca cat cm at2 ow2 ag2 AG to o2 st o0 c) (h0 : 0 ≤ s.toInt) (h3 : s.toInt ≤ 3099) (hu : us s.toNatClampNeg ≠ 0) (hk : kp s.toNatClampNeg = 0) (e0 : ∀ t, kp₉ t = if t = s.toNatClampNeg then 1 else kp t) (e1 : ∀ t, ag3 t = if t = s.toNatClampNeg then ag2 s.toNatClampNeg + 1 else ag2 t) (e2 : ∀ t, ca₉ t = if t = cm.toNatClampNeg then s else ca t) (e3 : cm₉ = cm + 1) (hm : zmov s tg at2 ow2 at3 ow3) (hg : qYg c (nr s.toNatClampNeg).toNatClampNeg → tg = o2 ∧ to₉ = to ∧ o2₉.toInt = o2.toInt + ((ws s.toNatClampNeg).toInt + 1)) (hn : ¬ qYg c (nr s.toNatClampNeg).toNatClampNeg → tg = to ∧ o2₉ = o2 ∧ to₉.toInt = to.toInt + ((ws s.toNatClampNeg).toInt + 1)) : qYB us nr kr kd ws AT ho wd wi OW rt wk wl wm nu ro fo le ra pi kp₉ ca₉ cat cm₉ at3 ow3 ag3 AG to₉ o2₉ st o0 (aCm c (qNo nr s)) := by
  rw [No_y h0]
  exact ⟨RB_of h.1 cm_of, yQ_push h.2.1 h.1.1 h0 h3 hu hk e0 e2 e3, yP_push h.2.2 h.2.1 h.1.1 h0 h3 hu hk e1 e2 e3 hm hg hn⟩
theorem YB_skip (h : qYB us nr kr kd ws AT ho wd wi OW rt wk wl wm nu ro fo le ra pi kp ca cat cm at2 ow2 ag2 AG to o2 st o0 c) (hs : s.toInt < 0 ∨ (0 ≤ s.toInt ∧ s.toInt ≤ 3099 ∧ us s.toNatClampNeg ≠ 0 ∧ kp s.toNatClampNeg ≠ 0)) : qYB us nr kr kd ws AT ho wd wi OW rt wk wl wm nu ro fo le ra pi kp ca cat cm at2 ow2 ag2 AG to o2 st o0 (aCm c (qNo nr s)) := by
  rw [yQ_skip h.2.1 hs]
  exact h
theorem YB_b (h : qYB us nr kr kd ws AT ho wd wi OW rt wk wl wm nu ro fo le ra pi kp ca cat cm at2 ow2 ag2 AG to o2 st o0 c) : 0 ≤ cat.toInt ∧ cat.toInt ≤ cm.toInt ∧ cm.toInt ≤ 512 := by
  have q := h.2.1.2.1.1.2.2.2
  rw [h.2.1.1.1, h.2.1.1.2] at q
  exact q
/-- what the code reads of the one that comes: its age, whether it grows OLD, where it goes -/
theorem YB_to (h : qYB us nr kr kd ws AT ho wd wi OW rt wk wl wm nu ro fo le ra pi kp ca cat cm at2 ow2 ag2 AG to o2 st o0 c) (h0 : 0 ≤ s.toInt) (h3 : s.toInt ≤ 3099) (hu : us s.toNatClampNeg ≠ 0) (hk : kp s.toNatClampNeg = 0) (ha : x = c 87 11) : (0 ≤ (ag2 s.toNatClampNeg).toInt ∧ (ag2 s.toNatClampNeg).toInt < x.toInt ∧ x.toInt ≤ 1000) ∧ (0 ≤ o2.toInt ∧ 0 ≤ to.toInt ∧ o2.toInt ≤ 1500 ∧ to.toInt ≤ 4500) ∧ (qYg c (nr s.toNatClampNeg).toNatClampNeg ↔ (ag2 s.toNatClampNeg).toInt + 1 = x.toInt) ∧ (qYg c (nr s.toNatClampNeg).toNatClampNeg → o2.toInt + (ws s.toNatClampNeg).toInt + 1 ≤ 1500) ∧ (¬ qYg c (nr s.toNatClampNeg).toNatClampNeg → to.toInt + (ws s.toNatClampNeg).toInt + 1 ≤ 4500) := by
  have bt := YP_to h.2.2 h.2.1 h.1.1 h0 h3 hu hk
  have cc := YQ_cc h.2.1 h.1.1 h0 h3 hu hk
  have sl := tn_lt h0 (by omega : s.toInt < 3100)
  obtain ⟨p1, ⟨p2, p2₉⟩, p3, p4, p5, hA, hF, f5, es, eo⟩ := h.2.2
  have e1 := (p3 _ sl hu cc.2.1).2
  have e2 := p5 _ sl hu
  have al := R1_al h.1.1 sl hu
  have a1 := hA.2.2.2.2.2.2 _ al
  have a3 := hA.2.2.1
  have a4 := hA.2.2.2.1
  have a5 := hA.2.2.2.2.1
  have a6 := hA.2.2.2.2.2.1
  have pl := cc.2.2
  rw [f5] at pl
  unfold qA1 at a1
  have a7 := a1.2.2 pl
  have bd := YP_bd h.2.1 hA f5
  have gr := bd.2.1
  have sy := bd.2.2.1
  unfold gFu at hF
  rw [e1, e2, ha]
  have yg : qYg c (nr s.toNatClampNeg).toNatClampNeg ↔ (c 131 (nr s.toNatClampNeg).toNatClampNeg).toInt + 1 = (c 87 11).toInt := by
    unfold qYg
    omega
  refine ⟨⟨a1.1.1, a7.2.1, a3.2.2.2.1.2⟩, ⟨by omega, by omega, ?_, ?_⟩, yg, fun g => ?_, fun g => ?_⟩
  · omega
  · omega
  · have := bt.2.2.1 g
    omega
  · have := bt.2.2.2 g
    omega
end F31

/-! from 95.v01 -/
/-! AGES, the reference (written by wip/tools/gen15v.py) -/
/-! AGES, the reference: all that came, ROOTS, WISHES, dirty cards, wishers -/
def qYS (us nr kr kd ws AT ho wd wi OW rt wk wl : Nat → Int32) (wm nu ro fo le ra pi : Int32) (kp ca : Nat → Int32) (cat cm : Int32) (at2 ow2 ag2 AG : Nat → Int32) (to o2 : Int32) (st o0 : Int) (T : Nat → Nat → Int32) : Prop := ∃ (c : Nat → Nat → Int32) (f : Nat), qYB us nr kr kd ws AT ho wd wi OW rt wk wl wm nu ro fo le ra pi kp ca cat cm at2 ow2 ag2 AG to o2 st o0 c ∧ aSp f c = T ∧ 512 ≤ (f : Int) + cat.toInt
def qYW (us nr kr kd ws AT ho wd wi OW rt wk wl : Nat → Int32) (wm nu ro fo le ra pi : Int32) (kp ca : Nat → Int32) (cat cm : Int32) (at2 ow2 ag2 AG : Nat → Int32) (to o2 : Int32) (st o0 : Int) (s i : Int32) (T : Nat → Nat → Int32) : Prop := ∃ (c : Nat → Nat → Int32) (f : Nat), (qYB us nr kr kd ws AT ho wd wi OW rt wk wl wm nu ro fo le ra pi kp ca cat cm at2 ow2 ag2 AG to o2 st o0 c ∧ aSp f (aCw c (nr s.toNatClampNeg).toNatClampNeg i) = T ∧ 512 ≤ (f : Int) + cat.toInt) ∧ 0 ≤ s.toInt ∧ s.toInt ≤ 3099 ∧ us s.toNatClampNeg ≠ 0
def qYR (us nr kr kd ws AT ho wd wi OW rt wk wl : Nat → Int32) (wm nu ro fo le ra pi : Int32) (kp ca : Nat → Int32) (cat cm : Int32) (at2 ow2 ag2 AG : Nat → Int32) (to o2 : Int32) (st o0 : Int) (i : Int32) (T : Nat → Nat → Int32) : Prop := ∃ c, qYB us nr kr kd ws AT ho wd wi OW rt wk wl wm nu ro fo le ra pi kp ca cat cm at2 ow2 ag2 AG to o2 st o0 c ∧ aRo c i = T
def qYX (us nr kr kd ws AT ho wd wi OW rt wk wl : Nat → Int32) (wm nu ro fo le ra pi : Int32) (kp ca : Nat → Int32) (cat cm : Int32) (at2 ow2 ag2 AG : Nat → Int32) (to o2 : Int32) (st o0 : Int) (i : Int32) (T : Nat → Nat → Int32) : Prop := ∃ c, qYB us nr kr kd ws AT ho wd wi OW rt wk wl wm nu ro fo le ra pi kp ca cat cm at2 ow2 ag2 AG to o2 st o0 c ∧ aWi c i = T
/-- the reference's dirty cards -/
def qDt (dt : Nat → Int32) (c : Nat → Nat → Int32) : Prop := ∀ k, k < 375 → (dt k ≠ 0 ↔ c 83 k ≠ 0)
def qYD (us nr kr kd ws AT ho wd wi OW rt wk wl : Nat → Int32) (wm nu ro fo le ra pi : Int32) (kp ca : Nat → Int32) (cat cm : Int32) (at2 ow2 ag2 AG : Nat → Int32) (to o2 : Int32) (st o0 : Int) (dt : Nat → Int32) (p : Int) (T : Nat → Nat → Int32) : Prop := ∃ c, qYB us nr kr kd ws AT ho wd wi OW rt wk wl wm nu ro fo le ra pi kp ca cat cm at2 ow2 ag2 AG to o2 st o0 c ∧ qDt dt c ∧ (qGd c p ∧ 0 ≤ p) ∧ gDp c o0 p = T
def qYE (us nr kr kd ws AT ho wd wi OW rt wk wl : Nat → Int32) (wm nu ro fo le ra pi : Int32) (kp ca : Nat → Int32) (cat cm : Int32) (at2 ow2 ag2 AG : Nat → Int32) (to o2 : Int32) (st o0 : Int) (dt : Nat → Int32) (p : Int) (s i : Int32) (T : Nat → Nat → Int32) : Prop := ∃ c, qYB us nr kr kd ws AT ho wd wi OW rt wk wl wm nu ro fo le ra pi kp ca cat cm at2 ow2 ag2 AG to o2 st o0 c ∧ qDt dt c ∧ (0 ≤ s.toInt ∧ s.toInt ≤ 3099 ∧ us s.toNatClampNeg ≠ 0) ∧ ((c 130 (nr s.toNatClampNeg).toNatClampNeg).toInt = p ∧ 0 ≤ p ∧ p < o0 ∧ qGd c p) ∧ gDp (gDw c (nr s.toNatClampNeg).toNatClampNeg i) o0 (p + (c 128 (nr s.toNatClampNeg).toNatClampNeg).toInt) = T
def qYG (us nr kr kd ws AT ho wd wi OW rt wk wl : Nat → Int32) (wm nu ro fo le ra pi : Int32) (kp ca : Nat → Int32) (cat cm : Int32) (at2 ow2 ag2 AG : Nat → Int32) (to o2 : Int32) (st o0 : Int) (x : Int32) (T : Nat → Nat → Int32) : Prop := ∃ (b : Nat → Nat → Int32) (l : Int32), qYB us nr kr kd ws AT ho wd wi OW rt wk wl wm nu ro fo le ra pi kp ca cat cm at2 ow2 ag2 AG to o2 st o0 b ∧ qE0 (aPc b) ∧ qCl (aPc b) ∧ (-1 ≤ l.toInt ∧ l.toInt + 1 ≤ (b 69 6).toInt) ∧ qMin (qCw us kp wi nr l) nr x 3100 ∧ aGw b (l + 1) = T
section F32
variable {cat₉ : Int32} {a b c d aa T : Nat → Nat → Int32} {us us₉ nr kr kd ws AT AG at2 at3 ag2 ag3 ho wd wi wi₉ OW ow2 ow3 rt wk wk₉ wl wl₉ kp kp₉ ca ca₉ dt : Nat → Int32} {wm wm₉ nu ro fo le ra pi cat cm cm₉ to to₉ o2 o2₉ tg s x x2 y i l cd : Int32} {st o0 p p2 : Int} {j k n f : Nat} {P N : Nat → Int} {ot : Int}
theorem YS_0 (h : qYB us nr kr kd ws AT ho wd wi OW rt wk wl wm nu ro fo le ra pi kp ca cat cm at2 ow2 ag2 AG to o2 st o0 c) : qYS us nr kr kd ws AT ho wd wi OW rt wk wl wm nu ro fo le ra pi kp ca cat cm at2 ow2 ag2 AG to o2 st o0 (aSp 512 c) := ⟨c, 512, h, rfl, by have := YB_b h; omega⟩
theorem YS_b (h : qYS us nr kr kd ws AT ho wd wi OW rt wk wl wm nu ro fo le ra pi kp ca cat cm at2 ow2 ag2 AG to o2 st o0 d) : 0 ≤ cat.toInt ∧ cat.toInt ≤ cm.toInt ∧ cm.toInt ≤ 512 := by
  obtain ⟨c, f, hB, _, _⟩ := h
  exact YB_b hB
theorem YS_end (h : qYS us nr kr kd ws AT ho wd wi OW rt wk wl wm nu ro fo le ra pi kp ca cat cm at2 ow2 ag2 AG to o2 st o0 d) (hl : ¬ cat.toInt < cm.toInt) : qYB us nr kr kd ws AT ho wd wi OW rt wk wl wm nu ro fo le ra pi kp ca cat cm at2 ow2 ag2 AG to o2 st o0 d := by
  obtain ⟨c, f, hB, hT, _⟩ := h
  have e : aSp f c = c := by
    cases f with
    | zero => rfl
    | succ f =>
      show (if (c 75 3).toInt < (c 75 4).toInt then _ else c) = c
      rw [hB.2.1.1.1, hB.2.1.1.2, if_neg hl]
  rw [← hT, e]
  exact hB
theorem YB_hd (h : qYB us nr kr kd ws AT ho wd wi OW rt wk wl wm nu ro fo le ra pi kp ca cat cm at2 ow2 ag2 AG to o2 st o0 c) (hl : cat.toInt < cm.toInt) : qYB us nr kr kd ws AT ho wd wi OW rt wk wl wm nu ro fo le ra pi kp ca (cat + 1) cm at2 ow2 ag2 AG to o2 st o0 (ma_u (ma_u c 75 3 (c 75 3 + 1)) 77 (c 76 (c 75 3).toNatClampNeg).toNatClampNeg 2) := by
  obtain ⟨hR, ⟨⟨q1, q2⟩, q3, q4, q5, q6, q7⟩, p1, p2, p3, p4, p5, hA, hF, f5, es, eo⟩ := h
  have q44 := q3.1.2.2.2
  have e1 : (c 75 3 + 1).toInt = (c 75 3).toInt + 1 := i_p1 (by omega)
  have t := tn_cast (x := c 75 3) q44.1
  have hq := q3.1.1 (c 75 3).toNatClampNeg (by rw [q2, t, q1]; exact hl)
  generalize hz : (c 76 (c 75 3).toNatClampNeg).toNatClampNeg = z at *
  have of : zOf c (ma_u (ma_u c 75 3 (c 75 3 + 1)) 77 z 2) := fun c₉ k h1 h2 h3 => by rw [xu_o (fun w => h3 w.1), xu_o (fun w => h1 w.1)]
  have r3 : (ma_u (ma_u c 75 3 (c 75 3 + 1)) 77 z 2) 75 3 = c 75 3 + 1 := by rw [xu_o (by omega), xu_s]
  have r4 : (ma_u (ma_u c 75 3 (c 75 3 + 1)) 77 z 2) 75 4 = c 75 4 := by rw [xu_o (by omega), xu_o (by omega)]
  have r5 : (ma_u (ma_u c 75 3 (c 75 3 + 1)) 77 z 2) 75 5 = c 75 5 := by rw [xu_o (by omega), xu_o (by omega)]
  have r6 : (ma_u (ma_u c 75 3 (c 75 3 + 1)) 77 z 2) 76 = c 76 := by rw [ma_u_ne _ _ _ (by decide), ma_u_ne _ _ _ (by decide)]
  have rc : (ma_u (ma_u c 75 3 (c 75 3 + 1)) 77 z 2) 77 = ma_u c 77 z 2 77 := by
    funext k
    show (if (77 : Nat) = 77 ∧ k = z then (2 : Int32) else ma_u c 75 3 _ 77 k) = (if (77 : Nat) = 77 ∧ k = z then (2 : Int32) else c 77 k)
    rw [xu_o (by omega)]
  have r7 : ∀ x, (ma_u (ma_u c 75 3 (c 75 3 + 1)) 77 z 2) 77 x ≠ 0 ↔ c 77 x ≠ 0 := fun x => by
    rw [rc]
    by_cases w : x = z
    · rw [w, xu_s]
      exact ⟨fun _ => hq.2.2.1, fun _ => by decide⟩
    · rw [xu_o (fun y => w y.2)]
  generalize ma_u (ma_u c 75 3 (c 75 3 + 1)) 77 z 2 = B at *
  have r26 := of_r of (k := 126) (by decide) (by decide) (by decide)
  have r28 := of_r of (k := 128) (by decide) (by decide) (by decide)
  have r30 := of_r of (k := 130) (by decide) (by decide) (by decide)
  have r31 := of_r of (k := 131) (by decide) (by decide) (by decide)
  have r87 := of_r of (k := 87) (by decide) (by decide) (by decide)
  have gP : gPf B = gPf c := funext (fun j => by unfold gPf; rw [r6, r28, r31, r87])
  have gN : gNf B = gNf c := funext (fun j => by unfold gNf; rw [r6, r28, r31, r87])
  have yg : ∀ n, qYg B n ↔ qYg c n := fun n => yg_r r87 r31
  refine ⟨RB_of hR of, ⟨⟨by rw [r3, q1], r4.trans q2⟩, ⟨⟨?_, ?_, ?_, ?_⟩, ?_⟩, ?_, q5, fun t ht hu => ?_, fun j hj => by rw [r6]; exact q7 j hj⟩, fun j hj => ?_, ?_, fun s hs hu w => ?_, p4, fun s hs hu => by rw [r31]; exact p5 s hs hu, A0_of hA of, Fu_of hF of, by rw [r5, r87]; exact f5, by rw [r87]; exact es, by rw [r87]; exact eo⟩
  · intro j hj
    rw [r4] at hj
    have g := q3.1.1 j hj
    rw [r6, r26]
    exact ⟨g.1, g.2.1, (r7 _).mpr g.2.2.1, g.2.2.2⟩
  · intro j j₉ h1 h2
    rw [r4] at h2
    rw [r6]
    exact q3.1.2.1 j j₉ h1 h2
  · intro x hx w
    rw [r4, r6]
    exact q3.1.2.2.1 x hx ((r7 x).mp w)
  · rw [r3, r4, e1]
    rw [q1, q2] at *
    omega
  · intro x hx w
    rw [r5, r30]
    exact q3.2 x hx ((r7 x).mp w)
  · rw [r4, rc]
    have w := cnt_u1 (m := c) (c := 77) (k := z) (x := (2 : Int32)) (n := 512) (by decide)
    omega
  · rw [r30, r5]
    exact (q6 t ht hu).trans (or_congr Iff.rfl (r7 _).symm)
  · rw [yg, r6, gP, gN]
    exact p1 j hj
  · rw [gP, gN]
    exact p2
  · refine p3 s hs hu ?_
    by_cases v : c 77 (nr s).toNatClampNeg = 0
    · exact v
    · exact absurd w ((r7 _).mpr v)
theorem YS_go (h : qYS us nr kr kd ws AT ho wd wi OW rt wk wl wm nu ro fo le ra pi kp ca cat cm at2 ow2 ag2 AG to o2 st o0 d) (hl : cat.toInt < cm.toInt) (hs : s = ca cat.toNatClampNeg) (hx : x = cat + 1) : qYW us nr kr kd ws AT ho wd wi OW rt wk wl wm nu ro fo le ra pi kp ca x cm at2 ow2 ag2 AG to o2 st o0 s 0 d := by
  obtain ⟨c, f, hB, hT, hf⟩ := h
  have b := YB_b hB
  have t := tn_cast (x := cat) b.1
  have g := hB.2.1.2.2.2.2.2 cat.toNatClampNeg (by omega)
  have e1 : (cat + 1).toInt = cat.toInt + 1 := i_p1 (by omega)
  have q := hB.1.1.1 _ (tn_lt g.1.1 g.1.2.1) g.1.2.2
  have hd := YB_hd hB hl
  cases f with
  | zero => omega
  | succ f =>
    have e2 : aSp (f + 1) c = aSp f (aPop c) := by
      show (if (c 75 3).toInt < (c 75 4).toInt then aSp f (aPop c) else c) = _
      rw [hB.2.1.1.1, hB.2.1.1.2, if_pos hl]
    have e3 : c 76 (c 75 3).toNatClampNeg = nr s.toNatClampNeg := by
      rw [hB.2.1.1.1, g.2, hs]
    rw [← hs] at g q
    have e4 := aPop_y e3 q.1.1 q.1.2 q.2.1
    rw [e3] at hd
    rw [hx]
    exact ⟨_, f, ⟨hd, by rw [← e4, ← e2]; exact hT, by omega⟩, g.1.1, by have := g.1.2.1; omega, g.1.2.2⟩
theorem YW_rf (h : qYB us nr kr kd ws AT ho wd wi OW rt wk wl wm nu ro fo le ra pi kp ca cat cm at2 ow2 ag2 AG to o2 st o0 c) (h0 : 0 ≤ s.toInt) (h3 : s.toInt ≤ 3099) (hu : us s.toNatClampNeg ≠ 0) (hi : 0 ≤ i.toInt) (hw : i.toInt < (ws s.toNatClampNeg).toInt) (hx : zrf kr kd wd s.toNatClampNeg i.toNatClampNeg = x) : qU us x ∧ aCw c (nr s.toNatClampNeg).toNatClampNeg i = aCw (aCm c (qNo nr x)) (nr s.toNatClampNeg).toNatClampNeg (i + 1) := by
  have t := tn_cast hi
  have q := h.1.2.1 _ (tn_lt h0 (by omega)) hu i.toNatClampNeg (by omega)
  have r := h.1.1.1 _ (tn_lt h0 (by omega)) hu
  have sz : (c 128 (nr s.toNatClampNeg).toNatClampNeg).toInt = (ws s.toNatClampNeg).toInt + 1 := by
    rw [r.2.2.1]
    exact i_addk rfl (by have := r.2.2.2.2.2.1; omega) (by have := r.2.2.2.2.2.1; omega)
  rw [hx] at q
  refine ⟨q.1, ?_⟩
  rw [aCw_go (by omega), ← q.2.1, ofN_tn hi]
theorem YW_end (h : qYW us nr kr kd ws AT ho wd wi OW rt wk wl wm nu ro fo le ra pi kp ca cat cm at2 ow2 ag2 AG to o2 st o0 s i d) (hi : 0 ≤ i.toInt) (hw : ¬ i.toInt < (ws s.toNatClampNeg).toInt) : qYS us nr kr kd ws AT ho wd wi OW rt wk wl wm nu ro fo le ra pi kp ca cat cm at2 ow2 ag2 AG to o2 st o0 d := by
  obtain ⟨c, f, ⟨hB, hT, hf⟩, h0, h3, hu⟩ := h
  have r := hB.1.1.1 _ (tn_lt h0 (by omega)) hu
  have sz : (c 128 (nr s.toNatClampNeg).toNatClampNeg).toInt = (ws s.toNatClampNeg).toInt + 1 := by
    rw [r.2.2.1]
    exact i_addk rfl (by have := r.2.2.2.2.2.1; omega) (by have := r.2.2.2.2.2.1; omega)
  rw [aCw_st (by omega)] at hT
  exact ⟨c, f, hB, hT, hf⟩
/-! ROOTS, WISHES -/
theorem YB_wh (hR : qRB us nr kr kd ws AT ho wd wi OW rt wk wl wm nu ro fo le ra pi a) (hv : qAv a) (hf : ¬ gFu a) (hg : ∀ s, s < 3100 → us s ≠ 0 → AG s = a 131 (nr s).toNatClampNeg) (hk : ∀ s, s < 3100 → (kp s ≠ 0 ↔ us s ≠ 0 ∧ (AT s).toInt < (a 87 9).toInt)) (h1 : cat.toInt = 0) (h2 : cm.toInt = 0) (ht : to.toInt = 2 * (a 87 9).toInt + (a 87 5).toInt - (a 87 3).toInt) (h10 : o2 = a 87 10) : qYB us nr kr kd ws AT ho wd wi OW rt wk wl wm nu ro fo le ra pi kp ca cat cm AT OW AG AG to o2 (2 * (a 87 9).toInt + (a 87 5).toInt - (a 87 3).toInt) (a 87 10).toInt (aWh a (a 87 9)) := by
  have o := wh_of (a := a) (x := a 87 9)
  have c0 : cat = 0 := Int32.toInt_inj.mp (by rw [h1]; rfl)
  have m0 : cm = 0 := Int32.toInt_inj.mp (by rw [h2]; rfl)
  have r3 : aWh a (a 87 9) 75 3 = 0 := by
    unfold aWh
    rw [xu_o (by omega), xu_o (by omega), xu_s]
  have r4 : aWh a (a 87 9) 75 4 = 0 := by
    unfold aWh
    rw [xu_o (by omega), xu_s]
  have r30 := of_r o (k := 130) (by decide) (by decide) (by decide)
  have r31 := of_r o (k := 131) (by decide) (by decide) (by decide)
  have r87 := of_r o (k := 87) (by decide) (by decide) (by decide)
  have z4 : (0 : Int32).toInt = 0 := rfl
  refine ⟨RB_of hR o, ⟨⟨by rw [r3, c0], by rw [r4, m0]⟩, FY_wh, by rw [r4, z4]; omega, fun s hs z => ((hk s hs).mp z).1, fun s hs hu => ?_, fun j hj => absurd hj (by omega)⟩, fun j hj => absurd hj (by omega), ⟨?_, ?_⟩, fun _ _ _ _ => ⟨rfl, rfl⟩, hR.2.2.2.2.2.2.1, fun s hs hu => by rw [r31]; exact hg s hs hu, A0_of (Av_0 hv) o, Fu_of hf o, by rw [wh_5, r87], by rw [r87], by rw [r87]⟩
  · have q := hR.1.1 s hs hu
    have n5 := tn_cast q.1.1
    have n6 := q.1.2
    rw [r30, wh_5, wh_7 (by omega), q.2.2.2.1]
    exact (hk s hs).trans ⟨fun z => Or.inl z.2, fun z => z.elim (fun w => ⟨hu, w⟩) (fun w => absurd rfl w)⟩
  · rw [ht, h2]
    show _ = _ + (0 : Int)
    omega
  · rw [h10, h2]
    show _ = _ + (0 : Int)
    omega
theorem YR_0 (h : qYB us nr kr kd ws AT ho wd wi OW rt wk wl wm nu ro fo le ra pi kp ca cat cm at2 ow2 ag2 AG to o2 st o0 c) (hi : i.toInt = 0) : qYR us nr kr kd ws AT ho wd wi OW rt wk wl wm nu ro fo le ra pi kp ca cat cm at2 ow2 ag2 AG to o2 st o0 i (aRo c 0) := ⟨c, h, by rw [show i = 0 from Int32.toInt_inj.mp (by rw [hi]; rfl)]⟩
theorem YR_rt (h : qYB us nr kr kd ws AT ho wd wi OW rt wk wl wm nu ro fo le ra pi kp ca cat cm at2 ow2 ag2 AG to o2 st o0 c) (hi : 0 ≤ i.toInt) (h6 : i.toInt < 16) (hx : x = rt i.toNatClampNeg) : qU us x ∧ aRo c i = aRo (aCm c (qNo nr x)) (i + 1) := by
  have t := tn_cast hi
  have q := h.1.2.2.1 i.toNatClampNeg (by omega)
  rw [aRo_go h6, q.2, hx]
  exact ⟨q.1, rfl⟩
theorem YX_wl (h : qYB us nr kr kd ws AT ho wd wi OW rt wk wl wm nu ro fo le ra pi kp ca cat cm at2 ow2 ag2 AG to o2 st o0 c) (hi : 0 ≤ i.toInt) (h6 : i.toInt < wm.toInt) (hx : x = wl i.toNatClampNeg) : (0 ≤ x.toInt ∧ qU us x) ∧ aWi c i = aWi (aCm c (qNo nr x)) (i + 1) := by
  have t := tn_cast hi
  have q := h.1.2.2.2.2.1
  have g := q.2 i.toNatClampNeg (by omega)
  rw [hx]
  refine ⟨⟨g.1.1, Or.inr ⟨g.1.2.1, g.1.2.2⟩⟩, ?_⟩
  rw [aWi_go (by rw [q.1]; exact h6), g.2, No_y g.1.1]
theorem YR_end (h : qYR us nr kr kd ws AT ho wd wi OW rt wk wl wm nu ro fo le ra pi kp ca cat cm at2 ow2 ag2 AG to o2 st o0 i T) (h6 : ¬ i.toInt < 16) (hx : x.toInt = 0) : qYX us nr kr kd ws AT ho wd wi OW rt wk wl wm nu ro fo le ra pi kp ca cat cm at2 ow2 ag2 AG to o2 st o0 x T := by
  obtain ⟨c, hB, hT⟩ := h
  rw [aRo_st h6] at hT
  exact ⟨c, hB, by rw [show x = 0 from Int32.toInt_inj.mp (by rw [hx]; rfl)]; exact hT⟩
theorem yHo_0 : ∀ (f : Nat) (n : Int32) (c : Nat → Nat → Int32), (∀ x, xAl c x → c 133 x = 0 ∨ (c 130 x).toInt < (c 75 5).toInt) → aHf f n c = c := by
  intro f
  induction f with
  | zero => intro n c h; rfl
  | succ f ih =>
    intro n c h
    have e : (if 0 ≤ n.toInt ∧ n.toInt < 512 ∧ c 126 n.toNatClampNeg ≠ 0 ∧ 0 < (c 133 n.toNatClampNeg).toInt then aCm c n else c) = c := by
      by_cases z : 0 ≤ n.toInt ∧ n.toInt < 512 ∧ c 126 n.toNatClampNeg ≠ 0 ∧ 0 < (c 133 n.toNatClampNeg).toInt
      · rw [if_pos z]
        have t := tn_cast z.1
        refine aCm_n (fun w => ?_)
        rcases h n.toNatClampNeg ⟨by omega, z.2.2.1⟩ with q | q
        · have z4 := z.2.2.2
          rw [q] at z4
          exact absurd z4 (by decide)
        · have := w.2.2.2.1
          omega
      · exact if_neg z
    show aHf f (n + 1) _ = c
    rw [e]
    exact ih _ _ h
theorem YX_end (h : qYX us nr kr kd ws AT ho wd wi OW rt wk wl wm nu ro fo le ra pi kp ca cat cm at2 ow2 ag2 AG to o2 st o0 i T) (h6 : ¬ i.toInt < wm.toInt) : qYB us nr kr kd ws AT ho wd wi OW rt wk wl wm nu ro fo le ra pi kp ca cat cm at2 ow2 ag2 AG to o2 st o0 T := by
  obtain ⟨c, hB, hT⟩ := h
  rw [aWi_st (by rw [hB.1.2.2.2.2.1.1]; exact h6)] at hT
  have e : aHo c 0 = c := yHo_0 _ _ _ (fun x hx => by
    have hA := hB.2.2.2.2.2.2.2.1
    have f5 := hB.2.2.2.2.2.2.2.2.2.1
    have a1 := hA.2.2.2.2.2.2 x hx
    rw [f5]
    by_cases w : (c 130 x).toInt < (c 87 9).toInt
    · exact Or.inr w
    · exact Or.inl (a1.2.2 (by omega)).2.2)
  rw [← hT, e]
  exact hB
/-! dirty cards -/
theorem Dt_cm (h : qDt dt c) : qDt dt (aCm c y) := fun k hk => by
  rw [aCm_o ⟨by decide, by decide, by decide⟩]
  exact h k hk
theorem Gd_of (h : qGd c p) (o : zOf c d) : qGd d p := fun n hn => by
  rw [of_r o (k := 130) (by decide) (by decide) (by decide), of_r o (k := 128) (by decide) (by decide) (by decide)]
  exact h n ((Of_al o).mp hn)
/-- those that lie in OLD below o0 have not moved -/
theorem YB_lo (h : qYB us nr kr kd ws AT ho wd wi OW rt wk wl wm nu ro fo le ra pi kp ca cat cm at2 ow2 ag2 AG to o2 st o0 c) (hk : k < 3100) (hu : us k ≠ 0) : ((at2 k).toInt < o0 → at2 k = AT k) ∧ ((AT k).toInt < o0 → at2 k = AT k) := by
  have hQ := h.2.1
  obtain ⟨p1, ⟨p2, p2₉⟩, p3, p4, p5, hA, hF, f5, es, eo⟩ := h.2.2
  have bd := YP_bd hQ hA f5
  have a3 := hA.2.2.1
  have a4 := hA.2.2.2.1
  have a6 := hA.2.2.2.2.2.1
  have z1 : zsg (gPf c) 0 = 0 := rfl
  have z2 : zsg (gNf c) 0 = 0 := rfl
  have c0 : 0 ≤ cm.toInt := by
    have := YB_b h
    omega
  have gP := sg_le (F := gPf c) (m := cm.toInt.toNat) (fun i hi => (bd.1 i (by omega)).1)
  have gN := sg_le (F := gNf c) (m := cm.toInt.toNat) (fun i hi => (bd.1 i (by omega)).2.1)
  by_cases w : c 77 (nr k).toNatClampNeg = 0
  · have e := (p3 k hk hu w).1
    exact ⟨fun _ => e, fun _ => e⟩
  · obtain ⟨j, hj, et, ej⟩ := YQ_j hQ h.1.1 hk hu w
    have pj := p1 j hj
    rw [et] at pj
    have rt := h.1.1.1 k hk hu
    have n5 := tn_cast rt.1.1
    have fl := hQ.2.1.2 _ (by have := rt.1.2; omega) w
    rw [f5, rt.2.2.2.1] at fl
    refine ⟨fun v => ?_, fun v => absurd v (by omega)⟩
    by_cases g : qYg c (c 76 j).toNatClampNeg
    · have e := pj.1 g
      have l0 := gP j (by omega) 0 (by omega)
      omega
    · have e := pj.2.1 g
      have l0 := gN j (by omega) 0 (by omega)
      omega
theorem YD_0 (h : qYB us nr kr kd ws AT ho wd wi OW rt wk wl wm nu ro fo le ra pi kp ca cat cm at2 ow2 ag2 AG to o2 st o0 c) (hd : qDt dt c) : qYD us nr kr kd ws AT ho wd wi OW rt wk wl wm nu ro fo le ra pi kp ca cat cm at2 ow2 ag2 AG to o2 st o0 dt 0 (gDp c o0 0) := ⟨c, h, hd, ⟨Gd_0 h.2.2.2.2.2.2.2.1.1, by omega⟩, rfl⟩
theorem YD_p (h : qYD us nr kr kd ws AT ho wd wi OW rt wk wl wm nu ro fo le ra pi kp ca cat cm at2 ow2 ag2 AG to o2 st o0 dt p T) : 0 ≤ p ∧ 0 ≤ o0 ∧ o0 ≤ 1500 := by
  obtain ⟨c, hB, _, ⟨_, h0⟩, _⟩ := h
  obtain ⟨p1, ⟨p2, p2₉⟩, p3, p4, p5, hA, hF, f5, es, eo⟩ := hB.2.2
  have a3 := hA.2.2.1
  have a6 := hA.2.2.2.2.2.1
  omega
theorem YD_fr (h : qYD us nr kr kd ws AT ho wd wi OW rt wk wl wm nu ro fo le ra pi kp ca cat cm at2 ow2 ag2 AG to o2 st o0 dt x.toInt T) (hl : x.toInt < o0) (hn : (ow2 x.toNatClampNeg).toInt < 0) (hx : x2.toInt = x.toInt + 1) : qYD us nr kr kd ws AT ho wd wi OW rt wk wl wm nu ro fo le ra pi kp ca cat cm at2 ow2 ag2 AG to o2 st o0 dt x2.toInt T := by
  have bb := YD_p h
  obtain ⟨c, hB, hd, ⟨hG, h0⟩, hT⟩ := h
  have hI := hB.2.2.2.2.2.2.2.1.1
  have o : (zOb c x.toInt).toInt < 0 := by
    refine OB_n (ow := fun p => if (p : Int) < o0 then ow2 p else OW p) hI hB.1.1 (fun s hs hu => ?_) hG h0 (by omega) ?_
    · have q := hB.1.1.1 s hs hu
      have t := tn_cast (x := AT s) q.2.2.2.2.2.2
      show (if ((AT s).toNatClampNeg : Int) < o0 then ow2 (AT s).toNatClampNeg else OW (AT s).toNatClampNeg) = Int32.ofNat s
      by_cases w : ((AT s).toNatClampNeg : Int) < o0
      · rw [if_pos w, ← (YB_lo hB hs hu).2 (by omega)]
        exact hB.2.2.2.2.2.1 s hs hu
      · rw [if_neg w]
        exact hB.1.2.2.2.2.2.2.1 s hs hu
    · have t := tn_cast h0
      show (if ((x.toInt.toNat : Nat) : Int) < o0 then ow2 x.toInt.toNat else OW x.toInt.toNat).toInt < 0
      rw [if_pos (by omega)]
      exact hn
  rw [hx]
  exact ⟨c, hB, hd, ⟨Gd_s hI hG o h0 (by omega), by omega⟩, (Dp_fr hl o).symm.trans hT⟩
theorem YD_go (h : qYD us nr kr kd ws AT ho wd wi OW rt wk wl wm nu ro fo le ra pi kp ca cat cm at2 ow2 ag2 AG to o2 st o0 dt x.toInt T) (hO : zOw us at2 ow2) (hl : x.toInt < o0) (hs : s = ow2 x.toNatClampNeg) (hs0 : 0 ≤ s.toInt) (hs3 : s.toInt ≤ 3099) (hi : i.toInt = 0) : qYE us nr kr kd ws AT ho wd wi OW rt wk wl wm nu ro fo le ra pi kp ca cat cm at2 ow2 ag2 AG to o2 st o0 dt x.toInt s i T := by
  have bb := YD_p h
  obtain ⟨c, hB, hd, ⟨hG, h0⟩, hT⟩ := h
  have hI := hB.2.2.2.2.2.2.2.1.1
  have t := tn_cast h0
  have ho := hO x.toNatClampNeg (by omega) (by rw [← hs]; exact hs0)
  rw [← hs] at ho
  have sl := tn_lt hs0 (by omega : s.toInt < 3100)
  have ea := (YB_lo hB sl ho.1).1 (by omega)
  have r := hB.1.1.1 _ sl ho.1
  have al := R1_al hB.1.1 sl ho.1
  have e71 : c 71 x.toInt.toNat = nr s.toNatClampNeg := by
    have z := (hI.1 _ al).2.2.2
    rw [r.2.2.2.1, R1_of_nr hB.1.1 sl ho.1] at z
    rw [show (AT s.toNatClampNeg).toNatClampNeg = x.toInt.toNat from by
      show (AT s.toNatClampNeg).toInt.toNat = x.toInt.toNat
      rw [← ea]
      omega] at z
    exact z
  have ob : zOb c x.toInt = nr s.toNatClampNeg := by
    unfold zOb
    rw [e71, if_pos ⟨h0, by omega, r.1.1, r.1.2, r.2.1⟩]
  have g := Dp_go (e := o0) (S1_I hI) hl (by rw [ob]; exact r.1.1)
  rw [ob, hT] at g
  have i0 : i = 0 := Int32.toInt_inj.mp (by rw [hi]; rfl)
  rw [i0]
  exact ⟨c, hB, hd, ⟨hs0, hs3, ho.1⟩, ⟨by rw [r.2.2.2.1, ← ea]; omega, h0, hl, hG⟩, g.symm⟩
theorem YE_p (h : qYE us nr kr kd ws AT ho wd wi OW rt wk wl wm nu ro fo le ra pi kp ca cat cm at2 ow2 ag2 AG to o2 st o0 dt p s i T) : 0 ≤ s.toInt ∧ s.toInt ≤ 3099 ∧ 0 ≤ p ∧ p < o0 ∧ o0 ≤ 1500 := by
  obtain ⟨c, hB, _, ⟨h0, h3, _⟩, ⟨_, hp, hl, _⟩, _⟩ := h
  obtain ⟨p1, ⟨p2, p2₉⟩, p3, p4, p5, hA, hF, f5, es, eo⟩ := hB.2.2
  have a3 := hA.2.2.1
  have a6 := hA.2.2.2.2.2.1
  omega
theorem YE_k (h : qYB us nr kr kd ws AT ho wd wi OW rt wk wl wm nu ro fo le ra pi kp ca cat cm at2 ow2 ag2 AG to o2 st o0 c) (h0 : 0 ≤ s.toInt) (h3 : s.toInt ≤ 3099) (hu : us s.toNatClampNeg ≠ 0) (he : (c 130 (nr s.toNatClampNeg).toNatClampNeg).toInt < (c 87 9).toInt) (hi : 0 ≤ i.toInt) (hw : i.toInt < (ws s.toNatClampNeg).toInt) : 0 < (c 87 12).toInt ∧ 0 ≤ gCx c (nr s.toNatClampNeg).toNatClampNeg i.toInt ∧ gCx c (nr s.toNatClampNeg).toNatClampNeg i.toInt < 375 := by
  have sl := tn_lt h0 (by omega : s.toInt < 3100)
  have r := h.1.1.1 _ sl hu
  have al := R1_al h.1.1 sl hu
  have hA := h.2.2.2.2.2.2.2.1
  have t := tn_cast hi
  have sz : (c 128 (nr s.toNatClampNeg).toNatClampNeg).toInt = (ws s.toNatClampNeg).toInt + 1 := by
    rw [r.2.2.1]
    exact i_addk rfl (by have := r.2.2.2.2.2.1; omega) (by have := r.2.2.2.2.2.1; omega)
  have g := cx_lt (i := i.toNatClampNeg) hA al he (by omega)
  rw [t] at g
  have a3 := hA.2.2.1
  exact ⟨by omega, g.1, g.2⟩
/-- a word on a dirty card comes, another does not -/
theorem YE_y (hB : qYB us nr kr kd ws AT ho wd wi OW rt wk wl wm nu ro fo le ra pi kp ca cat cm at2 ow2 ag2 AG to o2 st o0 c) (hd : qDt dt c) (h0 : 0 ≤ s.toInt) (h3 : s.toInt ≤ 3099) (hu : us s.toNatClampNeg ≠ 0) (he : (c 130 (nr s.toNatClampNeg).toNatClampNeg).toInt < (c 87 9).toInt) (hi : 0 ≤ i.toInt) (hw : i.toInt < (ws s.toNatClampNeg).toInt) (hk : (k : Int) = gCx c (nr s.toNatClampNeg).toNatClampNeg i.toInt) (hdt : dt k ≠ 0) (hx : zrf kr kd wd s.toNatClampNeg i.toNatClampNeg = x) : qU us x ∧ gDw c (nr s.toNatClampNeg).toNatClampNeg i = gDw (aCm c (qNo nr x)) (nr s.toNatClampNeg).toNatClampNeg (i + 1) := by
  have g := YE_k hB h0 h3 hu he hi hw
  have sl := tn_lt h0 (by omega : s.toInt < 3100)
  have t := tn_cast hi
  have q := hB.1.2.1 _ sl hu i.toNatClampNeg (by omega)
  have r := hB.1.1.1 _ sl hu
  have sz : (c 128 (nr s.toNatClampNeg).toNatClampNeg).toInt = (ws s.toNatClampNeg).toInt + 1 := by
    rw [r.2.2.1]
    exact i_addk rfl (by have := r.2.2.2.2.2.1; omega) (by have := r.2.2.2.2.2.1; omega)
  rw [hx] at q
  have b := r.2.2.2.2.2.1
  have e1 : (i + 1).toInt = i.toInt + 1 := i_p1 (by omega)
  refine ⟨q.1, ?_⟩
  have ek : (gCx c (nr s.toNatClampNeg).toNatClampNeg i.toInt).toNat = k := by omega
  have z := gDw_y (a := c) (n := (nr s.toNatClampNeg).toNatClampNeg) (i := i) (by omega) e1 ⟨g.1, g.2.2, by rw [ek]; exact (hd k (by omega)).mp hdt⟩
  rw [z, ← q.2.1, ofN_tn hi]
theorem YE_n (hB : qYB us nr kr kd ws AT ho wd wi OW rt wk wl wm nu ro fo le ra pi kp ca cat cm at2 ow2 ag2 AG to o2 st o0 c) (hd : qDt dt c) (h0 : 0 ≤ s.toInt) (h3 : s.toInt ≤ 3099) (hu : us s.toNatClampNeg ≠ 0) (he : (c 130 (nr s.toNatClampNeg).toNatClampNeg).toInt < (c 87 9).toInt) (hi : 0 ≤ i.toInt) (hw : i.toInt < (ws s.toNatClampNeg).toInt) (hk : (k : Int) = gCx c (nr s.toNatClampNeg).toNatClampNeg i.toInt) (hdt : dt k = 0) : gDw c (nr s.toNatClampNeg).toNatClampNeg i = gDw c (nr s.toNatClampNeg).toNatClampNeg (i + 1) := by
  have g := YE_k hB h0 h3 hu he hi hw
  have sl := tn_lt h0 (by omega : s.toInt < 3100)
  have r := hB.1.1.1 _ sl hu
  have sz : (c 128 (nr s.toNatClampNeg).toNatClampNeg).toInt = (ws s.toNatClampNeg).toInt + 1 := by
    rw [r.2.2.1]
    exact i_addk rfl (by have := r.2.2.2.2.2.1; omega) (by have := r.2.2.2.2.2.1; omega)
  have b := r.2.2.2.2.2.1
  have e1 : (i + 1).toInt = i.toInt + 1 := i_p1 (by omega)
  have ek : (gCx c (nr s.toNatClampNeg).toNatClampNeg i.toInt).toNat = k := by omega
  refine gDw_n (by omega) e1 (fun z => ?_)
  have z2 := z.2.2
  rw [ek] at z2
  exact (hd k (by omega)).mpr z2 hdt
theorem YE_end (h : qYE us nr kr kd ws AT ho wd wi OW rt wk wl wm nu ro fo le ra pi kp ca cat cm at2 ow2 ag2 AG to o2 st o0 dt p s i T) (hi : 0 ≤ i.toInt) (hw : ¬ i.toInt < (ws s.toNatClampNeg).toInt) (hp2 : p2 = p + ((ws s.toNatClampNeg).toInt + 1)) : qYD us nr kr kd ws AT ho wd wi OW rt wk wl wm nu ro fo le ra pi kp ca cat cm at2 ow2 ag2 AG to o2 st o0 dt p2 T := by
  obtain ⟨c, hB, hd, ⟨h0, h3, hu⟩, ⟨e, hp, hl, hG⟩, hT⟩ := h
  have sl := tn_lt h0 (by omega : s.toInt < 3100)
  have r := hB.1.1.1 _ sl hu
  have al := R1_al hB.1.1 sl hu
  have hI := hB.2.2.2.2.2.2.2.1.1
  have sz : (c 128 (nr s.toNatClampNeg).toNatClampNeg).toInt = (ws s.toNatClampNeg).toInt + 1 := by
    rw [r.2.2.1]
    exact i_addk rfl (by have := r.2.2.2.2.2.1; omega) (by have := r.2.2.2.2.2.1; omega)
  rw [gDw_st (by omega), sz, ← hp2] at hT
  have b := r.2.2.2.2.2.1
  have e71 : c 71 p.toNat = nr s.toNatClampNeg := by
    have z := (hI.1 _ al).2.2.2
    rw [R1_of_nr hB.1.1 sl hu] at z
    rw [show (c 130 (nr s.toNatClampNeg).toNatClampNeg).toNatClampNeg = p.toNat from by
      show (c 130 (nr s.toNatClampNeg).toNatClampNeg).toInt.toNat = p.toNat
      rw [e]] at z
    exact z
  have bb : o0 ≤ 1500 := by
    have a3 := hB.2.2.2.2.2.2.2.1.2.2.1
    have a6 := hB.2.2.2.2.2.2.2.1.2.2.2.2.2.1
    have eo := hB.2.2.2.2.2.2.2.2.2.2.2
    omega
  have ob : zOb c p = nr s.toNatClampNeg := by
    unfold zOb
    rw [e71, if_pos ⟨hp, by omega, r.1.1, r.1.2, r.2.1⟩]
  have g := (Gd_nx hI hG (by rw [ob]; exact r.1.1)).1
  rw [ob, sz, ← hp2] at g
  exact ⟨c, hB, hd, ⟨g, by omega⟩, hT⟩
theorem YD_end (h : qYD us nr kr kd ws AT ho wd wi OW rt wk wl wm nu ro fo le ra pi kp ca cat cm at2 ow2 ag2 AG to o2 st o0 dt p T) (hl : ¬ p < o0) : qYB us nr kr kd ws AT ho wd wi OW rt wk wl wm nu ro fo le ra pi kp ca cat cm at2 ow2 ag2 AG to o2 st o0 T ∧ qDt dt T := by
  obtain ⟨c, hB, hd, _, hT⟩ := h
  rw [Dp_e hl] at hT
  rw [← hT]
  exact ⟨hB, hd⟩
/-! wishers -/
theorem KB_yq (h : qYQ kp ca us nr cat cm c) (hR : qR1 us nr ws AT ho c) : qKB kp us nr (aPc c) := ⟨h.2.2.2.1, fun s hs hu => by
  have q := hR.1 s hs hu
  have n5 := tn_cast q.1.1
  have n6 := q.1.2
  refine (h.2.2.2.2.1 s hs hu).trans ⟨fun z => ⟨by omega, ?_⟩, fun z => ?_⟩
  · by_cases w : (c 130 (nr s).toNatClampNeg).toInt < (c 75 5).toInt
    · rw [Pc_7o (by omega) q.2.1 w]
      decide
    · rw [Pc_7y (fun y => w y.2.2)]
      exact z.elim (fun y => absurd y w) id
  · by_cases w : (c 130 (nr s).toNatClampNeg).toInt < (c 75 5).toInt
    · exact Or.inl w
    · have z2 := z.2
      rw [Pc_7y (fun y => w y.2.2)] at z2
      exact Or.inr z2⟩
theorem YB_0f (h : qYB us nr kr kd ws AT ho wd wi OW rt wk wl wm nu ro fo le ra pi kp ca cat cm at2 ow2 ag2 AG to o2 st o0 c) : 0 ≤ (c 75 5).toInt := by
  have f5 := h.2.2.2.2.2.2.2.2.2.1
  have a3 := h.2.2.2.2.2.2.2.1.2.2.1
  rw [f5]
  omega
theorem YL_no (h : qYB us nr kr kd ws AT ho wd wi OW rt wk wl wm nu ro fo le ra pi kp ca cat cm at2 ow2 ag2 AG to o2 st o0 b) {v : Int} {z : Int32} (hm : ∀ t : Nat, t < 3100 → qCw us kp wi nr l t → v ≤ (nr t).toInt) (h1 : l.toInt < z.toInt) (h2 : z.toInt < v) : ¬ aGc b z := fun w => GL_no (RB_of h.1 (fun c₉ k q1 _ q3 => (Pc_o q1 q3).symm) : qRB us nr kr kd ws AT ho wd wi OW rt wk wl wm nu ro fo le ra pi (aPc b)) (KB_yq h.2.1 h.1.1) hm h1 h2 ((Pc_gc (YB_0f h)).mpr w)
theorem YL_end (h : qYB us nr kr kd ws AT ho wd wi OW rt wk wl wm nu ro fo le ra pi kp ca cat cm at2 ow2 ag2 AG to o2 st o0 b) (h1 : -1 ≤ l.toInt) (h2 : l.toInt + 1 ≤ (b 69 6).toInt) (hm : qMin (qCw us kp wi nr l) nr x 3100) (hx : x.toInt < 0) (hT : aGw b (l + 1) = T) : b = T := by
  have hI := h.2.2.2.2.2.2.2.1.1
  have i4 := hI.2.2.2.1.1
  have e1 := i_p1 (i := l) (by omega)
  rw [← hT, aGw_to (b := b) ((b 69 6).toInt - (l + 1).toInt).toNat (l + 1) (b 69 6) (by omega) (by omega) (by omega) (fun z z1 z2 => YL_no h (v := 600) (fun t ht hc => by
      rcases hm with q | q
      · exact absurd hc (q.2 t (by omega))
      · omega) (by omega) (by omega)), aGw_st (by omega)]
theorem YL_nx (h : qYB us nr kr kd ws AT ho wd wi OW rt wk wl wm nu ro fo le ra pi kp ca cat cm at2 ow2 ag2 AG to o2 st o0 b) (h1 : -1 ≤ l.toInt) (h2 : l.toInt + 1 ≤ (b 69 6).toInt) (hm : qMin (qCw us kp wi nr l) nr x 3100) (hx : 0 ≤ x.toInt) (hT : aGw b (l + 1) = T) : aGw (aSp 512 (aCm (aGr b (nr x.toNatClampNeg)) (nr x.toNatClampNeg))) (nr x.toNatClampNeg + 1) = T ∧ (nr x.toNatClampNeg).toInt + 1 ≤ (b 69 6).toInt ∧ -1 ≤ (nr x.toNatClampNeg).toInt := by
  have hI := h.2.2.2.2.2.2.2.1.1
  rcases hm with q | q
  · omega
  · have i4 := hI.2.2.2.1.1
    have e1 := i_p1 (i := l) (by omega)
    have hs := tn_lt hx q.2.1
    have t := h.1.1.1 _ hs q.2.2.1.1
    have al := R1_al h.1.1 hs q.2.2.1.1
    have l6 := (hI.1 _ al).1
    have ct := tn_cast t.1.1
    have l3 := q.2.2.1.2.2.2
    have wt := h.1.2.2.2.2.2.1 _ hs q.2.2.1.1
    refine ⟨?_, by omega, by omega⟩
    rw [← hT, aGw_to (b := b) ((nr x.toNatClampNeg).toInt - (l + 1).toInt).toNat (l + 1) (nr x.toNatClampNeg) (by omega) (by omega) (by omega) (fun z z1 z2 => YL_no h (fun t ht hc => q.2.2.2 t (by omega) hc) (by omega) z2)]
    have kk : ¬ ((b 130 (nr x.toNatClampNeg).toNatClampNeg).toInt < (b 75 5).toInt ∨ b 77 (nr x.toNatClampNeg).toNatClampNeg ≠ 0) := fun z => absurd ((h.2.1.2.2.2.2.1 _ hs q.2.2.1.1).mpr z) (fun w => w q.2.2.1.2.1)
    refine (aGw_y (by omega) ⟨t.1.1, t.1.2, t.2.1, ?_, ?_, ?_⟩).symm
    · rw [wt]
      exact q.2.2.1.2.2.1
    · by_cases w : (b 130 (nr x.toNatClampNeg).toNatClampNeg).toInt < (b 75 5).toInt
      · exact absurd (Or.inl w) kk
      · omega
    · by_cases w : b 77 (nr x.toNatClampNeg).toNatClampNeg = 0
      · exact w
      · exact absurd (Or.inr w) kk
theorem YG_0 (h : qYB us nr kr kd ws AT ho wd wi OW rt wk wl wm nu ro fo le ra pi kp ca cat cm at2 ow2 ag2 AG to o2 st o0 c) (hE : qE0 (aPc c)) (hC : qCl (aPc c)) (hM : qMin (qCw us kp wi nr (-1)) nr x 3100) : qYG us nr kr kd ws AT ho wd wi OW rt wk wl wm nu ro fo le ra pi kp ca cat cm at2 ow2 ag2 AG to o2 st o0 x (aGw c 0) := ⟨c, -1, h, hE, hC, ⟨by decide, by have := h.2.2.2.2.2.2.2.1.1.2.2.2.1.1.1; have e1 : (-1 : Int32).toInt = -1 := rfl; omega⟩, hM, rfl⟩
theorem YG_end (h : qYG us nr kr kd ws AT ho wd wi OW rt wk wl wm nu ro fo le ra pi kp ca cat cm at2 ow2 ag2 AG to o2 st o0 x T) (hx : x.toInt < 0) : qYB us nr kr kd ws AT ho wd wi OW rt wk wl wm nu ro fo le ra pi kp ca cat cm at2 ow2 ag2 AG to o2 st o0 T ∧ qE0 (aPc T) ∧ qCl (aPc T) := by
  obtain ⟨b, l, hB, hE, hC, hl, hM, hT⟩ := h
  have e := YL_end hB hl.1 hl.2 hM hx hT
  rw [← e]
  exact ⟨hB, hE, hC⟩
theorem YB_gr (hR : qRB us nr kr kd ws AT ho wd wi₉ OW rt wk₉ wl₉ wm₉ nu ro fo le ra pi (aGr b y)) (hI : qI (aGr b y)) (h : qYB us nr kr kd ws AT ho wd wi OW rt wk wl wm nu ro fo le ra pi kp ca cat cm at2 ow2 ag2 AG to o2 st o0 b) : qYB us nr kr kd ws AT ho wd wi₉ OW rt wk₉ wl₉ wm₉ nu ro fo le ra pi kp ca cat cm at2 ow2 ag2 AG to o2 st o0 (aGr b y) := by
  have g : ∀ c, c ≠ 73 → c ≠ 134 → c ≠ 74 → c ≠ 69 → aGr b y c = b c := fun c h1 h2 h3 h4 => gr_r h1 h2 h3 h4
  have e75 := g 75 (by decide) (by decide) (by decide) (by decide)
  have e76 := g 76 (by decide) (by decide) (by decide) (by decide)
  have e77 := g 77 (by decide) (by decide) (by decide) (by decide)
  have e26 := g 126 (by decide) (by decide) (by decide) (by decide)
  have e28 := g 128 (by decide) (by decide) (by decide) (by decide)
  have e30 := g 130 (by decide) (by decide) (by decide) (by decide)
  have e31 := g 131 (by decide) (by decide) (by decide) (by decide)
  have e33 := g 133 (by decide) (by decide) (by decide) (by decide)
  have e87 := g 87 (by decide) (by decide) (by decide) (by decide)
  obtain ⟨_, ⟨q1, q3, q4, q5, q6, q7⟩, p1, p2, p3, p4, p5, hA, hF, f5, es, eo⟩ := h
  have gP : gPf (aGr b y) = gPf b := funext (fun j => by unfold gPf; rw [e76, e28, e31, e87])
  have gN : gNf (aGr b y) = gNf b := funext (fun j => by unfold gNf; rw [e76, e28, e31, e87])
  have yg : ∀ n, qYg (aGr b y) n ↔ qYg b n := fun n => yg_r e87 e31
  refine ⟨hR, ⟨by rw [e75]; exact q1, FY_gr q3, by rw [e75, e77]; exact q4, q5, by rw [e30, e75, e77]; exact q6, by rw [e76]; exact q7⟩, fun j hj => ?_, by rw [gP, gN]; exact p2, by rw [e77]; exact p3, p4, by rw [e31]; exact p5, A0_cg hA hI e26 e87 e30 e28 e31 e33, Fu_cg hF e26 e87 e30 e28 e31, by rw [e75, e87]; exact f5, by rw [e87]; exact es, by rw [e87]; exact eo⟩
  rw [yg, e76, gP, gN]
  exact p1 j hj
/-- the next of the wishers came, and all behind it -/
theorem YG_nx (hB : qYB us nr kr kd ws AT ho wd wi OW rt wk wl wm nu ro fo le ra pi kp ca cat cm at2 ow2 ag2 AG to o2 st o0 b) (hE : qE0 (aPc b)) (hC : qCl (aPc b)) (hl : -1 ≤ l.toInt ∧ l.toInt + 1 ≤ (b 69 6).toInt) (hM : qMin (qCw us kp wi nr l) nr x 3100) (hT : aGw b (l + 1) = T) (hx : 0 ≤ x.toInt) (hu : us x.toNatClampNeg ≠ 0) (hx3 : x.toInt ≤ 3099) (hm : wm.toInt < 512)
    (hB2 : qYB us nr kr kd ws AT ho wd wi₉ OW rt wk₉ wl₉ wm₉ nu ro fo le ra pi kp₉ ca₉ cat₉ cm₉ at3 ow3 ag3 AG to₉ o2₉ st o0 (aSp 512 (aCm (aGr b (nr x.toNatClampNeg)) (qNo nr x)))) (hM2 : qMin (qCw us kp₉ wi₉ nr (nr x.toNatClampNeg)) nr y 3100) : qYG us nr kr kd ws AT ho wd wi₉ OW rt wk₉ wl₉ wm₉ nu ro fo le ra pi kp₉ ca₉ cat₉ cm₉ at3 ow3 ag3 AG to₉ o2₉ st o0 y T := by
  have nx := YL_nx hB hl.1 hl.2 hM hx hT
  have f0 := YB_0f hB
  have sp := E0_sp (gr_cm (y := nr x.toNatClampNeg) (E0_gr (y := nr x.toNatClampNeg) hE).1).1
  rw [No_y hx] at hB2
  have ep : aPc (aSp 512 (aCm (aGr b (nr x.toNatClampNeg)) (nr x.toNatClampNeg))) = aSp 512 (aCm (aGr (aPc b) (nr x.toNatClampNeg)) (nr x.toNatClampNeg)) := by
    rw [Pc_sp _ _ (by rw [cm_5, gr_5c]; exact f0), Pc_cm (by rw [gr_5c]; exact f0), Pc_gr]
  have o69 : aPc b 69 = b 69 := Pc_r (by decide) (by decide)
  have r5 := hB.1.2.2.2.2.1.1
  refine ⟨_, nr x.toNatClampNeg, hB2, by rw [ep]; exact sp.1, by rw [ep]; exact Cl_nx hC hE (by rw [o69, r5]; exact hm) (by rw [o69]; exact hB.2.2.2.2.2.2.2.1.1.2.2.2.1.2.1.1) (Pc_al.mpr (R1_al hB.1.1 (tn_lt hx (by omega)) hu)) (hB.1.1.1 _ (tn_lt hx (by omega)) hu).1.1, ⟨nx.2.2, by rw [sp_6]; exact nx.2.1⟩, hM2, nx.1⟩
/-- OLD ones are kept -/
theorem YB_ko (h : qYB us nr kr kd ws AT ho wd wi OW rt wk wl wm nu ro fo le ra pi kp ca cat cm at2 ow2 ag2 AG to o2 st o0 c) (hk : k < 3100) (hu : us k ≠ 0) (h0 : kp k = 0) : (c 87 9).toInt ≤ (at2 k).toInt := by
  have g : ¬ ((c 130 (nr k).toNatClampNeg).toInt < (c 75 5).toInt ∨ c 77 (nr k).toNatClampNeg ≠ 0) := fun z => absurd ((h.2.1.2.2.2.2.1 _ hk hu).mpr z) (fun w => w h0)
  have f5 := h.2.2.2.2.2.2.2.2.2.1
  have w : c 77 (nr k).toNatClampNeg = 0 := by
    by_cases z : c 77 (nr k).toNatClampNeg = 0
    · exact z
    · exact absurd (Or.inr z) g
  have e := (h.2.2.2.2.1 k hk hu w).1
  have r := h.1.1.1 k hk hu
  rw [f5] at g
  by_cases z : (c 130 (nr k).toNatClampNeg).toInt < (c 87 9).toInt
  · exact absurd (Or.inl z) g
  · rw [e, ← r.2.2.2.1]
    omega
end F32

