/-! from 95.g38 -/
/-! the heap by numbers, the class (written by wip/tools/gen18.py) -/
theorem g_143_64_s_p87_0 {X : Nat × (Nat → Int32)} {d w : Nat} {S : ma_S} {Q : Option ma_V ⊕ Nat → ma_S → Prop} (kd : Int32) (wd : Int32) (rf : Int64) (rt : Int32) (hd : 7 ≤ d) (hw : 182 ≤ w) (hS : zT S) (h : mR S 64 11 = some 87 ∧ (mR S 64 11 = some 87 ∧ (if (512 : Int32) ≤ (mI S 69 6) then (Q (.inl (some (.inl (-1 : Int32)))) S) else (ma_wp X (d - 1) (w - 23) 71 0 [(0, .inr (.inr (some 87))), (1, .inl (wd + (1 : Int32)))] [] S (zi (fun v2 S1 => zT S1 ∧ (if v2 = (-1 : Int32) then (Q (.inl (some (.inl (-1 : Int32)))) S1) else (ma_wp X d w 143 41 [(0, .inr (.inr (some 64))), (1, .inl kd), (2, .inl wd), (3, .inr (.inl rf)), (5, .inl rt), (6, .inr (.inr (some 87))), (7, .inl v2)] [] S1 Q))) (fun _ _ => False)))))) : ma_wp X d w 143 0 [(0, .inr (.inr (some 64))), (1, .inl kd), (2, .inl wd), (3, .inr (.inl rf)), (5, .inl rt)] [] S Q := by
  refine zw_push hm_143 dX11_addObject_0 (v := .inr (.inr (some 64))) rfl ?_
  refine zw_cv hm_143 dX11_addObject_1 v_11_119_11 hm_144 [] [] rfl (zT_rt hS s_64 rfl) ⟨by omega, by omega⟩ rfl ?_
  show ma_wp X (d - 1) (w - 20) 144 0 [(0, .inr (.inr (some 64)))] [] S _
  refine zw_push hm_144 dX11_needCollector_0 (v := .inr (.inr (some 64))) rfl ?_
  obtain ⟨hg, h⟩ := h
  refine zw_gf hm_144 dX11_needCollector_1 (v := .inr (.inr (some 87))) (zT_is hS s_64) (zT_t hS s_64) rfl f_11_98_11 (congrArg (fun z => Sum.inr (Sum.inr z)) hg) ?_
  refine zw_ifnonnull hm_144 dX11_needCollector_4 (t := 15) rfl (fun z => by cases z) (fun _ _ => ?_)
  refine zw_push hm_144 dX11_needCollector_15 (v := .inr (.inr (some 64))) rfl ?_
  obtain ⟨hg, h⟩ := h
  refine zw_gf hm_144 dX11_needCollector_16 (v := .inr (.inr (some 87))) (zT_is hS s_64) (zT_t hS s_64) rfl f_11_98_11 (congrArg (fun z => Sum.inr (Sum.inr z)) hg) ?_
  refine zw_aret hm_144 dX11_needCollector_19 ?_
  show ma_wp X d w 143 4 [(0, .inr (.inr (some 64))), (1, .inl kd), (2, .inl wd), (3, .inr (.inl rf)), (5, .inl rt)] [.inr (.inr (some 87))] S _
  refine zw_sto hm_143 dX11_addObject_4 [(6, .inr (.inr (some 87))), (0, .inr (.inr (some 64))), (1, .inl kd), (2, .inl wd), (3, .inr (.inl rf)), (5, .inl rt)] rfl rfl rfl ?_
  refine zw_push hm_143 dX11_addObject_6 (v := .inr (.inr (some 64))) rfl ?_
  refine zw_gf hm_143 dX11_addObject_7 (v := .inr (.inr (some 69))) (zT_is hS s_64) (zT_t hS s_64) rfl f_11_26_11 (zT_f hS r_64_8) ?_
  refine zw_gf hm_143 dX11_addObject_10 (v := .inl (mI S 69 6)) (zT_is hS s_69) (zT_t hS s_69) rfl f_11_244_7 rfl ?_
  refine zw_push hm_143 dX11_addObject_13 (v := .inl (512 : Int32)) rfl ?_
  refine zw_if2 hm_143 dX11_addObject_16 (t := 30) rfl zc2_ge ?_ ?_
  · intro hc
    rw [if_pos hc] at h
    refine zw_push hm_143 dX11_addObject_30 (v := .inl (-1 : Int32)) rfl ?_
    refine zw_sto hm_143 dX11_addObject_31 [(7, .inl (-1 : Int32)), (6, .inr (.inr (some 87))), (0, .inr (.inr (some 64))), (1, .inl kd), (2, .inl wd), (3, .inr (.inl rf)), (5, .inl rt)] rfl rfl rfl ?_
    refine zw_push hm_143 dX11_addObject_33 (v := .inl (-1 : Int32)) rfl ?_
    refine zw_push hm_143 dX11_addObject_35 (v := .inl (-1 : Int32)) rfl ?_
    refine zw_if2 hm_143 dX11_addObject_36 (t := 41) rfl zc2_ne (fun hc => absurd hc (by decide)) (fun _ => ?_)
    refine zw_push hm_143 dX11_addObject_39 (v := .inl (-1 : Int32)) rfl ?_
    exact zw_iret hm_143 dX11_addObject_40 h
  · intro hc
    rw [if_neg hc] at h
    refine zw_push hm_143 dX11_addObject_19 (v := .inr (.inr (some 87))) rfl ?_
    refine zw_push hm_143 dX11_addObject_21 (v := .inl wd) rfl ?_
    refine zw_push hm_143 dX11_addObject_22 (v := .inl (1 : Int32)) rfl ?_
    refine zw_stk hm_143 dX11_addObject_23 (st₉ := [.inl (wd + (1 : Int32)), .inr (.inr (some 87))]) rfl rfl ?_
    refine zw_cv hm_143 dX11_addObject_24 v_11_367_6 hm_71 [.inl (wd + (1 : Int32))] [] rfl (zT_rt hS s_87 rfl) ⟨by omega, by omega⟩ rfl (zw_mono h (zi_go ?_ ?_))
    · intro v2 S1 hv
      obtain ⟨hS1, h⟩ := hv
      refine zw_goto hm_143 dX11_addObject_27 (t := 31) rfl ?_
      refine zw_sto hm_143 dX11_addObject_31 [(7, .inl v2), (6, .inr (.inr (some 87))), (0, .inr (.inr (some 64))), (1, .inl kd), (2, .inl wd), (3, .inr (.inl rf)), (5, .inl rt)] rfl rfl rfl ?_
      refine zw_push hm_143 dX11_addObject_33 (v := .inl v2) rfl ?_
      refine zw_push hm_143 dX11_addObject_35 (v := .inl (-1 : Int32)) rfl ?_
      refine zw_if2 hm_143 dX11_addObject_36 (t := 41) rfl zc2_ne ?_ ?_
      · intro hc
        rw [if_neg hc] at h
        exact zw_sub (ma_nd_of (ks := [0, 1, 2, 3, 5, 6, 7]) rfl (by decide)) (ma_nd_of (ks := [7, 6, 0, 1, 2, 3, 5]) rfl (by decide)) (ma_le_cons rfl (ma_le_cons rfl (ma_le_cons rfl (ma_le_cons rfl (ma_le_cons rfl (ma_le_cons rfl (ma_le_cons rfl (ma_le_nil _)))))))) h
      · intro hc
        rw [if_pos (Classical.not_not.mp hc)] at h
        refine zw_push hm_143 dX11_addObject_39 (v := .inl (-1 : Int32)) rfl ?_
        exact zw_iret hm_143 dX11_addObject_40 h
    · intro x S9 hx
      exact hx.elim
theorem sp_143_64_s_p87 {X : Nat × (Nat → Int32)} {d w : Nat} {f : Nat → Nat → Int32} {r : Nat → Nat → Option Nat} {C Z N : Nat} {Q : Option ma_V ⊕ Nat → ma_S → Prop} {ab : Nat→Nat→Int32} {S : ma_S} (kd : Int32) (wd : Int32) (rf : Int64) (rt : Int32) (hd : 7 ≤ d) (hw : 182 ≤ w) (hI : zB f r C Z N S) (hr : r 64 11 = some 87) (hpre0 : 0 ≤ wd.toInt) (hpre1 : wd.toInt ≤ 60) (hpre2 : 0 ≤ rt.toInt) (hpre3 : rt.toInt ≤ 15) (hpre4 : xB S (mR S 70)) (hpre5 : aS 88 S = ab) (hpre6 : 0 ≤ (ab 87 6).toInt) (K : ∀ v S₉ r₉ C₉ Z₉ N₉, (∀ c k, c < 126 → r₉ c k = r c k) → C₉ ≤ C + 1 → Z₉ ≤ Z + 9 → (N ≤ N₉) → zB f r₉ C₉ Z₉ N₉ S₉ → (True) → (xB S₉ (mR S₉ 70)) → (aS 88 S₉ = aMk ab kd wd rf rt ∧ v = aMn ab wd) → Q (.inl (some (.inl v))) S₉) : ma_wp X d w 143 0 [(0, .inr (.inr (some 64))), (1, .inl kd), (2, .inl wd), (3, .inr (.inl rf)), (5, .inl rt)] [] S Q := by
  refine g_143_64_s_p87_0 kd wd rf rt (by omega) (by omega) (zG_T hI) ?_
  refine ⟨((zG_r hI (by decide)).trans hr), ?_⟩
  refine ⟨((zG_r hI (by decide)).trans hr), ?_⟩
  have li1 : (512 : Int32).toInt = 512 := rfl
  have f2 := zG_s hI (0) (512) (c := 69) (k := 6) (by decide)
  refine zd (fun h3 => ?_) (fun h3 => ?_)
  · skip
    have g4 := i_le h3
    have li5 : (-1 : Int32).toInt = -1 := rfl
    exact K ((-1 : Int32)) _ _ _ _ _ (fun _ _ _ => rfl) (by omega) (by omega) (Nat.le_refl _) hI trivial (show xB S (mR S 70) from by first | (exact xB_x (xC_o (W := 75) hpre4).2)) (show aS 88 S = aMk ab kd wd rf rt ∧ (-1 : Int32) = aMn ab wd from by first | (have z := aMk_0 (a := ab) (kd := kd) (wd := wd) (rt := rt) (L := rf) (by rw [← hpre5, (aS_I (W := 88) (S := S) (c := 69) (c₉ := 69) (k := 6) rfl rfl)]; omega); exact ⟨hpre5.trans z.1.symm, z.2.symm⟩))
  · skip
    have g6 := i_nle h3
    have b7 := i_bd wd
    first | have e8 : (wd + (1 : Int32)).toInt = wd.toInt + (1) := i_addk rfl (by omega) (by omega) | have b9 := i_bd (wd + (1 : Int32))
    refine sp_71_87_s (ab := (aS 88 S)) ((wd + (1 : Int32))) (by omega) (by omega) (zB_dn_zJ87 hI) (show xB S (mR S 70) from by first | (exact xB_x (xC_o (W := 75) hpre4).2)) (show aS 88 S = (aS 88 S) from by first | (exact rfl)) (show 0 ≤ ((aS 88 S) 87 6).toInt from by first | (exact hpre6) | (rw [hpre5]; exact hpre6)) (fun v2 S1 hL_S1 hp_v2 rp0_S1 rp1_S1 => zi_n ⟨zG_T hL_S1, ?_⟩)
    have hI_S1 := zB_up_zJ87 hI hL_S1
    have rp0_S1 : xB S1 (mR S1 70) := by
      have z := rp0_S1
      (try rw [show mI S 65 = f 65 from funext (fun k => zG_z hI rfl)] at z)
      (try rw [show mI S 64 1 = f 64 1 from zG_z hI rfl] at z)
      exact z
    have rp1_S1 : aS 88 S1 = aRs (aS 88 S) (wd + (1 : Int32)).toInt ∧ v2.toInt = aRp (aS 88 S) (wd + (1 : Int32)).toInt := by
      have z := rp1_S1
      (try rw [show mI S 65 = f 65 from funext (fun k => zG_z hI rfl)] at z)
      (try rw [show mI S 64 1 = f 64 1 from zG_z hI rfl] at z)
      exact z
    have b10 := i_bd v2
    have li11 : (-1 : Int32).toInt = -1 := rfl
    refine zd (fun h12 => ?_) (fun h12 => ?_)
    · skip
      have g13 := i_eq h12
      exact K ((-1 : Int32)) _ _ _ _ _ (fun _ _ _ => rfl) (by omega) (by omega) (Nat.le_refl _) hI_S1 trivial (show xB S1 (mR S1 70) from by first | (exact xB_x (xC_o (W := 75) rp0_S1).2)) (show aS 88 S1 = aMk ab kd wd rf rt ∧ (-1 : Int32) = aMn ab wd from by first | (have wd1 : (wd + (1 : Int32)).toInt = wd.toInt + 1 := i_addk rfl (by omega) (by omega); have rs := rp1_S1; rw [hpre5] at rs; have z := aMk_1 (a := ab) (kd := kd) (wd := wd) (rt := rt) (L := rf) (by rw [← hpre5, (aS_I (W := 88) (S := S) (c := 69) (c₉ := 69) (k := 6) rfl rfl)]; omega) (by omega); exact ⟨rs.1.trans z.1.symm, z.2.symm⟩))
    · skip
      have g14 := i_ne h12
      have b15 := i_bd rt
      have q16 : (mI S1 69 6).toInt = (mI S 69 6).toInt := zG_zi (f := mI S) hL_S1 rfl
      have f17 := zG_s hI_S1 (0) (512) (c := 69) (k := 6) (by decide)
      have hN2 : 126 ≤ mN S1 := (zG_T hI_S1).2.1
      have hr2 : ∀ n c, mR S1 70 n = some c → c < mN S1 := fun n c q => by have z := zG_70 hI_S1 (by decide) q; rw [zG_N hI_S1]; exact z.2
      have wd1 : (wd + (1 : Int32)).toInt = wd.toInt + 1 := i_addk rfl (by omega) (by omega)
      have hy : (mI S1 69 6) = aS 88 S1 69 6 := (aS_I (W := 88) (S := S1) (c := 69) (c₉ := 69) (k := 6) rfl rfl).symm
      have rs := rp1_S1
      have mk2 := aMk_2 (a := ab) (b := aS 88 S1) (kd := kd) (wd := wd) (rt := rt) (L := rf) (pl := v2) (y := (mI S1 69 6)) (by rw [← hpre5, (aS_I (W := 88) (S := S) (c := 69) (c₉ := 69) (k := 6) rfl rfl)]; omega) (by rw [← hpre5]; exact rs.1) (by rw [← hpre5]; exact rs.2) (by omega) hy
      exact mk_143s (p := 87) (by omega) (by omega) hI_S1 (by show 0 ≤ (mI S1 69 6).toInt; omega) (by show (mI S1 69 6).toInt ≤ 511; omega) (by omega) (by omega) (by omega) (by omega) (fun Sn hn hj => sg_143_64_s_64 (ab := aS 88 S1) (R := mR S1 70) (y := (mI S1 69 6)) (I0 := (zFn (mI S1 69 6) kd (wd + (1 : Int32)) v2)) (L0 := rf) (rt) N (by omega) (by omega) hn ⟨Nat.le_trans (zG_T hI_S1).2.1 (Nat.le_of_eq (zG_N hI_S1)), Nat.lt_succ_self _⟩ (by rw [hj, zTh_lo (by decide) hN2]; omega) (by rw [hj]; exact mk_B rp0_S1 hN2 hr2) (by rw [hj]; exact mk_a xW88 hN2 hr2) (by rw [hj]; have q := zTh_eq (S := S1) (nu := (mI S1 69 6)) (kd := kd) (sz := wd + (1 : Int32)) (rr := rf) (pl := v2); rw [zG_N hI_S1] at q; exact q) (by rw [hj]; have q := zTh_L3 (S := S1) (nu := (mI S1 69 6)) (kd := kd) (sz := wd + (1 : Int32)) (rr := rf) (pl := v2); rw [zG_N hI_S1] at q; exact q) rfl (show (0 ≤ (mI S1 69 6).toInt ∧ (mI S1 69 6).toInt ≤ 511) ∧ (1 ≤ (wd + (1 : Int32)).toInt ∧ (wd + (1 : Int32)).toInt ≤ 61) ∧ 0 ≤ v2.toInt ∧ v2.toInt + (wd + (1 : Int32)).toInt ≤ 4500 by omega) ⟨by omega, by omega⟩ (by omega) (by omega) (fun v9 S9 h9 h10 q0 q1 => K v9 S9 _ _ _ _ (zrN_lo (zG_T hI_S1) (zG_N hI_S1)) (by omega) (by omega) (by omega) h9 h10 q0 (by rw [mk2.1, mk2.2]; exact q1)))
theorem g_141_64_s_p87_0 {X : Nat × (Nat → Int32)} {d w : Nat} {S : ma_S} {Q : Option ma_V ⊕ Nat → ma_S → Prop} (ki : Int32) (rt : Int32) (hd : 8 ≤ d) (hw : 232 ≤ w) (hS : zT S) (h : if ki < 0 then (Q (.inr 2) (ma_bump S)) else (if (mI S 64 7) ≤ ki then (Q (.inr 2) (ma_bump S)) else (if rt < 0 then (Q (.inr 2) (ma_bump S)) else (if (16 : Int32) ≤ rt then (Q (.inr 2) (ma_bump S)) else ((0 ≤ ki ∧ ki.toNatClampNeg < 16) ∧ ((0 ≤ ki ∧ ki.toNatClampNeg < 16) ∧ (ma_wp X (d - 1) (w - 28) 143 0 [(0, .inr (.inr (some 64))), (1, .inl ki), (2, .inl (mI S 67 ki.toNatClampNeg)), (3, .inr (.inl ((mI S 68 ki.toNatClampNeg).toInt64))), (5, .inl rt)] [] S (zi (fun v2 S1 => zT S1 ∧ (Q (.inl (some (.inl v2))) S1)) (fun x S9 => Q (.inr x) S9))))))))) : ma_wp X d w 141 0 [(0, .inr (.inr (some 64))), (1, .inl ki), (2, .inl rt)] [] S Q := by
  refine zw_push hm_141 dX11_make_0 (v := .inl ki) rfl ?_
  refine zw_if0 hm_141 dX11_make_1 (t := 19) rfl zc0_lt ?_ ?_
  · intro hc
    rw [if_pos hc] at h
    exact zw_thr hm_141 dX11_make_19 dX11_make_22 dX11_make_23 dX11_make_26 x_11_79_81 n_11_79 (by omega) (by show 0 + 81 ≤ w; omega) h
  · intro hc
    rw [if_neg hc] at h
    refine zw_push hm_141 dX11_make_4 (v := .inl ki) rfl ?_
    refine zw_push hm_141 dX11_make_5 (v := .inr (.inr (some 64))) rfl ?_
    refine zw_gf hm_141 dX11_make_6 (v := .inl (mI S 64 7)) (zT_is hS s_64) (zT_t hS s_64) rfl f_11_82_11 rfl ?_
    refine zw_if2 hm_141 dX11_make_9 (t := 19) rfl zc2_ge ?_ ?_
    · intro hc
      rw [if_pos hc] at h
      exact zw_thr hm_141 dX11_make_19 dX11_make_22 dX11_make_23 dX11_make_26 x_11_79_81 n_11_79 (by omega) (by show 0 + 81 ≤ w; omega) h
    · intro hc
      rw [if_neg hc] at h
      refine zw_push hm_141 dX11_make_12 (v := .inl rt) rfl ?_
      refine zw_cs hm_141 dX11_make_13 pn_11_109 sl_11_109 hm_142 [.inl rt] [] rfl ⟨by omega, by omega⟩ rfl ?_
      show ma_wp X (d - 1) (w - 20) 142 0 [(0, .inl rt)] [] S _
      refine zw_push hm_142 dX11_isSlot_0 (v := .inl rt) rfl ?_
      refine zw_if0 hm_142 dX11_isSlot_1 (t := 14) rfl zc0_lt ?_ ?_
      · intro hc
        rw [if_pos hc] at h
        refine zw_push hm_142 dX11_isSlot_14 (v := .inl (0 : Int32)) rfl ?_
        refine zw_bret hm_142 dX11_isSlot_15 (by decide) ?_
        show ma_wp X d w 141 16 [(0, .inr (.inr (some 64))), (1, .inl ki), (2, .inl rt)] [.inl (0 : Int32)] S _
        refine zw_if0 hm_141 dX11_make_16 (t := 27) rfl zc0_ne (fun hc => absurd hc (by decide)) (fun _ => ?_)
        exact zw_thr hm_141 dX11_make_19 dX11_make_22 dX11_make_23 dX11_make_26 x_11_79_81 n_11_79 (by omega) (by show 0 + 81 ≤ w; omega) h
      · intro hc
        rw [if_neg hc] at h
        refine zw_push hm_142 dX11_isSlot_4 (v := .inl rt) rfl ?_
        refine zw_push hm_142 dX11_isSlot_5 (v := .inl (16 : Int32)) rfl ?_
        refine zw_if2 hm_142 dX11_isSlot_7 (t := 14) rfl zc2_ge ?_ ?_
        · intro hc
          rw [if_pos hc] at h
          refine zw_push hm_142 dX11_isSlot_14 (v := .inl (0 : Int32)) rfl ?_
          refine zw_bret hm_142 dX11_isSlot_15 (by decide) ?_
          show ma_wp X d w 141 16 [(0, .inr (.inr (some 64))), (1, .inl ki), (2, .inl rt)] [.inl (0 : Int32)] S _
          refine zw_if0 hm_141 dX11_make_16 (t := 27) rfl zc0_ne (fun hc => absurd hc (by decide)) (fun _ => ?_)
          exact zw_thr hm_141 dX11_make_19 dX11_make_22 dX11_make_23 dX11_make_26 x_11_79_81 n_11_79 (by omega) (by show 0 + 81 ≤ w; omega) h
        · intro hc
          rw [if_neg hc] at h
          refine zw_push hm_142 dX11_isSlot_10 (v := .inl (1 : Int32)) rfl ?_
          refine zw_goto hm_142 dX11_isSlot_11 (t := 15) rfl ?_
          refine zw_bret hm_142 dX11_isSlot_15 (by decide) ?_
          show ma_wp X d w 141 16 [(0, .inr (.inr (some 64))), (1, .inl ki), (2, .inl rt)] [.inl (1 : Int32)] S _
          refine zw_if0 hm_141 dX11_make_16 (t := 27) rfl zc0_ne (fun _ => ?_) (fun hc => absurd (by decide) hc)
          refine zw_push hm_141 dX11_make_27 (v := .inr (.inr (some 64))) rfl ?_
          refine zw_push hm_141 dX11_make_28 (v := .inl ki) rfl ?_
          refine zw_push hm_141 dX11_make_29 (v := .inr (.inr (some 64))) rfl ?_
          refine zw_gf hm_141 dX11_make_30 (v := .inr (.inr (some 67))) (zT_is hS s_64) (zT_t hS s_64) rfl f_11_17_11 (zT_f hS r_64_5) ?_
          refine zw_push hm_141 dX11_make_33 (v := .inl ki) rfl ?_
          obtain ⟨hg, h⟩ := h
          refine zw_ia hm_141 dX11_make_34 (zT_is hS s_67) (zT_h hS s_67) rfl hg ?_
          show ma_wp X d w 141 35 [(0, .inr (.inr (some 64))), (1, .inl ki), (2, .inl rt)] [.inl (mI S 67 ki.toNatClampNeg), .inl ki, .inr (.inr (some 64))] S _
          refine zw_push hm_141 dX11_make_35 (v := .inr (.inr (some 64))) rfl ?_
          refine zw_gf hm_141 dX11_make_36 (v := .inr (.inr (some 68))) (zT_is hS s_64) (zT_t hS s_64) rfl f_11_20_11 (zT_f hS r_64_6) ?_
          refine zw_push hm_141 dX11_make_39 (v := .inl ki) rfl ?_
          obtain ⟨hg, h⟩ := h
          refine zw_ia hm_141 dX11_make_40 (zT_is hS s_68) (zT_h hS s_68) rfl hg ?_
          show ma_wp X d w 141 41 [(0, .inr (.inr (some 64))), (1, .inl ki), (2, .inl rt)] [.inl (mI S 68 ki.toNatClampNeg), .inl (mI S 67 ki.toNatClampNeg), .inl ki, .inr (.inr (some 64))] S _
          refine zw_stk hm_141 dX11_make_41 (st₉ := [.inr (.inl ((mI S 68 ki.toNatClampNeg).toInt64)), .inl (mI S 67 ki.toNatClampNeg), .inl ki, .inr (.inr (some 64))]) rfl rfl ?_
          refine zw_push hm_141 dX11_make_42 (v := .inl rt) rfl ?_
          refine zw_cv hm_141 dX11_make_43 v_11_113_11 hm_143 [.inl rt, .inr (.inl ((mI S 68 ki.toNatClampNeg).toInt64)), .inl (mI S 67 ki.toNatClampNeg), .inl ki] [] rfl (zT_rt hS s_64 rfl) ⟨by omega, by omega⟩ rfl (zw_mono h (zi_go ?_ ?_))
          · intro v2 S1 hv
            obtain ⟨hS1, h⟩ := hv
            exact zw_iret hm_141 dX11_make_46 h
          · intro x S9 hx
            exact ⟨by decide, hx⟩
theorem sp_141_64_s_p87 {X : Nat × (Nat → Int32)} {d w : Nat} {f : Nat → Nat → Int32} {r : Nat → Nat → Option Nat} {C Z N : Nat} {Q : Option ma_V ⊕ Nat → ma_S → Prop} {ab : Nat→Nat→Int32} {S : ma_S} (ki : Int32) (rt : Int32) (hd : 8 ≤ d) (hw : 232 ≤ w) (hI : zB f r C Z N S) (hr : r 64 11 = some 87) (hpre0 : xB S (mR S 70)) (hpre1 : aS 88 S = ab) (hpre2 : 0 ≤ (ab 87 6).toInt) (K : ∀ v S₉ r₉ C₉ Z₉ N₉, (∀ c k, c < 126 → r₉ c k = r c k) → C₉ ≤ C + 1 → Z₉ ≤ Z + 9 → (N ≤ N₉) → zB f r₉ C₉ Z₉ N₉ S₉ → (True) → (xB S₉ (mR S₉ 70)) → ((0 ≤ ki.toInt ∧ ki.toInt < (f 64 7).toInt ∧ 0 ≤ rt.toInt ∧ rt.toInt ≤ 15) ∧ aS 88 S₉ = aMk ab ki (f 67 ki.toNatClampNeg) (f 68 ki.toNatClampNeg).toInt64 rt ∧ v = aMn ab (f 67 ki.toNatClampNeg)) → Q (.inl (some (.inl v))) S₉) (KX : ∀ x S₉, (x = 2) → zB f r C Z N S₉ → (xB S₉ (mR S₉ 70)) → (aS 88 S₉ = ab) → (x = 2 ∧ ¬ (0 ≤ ki.toInt ∧ ki.toInt < (f 64 7).toInt ∧ 0 ≤ rt.toInt ∧ rt.toInt ≤ 15)) → Q (.inr x) (ma_bump S₉)) : ma_wp X d w 141 0 [(0, .inr (.inr (some 64))), (1, .inl ki), (2, .inl rt)] [] S Q := by
  refine g_141_64_s_p87_0 ki rt (by omega) (by omega) (zG_T hI) ?_
  have b1 := i_bd ki
  have li2 : (0 : Int32).toInt = 0 := rfl
  refine zd (fun h3 => ?_) (fun h3 => ?_)
  · skip
    have g4 := i_lt h3
    exact KX 2 _ (by decide) hI (show xB S (mR S 70) from by first | (exact xB_x (xC_o (W := 75) hpre0).2)) (show aS 88 S = ab from by first | (exact (xC_o (W := 88) hpre0).1.trans hpre1)) (show 2 = 2 ∧ ¬ (0 ≤ ki.toInt ∧ ki.toInt < (f 64 7).toInt ∧ 0 ≤ rt.toInt ∧ rt.toInt ≤ 15) from by first | (have f7 : (mI S 64 7).toInt = (f 64 7).toInt := zG_zi hI rfl; exact ⟨rfl, by omega⟩))
  · skip
    have g5 := i_nlt h3
    have f6 := zG_s hI (0) (16) (c := 64) (k := 7) (by decide)
    refine zd (fun h7 => ?_) (fun h7 => ?_)
    · skip
      have g8 := i_le h7
      exact KX 2 _ (by decide) hI (show xB S (mR S 70) from by first | (exact xB_x (xC_o (W := 75) hpre0).2)) (show aS 88 S = ab from by first | (exact (xC_o (W := 88) hpre0).1.trans hpre1)) (show 2 = 2 ∧ ¬ (0 ≤ ki.toInt ∧ ki.toInt < (f 64 7).toInt ∧ 0 ≤ rt.toInt ∧ rt.toInt ≤ 15) from by first | (have f7 : (mI S 64 7).toInt = (f 64 7).toInt := zG_zi hI rfl; exact ⟨rfl, by omega⟩))
    · skip
      have g9 := i_nle h7
      have b10 := i_bd rt
      refine zd (fun h11 => ?_) (fun h11 => ?_)
      · skip
        have g12 := i_lt h11
        exact KX 2 _ (by decide) hI (show xB S (mR S 70) from by first | (exact xB_x (xC_o (W := 75) hpre0).2)) (show aS 88 S = ab from by first | (exact (xC_o (W := 88) hpre0).1.trans hpre1)) (show 2 = 2 ∧ ¬ (0 ≤ ki.toInt ∧ ki.toInt < (f 64 7).toInt ∧ 0 ≤ rt.toInt ∧ rt.toInt ≤ 15) from by first | (have f7 : (mI S 64 7).toInt = (f 64 7).toInt := zG_zi hI rfl; exact ⟨rfl, by omega⟩))
      · skip
        have g13 := i_nlt h11
        have li14 : (16 : Int32).toInt = 16 := rfl
        refine zd (fun h15 => ?_) (fun h15 => ?_)
        · skip
          have g16 := i_le h15
          exact KX 2 _ (by decide) hI (show xB S (mR S 70) from by first | (exact xB_x (xC_o (W := 75) hpre0).2)) (show aS 88 S = ab from by first | (exact (xC_o (W := 88) hpre0).1.trans hpre1)) (show 2 = 2 ∧ ¬ (0 ≤ ki.toInt ∧ ki.toInt < (f 64 7).toInt ∧ 0 ≤ rt.toInt ∧ rt.toInt ≤ 15) from by first | (have f7 : (mI S 64 7).toInt = (f 64 7).toInt := zG_zi hI rfl; exact ⟨rfl, by omega⟩))
        · skip
          have g17 := i_nle h15
          refine ⟨i_ix (by omega) (by omega), ?_⟩
          refine ⟨i_ix (by omega) (by omega), ?_⟩
          first | have f18 := zG_a hI 16 (0) (8) (c := 67) (k := ki.toNatClampNeg) (by decide) (i_ix (n := 16) (by omega) (by omega)).2 | have b19 := i_bd (mI S 67 ki.toNatClampNeg)
          refine sp_143_64_s_p87 (ab := (aS 88 S)) (ki) ((mI S 67 ki.toNatClampNeg)) (((mI S 68 ki.toNatClampNeg).toInt64)) (rt) (by omega) (by omega) hI hr (by omega) (by omega) (by omega) (by omega) (show xB S (mR S 70) from by first | (exact xB_x (xC_o (W := 75) hpre0).2)) (show aS 88 S = (aS 88 S) from by first | (exact rfl)) (show 0 ≤ ((aS 88 S) 87 6).toInt from by first | (exact hpre2) | (rw [hpre1]; exact hpre2)) (fun v2 S1 r₉ C₉ Z₉ N₉ sl1 sl2 sl3 sl4 hI_S1 hp_v2 rp0_S1 rp1_S1 => zi_n ⟨zG_T hI_S1, ?_⟩)
          have rp0_S1 : xB S1 (mR S1 70) := rp0_S1
          have rp1_S1 : aS 88 S1 = aMk (aS 88 S) ki (mI S 67 ki.toNatClampNeg) (((mI S 68 ki.toNatClampNeg).toInt64)) rt ∧ v2 = aMn (aS 88 S) (mI S 67 ki.toNatClampNeg) := rp1_S1
          have b20 := i_bd v2
          exact K (v2) _ _ _ _ _ sl1 sl2 sl3 sl4 hI_S1 trivial (show xB S1 (mR S1 70) from by first | (exact xB_x (xC_o (W := 75) rp0_S1).2)) (show (0 ≤ ki.toInt ∧ ki.toInt < (f 64 7).toInt ∧ 0 ≤ rt.toInt ∧ rt.toInt ≤ 15) ∧ aS 88 S1 = aMk ab ki (f 67 ki.toNatClampNeg) (f 68 ki.toNatClampNeg).toInt64 rt ∧ v2 = aMn ab (f 67 ki.toNatClampNeg) from by first | (exfalso; omega) | (have f7 : (mI S 64 7).toInt = (f 64 7).toInt := zG_zi hI rfl; have q := rp1_S1; rw [hpre1, show mI S 67 ki.toNatClampNeg = f 67 ki.toNatClampNeg from zG_z hI rfl, show mI S 68 ki.toNatClampNeg = f 68 ki.toNatClampNeg from zG_z hI rfl] at q; exact ⟨⟨by omega, by omega, by omega, by omega⟩, q⟩))

/-! from 95.g39 -/
/-! the heap by numbers, the class (written by wip/tools/gen18.py) -/
theorem g_147_64_s_p87_0 {X : Nat × (Nat → Int32)} {d w : Nat} {S : ma_S} {Q : Option ma_V ⊕ Nat → ma_S → Prop} (b : Int32) (n : Int32) (rt : Int32) (hd : 8 ≤ d) (hw : 232 ≤ w) (hS : zT S) (h : if n < 0 then (Q (.inr 2) (ma_bump S)) else (if (60 : Int32) < n then (Q (.inr 2) (ma_bump S)) else (if rt < 0 then (Q (.inr 2) (ma_bump S)) else (if (16 : Int32) ≤ rt then (Q (.inr 2) (ma_bump S)) else (if b = 0 then (ma_wp X (d - 1) (w - 28) 143 0 [(0, .inr (.inr (some 64))), (1, .inl (17 : Int32)), (2, .inl n), (3, .inr (.inl (0 : Int64))), (5, .inl rt)] [] S (zi (fun v2 S1 => zT S1 ∧ (Q (.inl (some (.inl v2))) S1)) (fun x S9 => Q (.inr x) S9))) else (ma_wp X (d - 1) (w - 28) 143 0 [(0, .inr (.inr (some 64))), (1, .inl (16 : Int32)), (2, .inl n), (3, .inr (.inl (-1 : Int64))), (5, .inl rt)] [] S (zi (fun v4 S3 => zT S3 ∧ (Q (.inl (some (.inl v4))) S3)) (fun x S9 => Q (.inr x) S9)))))))) : ma_wp X d w 147 0 [(0, .inr (.inr (some 64))), (1, .inl b), (2, .inl n), (3, .inl rt)] [] S Q := by
  refine zw_push hm_147 dX11_row_0 (v := .inl n) rfl ?_
  refine zw_if0 hm_147 dX11_row_1 (t := 17) rfl zc0_lt ?_ ?_
  · intro hc
    rw [if_pos hc] at h
    exact zw_thr hm_147 dX11_row_17 dX11_row_20 dX11_row_21 dX11_row_24 x_11_79_81 n_11_79 (by omega) (by show 0 + 81 ≤ w; omega) h
  · intro hc
    rw [if_neg hc] at h
    refine zw_push hm_147 dX11_row_4 (v := .inl n) rfl ?_
    refine zw_push hm_147 dX11_row_5 (v := .inl (60 : Int32)) rfl ?_
    refine zw_if2 hm_147 dX11_row_7 (t := 17) rfl zc2_gt ?_ ?_
    · intro hc
      rw [if_pos hc] at h
      exact zw_thr hm_147 dX11_row_17 dX11_row_20 dX11_row_21 dX11_row_24 x_11_79_81 n_11_79 (by omega) (by show 0 + 81 ≤ w; omega) h
    · intro hc
      rw [if_neg hc] at h
      refine zw_push hm_147 dX11_row_10 (v := .inl rt) rfl ?_
      refine zw_cs hm_147 dX11_row_11 pn_11_109 sl_11_109 hm_142 [.inl rt] [] rfl ⟨by omega, by omega⟩ rfl ?_
      show ma_wp X (d - 1) (w - 20) 142 0 [(0, .inl rt)] [] S _
      refine zw_push hm_142 dX11_isSlot_0 (v := .inl rt) rfl ?_
      refine zw_if0 hm_142 dX11_isSlot_1 (t := 14) rfl zc0_lt ?_ ?_
      · intro hc
        rw [if_pos hc] at h
        refine zw_push hm_142 dX11_isSlot_14 (v := .inl (0 : Int32)) rfl ?_
        refine zw_bret hm_142 dX11_isSlot_15 (by decide) ?_
        show ma_wp X d w 147 14 [(0, .inr (.inr (some 64))), (1, .inl b), (2, .inl n), (3, .inl rt)] [.inl (0 : Int32)] S _
        refine zw_if0 hm_147 dX11_row_14 (t := 25) rfl zc0_ne (fun hc => absurd hc (by decide)) (fun _ => ?_)
        exact zw_thr hm_147 dX11_row_17 dX11_row_20 dX11_row_21 dX11_row_24 x_11_79_81 n_11_79 (by omega) (by show 0 + 81 ≤ w; omega) h
      · intro hc
        rw [if_neg hc] at h
        refine zw_push hm_142 dX11_isSlot_4 (v := .inl rt) rfl ?_
        refine zw_push hm_142 dX11_isSlot_5 (v := .inl (16 : Int32)) rfl ?_
        refine zw_if2 hm_142 dX11_isSlot_7 (t := 14) rfl zc2_ge ?_ ?_
        · intro hc
          rw [if_pos hc] at h
          refine zw_push hm_142 dX11_isSlot_14 (v := .inl (0 : Int32)) rfl ?_
          refine zw_bret hm_142 dX11_isSlot_15 (by decide) ?_
          show ma_wp X d w 147 14 [(0, .inr (.inr (some 64))), (1, .inl b), (2, .inl n), (3, .inl rt)] [.inl (0 : Int32)] S _
          refine zw_if0 hm_147 dX11_row_14 (t := 25) rfl zc0_ne (fun hc => absurd hc (by decide)) (fun _ => ?_)
          exact zw_thr hm_147 dX11_row_17 dX11_row_20 dX11_row_21 dX11_row_24 x_11_79_81 n_11_79 (by omega) (by show 0 + 81 ≤ w; omega) h
        · intro hc
          rw [if_neg hc] at h
          refine zw_push hm_142 dX11_isSlot_10 (v := .inl (1 : Int32)) rfl ?_
          refine zw_goto hm_142 dX11_isSlot_11 (t := 15) rfl ?_
          refine zw_bret hm_142 dX11_isSlot_15 (by decide) ?_
          show ma_wp X d w 147 14 [(0, .inr (.inr (some 64))), (1, .inl b), (2, .inl n), (3, .inl rt)] [.inl (1 : Int32)] S _
          refine zw_if0 hm_147 dX11_row_14 (t := 25) rfl zc0_ne (fun _ => ?_) (fun hc => absurd (by decide) hc)
          refine zw_push hm_147 dX11_row_25 (v := .inl b) rfl ?_
          refine zw_if0 hm_147 dX11_row_26 (t := 43) rfl zc0_eq ?_ ?_
          · intro hc
            rw [if_pos hc] at h
            refine zw_push hm_147 dX11_row_43 (v := .inr (.inr (some 64))) rfl ?_
            refine zw_push hm_147 dX11_row_44 (v := .inl (17 : Int32)) rfl ?_
            refine zw_push hm_147 dX11_row_46 (v := .inl n) rfl ?_
            refine zw_push hm_147 dX11_row_47 (v := .inr (.inl (0 : Int64))) rfl ?_
            refine zw_push hm_147 dX11_row_48 (v := .inl rt) rfl ?_
            refine zw_cv hm_147 dX11_row_49 v_11_113_11 hm_143 [.inl rt, .inr (.inl (0 : Int64)), .inl n, .inl (17 : Int32)] [] rfl (zT_rt hS s_64 rfl) ⟨by omega, by omega⟩ rfl (zw_mono h (zi_go ?_ ?_))
            · intro v2 S1 hv
              obtain ⟨hS1, h⟩ := hv
              exact zw_iret hm_147 dX11_row_52 h
            · intro x S9 hx
              exact ⟨by decide, hx⟩
          · intro hc
            rw [if_neg hc] at h
            refine zw_push hm_147 dX11_row_29 (v := .inr (.inr (some 64))) rfl ?_
            refine zw_push hm_147 dX11_row_30 (v := .inl (16 : Int32)) rfl ?_
            refine zw_push hm_147 dX11_row_32 (v := .inl n) rfl ?_
            refine zw_l2 hm_147 dX11_row_33 l2_11_117 ?_
            refine zw_push hm_147 dX11_row_36 (v := .inl rt) rfl ?_
            refine zw_cv hm_147 dX11_row_37 v_11_113_11 hm_143 [.inl rt, .inr (.inl (-1 : Int64)), .inl n, .inl (16 : Int32)] [] rfl (zT_rt hS s_64 rfl) ⟨by omega, by omega⟩ rfl (zw_mono h (zi_go ?_ ?_))
            · intro v4 S3 hv
              obtain ⟨hS3, h⟩ := hv
              refine zw_goto hm_147 dX11_row_40 (t := 52) rfl ?_
              exact zw_iret hm_147 dX11_row_52 h
            · intro x S9 hx
              exact ⟨by decide, hx⟩
theorem sp_147_64_s_p87 {X : Nat × (Nat → Int32)} {d w : Nat} {f : Nat → Nat → Int32} {r : Nat → Nat → Option Nat} {C Z N : Nat} {Q : Option ma_V ⊕ Nat → ma_S → Prop} {ab : Nat→Nat→Int32} {S : ma_S} (b : Int32) (n : Int32) (rt : Int32) (hd : 8 ≤ d) (hw : 232 ≤ w) (hI : zB f r C Z N S) (hr : r 64 11 = some 87) (hpre0 : 0 ≤ b.toInt) (hpre1 : b.toInt ≤ 1) (hpre2 : xB S (mR S 70)) (hpre3 : aS 88 S = ab) (hpre4 : 0 ≤ (ab 87 6).toInt) (K : ∀ v S₉ r₉ C₉ Z₉ N₉, (∀ c k, c < 126 → r₉ c k = r c k) → C₉ ≤ C + 1 → Z₉ ≤ Z + 9 → (N ≤ N₉) → zB f r₉ C₉ Z₉ N₉ S₉ → (True) → (xB S₉ (mR S₉ 70)) → ((0 ≤ n.toInt ∧ n.toInt ≤ 60 ∧ 0 ≤ rt.toInt ∧ rt.toInt ≤ 15) ∧ aS 88 S₉ = (if b = 0 then aMk ab 17 n 0 rt else aMk ab 16 n (-1) rt) ∧ v = aMn ab n) → Q (.inl (some (.inl v))) S₉) (KX : ∀ x S₉, (x = 2) → zB f r C Z N S₉ → (xB S₉ (mR S₉ 70)) → (aS 88 S₉ = ab) → (x = 2 ∧ ¬ (0 ≤ n.toInt ∧ n.toInt ≤ 60 ∧ 0 ≤ rt.toInt ∧ rt.toInt ≤ 15)) → Q (.inr x) (ma_bump S₉)) : ma_wp X d w 147 0 [(0, .inr (.inr (some 64))), (1, .inl b), (2, .inl n), (3, .inl rt)] [] S Q := by
  refine g_147_64_s_p87_0 b n rt (by omega) (by omega) (zG_T hI) ?_
  have b1 := i_bd n
  have li2 : (0 : Int32).toInt = 0 := rfl
  refine zd (fun h3 => ?_) (fun h3 => ?_)
  · skip
    have g4 := i_lt h3
    exact KX 2 _ (by decide) hI (show xB S (mR S 70) from by first | (exact xB_x (xC_o (W := 75) hpre2).2)) (show aS 88 S = ab from by first | (exact (xC_o (W := 88) hpre2).1.trans hpre3)) (show 2 = 2 ∧ ¬ (0 ≤ n.toInt ∧ n.toInt ≤ 60 ∧ 0 ≤ rt.toInt ∧ rt.toInt ≤ 15) from by first | (exact ⟨rfl, by omega⟩))
  · skip
    have g5 := i_nlt h3
    have li6 : (60 : Int32).toInt = 60 := rfl
    refine zd (fun h7 => ?_) (fun h7 => ?_)
    · skip
      have g8 := i_lt h7
      exact KX 2 _ (by decide) hI (show xB S (mR S 70) from by first | (exact xB_x (xC_o (W := 75) hpre2).2)) (show aS 88 S = ab from by first | (exact (xC_o (W := 88) hpre2).1.trans hpre3)) (show 2 = 2 ∧ ¬ (0 ≤ n.toInt ∧ n.toInt ≤ 60 ∧ 0 ≤ rt.toInt ∧ rt.toInt ≤ 15) from by first | (exact ⟨rfl, by omega⟩))
    · skip
      have g9 := i_nlt h7
      have b10 := i_bd rt
      refine zd (fun h11 => ?_) (fun h11 => ?_)
      · skip
        have g12 := i_lt h11
        exact KX 2 _ (by decide) hI (show xB S (mR S 70) from by first | (exact xB_x (xC_o (W := 75) hpre2).2)) (show aS 88 S = ab from by first | (exact (xC_o (W := 88) hpre2).1.trans hpre3)) (show 2 = 2 ∧ ¬ (0 ≤ n.toInt ∧ n.toInt ≤ 60 ∧ 0 ≤ rt.toInt ∧ rt.toInt ≤ 15) from by first | (exact ⟨rfl, by omega⟩))
      · skip
        have g13 := i_nlt h11
        have li14 : (16 : Int32).toInt = 16 := rfl
        refine zd (fun h15 => ?_) (fun h15 => ?_)
        · skip
          have g16 := i_le h15
          exact KX 2 _ (by decide) hI (show xB S (mR S 70) from by first | (exact xB_x (xC_o (W := 75) hpre2).2)) (show aS 88 S = ab from by first | (exact (xC_o (W := 88) hpre2).1.trans hpre3)) (show 2 = 2 ∧ ¬ (0 ≤ n.toInt ∧ n.toInt ≤ 60 ∧ 0 ≤ rt.toInt ∧ rt.toInt ≤ 15) from by first | (exact ⟨rfl, by omega⟩))
        · skip
          have g17 := i_nle h15
          have b18 := i_bd b
          refine zd (fun h19 => ?_) (fun h19 => ?_)
          · skip
            have g20 := i_eq h19
            have li21 : (17 : Int32).toInt = 17 := rfl
            refine sp_143_64_s_p87 (ab := (aS 88 S)) ((17 : Int32)) (n) ((0 : Int64)) (rt) (by omega) (by omega) hI hr (by omega) (by omega) (by omega) (by omega) (show xB S (mR S 70) from by first | (exact xB_x (xC_o (W := 75) hpre2).2)) (show aS 88 S = (aS 88 S) from by first | (exact rfl)) (show 0 ≤ ((aS 88 S) 87 6).toInt from by first | (exact hpre4) | (rw [hpre3]; exact hpre4)) (fun v2 S1 r₉ C₉ Z₉ N₉ sl1 sl2 sl3 sl4 hI_S1 hp_v2 rp0_S1 rp1_S1 => zi_n ⟨zG_T hI_S1, ?_⟩)
            have rp0_S1 : xB S1 (mR S1 70) := rp0_S1
            have rp1_S1 : aS 88 S1 = aMk (aS 88 S) (17 : Int32) n (0 : Int64) rt ∧ v2 = aMn (aS 88 S) n := rp1_S1
            have b22 := i_bd v2
            exact K (v2) _ _ _ _ _ sl1 sl2 sl3 sl4 hI_S1 trivial (show xB S1 (mR S1 70) from by first | (exact xB_x (xC_o (W := 75) rp0_S1).2)) (show (0 ≤ n.toInt ∧ n.toInt ≤ 60 ∧ 0 ≤ rt.toInt ∧ rt.toInt ≤ 15) ∧ aS 88 S1 = (if b = 0 then aMk ab 17 n 0 rt else aMk ab 16 n (-1) rt) ∧ v2 = aMn ab n from by first | (exfalso; omega) | (have q := rp1_S1; rw [hpre3] at q; refine ⟨⟨by omega, by omega, by omega, by omega⟩, ?_⟩; rw [if_pos (by assumption)]; exact q) | (have q := rp1_S1; rw [hpre3] at q; refine ⟨⟨by omega, by omega, by omega, by omega⟩, ?_⟩; rw [if_neg (by assumption)]; exact q))
          · skip
            have g23 := i_ne h19
            refine sp_143_64_s_p87 (ab := (aS 88 S)) ((16 : Int32)) (n) ((-1 : Int64)) (rt) (by omega) (by omega) hI hr (by omega) (by omega) (by omega) (by omega) (show xB S (mR S 70) from by first | (exact xB_x (xC_o (W := 75) hpre2).2)) (show aS 88 S = (aS 88 S) from by first | (exact rfl)) (show 0 ≤ ((aS 88 S) 87 6).toInt from by first | (exact hpre4) | (rw [hpre3]; exact hpre4)) (fun v4 S3 r₉ C₉ Z₉ N₉ sl1 sl2 sl3 sl4 hI_S3 hp_v4 rp0_S3 rp1_S3 => zi_n ⟨zG_T hI_S3, ?_⟩)
            have rp0_S3 : xB S3 (mR S3 70) := rp0_S3
            have rp1_S3 : aS 88 S3 = aMk (aS 88 S) (16 : Int32) n (-1 : Int64) rt ∧ v4 = aMn (aS 88 S) n := rp1_S3
            have b24 := i_bd v4
            exact K (v4) _ _ _ _ _ sl1 sl2 sl3 sl4 hI_S3 trivial (show xB S3 (mR S3 70) from by first | (exact xB_x (xC_o (W := 75) rp0_S3).2)) (show (0 ≤ n.toInt ∧ n.toInt ≤ 60 ∧ 0 ≤ rt.toInt ∧ rt.toInt ≤ 15) ∧ aS 88 S3 = (if b = 0 then aMk ab 17 n 0 rt else aMk ab 16 n (-1) rt) ∧ v4 = aMn ab n from by first | (exfalso; omega) | (have q := rp1_S3; rw [hpre3] at q; refine ⟨⟨by omega, by omega, by omega, by omega⟩, ?_⟩; rw [if_pos (by assumption)]; exact q) | (have q := rp1_S3; rw [hpre3] at q; refine ⟨⟨by omega, by omega, by omega, by omega⟩, ?_⟩; rw [if_neg (by assumption)]; exact q))
/-! SETS THAT A WALK FINDS: N those come to, D those done, E who refers to whom; never by order -/
def zM (N D : Nat → Prop) (E : Nat → Nat → Prop) (x : Nat) : Prop := ∀ P : Nat → Prop, (∀ g, N g → P g) → (∀ u y, P u → ¬ D u → E u y → P y) → P x
section ZM
variable {N N₉ D D₉ R : Nat → Prop} {E E₉ : Nat → Nat → Prop} {u x y : Nat}
theorem zM_in (h : N x) : zM N D E x := fun _ h1 _ => h1 x h
theorem zM_cl (h : zM N D E u) (hd : ¬ D u) (e : E u y) : zM N D E y := fun P h1 h2 => h2 u y (h P h1 h2) hd e
/-- more come to, all of whom would have come -/
theorem zM_add (h1 : ∀ u, N u → N₉ u) (h2 : ∀ u, N₉ u → zM N D E u) : zM N₉ D E x ↔ zM N D E x := ⟨fun h => h _ h2 (fun _ _ hu hd e => zM_cl hu hd e), fun h => h _ (fun g hg => zM_in (h1 g hg)) (fun _ _ hu hd e => zM_cl hu hd e)⟩
/-- more done, whose words have all come -/
theorem zM_dn (h1 : ∀ u, D u → D₉ u) (h2 : ∀ u y, D₉ u → ¬ D u → E u y → N y) : zM N D₉ E x ↔ zM N D E x := by
  refine ⟨fun h => h _ (fun g hg => zM_in hg) (fun u y hu hd e => zM_cl hu (fun z => hd (h1 u z)) e), fun h => h _ (fun g hg => zM_in hg) (fun u y hu hd e => ?_)⟩
  by_cases z : D₉ u
  · exact zM_in (h2 u y z hd e)
  · exact zM_cl hu z e
theorem zM_end (h : ∀ u, N u → D u) : zM N D E x ↔ N x := ⟨fun z => z _ (fun _ q => q) (fun u _ hu hd _ => absurd (h u hu) hd), zM_in⟩
/-- words change: what is no longer referred to has come, what is referred to now would have come -/
theorem zM_ed (h1 : ∀ u y, E u y → E₉ u y ∨ N y) (h2 : ∀ u y, ¬ D u → zM N D E u → E₉ u y → zM N D E y) : zM N D E₉ x ↔ zM N D E x := by
  refine ⟨fun h => h _ (fun g hg => zM_in hg) (fun u y hu hd e => h2 u y hd hu e), fun h => h _ (fun g hg => zM_in hg) (fun u y hu hd e => ?_)⟩
  rcases h1 u y e with z | z
  · exact zM_cl hu hd z
  · exact zM_in z
/-- what is reached would come, if the roots would and it is closed -/
theorem zM_rch (hr : ∀ r, R r → zM N D E r) (hc : ∀ u y, zM N D E u → E u y → zM N D E y) (h : zM R (fun _ => False) E x) : zM N D E x := h _ hr (fun u y hu _ e => hc u y hu e)
end ZM
/-! A WALK'S QUEUE: the GREY ones stand in it, once each -/
def zNn (a : Nat → Nat → Int32) (x : Nat) : Prop := x < 512 ∧ a 77 x ≠ 0
def zDn (a : Nat → Nat → Int32) (x : Nat) : Prop := x < 512 ∧ a 77 x = 2
def xAl (a : Nat → Nat → Int32) (x : Nat) : Prop := x < 512 ∧ a 126 x ≠ 0
def zEd (a : Nat → Nat → Int32) (u y : Nat) : Prop := xAl a y ∧ ∃ i : Int32, 0 ≤ i.toInt ∧ i.toInt < (a 128 u).toInt - 1 ∧ aRef a u i = Int32.ofNat y
def zMk (a : Nat → Nat → Int32) (x : Nat) : Prop := zM (zNn a) (zDn a) (zEd a) x
def zQ1 (a : Nat → Nat → Int32) : Prop := 0 ≤ (a 75 3).toInt ∧ (a 75 3).toInt ≤ (a 75 4).toInt ∧ (a 75 4).toInt ≤ (cnt (a 77) 512 : Int)
def zQ2 (a : Nat → Nat → Int32) : Prop := ∀ j : Nat, (a 75 3).toInt ≤ (j : Int) → (j : Int) < (a 75 4).toInt → 0 ≤ (a 76 j).toInt ∧ (a 76 j).toInt < 512 ∧ a 126 (a 76 j).toNatClampNeg ≠ 0 ∧ a 77 (a 76 j).toNatClampNeg = 1
def zQ3 (a : Nat → Nat → Int32) : Prop := ∀ j j₉ : Nat, (a 75 3).toInt ≤ (j : Int) → j < j₉ → (j₉ : Int) < (a 75 4).toInt → a 76 j ≠ a 76 j₉
def zQ4 (a : Nat → Nat → Int32) : Prop := ∀ x : Nat, x < 512 → a 77 x = 1 → ∃ j : Nat, (a 75 3).toInt ≤ (j : Int) ∧ (j : Int) < (a 75 4).toInt ∧ a 76 j = Int32.ofNat x
def zQ5 (a : Nat → Nat → Int32) : Prop := ∀ x : Nat, x < 512 → a 77 x = 0 ∨ a 77 x = 1 ∨ a 77 x = 2
def xFp (a : Nat → Nat → Int32) : Prop := (a 75 5).toInt ≤ 0 ∧ ∀ x, xAl a x → 0 ≤ (a 130 x).toInt
def zWQ (a : Nat → Nat → Int32) : Prop := zQ1 a ∧ zQ2 a ∧ zQ3 a ∧ zQ4 a ∧ zQ5 a ∧ xFp a
section WQ
variable {a b : Nat → Nat → Int32} {y i : Int32} {m k u x : Nat}
theorem tn_of (h : x < 512) : (Int32.ofNat x).toNatClampNeg = x := by
  have e : (Int32.ofNat x).toInt = (x : Int) := Int32.toInt_ofNat_of_lt (by omega)
  have := tn_cast (x := Int32.ofNat x) (by omega)
  omega
theorem ofN_i (h : x < 512) : (Int32.ofNat x).toInt = (x : Int) := Int32.toInt_ofNat_of_lt (by omega)
/-- who may come comes, if WHITE -/
theorem cc_of (h : zWQ a) (h0 : 0 ≤ y.toInt) (h1 : y.toInt < 512) (ha : a 126 y.toNatClampNeg ≠ 0) (hw : a 77 y.toNatClampNeg = 0) : aCc a y := by
  have hn : y.toNatClampNeg < 512 := by
    have := tn_cast h0
    omega
  have c := cnt_lt (r := a 77) hn hw
  have q := h.1.2.2
  have p := h.2.2.2.2.2.2 _ ⟨hn, ha⟩
  have f := h.2.2.2.2.2.1
  exact ⟨h0, h1, ha, by omega, by omega, hw⟩
theorem cm_of : zOf a (aCm a y) := fun c k h1 h2 h3 => (aCm_o ⟨h1, h2, h3⟩).symm
theorem Of_tr {c : Nat → Nat → Int32} (h : zOf a b) (h2 : zOf b c) : zOf a c := fun c k q1 q2 q3 => (h c k q1 q2 q3).trans (h2 c k q1 q2 q3)
theorem Of_rf : zOf a a := fun _ _ _ _ _ => rfl
theorem Of_al (h : zOf a b) : xAl b x ↔ xAl a x := by
  unfold xAl
  rw [h 126 x (by decide) (by decide) (by decide)]
theorem Of_ed (h : zOf a b) : zEd b u x ↔ zEd a u x := by
  unfold zEd
  rw [Of_al h]
  constructor
  · rintro ⟨h1, i, h2, h3, h4⟩
    refine ⟨h1, i, h2, ?_, ?_⟩
    · rw [h 128 u (by decide) (by decide) (by decide)]
      exact h3
    · rw [Of_ref h]
      exact h4
  · rintro ⟨h1, i, h2, h3, h4⟩
    refine ⟨h1, i, h2, ?_, ?_⟩
    · rw [← h 128 u (by decide) (by decide) (by decide)]
      exact h3
    · rw [← Of_ref h]
      exact h4
theorem WQ_cm (h : zWQ a) : zWQ (aCm a y) := by
  by_cases hc : aCc a y
  · rw [aCm_y hc]
    obtain ⟨q1, q2, q3, q4, q5, q6, q7⟩ := h
    obtain ⟨c0, c1, c2, c3, c4, c5⟩ := hc
    have cy := tn_cast c0
    have hn : y.toNatClampNeg < 512 := by omega
    have e1 : (a 75 4 + 1).toInt = (a 75 4).toInt + 1 := i_p1 (by omega)
    have t0 : 0 ≤ (a 75 4).toInt := by
      have := q1.1
      have := q1.2.1
      omega
    have et := tn_cast t0
    generalize ht : (a 75 4).toNatClampNeg = t at *
    generalize hv : a 75 4 + 1 = v at *
    have r3 : (ma_u (ma_u (ma_u a 77 y.toNatClampNeg 1) 76 t y) 75 4 v) 75 3 = a 75 3 := by rw [xu_o (by omega), xu_o (by omega), xu_o (by omega)]
    have r4 : (ma_u (ma_u (ma_u a 77 y.toNatClampNeg 1) 76 t y) 75 4 v) 75 4 = v := xu_s
    have r5 : (ma_u (ma_u (ma_u a 77 y.toNatClampNeg 1) 76 t y) 75 4 v) 75 5 = a 75 5 := by rw [xu_o (by omega), xu_o (by omega), xu_o (by omega)]
    have r6 : ∀ j, j ≠ t → (ma_u (ma_u (ma_u a 77 y.toNatClampNeg 1) 76 t y) 75 4 v) 76 j = a 76 j := fun j w => by rw [xu_o (by omega), xu_o (fun z => w z.2), xu_o (by omega)]
    have r6t : (ma_u (ma_u (ma_u a 77 y.toNatClampNeg 1) 76 t y) 75 4 v) 76 t = y := by rw [xu_o (by omega), xu_s]
    have r7 : ∀ j, j ≠ y.toNatClampNeg → (ma_u (ma_u (ma_u a 77 y.toNatClampNeg 1) 76 t y) 75 4 v) 77 j = a 77 j := fun j w => by rw [xu_o (by omega), xu_o (by omega), xu_o (fun z => w z.2)]
    have r7t : (ma_u (ma_u (ma_u a 77 y.toNatClampNeg 1) 76 t y) 75 4 v) 77 y.toNatClampNeg = 1 := by rw [xu_o (by omega), xu_o (by omega), xu_s]
    have rr : (ma_u (ma_u (ma_u a 77 y.toNatClampNeg 1) 76 t y) 75 4 v) 77 = (ma_u a 77 y.toNatClampNeg 1) 77 := by
      funext j
      rw [xu_o (by omega), xu_o (by omega)]
    have ro : ∀ c k, c ≠ 75 → c ≠ 76 → c ≠ 77 → (ma_u (ma_u (ma_u a 77 y.toNatClampNeg 1) 76 t y) 75 4 v) c k = a c k := fun c k w1 w2 w3 => by rw [xu_o (fun z => w1 z.1), xu_o (fun z => w2 z.1), xu_o (fun z => w3 z.1)]
    generalize hb : ma_u (ma_u (ma_u a 77 y.toNatClampNeg 1) 76 t y) 75 4 v = b at *
    refine ⟨⟨?_, ?_, ?_⟩, ?_, ?_, ?_, ?_, ?_, ?_⟩
    · rw [r3]
      exact q1.1
    · rw [r3, r4, e1]
      have := q1.2.1
      omega
    · rw [r4, e1, rr, cnt_up hn c5 (by decide)]
      have := q1.2.2
      omega
    · intro j j1 j2
      rw [r3] at j1
      rw [r4, e1] at j2
      by_cases w : j = t
      · rw [w, r6t, r7t, ro _ _ (by decide) (by decide) (by decide)]
        exact ⟨c0, c1, c2, rfl⟩
      · rw [r6 j w, ro _ _ (by decide) (by decide) (by decide)]
        have p := q2 j j1 (by omega)
        refine ⟨p.1, p.2.1, p.2.2.1, ?_⟩
        by_cases w2 : (a 76 j).toNatClampNeg = y.toNatClampNeg
        · rw [w2]
          exact r7t
        · rw [r7 _ w2]
          exact p.2.2.2
    · intro j j₉ j1 j2 j3
      rw [r3] at j1
      rw [r4, e1] at j3
      by_cases w : j₉ = t
      · rw [w, r6t, r6 j (by omega)]
        intro z
        have p := q2 j j1 (by omega)
        rw [z, c5] at p
        exact absurd p.2.2.2 (by decide)
      · rw [r6 j (by omega), r6 j₉ w]
        exact q3 j j₉ j1 j2 (by omega)
    · intro x hx hx1
      rw [r3, r4, e1]
      by_cases w : x = y.toNatClampNeg
      · refine ⟨t, by have := q1.2.1; omega, by omega, ?_⟩
        rw [r6t, w, ofN_tn c0]
      · rw [r7 x w] at hx1
        obtain ⟨j, j1, j2, j3⟩ := q4 x hx hx1
        refine ⟨j, j1, by omega, ?_⟩
        rw [r6 j (by omega)]
        exact j3
    · intro x hx
      by_cases w : x = y.toNatClampNeg
      · rw [w, r7t]
        exact Or.inr (Or.inl rfl)
      · rw [r7 x w]
        exact q5 x hx
    · rw [r5]
      exact q6
    · intro x hx
      unfold xAl at hx
      rw [ro _ _ (by decide) (by decide) (by decide)] at hx ⊢
      exact q7 x hx
  · rw [aCm_n hc]
    exact h
theorem Nn_cm (h : zWQ a) : zNn (aCm a y) u ↔ zNn a u ∨ (0 ≤ y.toInt ∧ y.toInt < 512 ∧ u = y.toNatClampNeg ∧ xAl a u) := by
  by_cases hc : aCc a y
  · have cy := tn_cast hc.1
    have hn : y.toNatClampNeg < 512 := by
      have := hc.2.1
      omega
    rw [aCm_y hc]
    unfold zNn
    rw [xu_o (by omega), xu_o (by omega)]
    by_cases w : u = y.toNatClampNeg
    · rw [w, xu_s]
      exact ⟨fun _ => Or.inr ⟨hc.1, hc.2.1, rfl, hn, hc.2.2.1⟩, fun _ => ⟨hn, by decide⟩⟩
    · rw [xu_o (fun z => w z.2)]
      exact ⟨fun z => Or.inl z, fun z => z.elim id (fun q => absurd q.2.2.1 w)⟩
  · rw [aCm_n hc]
    refine ⟨Or.inl, fun z => z.elim id (fun q => ⟨q.2.2.2.1, fun w => hc ?_⟩)⟩
    rw [q.2.2.1] at w
    have al := q.2.2.2.2
    rw [q.2.2.1] at al
    exact cc_of h q.1 q.2.1 al w
theorem Dn_cm : zDn (aCm a y) u ↔ zDn a u := by
  by_cases hc : aCc a y
  · rw [aCm_y hc]
    unfold zDn
    rw [xu_o (by omega), xu_o (by omega)]
    by_cases w : u = y.toNatClampNeg
    · rw [w, xu_s, hc.2.2.2.2.2]
      exact ⟨fun z => absurd z.2 (by decide), fun z => absurd z.2 (by decide)⟩
    · rw [xu_o (fun z => w z.2)]
  · rw [aCm_n hc]
end WQ

/-! from 95.g40 -/
/-! the heap by numbers, the class (written by wip/tools/gen18.py) -/
/-! what a walk finds -/
def zGr (a b : Nat → Nat → Int32) (T : Nat → Prop) : Prop := zWQ b ∧ zOf a b ∧ (∀ u, zDn b u ↔ zDn a u) ∧ (∀ u, zNn b u ↔ zNn a u ∨ (xAl a u ∧ T u)) ∧ b 75 3 = a 75 3
section GR
variable {a b c : Nat → Nat → Int32} {T T₉ : Nat → Prop} {y i n : Int32} {m k u x : Nat}
theorem cm_3 : aCm a y 75 3 = a 75 3 := by
  by_cases h : aCc a y
  · rw [aCm_y h, xu_o (by omega), xu_o (by omega), xu_o (by omega)]
  · rw [aCm_n h]
theorem gr_rf (h : zWQ a) : zGr a a (fun _ => False) := ⟨h, Of_rf, fun _ => Iff.rfl, fun _ => ⟨Or.inl, fun z => z.elim id (fun q => q.2.elim)⟩, rfl⟩
theorem gr_cm (h : zWQ a) : zGr a (aCm a y) (fun u => y = Int32.ofNat u) := by
  refine ⟨WQ_cm h, cm_of, fun _ => Dn_cm, fun u => ?_, cm_3⟩
  rw [Nn_cm h]
  constructor
  · rintro (z | ⟨z1, z2, z3, z4⟩)
    · exact Or.inl z
    · refine Or.inr ⟨z4, ?_⟩
      show y = Int32.ofNat u
      rw [z3, ofN_tn z1]
  · rintro (z | ⟨z1, z2⟩)
    · exact Or.inl z
    · have e := ofN_i z1.1
      refine Or.inr ⟨?_, ?_, ?_, z1⟩
      · rw [z2]
        omega
      · have := z1.1
        rw [z2]
        omega
      · rw [z2, tn_of z1.1]
theorem gr_tr (h : zGr a b T) (h2 : zGr b c T₉) : zGr a c (fun u => T u ∨ T₉ u) := by
  refine ⟨h2.1, Of_tr h.2.1 h2.2.1, fun u => (h2.2.2.1 u).trans (h.2.2.1 u), fun u => ?_, h2.2.2.2.2.trans h.2.2.2.2⟩
  rw [h2.2.2.2.1 u, h.2.2.2.1 u, Of_al h.2.1]
  constructor
  · rintro ((z | z) | z)
    · exact Or.inl z
    · exact Or.inr ⟨z.1, Or.inl z.2⟩
    · exact Or.inr ⟨z.1, Or.inr z.2⟩
  · rintro (z | ⟨z1, z2 | z2⟩)
    · exact Or.inl (Or.inl z)
    · exact Or.inl (Or.inr ⟨z1, z2⟩)
    · exact Or.inr ⟨z1, z2⟩
theorem gr_im (h : zGr a b T) (e : ∀ u, xAl a u → (T u ↔ T₉ u)) : zGr a b T₉ := by
  refine ⟨h.1, h.2.1, h.2.2.1, fun u => ?_, h.2.2.2.2⟩
  rw [h.2.2.2.1 u]
  constructor
  · rintro (z | z)
    · exact Or.inl z
    · exact Or.inr ⟨z.1, (e u z.1).mp z.2⟩
  · rintro (z | z)
    · exact Or.inl z
    · exact Or.inr ⟨z.1, (e u z.1).mpr z.2⟩
theorem gr_cwf : ∀ (f : Nat) (i : Int32) (a : Nat → Nat → Int32), i.toInt + f ≤ 2147483646 → zWQ a → zGr a (aCwf m f i a) (fun u => ∃ k : Int32, i.toInt ≤ k.toInt ∧ k.toInt < i.toInt + f ∧ aRef a m k = Int32.ofNat u) := by
  intro f
  induction f with
  | zero =>
    intro i a _ h
    exact gr_im (gr_rf h) (fun u _ => ⟨fun z => z.elim, fun ⟨k, k1, k2, _⟩ => by omega⟩)
  | succ f ih =>
    intro i a hb h
    have e := i_p1 (i := i) (by omega)
    have g1 := gr_cm (y := aRef a m i) h
    have g2 := ih (i + 1) (aCm a (aRef a m i)) (by omega) g1.1
    refine gr_im (gr_tr g1 g2) (fun u _ => ?_)
    constructor
    · rintro (z | ⟨k, k1, k2, k3⟩)
      · exact ⟨i, by omega, by omega, z⟩
      · rw [← Of_ref cm_of] at k3
        exact ⟨k, by omega, by omega, k3⟩
    · rintro ⟨k, k1, k2, k3⟩
      by_cases w : k = i
      · exact Or.inl (by rw [← w]; exact k3)
      · refine Or.inr ⟨k, ?_, by omega, ?_⟩
        · have : k.toInt ≠ i.toInt := fun z => w (Int32.toInt_inj.mp z)
          omega
        · rw [← Of_ref cm_of]
          exact k3
theorem zM_cg {N N₉ D D₉ : Nat → Prop} {E E₉ : Nat → Nat → Prop} (h1 : ∀ u, N u ↔ N₉ u) (h2 : ∀ u, D u ↔ D₉ u) (h3 : ∀ u y, E u y ↔ E₉ u y) : zM N D E x ↔ zM N₉ D₉ E₉ x := by
  have e1 : N = N₉ := funext (fun u => propext (h1 u))
  have e2 : D = D₉ := funext (fun u => propext (h2 u))
  have e3 : E = E₉ := funext (fun u => funext (fun y => propext (h3 u y)))
  rw [e1, e2, e3]
theorem pop_all (h : zWQ a) (hl : (a 75 3).toInt < (a 75 4).toInt) : zWQ (aPop a) ∧ zOf a (aPop a) ∧ (∀ x, zMk (aPop a) x ↔ zMk a x) ∧ (aPop a 75 3).toInt = (a 75 3).toInt + 1 ∧ ∃ z, z < 512 ∧ ¬ zDn a z ∧ ∀ u, zDn (aPop a) u ↔ zDn a u ∨ u = z := by
  have H := h
  obtain ⟨q1, q2, q3, q4, q5, q6, q7⟩ := h
  have cb : cnt (a 77) 512 ≤ 512 := cnt_le
  have q12 := q1.2.2
  have e1 : (a 75 3 + 1).toInt = (a 75 3).toInt + 1 := i_p1 (by omega)
  have ch := tn_cast q1.1
  have p := q2 (a 75 3).toNatClampNeg (by omega) (by omega)
  rw [aPop_y (a := a) (y := a 76 (a 75 3).toNatClampNeg) rfl p.1 p.2.1 p.2.2.1]
  have cq := tn_cast p.1
  generalize hq : a 76 (a 75 3).toNatClampNeg = q at *
  generalize hz : q.toNatClampNeg = z at *
  have hz5 : z < 512 := by omega
  generalize hv : a 75 3 + 1 = v at *
  have r3 : (ma_u (ma_u a 75 3 v) 77 z 2) 75 3 = v := by rw [xu_o (by omega), xu_s]
  have r4 : (ma_u (ma_u a 75 3 v) 77 z 2) 75 4 = a 75 4 := by rw [xu_o (by omega), xu_o (by omega)]
  have r5 : (ma_u (ma_u a 75 3 v) 77 z 2) 75 5 = a 75 5 := by rw [xu_o (by omega), xu_o (by omega)]
  have r6 : ∀ j, (ma_u (ma_u a 75 3 v) 77 z 2) 76 j = a 76 j := fun j => by rw [xu_o (by omega), xu_o (by omega)]
  have r7 : ∀ j, j ≠ z → (ma_u (ma_u a 75 3 v) 77 z 2) 77 j = a 77 j := fun j w => by rw [xu_o (fun y => w y.2), xu_o (by omega)]
  have r7t : (ma_u (ma_u a 75 3 v) 77 z 2) 77 z = 2 := xu_s
  have rc : (a 75 4).toInt ≤ (cnt ((ma_u (ma_u a 75 3 v) 77 z 2) 77) 512 : Int) := by
    have e : ma_u a 75 3 v 77 = a 77 := ma_u_ne _ _ _ (by decide)
    have w := cnt_u1 (m := ma_u a 75 3 v) (c := 77) (k := z) (x := (2 : Int32)) (n := 512) (by decide)
    rw [e] at w
    omega
  have ro : ∀ c k, c ≠ 75 → c ≠ 76 → c ≠ 77 → (ma_u (ma_u a 75 3 v) 77 z 2) c k = a c k := fun c k w1 w2 w3 => by rw [xu_o (fun y => w3 y.1), xu_o (fun y => w1 y.1)]
  generalize hb : ma_u (ma_u a 75 3 v) 77 z 2 = b at *
  have ob : zOf a b := fun c k w1 w2 w3 => (ro c k w1 w2 w3).symm
  have wb : zWQ b := by
    refine ⟨⟨?_, ?_, ?_⟩, ?_, ?_, ?_, ?_, ?_, ?_⟩
    · rw [r3, e1]
      omega
    · rw [r3, r4, e1]
      omega
    · rw [r4]
      exact rc
    · intro j j1 j2
      rw [r3, e1] at j1
      rw [r4] at j2
      rw [r6, ro _ _ (by decide) (by decide) (by decide)]
      have pj := q2 j (by omega) j2
      refine ⟨pj.1, pj.2.1, pj.2.2.1, ?_⟩
      rw [r7 _ ?_]
      · exact pj.2.2.2
      · intro w
        have n3 := q3 (a 75 3).toNatClampNeg j (by omega) (by omega) j2
        rw [hq] at n3
        apply n3
        have cj := tn_cast pj.1
        apply Int32.toInt_inj.mp
        omega
    · intro j j₉ j1 j2 j3
      rw [r3, e1] at j1
      rw [r4] at j3
      rw [r6, r6]
      exact q3 j j₉ (by omega) j2 j3
    · intro x hx hx1
      by_cases w : x = z
      · rw [w, r7t] at hx1
        exact absurd hx1 (by decide)
      · rw [r7 x w] at hx1
        obtain ⟨j, j1, j2, j3⟩ := q4 x hx hx1
        refine ⟨j, ?_, by rw [r4]; exact j2, by rw [r6]; exact j3⟩
        rw [r3, e1]
        by_cases w2 : j = (a 75 3).toNatClampNeg
        · rw [w2, hq] at j3
          exfalso
          apply w
          have := ofN_i hx
          rw [← j3] at this
          omega
        · omega
    · intro x hx
      by_cases w : x = z
      · rw [w, r7t]
        exact Or.inr (Or.inr rfl)
      · rw [r7 x w]
        exact q5 x hx
    · rw [r5]
      exact q6
    · intro x hx
      rw [Of_al ob] at hx
      rw [ro _ _ (by decide) (by decide) (by decide)]
      exact q7 x hx
  have nb : ∀ u, zNn b u ↔ zNn a u := by
    intro u
    unfold zNn
    by_cases w : u = z
    · rw [w, r7t, p.2.2.2]
      exact ⟨fun _ => ⟨hz5, by decide⟩, fun _ => ⟨hz5, by decide⟩⟩
    · rw [r7 u w]
  have db : ∀ u, zDn b u ↔ zDn a u ∨ u = z := by
    intro u
    unfold zDn
    by_cases w : u = z
    · rw [w, r7t]
      exact ⟨fun _ => Or.inr rfl, fun _ => ⟨hz5, rfl⟩⟩
    · rw [r7 u w]
      exact ⟨Or.inl, fun y => y.elim id (fun y2 => absurd y2 w)⟩
  have i0 : (0 : Int32).toInt = 0 := rfl
  have sb := i_bd (b 128 z)
  have g := gr_cwf (m := z) ((b 128 z).toInt - 1 - (0 : Int32).toInt).toNat 0 b (by omega) wb
  have dc : ∀ u, zDn (aCw b z 0) u ↔ zDn a u ∨ u = z := fun u => (g.2.2.1 u).trans (db u)
  have dz : ¬ zDn a z := fun w => by
    have := w.2
    rw [p.2.2.2] at this
    exact absurd this (by decide)
  refine ⟨g.1, Of_tr ob g.2.1, fun x => ?_, ?_, z, hz5, dz, dc⟩
  · have oc := Of_tr ob g.2.1
    have nc : ∀ u, zNn (aCw b z 0) u ↔ zNn a u ∨ zEd a z u := by
      intro u
      rw [show zNn (aCw b z 0) u ↔ _ from g.2.2.2.1 u, nb u, Of_al ob]
      have e : (xAl a u ∧ ∃ k : Int32, (0 : Int32).toInt ≤ k.toInt ∧ k.toInt < (0 : Int32).toInt + (((b 128 z).toInt - 1 - (0 : Int32).toInt).toNat : Int) ∧ aRef b z k = Int32.ofNat u) ↔ zEd a z u := by
        unfold zEd
        rw [← ob 128 z (by decide) (by decide) (by decide)]
        constructor
        · rintro ⟨w1, k, w2, w3, w4⟩
          rw [← Of_ref ob] at w4
          exact ⟨w1, k, by omega, by rw [ob 128 z (by decide) (by decide) (by decide)] at *; omega, w4⟩
        · rintro ⟨w1, k, w2, w3, w4⟩
          rw [Of_ref ob] at w4
          exact ⟨w1, k, by omega, by rw [ob 128 z (by decide) (by decide) (by decide)] at *; omega, w4⟩
      rw [e]
    have nz : zNn a z := ⟨hz5, by rw [p.2.2.2]; decide⟩
    refine (zM_cg nc dc (fun u y => Of_ed oc)).trans ?_
    refine (zM_dn (D := zDn a) (fun u w => Or.inl w) (fun u y w1 w2 w3 => ?_)).trans ?_
    · rcases w1 with w1 | w1
      · exact absurd w1 w2
      · rw [w1] at w3
        exact Or.inr w3
    · refine zM_add (fun u w => Or.inl w) (fun u w => ?_)
      rcases w with w | w
      · exact zM_in w
      · exact zM_cl (zM_in nz) dz w
  · have : aCw b z 0 75 3 = b 75 3 := g.2.2.2.2
    rw [this, r3, e1]
end GR
/-! a walk to its end, and from where it begins -/
section GR3
variable {a b : Nat → Nat → Int32} {y i n : Int32} {m k u x : Nat}
theorem sp_all : ∀ (k : Nat) (a : Nat → Nat → Int32), zWQ a → zWQ (aSp k a) ∧ zOf a (aSp k a) ∧ (∀ x, zMk (aSp k a) x ↔ zMk a x) ∧ ((aSp k a 75 3).toInt < (aSp k a 75 4).toInt → (aSp k a 75 3).toInt = (a 75 3).toInt + k) := by
  intro k
  induction k with
  | zero => intro a h; exact ⟨h, Of_rf, fun _ => Iff.rfl, fun _ => by show (a 75 3).toInt = _; omega⟩
  | succ k ih =>
    intro a h
    by_cases hl : (a 75 3).toInt < (a 75 4).toInt
    · rw [aSp_go hl]
      have p := pop_all h hl
      have q := ih _ p.1
      refine ⟨q.1, Of_tr p.2.1 q.2.1, fun x => (q.2.2.1 x).trans (p.2.2.1 x), fun w => ?_⟩
      rw [q.2.2.2 w, p.2.2.2.1]
      omega
    · rw [aSp_st (Or.inr hl)]
      exact ⟨h, Of_rf, fun _ => Iff.rfl, fun w => absurd w hl⟩
theorem sp_end (h : zWQ a) : ¬ (aSp 512 a 75 3).toInt < (aSp 512 a 75 4).toInt := by
  intro w
  have q := sp_all 512 a h
  have e := q.2.2.2 w
  have c : cnt (aSp 512 a 77) 512 ≤ 512 := cnt_le
  have c2 := q.1.1.2.2
  have c3 := h.1.1
  omega
theorem Nn_end (h : zWQ a) (he : ¬ (a 75 3).toInt < (a 75 4).toInt) : zMk a x ↔ zNn a x := by
  refine zM_end (fun u w => ⟨w.1, ?_⟩)
  rcases h.2.2.2.2.1 u w.1 with z | z | z
  · exact absurd z w.2
  · obtain ⟨j, j1, j2, _⟩ := h.2.2.2.1 u w.1 z
    omega
  · exact z
/-- all that come would come: to the end -/
theorem sp_Nn (h : zWQ a) : zNn (aSp 512 a) x ↔ zMk a x := (Nn_end (sp_all 512 a h).1 (sp_end h)).symm.trans ((sp_all 512 a h).2.2.1 x)
theorem gr_hf : ∀ (f : Nat) (n : Int32) (a : Nat → Nat → Int32), 0 ≤ n.toInt → n.toInt + f ≤ 2147483646 → zWQ a → zGr a (aHf f n a) (fun u => n.toInt ≤ (u : Int) ∧ (u : Int) < n.toInt + f ∧ 0 < (a 133 u).toInt) := by
  intro f
  induction f with
  | zero =>
    intro n a _ _ h
    exact gr_im (gr_rf h) (fun u _ => ⟨fun z => z.elim, fun z => by omega⟩)
  | succ f ih =>
    intro n a h0 hb h
    have e := i_p1 (i := n) (by omega)
    have cn := tn_cast h0
    show zGr a (aHf f (n + 1) (if 0 ≤ n.toInt ∧ n.toInt < 512 ∧ a 126 n.toNatClampNeg ≠ 0 ∧ 0 < (a 133 n.toNatClampNeg).toInt then aCm a n else a)) _
    by_cases hc : 0 ≤ n.toInt ∧ n.toInt < 512 ∧ a 126 n.toNatClampNeg ≠ 0 ∧ 0 < (a 133 n.toNatClampNeg).toInt
    · rw [if_pos hc]
      have g1 := gr_cm (y := n) h
      have g2 := ih (n + 1) (aCm a n) (by omega) (by omega) g1.1
      refine gr_im (gr_tr g1 g2) (fun u hu => ?_)
      have e3 : aCm a n 133 u = a 133 u := aCm_o ⟨by decide, by decide, by decide⟩
      have eu := ofN_i hu.1
      rw [e3]
      constructor
      · rintro (w | w)
        · have w2 : n.toNatClampNeg = u := by
            have := congrArg Int32.toInt w
            omega
          refine ⟨by omega, by omega, ?_⟩
          rw [← w2]
          exact hc.2.2.2
        · exact ⟨by omega, by omega, w.2.2⟩
      · rintro ⟨w1, w2, w3⟩
        by_cases w4 : (u : Int) = n.toInt
        · exact Or.inl (Int32.toInt_inj.mp (by omega))
        · exact Or.inr ⟨by omega, by omega, w3⟩
    · rw [if_neg hc]
      have g2 := ih (n + 1) a (by omega) (by omega) h
      refine gr_im g2 (fun u hu => ?_)
      constructor
      · rintro ⟨w1, w2, w3⟩
        exact ⟨by omega, by omega, w3⟩
      · rintro ⟨w1, w2, w3⟩
        refine ⟨?_, by omega, w3⟩
        by_cases w4 : (u : Int) = n.toInt
        · exfalso
          apply hc
          have w5 : n.toNatClampNeg = u := by omega
          rw [w5]
          exact ⟨h0, by have := hu.1; omega, hu.2, w3⟩
        · omega
/-- held -/
def zHl (a : Nat → Nat → Int32) (u : Nat) : Prop := (u : Int) < (a 69 6).toInt ∧ 0 < (a 133 u).toInt
def zWl (a : Nat → Nat → Int32) (u : Nat) : Prop := ∃ j : Nat, (j : Int) < (a 69 5).toInt ∧ a 74 j = Int32.ofNat u
def zRl (a : Nat → Nat → Int32) (u : Nat) : Prop := ∃ j : Nat, j < 16 ∧ a 72 j = Int32.ofNat u
theorem gr_ho (h : zWQ a) (w : (a 69 6).toInt ≤ 512) : zGr a (aHo a 0) (zHl a) := by
  have i0 : (0 : Int32).toInt = 0 := rfl
  refine gr_im (gr_hf ((a 69 6).toInt - (0 : Int32).toInt).toNat 0 a (by omega) (by omega) h) (fun u _ => ?_)
  unfold zHl
  constructor
  · rintro ⟨w1, w2, w3⟩
    exact ⟨by omega, w3⟩
  · rintro ⟨w1, w2⟩
    exact ⟨by omega, by omega, w2⟩
theorem gr_wf : ∀ (f : Nat) (i : Int32) (a : Nat → Nat → Int32), 0 ≤ i.toInt → i.toInt + f ≤ 2147483646 → (a 69 6).toInt ≤ 512 → zWQ a → zGr a (aWf f i a) (fun u => (∃ j : Nat, i.toInt ≤ (j : Int) ∧ (j : Int) < i.toInt + f ∧ a 74 j = Int32.ofNat u) ∨ zHl a u) := by
  intro f
  induction f with
  | zero =>
    intro i a _ _ hg h
    refine gr_im (gr_ho h hg) (fun u _ => ⟨Or.inr, fun z => z.elim (fun ⟨j, j1, j2, _⟩ => by omega) id⟩)
  | succ f ih =>
    intro i a h0 hb hg h
    have e := i_p1 (i := i) (by omega)
    have ci := tn_cast h0
    have g1 := gr_cm (y := a 74 i.toNatClampNeg) h
    have o : zOf a (aCm a (a 74 i.toNatClampNeg)) := cm_of
    have g2 := ih (i + 1) (aCm a (a 74 i.toNatClampNeg)) (by omega) (by omega) (by rw [← o 69 6 (by decide) (by decide) (by decide)]; exact hg) g1.1
    refine gr_im (gr_tr g1 g2) (fun u hu => ?_)
    have eh : zHl (aCm a (a 74 i.toNatClampNeg)) u ↔ zHl a u := by
      unfold zHl
      rw [o 69 6 (by decide) (by decide) (by decide), o 133 u (by decide) (by decide) (by decide)]
    rw [eh]
    constructor
    · rintro (w | ⟨j, j1, j2, j3⟩ | w)
      · exact Or.inl ⟨i.toNatClampNeg, by omega, by omega, w⟩
      · rw [← o 74 j (by decide) (by decide) (by decide)] at j3
        exact Or.inl ⟨j, by omega, by omega, j3⟩
      · exact Or.inr w
    · rintro (⟨j, j1, j2, j3⟩ | w)
      · by_cases w : j = i.toNatClampNeg
        · exact Or.inl (by rw [← w]; exact j3)
        · exact Or.inr (Or.inl ⟨j, by omega, by omega, by rw [← o 74 j (by decide) (by decide) (by decide)]; exact j3⟩)
      · exact Or.inr (Or.inr w)
theorem gr_wi (h : zWQ a) (w : (a 69 6).toInt ≤ 512) (w5 : (a 69 5).toInt ≤ 512) : zGr a (aWi a 0) (fun u => zWl a u ∨ zHl a u) := by
  have i0 : (0 : Int32).toInt = 0 := rfl
  refine gr_im (gr_wf ((a 69 5).toInt - (0 : Int32).toInt).toNat 0 a (by omega) (by omega) w h) (fun u _ => ?_)
  unfold zWl
  constructor
  · rintro (⟨j, j1, j2, j3⟩ | z)
    · exact Or.inl ⟨j, by omega, j3⟩
    · exact Or.inr z
  · rintro (⟨j, j1, j2⟩ | z)
    · exact Or.inl ⟨j, by omega, by omega, j2⟩
    · exact Or.inr z
theorem gr_rof : ∀ (f : Nat) (i : Int32) (a : Nat → Nat → Int32), 0 ≤ i.toInt → i.toInt + f ≤ 16 → (a 69 6).toInt ≤ 512 → (a 69 5).toInt ≤ 512 → zWQ a → zGr a (aRf f i a) (fun u => (∃ j : Nat, i.toInt ≤ (j : Int) ∧ (j : Int) < i.toInt + f ∧ a 72 j = Int32.ofNat u) ∨ zWl a u ∨ zHl a u) := by
  intro f
  induction f with
  | zero =>
    intro i a _ _ hg hw h
    refine gr_im (gr_wi h hg hw) (fun u _ => ⟨Or.inr, fun z => z.elim (fun ⟨j, j1, j2, _⟩ => by omega) id⟩)
  | succ f ih =>
    intro i a h0 hb hg hw h
    have e := i_p1 (i := i) (by omega)
    have ci := tn_cast h0
    have g1 := gr_cm (y := a 72 i.toNatClampNeg) h
    have o : zOf a (aCm a (a 72 i.toNatClampNeg)) := cm_of
    have g2 := ih (i + 1) (aCm a (a 72 i.toNatClampNeg)) (by omega) (by omega) (by rw [← o 69 6 (by decide) (by decide) (by decide)]; exact hg) (by rw [← o 69 5 (by decide) (by decide) (by decide)]; exact hw) g1.1
    refine gr_im (gr_tr g1 g2) (fun u hu => ?_)
    have eh : zHl (aCm a (a 72 i.toNatClampNeg)) u ↔ zHl a u := by
      unfold zHl
      rw [o 69 6 (by decide) (by decide) (by decide), o 133 u (by decide) (by decide) (by decide)]
    have ew : zWl (aCm a (a 72 i.toNatClampNeg)) u ↔ zWl a u := by
      unfold zWl
      rw [o 69 5 (by decide) (by decide) (by decide)]
      constructor
      · rintro ⟨j, j1, j2⟩
        exact ⟨j, j1, by rw [o 74 j (by decide) (by decide) (by decide)]; exact j2⟩
      · rintro ⟨j, j1, j2⟩
        exact ⟨j, j1, by rw [← o 74 j (by decide) (by decide) (by decide)]; exact j2⟩
    rw [eh, ew]
    constructor
    · rintro (w | ⟨j, j1, j2, j3⟩ | w)
      · exact Or.inl ⟨i.toNatClampNeg, by omega, by omega, w⟩
      · rw [← o 72 j (by decide) (by decide) (by decide)] at j3
        exact Or.inl ⟨j, by omega, by omega, j3⟩
      · exact Or.inr w
    · rintro (⟨j, j1, j2, j3⟩ | w)
      · by_cases w : j = i.toNatClampNeg
        · exact Or.inl (by rw [← w]; exact j3)
        · exact Or.inr (Or.inl ⟨j, by omega, by omega, by rw [← o 72 j (by decide) (by decide) (by decide)]; exact j3⟩)
      · exact Or.inr (Or.inr w)
/-- ROOTS, WISHES, held ones -/
def zRt (a : Nat → Nat → Int32) (u : Nat) : Prop := xAl a u ∧ (zRl a u ∨ zWl a u ∨ zHl a u)
theorem gr_ro (h : zWQ a) (w : (a 69 6).toInt ≤ 512) (w5 : (a 69 5).toInt ≤ 512) : zGr a (aRo a 0) (fun u => zRl a u ∨ zWl a u ∨ zHl a u) := by
  have i0 : (0 : Int32).toInt = 0 := rfl
  refine gr_im (gr_rof (16 - (0 : Int32).toInt).toNat 0 a (by omega) (by omega) w w5 h) (fun u _ => ?_)
  unfold zRl
  constructor
  · rintro (⟨j, j1, j2, j3⟩ | z)
    · exact Or.inl ⟨j, by omega, j3⟩
    · exact Or.inr z
  · rintro (⟨j, j1, j2⟩ | z)
    · exact Or.inl ⟨j, by omega, by omega, j2⟩
    · exact Or.inr z
theorem WQ_wh (hp : ∀ x, xAl a x → 0 ≤ (a 130 x).toInt) : zWQ (aWh a 0) ∧ zOf a (aWh a 0) ∧ (∀ u, ¬ zNn (aWh a 0) u) := by
  have r3 : aWh a 0 75 3 = 0 := by
    unfold aWh
    rw [xu_o (by omega), xu_o (by omega), xu_s]
  have r4 : aWh a 0 75 4 = 0 := by
    unfold aWh
    rw [xu_o (by omega), xu_s]
  have r5 : aWh a 0 75 5 = 0 := by
    unfold aWh
    rw [xu_s]
  have ro : ∀ c k, c ≠ 75 → aWh a 0 c k = zFl a 77 0 512 c k := fun c k w => by
    unfold aWh
    rw [xu_o (fun z => w z.1), xu_o (fun z => w z.1), xu_o (fun z => w z.1)]
  have r7 : ∀ k, k < 512 → aWh a 0 77 k = 0 := fun k hk => by
    rw [ro _ _ (by decide)]
    unfold zFl
    rw [if_pos ⟨rfl, by omega⟩]
  have of : zOf a (aWh a 0) := fun c k q1 q2 q3 => by
    rw [ro _ _ q1]
    unfold zFl
    rw [if_neg (fun z => q3 z.1)]
  have i0 : (0 : Int32).toInt = 0 := rfl
  refine ⟨⟨⟨?_, ?_, ?_⟩, ?_, ?_, ?_, ?_, ?_, ?_⟩, of, fun u w => w.2 (r7 u w.1)⟩
  · rw [r3]
    decide
  · rw [r3, r4]
    decide
  · rw [r4]
    omega
  · intro j j1 j2
    rw [r4] at j2
    omega
  · intro j j₉ j1 j2 j3
    rw [r4] at j3
    omega
  · intro x hx hx1
    rw [r7 x hx] at hx1
    exact absurd hx1 (by decide)
  · intro x hx
    exact Or.inl (r7 x hx)
  · rw [r5]
    decide
  · intro x hx
    rw [Of_al of] at hx
    rw [← of 130 x (by decide) (by decide) (by decide)]
    exact hp x hx
/-- REACHED: a set, by who refers to whom -/
def zRch (a : Nat → Nat → Int32) (x : Nat) : Prop := zM (zRt a) (fun _ => False) (zEd a) x
theorem RA_set (hp : ∀ x, xAl a x → 0 ≤ (a 130 x).toInt) (w : (a 69 6).toInt ≤ 512) (w5 : (a 69 5).toInt ≤ 512) : zNn (aRA a) x ↔ zRch a x := by
  have h := WQ_wh hp
  have o := h.2.1
  have g := gr_ro h.1 (by rw [← o 69 6 (by decide) (by decide) (by decide)]; exact w) (by rw [← o 69 5 (by decide) (by decide) (by decide)]; exact w5)
  refine (sp_Nn g.1).trans ?_
  have o2 := Of_tr o g.2.1
  refine zM_cg (fun u => ?_) (fun u => ?_) (fun u y => Of_ed o2)
  · rw [g.2.2.2.1 u, Of_al o]
    show zNn (aWh a 0) u ∨ xAl a u ∧ (zRl (aWh a 0) u ∨ zWl (aWh a 0) u ∨ zHl (aWh a 0) u) ↔ zRt a u
    unfold zRt zRl zWl zHl
    rw [← o 69 6 (by decide) (by decide) (by decide), ← o 69 5 (by decide) (by decide) (by decide), ← o 133 u (by decide) (by decide) (by decide)]
    have e7 : aWh a 0 72 = a 72 := funext (fun k => (o 72 k (by decide) (by decide) (by decide)).symm)
    have e4 : aWh a 0 74 = a 74 := funext (fun k => (o 74 k (by decide) (by decide) (by decide)).symm)
    rw [e7, e4]
    exact ⟨fun z => z.elim (fun q => absurd q (h.2.2 u)) id, Or.inr⟩
  · rw [g.2.2.1 u]
    exact ⟨fun z => h.2.2 u ⟨z.1, by rw [z.2]; decide⟩, fun z => z.elim⟩
end GR3
/-! block i -/
def aBk (a : Nat → Nat → Int32) : Nat → Int → Int
  | 0, p => if p < (a 87 0).toInt then p else -1
  | k + 1, p => if p < (a 87 0).toInt then aBk a k (aN a (aE a p)) else -1
section BK
variable {a : Nat → Nat → Int32} {p : Int} {k : Nat}
theorem aBk_0 (h : p < (a 87 0).toInt) : aBk a 0 p = p := if_pos h
theorem aBk_s (h : p < (a 87 0).toInt) : aBk a (k + 1) p = aBk a k (aN a (aE a p)) := if_pos h
theorem aBk_n (h : ¬ p < (a 87 0).toInt) : aBk a k p = -1 := by
  cases k with
  | zero => exact if_neg h
  | succ k => exact if_neg h
theorem bk_s {x : Int32} (h0 : 0 ≤ x.toInt) (h1 : ¬ x = 0) : ¬ (x + (-1 : Int32)).toInt < 0 ∧ x.toInt.toNat = (x + (-1 : Int32)).toInt.toNat + 1 := by
  have b := i_bd x
  have e : (x + (-1 : Int32)).toInt = x.toInt + (-1) := i_addk rfl (by omega) (by omega)
  have z := i_ne h1
  have z2 : (0 : Int32).toInt = 0 := rfl
  omega
theorem bk_go {x : Int32} {T v2 : Int} (h0 : 0 ≤ x.toInt) (h1 : ¬ x = 0) (hp : p < (a 87 0).toInt) (q : (if x.toInt < 0 then -1 else aBk a x.toInt.toNat p) = T) (e2 : v2 = aN a (aE a p)) : (if (x + (-1 : Int32)).toInt < 0 then -1 else aBk a (x + (-1 : Int32)).toInt.toNat v2) = T := by
  have b := bk_s h0 h1
  rw [if_neg (by omega), b.2, aBk_s hp] at q
  rw [if_neg b.1, e2]
  exact q
theorem bk_e1 {x : Int32} {T v : Int} (h0 : x.toInt < 0) (q : (if x.toInt < 0 then -1 else aBk a x.toInt.toNat p) = T) (e : v = -1) : v = T := by
  rw [if_pos h0] at q
  rw [e]
  exact q
theorem bk_e2 {x : Int32} {T v : Int} (h0 : x = 0) (hp : p < (a 87 0).toInt) (q : (if x.toInt < 0 then -1 else aBk a x.toInt.toNat p) = T) (e : v = p) : v = T := by
  rw [h0] at q
  rw [e]
  exact (aBk_0 hp).symm.trans q
theorem bk_e3 {x : Int32} {T v : Int} (hp : ¬ p < (a 87 0).toInt) (q : (if x.toInt < 0 then -1 else aBk a x.toInt.toNat p) = T) (e : v = -1) : v = T := by
  rw [e, ← q]
  by_cases h : x.toInt < 0
  · rw [if_pos h]
  · rw [if_neg h, aBk_n hp]
end BK
theorem g_76_87_s_0 {X : Nat × (Nat → Int32)} {d w : Nat} {S : ma_S} {Q : Option ma_V ⊕ Nat → ma_S → Prop} (a : Nat) (hd : 1 ≤ d) (hw : 21 ≤ w) (hS : zT S) (h : if (mI S 87 8) = 0 then (Q (.inl (some (.inl (0 : Int32)))) S) else ((126 ≤ a ∧ a < mN S) ∧ (if (512 : Int32) ≤ (mI S a 0) then (Q (.inl (some (.inl (0 : Int32)))) S) else ((126 ≤ a ∧ a < mN S) ∧ ((0 ≤ (mI S a 0) ∧ (mI S a 0).toNatClampNeg < 512) ∧ (Q (.inl (some (.inl (mI S 90 (mI S a 0).toNatClampNeg)))) S)))))) : ma_wp X d w 76 0 [(0, .inr (.inr (some 87))), (1, .inr (.inr (some a)))] [] S Q := by
  refine zw_push hm_76 dX6_colourOf_0 (v := .inr (.inr (some 87))) rfl ?_
  refine zw_gf hm_76 dX6_colourOf_1 (v := .inl (mI S 87 8)) (zT_is hS s_87) (zT_t hS s_87) rfl f_6_31_6 rfl ?_
  refine zw_if0 hm_76 dX6_colourOf_4 (t := 18) rfl zc0_eq ?_ ?_
  · intro hc
    rw [if_pos hc] at h
    refine zw_push hm_76 dX6_colourOf_18 (v := .inl (0 : Int32)) rfl ?_
    exact zw_iret hm_76 dX6_colourOf_19 h
  · intro hc
    rw [if_neg hc] at h
    refine zw_push hm_76 dX6_colourOf_7 (v := .inr (.inr (some 87))) rfl ?_
    refine zw_gf hm_76 dX6_colourOf_8 (v := .inr (.inr (some 88))) (zT_is hS s_87) (zT_t hS s_87) rfl f_6_14_6 (zT_f hS r_87_5) ?_
    refine zw_push hm_76 dX6_colourOf_11 (v := .inr (.inr (some a))) rfl ?_
    refine zw_cv hm_76 dX6_colourOf_12 v_6_100_10 hm_123 [.inr (.inr (some a))] [] rfl (zT_rt hS s_88 rfl) ⟨by omega, by omega⟩ rfl ?_
    show ma_wp X (d - 1) (w - 21) 123 0 [(0, .inr (.inr (some 88))), (1, .inr (.inr (some a)))] [] S _
    refine zw_push hm_123 dX10_colourOf_0 (v := .inr (.inr (some a))) rfl ?_
    obtain ⟨hg, h⟩ := h
    refine zw_gf hm_123 dX10_colourOf_1 (v := .inl (mI S a 0)) (zT_tis hS hg) (zT_tt hS hg) rfl f_10_58_9 rfl ?_
    refine zw_push hm_123 dX10_colourOf_4 (v := .inl (512 : Int32)) rfl ?_
    refine zw_if2 hm_123 dX10_colourOf_7 (t := 22) rfl zc2_ge ?_ ?_
    · intro hc
      rw [if_pos hc] at h
      refine zw_push hm_123 dX10_colourOf_22 (v := .inl (0 : Int32)) rfl ?_
      refine zw_iret hm_123 dX10_colourOf_23 ?_
      show ma_wp X d w 76 15 [(0, .inr (.inr (some 87))), (1, .inr (.inr (some a)))] [.inl (0 : Int32)] S _
      refine zw_goto hm_76 dX6_colourOf_15 (t := 19) rfl ?_
      exact zw_iret hm_76 dX6_colourOf_19 h
    · intro hc
      rw [if_neg hc] at h
      refine zw_push hm_123 dX10_colourOf_10 (v := .inr (.inr (some 88))) rfl ?_
      refine zw_gf hm_123 dX10_colourOf_11 (v := .inr (.inr (some 90))) (zT_is hS s_88) (zT_t hS s_88) rfl f_10_15_10 (zT_f hS r_88_2) ?_
      refine zw_push hm_123 dX10_colourOf_14 (v := .inr (.inr (some a))) rfl ?_
      obtain ⟨hg, h⟩ := h
      refine zw_gf hm_123 dX10_colourOf_15 (v := .inl (mI S a 0)) (zT_tis hS hg) (zT_tt hS hg) rfl f_10_58_9 rfl ?_
      obtain ⟨hg, h⟩ := h
      refine zw_ia hm_123 dX10_colourOf_18 (zT_is hS s_90) (zT_h hS s_90) rfl hg ?_
      show ma_wp X (d - 1) (w - 21) 123 19 [(0, .inr (.inr (some 88))), (1, .inr (.inr (some a)))] [.inl (mI S 90 (mI S a 0).toNatClampNeg)] S _
      refine zw_goto hm_123 dX10_colourOf_19 (t := 23) rfl ?_
      refine zw_iret hm_123 dX10_colourOf_23 ?_
      show ma_wp X d w 76 15 [(0, .inr (.inr (some 87))), (1, .inr (.inr (some a)))] [.inl (mI S 90 (mI S a 0).toNatClampNeg)] S _
      refine zw_goto hm_76 dX6_colourOf_15 (t := 19) rfl ?_
      exact zw_iret hm_76 dX6_colourOf_19 h
theorem sp_76_87_s {X : Nat × (Nat → Int32)} {d w : Nat} {f : Nat → Nat → Int32} {r : Nat → Nat → Option Nat} {C Z N : Nat} {Q : Option ma_V ⊕ Nat → ma_S → Prop} {S : ma_S} (a : Nat) (hd : 1 ≤ d) (hw : 21 ≤ w) (hI : zJ87 f r C Z N S) (th_a : 126 ≤ a ∧ a < N) (K : ∀ v S₉, S₉ = S → (True) → Q (.inl (some (.inl v))) S₉) : ma_wp X d w 76 0 [(0, .inr (.inr (some 87))), (1, .inr (.inr (some a)))] [] S Q := by
  refine g_76_87_s_0 a (by omega) (by omega) (zG_T hI) ?_
  have f1 := zG_s hI (0) (1) (c := 87) (k := 8) (by decide)
  have li2 : (0 : Int32).toInt = 0 := rfl
  refine zd (fun h3 => ?_) (fun h3 => ?_)
  · skip
    have g4 := i_eq h3
    exact K ((0 : Int32)) _ rfl trivial
  · skip
    have g5 := i_ne h3
    refine ⟨zG_n hI th_a, ?_⟩
    have li6 : (512 : Int32).toInt = 512 := rfl
    have f7 := zG_th hI th_a
    refine zd (fun h8 => ?_) (fun h8 => ?_)
    · skip
      have g9 := i_le h8
      exact K ((0 : Int32)) _ rfl trivial
    · skip
      have g10 := i_nle h8
      refine ⟨zG_n hI th_a, ?_⟩
      refine ⟨i_ix (by omega) (by omega), ?_⟩
      have b11 := i_bd (mI S 90 (mI S a 0).toNatClampNeg)
      exact K ((mI S 90 (mI S a 0).toNatClampNeg)) _ rfl trivial
theorem g_77_87_s_0 {X : Nat × (Nat → Int32)} {d w : Nat} {S : ma_S} {Q : Option ma_V ⊕ Nat → ma_S → Prop}  (hd : 0 ≤ d) (hw : 0 ≤ w) (hS : zT S) (h : if (mI S 87 8) = 0 then (Q (.inl (some (.inl (0 : Int32)))) S) else (Q (.inl (some (.inl ((mI S 88 4) - (mI S 88 3))))) S)) : ma_wp X d w 77 0 [(0, .inr (.inr (some 87)))] [] S Q := by
  refine zw_push hm_77 dX6_specials_0 (v := .inr (.inr (some 87))) rfl ?_
  refine zw_gf hm_77 dX6_specials_1 (v := .inl (mI S 87 8)) (zT_is hS s_87) (zT_t hS s_87) rfl f_6_31_6 rfl ?_
  refine zw_if0 hm_77 dX6_specials_4 (t := 25) rfl zc0_eq ?_ ?_
  · intro hc
    rw [if_pos hc] at h
    refine zw_push hm_77 dX6_specials_25 (v := .inl (0 : Int32)) rfl ?_
    exact zw_iret hm_77 dX6_specials_26 h
  · intro hc
    rw [if_neg hc] at h
    refine zw_push hm_77 dX6_specials_7 (v := .inr (.inr (some 87))) rfl ?_
    refine zw_gf hm_77 dX6_specials_8 (v := .inr (.inr (some 88))) (zT_is hS s_87) (zT_t hS s_87) rfl f_6_14_6 (zT_f hS r_87_5) ?_
    refine zw_gf hm_77 dX6_specials_11 (v := .inl (mI S 88 4)) (zT_is hS s_88) (zT_t hS s_88) rfl f_6_104_10 rfl ?_
    refine zw_push hm_77 dX6_specials_14 (v := .inr (.inr (some 87))) rfl ?_
    refine zw_gf hm_77 dX6_specials_15 (v := .inr (.inr (some 88))) (zT_is hS s_87) (zT_t hS s_87) rfl f_6_14_6 (zT_f hS r_87_5) ?_
    refine zw_gf hm_77 dX6_specials_18 (v := .inl (mI S 88 3)) (zT_is hS s_88) (zT_t hS s_88) rfl f_6_107_10 rfl ?_
    refine zw_stk hm_77 dX6_specials_21 (st₉ := [.inl ((mI S 88 4) - (mI S 88 3))]) rfl rfl ?_
    refine zw_goto hm_77 dX6_specials_22 (t := 26) rfl ?_
    exact zw_iret hm_77 dX6_specials_26 h
theorem sp_77_87_s {X : Nat × (Nat → Int32)} {d w : Nat} {f : Nat → Nat → Int32} {r : Nat → Nat → Option Nat} {C Z N : Nat} {Q : Option ma_V ⊕ Nat → ma_S → Prop} {S : ma_S}  (hd : 0 ≤ d) (hw : 0 ≤ w) (hI : zJ87 f r C Z N S)  (K : ∀ v S₉, S₉ = S → (True) → Q (.inl (some (.inl v))) S₉) : ma_wp X d w 77 0 [(0, .inr (.inr (some 87)))] [] S Q := by
  refine g_77_87_s_0  (by omega) (by omega) (zG_T hI) ?_
  have f1 := zG_s hI (0) (1) (c := 87) (k := 8) (by decide)
  have li2 : (0 : Int32).toInt = 0 := rfl
  refine zd (fun h3 => ?_) (fun h3 => ?_)
  · skip
    have g4 := i_eq h3
    exact K ((0 : Int32)) _ rfl trivial
  · skip
    have g5 := i_ne h3
    have f6 := zG_s hI (0) (512) (c := 88) (k := 4) (by decide)
    have f7 := zG_s hI (0) (512) (c := 88) (k := 3) (by decide)
    first | have e8 : ((mI S 88 4) - (mI S 88 3)).toInt = (mI S 88 4).toInt - (mI S 88 3).toInt := i_sub (by omega) (by omega) | have b9 := i_bd ((mI S 88 4) - (mI S 88 3))
    exact K (((mI S 88 4) - (mI S 88 3))) _ rfl trivial

/-! from 95.g41 -/
/-! the heap by numbers, the class (written by wip/tools/gen18.py) -/
theorem g_78_87_s_0 {X : Nat × (Nat → Int32)} {d w : Nat} {S : ma_S} {Q : Option ma_V ⊕ Nat → ma_S → Prop}  (hd : 0 ≤ d) (hw : 0 ≤ w) (hS : zT S) (h : ((mI S 87 8) = 0 ∨ (mI S 87 8) = 1) ∧ (Q (.inl (some (.inl (mI S 87 8)))) S)) : ma_wp X d w 78 0 [(0, .inr (.inr (some 87)))] [] S Q := by
  refine zw_push hm_78 dX6_isMarking_0 (v := .inr (.inr (some 87))) rfl ?_
  refine zw_gf hm_78 dX6_isMarking_1 (v := .inl (mI S 87 8)) (zT_is hS s_87) (zT_t hS s_87) rfl f_6_31_6 rfl ?_
  obtain ⟨hg, h⟩ := h
  exact zw_bret hm_78 dX6_isMarking_4 hg h
theorem sp_78_87_s {X : Nat × (Nat → Int32)} {d w : Nat} {f : Nat → Nat → Int32} {r : Nat → Nat → Option Nat} {C Z N : Nat} {Q : Option ma_V ⊕ Nat → ma_S → Prop} {S : ma_S}  (hd : 0 ≤ d) (hw : 0 ≤ w) (hI : zJ87 f r C Z N S)  (K : ∀ v S₉, S₉ = S → (v = 0 ∨ v = 1) → Q (.inl (some (.inl v))) S₉) : ma_wp X d w 78 0 [(0, .inr (.inr (some 87)))] [] S Q := by
  refine g_78_87_s_0  (by omega) (by omega) (zG_T hI) ?_
  have f1 := zG_s hI (0) (1) (c := 87) (k := 8) (by decide)
  refine ⟨(i_bool (by omega) (by omega)), ?_⟩
  exact K ((mI S 87 8)) _ rfl (i_bool (by omega) (by omega))
theorem g_111_87_s_0 {X : Nat × (Nat → Int32)} {d w : Nat} {S : ma_S} {Q : Option ma_V ⊕ Nat → ma_S → Prop} (i : Int32) (hd : 2 ≤ d) (hw : 45 ≤ w) (hS : zT S) (h : ma_wp X (d - 1) (w - 23) 105 0 [(0, .inr (.inr (some 87))), (1, .inl (0 : Int32))] [] S (zi (fun v2 S1 => zT S1 ∧ (ma_wp X d w 111 8 [(0, .inr (.inr (some 87))), (2, .inl i), (3, .inl v2)] [] S1 Q)) (fun x S9 => Q (.inr x) S9))) : ma_wp X d w 111 0 [(0, .inr (.inr (some 87))), (1, .inl i)] [] S Q := by
  refine zw_push hm_111 dX8_blockPlace_0 (v := .inl i) rfl ?_
  refine zw_sto hm_111 dX8_blockPlace_1 [(2, .inl i), (0, .inr (.inr (some 87))), (1, .inl i)] rfl rfl rfl ?_
  refine zw_push hm_111 dX8_blockPlace_2 (v := .inr (.inr (some 87))) rfl ?_
  refine zw_push hm_111 dX8_blockPlace_3 (v := .inl (0 : Int32)) rfl ?_
  refine zw_cv hm_111 dX8_blockPlace_4 v_8_40_6 hm_105 [.inl (0 : Int32)] [] rfl (zT_rt hS s_87 rfl) ⟨by omega, by omega⟩ rfl (zw_mono h (zi_go ?_ ?_))
  · intro v2 S1 hv
    obtain ⟨hS1, h⟩ := hv
    refine zw_sto hm_111 dX8_blockPlace_7 [(3, .inl v2), (2, .inl i), (0, .inr (.inr (some 87))), (1, .inl i)] rfl rfl rfl ?_
    exact zw_sub (ma_nd_of (ks := [0, 2, 3]) rfl (by decide)) (ma_nd_of (ks := [3, 2, 0, 1]) rfl (by decide)) (ma_le_cons rfl (ma_le_cons rfl (ma_le_cons rfl (ma_le_nil _)))) h
  · intro x S9 hx
    exact ⟨by decide, hx⟩
theorem g_111_87_s_8 {X : Nat × (Nat → Int32)} {d w : Nat} {S : ma_S} {Q : Option ma_V ⊕ Nat → ma_S → Prop} (l2 : Int32) (l3 : Int32) (hd : 2 ≤ d) (hw : 45 ≤ w) (hS : zT S) (h : if l2 < 0 then (Q (.inl (some (.inl (-1 : Int32)))) S) else (if (mI S 87 0) ≤ l3 then (Q (.inl (some (.inl (-1 : Int32)))) S) else (if l2 = 0 then (Q (.inl (some (.inl l3))) S) else (ma_wp X (d - 1) (w - 22) 106 0 [(0, .inr (.inr (some 87))), (1, .inl l3)] [] S (zi (fun v2 S1 => zT S1 ∧ (ma_wp X (d - 1) (w - 23) 105 0 [(0, .inr (.inr (some 87))), (1, .inl v2)] [] S1 (zi (fun v4 S3 => zT S3 ∧ (ma_wp X d w 111 8 [(0, .inr (.inr (some 87))), (2, .inl (l2 + (-1 : Int32))), (3, .inl v4)] [] S3 Q)) (fun x S9 => Q (.inr x) S9)))) (fun x S9 => Q (.inr x) S9)))))) : ma_wp X d w 111 8 [(0, .inr (.inr (some 87))), (2, .inl l2), (3, .inl l3)] [] S Q := by
  refine zw_push hm_111 dX8_blockPlace_8 (v := .inl l2) rfl ?_
  refine zw_if0 hm_111 dX8_blockPlace_9 (t := 42) rfl zc0_lt ?_ ?_
  · intro hc
    rw [if_pos hc] at h
    refine zw_push hm_111 dX8_blockPlace_42 (v := .inl (-1 : Int32)) rfl ?_
    exact zw_iret hm_111 dX8_blockPlace_43 h
  · intro hc
    rw [if_neg hc] at h
    refine zw_push hm_111 dX8_blockPlace_12 (v := .inl l3) rfl ?_
    refine zw_push hm_111 dX8_blockPlace_13 (v := .inr (.inr (some 87))) rfl ?_
    refine zw_gf hm_111 dX8_blockPlace_14 (v := .inl (mI S 87 0)) (zT_is hS s_87) (zT_t hS s_87) rfl f_8_9_6 rfl ?_
    refine zw_if2 hm_111 dX8_blockPlace_17 (t := 42) rfl zc2_ge ?_ ?_
    · intro hc
      rw [if_pos hc] at h
      refine zw_push hm_111 dX8_blockPlace_42 (v := .inl (-1 : Int32)) rfl ?_
      exact zw_iret hm_111 dX8_blockPlace_43 h
    · intro hc
      rw [if_neg hc] at h
      refine zw_push hm_111 dX8_blockPlace_20 (v := .inl l2) rfl ?_
      refine zw_if0 hm_111 dX8_blockPlace_21 (t := 26) rfl zc0_ne ?_ ?_
      · intro hc
        rw [if_neg hc] at h
        refine zw_sto hm_111 dX8_blockPlace_26 [(2, .inl (l2 + (-1 : Int32))), (0, .inr (.inr (some 87))), (3, .inl l3)] rfl rfl rfl ?_
        refine zw_push hm_111 dX8_blockPlace_29 (v := .inr (.inr (some 87))) rfl ?_
        refine zw_push hm_111 dX8_blockPlace_30 (v := .inr (.inr (some 87))) rfl ?_
        refine zw_push hm_111 dX8_blockPlace_31 (v := .inl l3) rfl ?_
        refine zw_cv hm_111 dX8_blockPlace_32 v_8_43_6 hm_106 [.inl l3] [.inr (.inr (some 87))] rfl (zT_rt hS s_87 rfl) ⟨by omega, by omega⟩ rfl (zw_mono h (zi_go ?_ ?_))
        · intro v2 S1 hv
          obtain ⟨hS1, h⟩ := hv
          refine zw_cv hm_111 dX8_blockPlace_35 v_8_40_6 hm_105 [.inl v2] [] rfl (zT_rt hS1 s_87 rfl) ⟨by omega, by omega⟩ rfl (zw_mono h (zi_go ?_ ?_))
          · intro v4 S3 hv
            obtain ⟨hS3, h⟩ := hv
            refine zw_sto hm_111 dX8_blockPlace_38 [(3, .inl v4), (2, .inl (l2 + (-1 : Int32))), (0, .inr (.inr (some 87)))] rfl rfl rfl ?_
            refine zw_goto hm_111 dX8_blockPlace_39 (t := 8) rfl ?_
            exact zw_sub (ma_nd_of (ks := [0, 2, 3]) rfl (by decide)) (ma_nd_of (ks := [3, 2, 0]) rfl (by decide)) (ma_le_cons rfl (ma_le_cons rfl (ma_le_cons rfl (ma_le_nil _)))) h
          · intro x S9 hx
            exact ⟨by decide, hx⟩
        · intro x S9 hx
          exact ⟨by decide, hx⟩
      · intro hc
        rw [if_pos (Classical.not_not.mp hc)] at h
        refine zw_push hm_111 dX8_blockPlace_24 (v := .inl l3) rfl ?_
        exact zw_iret hm_111 dX8_blockPlace_25 h
theorem lp_111_87_s_8 {X : Nat × (Nat → Int32)} {d w : Nat} {f : Nat → Nat → Int32} {r : Nat → Nat → Option Nat} {C Z N : Nat} {Q : Option ma_V ⊕ Nat → ma_S → Prop} {ab : Nat→Nat→Int32} {i : Int32} {S : ma_S} (hd : 2 ≤ d) (hw : 45 ≤ w) (K : ∀ v S₉, S₉ = S → (-1 ≤ v.toInt ∧ v.toInt ≤ 1500) → (v.toInt = (if i.toInt < 0 then -1 else aBk ab i.toInt.toNat (aN ab 0))) → Q (.inl (some (.inl v))) S₉) : ∀ (n : Nat) (l2 : Int32) (l3 : Int32), (l2.toInt).toNat = n → zJ87 f r C Z N S → (0 ≤ l3.toInt) → (l3.toInt ≤ 1500) → (xB S (mR S 70)) → (aS 88 S = ab) → ((if l2.toInt < 0 then -1 else aBk ab l2.toInt.toNat l3.toInt) = (if i.toInt < 0 then -1 else aBk ab i.toInt.toNat (aN ab 0))) → ma_wp X d w 111 8 [(0, .inr (.inr (some 87))), (2, .inl l2), (3, .inl l3)] [] S Q := by
  intro n
  induction n using Nat.strongRecOn with
  | _ n IH =>
    intro l2 l3 hmu hI  hi0 hi1 hi2 hi3 hi4
    refine g_111_87_s_8 l2 l3 (by omega) (by omega) (zG_T hI) ?_
    have li1 : (0 : Int32).toInt = 0 := rfl
    refine zd (fun h2 => ?_) (fun h2 => ?_)
    · skip
      have g3 := i_lt h2
      have li4 : (-1 : Int32).toInt = -1 := rfl
      exact K ((-1 : Int32)) _ rfl (by omega) (show (-1 : Int32).toInt = (if i.toInt < 0 then -1 else aBk ab i.toInt.toNat (aN ab 0)) from by first | (exact bk_e1 (by omega) hi4 rfl) | (have r0 := (congrArg Int32.toInt (aS_I (W := 88) (S := S) (c := 87) (c₉ := 87) (k := 0) rfl rfl)); rw [hi3] at r0; exact bk_e2 (by assumption) (by omega) hi4 rfl) | (have r0 := (congrArg Int32.toInt (aS_I (W := 88) (S := S) (c := 87) (c₉ := 87) (k := 0) rfl rfl)); rw [hi3] at r0; exact bk_e3 (by omega) hi4 rfl))
    · skip
      have g5 := i_nlt h2
      have f6 := zG_s hI (0) (1500) (c := 87) (k := 0) (by decide)
      refine zd (fun h7 => ?_) (fun h7 => ?_)
      · skip
        have g8 := i_le h7
        have li9 : (-1 : Int32).toInt = -1 := rfl
        exact K ((-1 : Int32)) _ rfl (by omega) (show (-1 : Int32).toInt = (if i.toInt < 0 then -1 else aBk ab i.toInt.toNat (aN ab 0)) from by first | (exact bk_e1 (by omega) hi4 rfl) | (have r0 := (congrArg Int32.toInt (aS_I (W := 88) (S := S) (c := 87) (c₉ := 87) (k := 0) rfl rfl)); rw [hi3] at r0; exact bk_e2 (by assumption) (by omega) hi4 rfl) | (have r0 := (congrArg Int32.toInt (aS_I (W := 88) (S := S) (c := 87) (c₉ := 87) (k := 0) rfl rfl)); rw [hi3] at r0; exact bk_e3 (by omega) hi4 rfl))
      · skip
        have g10 := i_nle h7
        refine zd (fun h11 => ?_) (fun h11 => ?_)
        · skip
          have g12 := i_eq h11
          exact K (l3) _ rfl (by omega) (show l3.toInt = (if i.toInt < 0 then -1 else aBk ab i.toInt.toNat (aN ab 0)) from by first | (exact bk_e1 (by omega) hi4 rfl) | (have r0 := (congrArg Int32.toInt (aS_I (W := 88) (S := S) (c := 87) (c₉ := 87) (k := 0) rfl rfl)); rw [hi3] at r0; exact bk_e2 (by assumption) (by omega) hi4 rfl) | (have r0 := (congrArg Int32.toInt (aS_I (W := 88) (S := S) (c := 87) (c₉ := 87) (k := 0) rfl rfl)); rw [hi3] at r0; exact bk_e3 (by omega) hi4 rfl))
        · skip
          have g13 := i_ne h11
          refine sp_106_87_s (ab := (aS 88 S)) (l3) (by omega) (by omega) hI (show xB S (mR S 70) from by first | (exact xB_x (xC_o (W := 75) hi2).2)) (show aS 88 S = (aS 88 S) from by first | (exact rfl) | (exact hi3)) (by omega) (by omega) (fun v2 S1 eS_S1 hp_v2 rp0_S1 => zi_n ⟨(by rw [eS_S1]; exact zG_T hI), ?_⟩)
          replace eS_S1 := eS_S1.symm; subst eS_S1
          have rp0_S1 : v2.toInt = aE (aS 88 S) l3.toInt := rp0_S1
          refine sp_105_87_s (ab := (aS 88 S)) (v2) (by omega) (by omega) hI (show xB S (mR S 70) from by first | (exact xB_x (xC_o (W := 75) hi2).2)) (show aS 88 S = (aS 88 S) from by first | (exact rfl) | (exact hi3)) (by omega) (fun v4 S3 eS_S3 hp_v4 rp0_S3 => zi_n ⟨(by rw [eS_S3]; exact zG_T hI), ?_⟩)
          replace eS_S3 := eS_S3.symm; subst eS_S3
          have rp0_S3 : v4.toInt = aN (aS 88 S) v2.toInt := rp0_S3
          first | have e14 : (l2 + (-1 : Int32)).toInt = l2.toInt + (-1) := i_addk rfl (by omega) (by omega) | have b15 := i_bd (l2 + (-1 : Int32))
          exact IH _ (by exact mu_dec hmu (by assumption) (by omega)) ((l2 + (-1 : Int32))) (v4) rfl hI (by omega) (by omega) (show xB S (mR S 70) from by first | (exact xB_x (xC_o (W := 75) hi2).2)) (show aS 88 S = ab from by first | (exact hi3)) (show (if ((l2 + (-1 : Int32))).toInt < 0 then -1 else aBk ab ((l2 + (-1 : Int32))).toInt.toNat (v4).toInt) = (if i.toInt < 0 then -1 else aBk ab i.toInt.toNat (aN ab 0)) from by first | (have r0 := (congrArg Int32.toInt (aS_I (W := 88) (S := S) (c := 87) (c₉ := 87) (k := 0) rfl rfl)); rw [hi3] at r0; have e1 := rp0_S1; rw [hi3] at e1; have e2 := rp0_S3; rw [hi3, e1] at e2; exact bk_go (by omega) (by assumption) (by omega) hi4 e2))
theorem sp_111_87_s {X : Nat × (Nat → Int32)} {d w : Nat} {f : Nat → Nat → Int32} {r : Nat → Nat → Option Nat} {C Z N : Nat} {Q : Option ma_V ⊕ Nat → ma_S → Prop} {ab : Nat→Nat→Int32} {S : ma_S} (i : Int32) (hd : 2 ≤ d) (hw : 45 ≤ w) (hI : zJ87 f r C Z N S) (hpre0 : xB S (mR S 70)) (hpre1 : aS 88 S = ab) (K : ∀ v S₉, S₉ = S → (-1 ≤ v.toInt ∧ v.toInt ≤ 1500) → (v.toInt = (if i.toInt < 0 then -1 else aBk ab i.toInt.toNat (aN ab 0))) → Q (.inl (some (.inl v))) S₉) : ma_wp X d w 111 0 [(0, .inr (.inr (some 87))), (1, .inl i)] [] S Q := by
  refine g_111_87_s_0 i (by omega) (by omega) (zG_T hI) ?_
  have li1 : (0 : Int32).toInt = 0 := rfl
  refine sp_105_87_s (ab := (aS 88 S)) ((0 : Int32)) (by omega) (by omega) hI (show xB S (mR S 70) from by first | (exact xB_x (xC_o (W := 75) hpre0).2)) (show aS 88 S = (aS 88 S) from by first | (exact rfl) | (exact hpre1)) (by omega) (fun v2 S1 eS_S1 hp_v2 rp0_S1 => zi_n ⟨(by rw [eS_S1]; exact zG_T hI), ?_⟩)
  replace eS_S1 := eS_S1.symm; subst eS_S1
  have rp0_S1 : v2.toInt = aN (aS 88 S) (0 : Int32).toInt := rp0_S1
  exact lp_111_87_s_8 (by omega) (by omega) K _ (i) (v2) rfl hI (by omega) (by omega) (show xB S (mR S 70) from by first | (exact xB_x (xC_o (W := 75) hpre0).2)) (show aS 88 S = ab from by first | (exact hpre1)) (show (if (i).toInt < 0 then -1 else aBk ab (i).toInt.toNat (v2).toInt) = (if i.toInt < 0 then -1 else aBk ab i.toInt.toNat (aN ab 0)) from by first | (have q := rp0_S1; rw [hpre1, show (0 : Int32).toInt = 0 from rfl] at q; rw [q]))
theorem g_161_64_s_p87_0 {X : Nat × (Nat → Int32)} {d w : Nat} {S : ma_S} {Q : Option ma_V ⊕ Nat → ma_S → Prop} (o : Int32) (wh : Int32) (hd : 7 ≤ d) (hw : 111 ≤ w) (hS : zT S) (h : if wh < 0 then (Q (.inr 2) (ma_bump S)) else (if wh ≤ (7 : Int32) then (mR S 64 11 = some 87 ∧ (mR S 64 11 = some 87 ∧ (ma_wp X (d - 1) (w - 22) 149 0 [(0, .inr (.inr (some 64))), (1, .inl o)] [] S (zo (fun v2 S1 => zT S1 ∧ ((∃ c3, v2 = some c3 ∧ (if wh = (0 : Int32) then ((126 ≤ c3 ∧ c3 < mN S1) ∧ (Q (.inl (some (.inl (mI S1 c3 4)))) S1)) else (if wh = (1 : Int32) then ((126 ≤ c3 ∧ c3 < mN S1) ∧ (Q (.inl (some (.inl (mI S1 c3 2)))) S1)) else (if wh = (2 : Int32) then ((126 ≤ c3 ∧ c3 < mN S1) ∧ (Q (.inl (some (.inl (mI S1 c3 1)))) S1)) else (if wh = (3 : Int32) then ((126 ≤ c3 ∧ c3 < mN S1) ∧ (Q (.inl (some (.inl (mI S1 c3 5)))) S1)) else (if wh = (4 : Int32) then (Q (.inl (some (.inl (0 : Int32)))) S1) else (if wh = (5 : Int32) then (ma_wp X (d - 1) (w - 21) 76 0 [(0, .inr (.inr (some 87))), (1, .inr (.inr (some c3)))] [] S1 (zi (fun v5 S4 => zT S4 ∧ (Q (.inl (some (.inl v5))) S4)) (fun _ _ => False))) else (if wh = (6 : Int32) then ((126 ≤ c3 ∧ c3 < mN S1) ∧ (Q (.inl (some (.inl (mI S1 c3 7)))) S1)) else ((126 ≤ c3 ∧ c3 < mN S1) ∧ (if (mI S1 c3 8) = 0 then (Q (.inl (some (.inl (0 : Int32)))) S1) else (Q (.inl (some (.inl (1 : Int32)))) S1))))))))))))) (fun x S9 => Q (.inr x) S9))))) else (Q (.inr 2) (ma_bump S)))) : ma_wp X d w 161 0 [(0, .inr (.inr (some 64))), (1, .inl o), (2, .inl wh)] [] S Q := by
  refine zw_push hm_161 dX11_about_0 (v := .inl wh) rfl ?_
  refine zw_if0 hm_161 dX11_about_1 (t := 10) rfl zc0_lt ?_ ?_
  · intro hc
    rw [if_pos hc] at h
    exact zw_thr hm_161 dX11_about_10 dX11_about_13 dX11_about_14 dX11_about_17 x_11_79_81 n_11_79 (by omega) (by show 0 + 81 ≤ w; omega) h
  · intro hc
    rw [if_neg hc] at h
    refine zw_push hm_161 dX11_about_4 (v := .inl wh) rfl ?_
    refine zw_push hm_161 dX11_about_5 (v := .inl (7 : Int32)) rfl ?_
    refine zw_if2 hm_161 dX11_about_7 (t := 18) rfl zc2_le ?_ ?_
    · intro hc
      rw [if_pos hc] at h
      refine zw_push hm_161 dX11_about_18 (v := .inr (.inr (some 64))) rfl ?_
      refine zw_cv hm_161 dX11_about_19 v_11_119_11 hm_144 [] [] rfl (zT_rt hS s_64 rfl) ⟨by omega, by omega⟩ rfl ?_
      show ma_wp X (d - 1) (w - 20) 144 0 [(0, .inr (.inr (some 64)))] [] S _
      refine zw_push hm_144 dX11_needCollector_0 (v := .inr (.inr (some 64))) rfl ?_
      obtain ⟨hg, h⟩ := h
      refine zw_gf hm_144 dX11_needCollector_1 (v := .inr (.inr (some 87))) (zT_is hS s_64) (zT_t hS s_64) rfl f_11_98_11 (congrArg (fun z => Sum.inr (Sum.inr z)) hg) ?_
      refine zw_ifnonnull hm_144 dX11_needCollector_4 (t := 15) rfl (fun z => by cases z) (fun _ _ => ?_)
      refine zw_push hm_144 dX11_needCollector_15 (v := .inr (.inr (some 64))) rfl ?_
      obtain ⟨hg, h⟩ := h
      refine zw_gf hm_144 dX11_needCollector_16 (v := .inr (.inr (some 87))) (zT_is hS s_64) (zT_t hS s_64) rfl f_11_98_11 (congrArg (fun z => Sum.inr (Sum.inr z)) hg) ?_
      refine zw_aret hm_144 dX11_needCollector_19 ?_
      show ma_wp X d w 161 22 [(0, .inr (.inr (some 64))), (1, .inl o), (2, .inl wh)] [.inr (.inr (some 87))] S _
      refine zw_sto hm_161 dX11_about_22 [(3, .inr (.inr (some 87))), (0, .inr (.inr (some 64))), (1, .inl o), (2, .inl wh)] rfl rfl rfl ?_
      refine zw_push hm_161 dX11_about_23 (v := .inr (.inr (some 64))) rfl ?_
      refine zw_push hm_161 dX11_about_24 (v := .inl o) rfl ?_
      refine zw_cv hm_161 dX11_about_25 v_11_123_11 hm_149 [.inl o] [] rfl (zT_rt hS s_64 rfl) ⟨by omega, by omega⟩ rfl (zw_mono h (zo_go ?_ ?_))
      · intro v2 S1 hv
        obtain ⟨hS1, h⟩ := hv
        obtain ⟨c3, hc, h⟩ := h
        subst hc
        show ma_wp X d w 161 28 [(3, .inr (.inr (some 87))), (0, .inr (.inr (some 64))), (1, .inl o), (2, .inl wh)] [.inr (.inr (some c3))] S1 _
        refine zw_sto hm_161 dX11_about_28 [(4, .inr (.inr (some c3))), (3, .inr (.inr (some 87))), (0, .inr (.inr (some 64))), (1, .inl o), (2, .inl wh)] rfl rfl rfl ?_
        refine zw_push hm_161 dX11_about_30 (v := .inl wh) rfl ?_
        by_cases hc0 : wh = (0 : Int32)
        · rw [if_pos hc0] at h
          refine zw_jmp hm_161 dX11_about_31 (t := 72) (st₉ := []) rfl rfl rfl (ma_jmp_tab (by rw [hc0]; decide +kernel)) ?_
          refine zw_push hm_161 dX11_about_72 (v := .inr (.inr (some c3))) rfl ?_
          obtain ⟨hg, h⟩ := h
          refine zw_gf hm_161 dX11_about_74 (v := .inl (mI S1 c3 4)) (zT_tis hS1 hg) (zT_tt hS1 hg) rfl f_11_214_9 rfl ?_
          exact zw_iret hm_161 dX11_about_77 h
        rw [if_neg hc0] at h
        by_cases hc1 : wh = (1 : Int32)
        · rw [if_pos hc1] at h
          refine zw_jmp hm_161 dX11_about_31 (t := 78) (st₉ := []) rfl rfl rfl (ma_jmp_tab (by rw [hc1]; decide +kernel)) ?_
          refine zw_push hm_161 dX11_about_78 (v := .inr (.inr (some c3))) rfl ?_
          obtain ⟨hg, h⟩ := h
          refine zw_gf hm_161 dX11_about_80 (v := .inl (mI S1 c3 2)) (zT_tis hS1 hg) (zT_tt hS1 hg) rfl f_11_217_9 rfl ?_
          exact zw_iret hm_161 dX11_about_83 h
        rw [if_neg hc1] at h
        by_cases hc2 : wh = (2 : Int32)
        · rw [if_pos hc2] at h
          refine zw_jmp hm_161 dX11_about_31 (t := 84) (st₉ := []) rfl rfl rfl (ma_jmp_tab (by rw [hc2]; decide +kernel)) ?_
          refine zw_push hm_161 dX11_about_84 (v := .inr (.inr (some c3))) rfl ?_
          obtain ⟨hg, h⟩ := h
          refine zw_gf hm_161 dX11_about_86 (v := .inl (mI S1 c3 1)) (zT_tis hS1 hg) (zT_tt hS1 hg) rfl f_11_220_9 rfl ?_
          exact zw_iret hm_161 dX11_about_89 h
        rw [if_neg hc2] at h
        by_cases hc3 : wh = (3 : Int32)
        · rw [if_pos hc3] at h
          refine zw_jmp hm_161 dX11_about_31 (t := 90) (st₉ := []) rfl rfl rfl (ma_jmp_tab (by rw [hc3]; decide +kernel)) ?_
          refine zw_push hm_161 dX11_about_90 (v := .inr (.inr (some c3))) rfl ?_
          obtain ⟨hg, h⟩ := h
          refine zw_gf hm_161 dX11_about_92 (v := .inl (mI S1 c3 5)) (zT_tis hS1 hg) (zT_tt hS1 hg) rfl f_11_223_9 rfl ?_
          exact zw_iret hm_161 dX11_about_95 h
        rw [if_neg hc3] at h
        by_cases hc4 : wh = (4 : Int32)
        · rw [if_pos hc4] at h
          refine zw_jmp hm_161 dX11_about_31 (t := 96) (st₉ := []) rfl rfl rfl (ma_jmp_tab (by rw [hc4]; decide +kernel)) ?_
          refine zw_push hm_161 dX11_about_96 (v := .inr (.inr (some 87))) rfl ?_
          refine zw_push hm_161 dX11_about_97 (v := .inr (.inr (some c3))) rfl ?_
          refine zw_cv hm_161 dX11_about_99 v_11_226_6 hm_270 [.inr (.inr (some c3))] [] rfl (zT_rt hS1 s_87 rfl) ⟨by omega, by omega⟩ rfl ?_
          show ma_wp X (d - 1) (w - 21) 270 0 [(0, .inr (.inr (some 87))), (1, .inr (.inr (some c3)))] [] S1 _
          refine zw_push hm_270 dX1_countOf_0 (v := .inl (0 : Int32)) rfl ?_
          refine zw_iret hm_270 dX1_countOf_1 ?_
          show ma_wp X d w 161 102 [(4, .inr (.inr (some c3))), (3, .inr (.inr (some 87))), (0, .inr (.inr (some 64))), (1, .inl o), (2, .inl wh)] [.inl (0 : Int32)] S1 _
          exact zw_iret hm_161 dX11_about_102 h
        rw [if_neg hc4] at h
        by_cases hc5 : wh = (5 : Int32)
        · rw [if_pos hc5] at h
          refine zw_jmp hm_161 dX11_about_31 (t := 103) (st₉ := []) rfl rfl rfl (ma_jmp_tab (by rw [hc5]; decide +kernel)) ?_
          refine zw_push hm_161 dX11_about_103 (v := .inr (.inr (some 87))) rfl ?_
          refine zw_push hm_161 dX11_about_104 (v := .inr (.inr (some c3))) rfl ?_
          refine zw_cv hm_161 dX11_about_106 v_11_229_6 hm_76 [.inr (.inr (some c3))] [] rfl (zT_rt hS1 s_87 rfl) ⟨by omega, by omega⟩ rfl (zw_mono h (zi_go ?_ ?_))
          · intro v5 S4 hv
            obtain ⟨hS4, h⟩ := hv
            exact zw_iret hm_161 dX11_about_109 h
          · intro x S9 hx
            exact hx.elim
        rw [if_neg hc5] at h
        by_cases hc6 : wh = (6 : Int32)
        · rw [if_pos hc6] at h
          refine zw_jmp hm_161 dX11_about_31 (t := 110) (st₉ := []) rfl rfl rfl (ma_jmp_tab (by rw [hc6]; decide +kernel)) ?_
          refine zw_push hm_161 dX11_about_110 (v := .inr (.inr (some c3))) rfl ?_
          obtain ⟨hg, h⟩ := h
          refine zw_gf hm_161 dX11_about_112 (v := .inl (mI S1 c3 7)) (zT_tis hS1 hg) (zT_tt hS1 hg) rfl f_11_189_9 rfl ?_
          exact zw_iret hm_161 dX11_about_115 h
        rw [if_neg hc6] at h
        refine zw_jmp hm_161 dX11_about_31 (t := 116) (st₉ := []) rfl rfl rfl (ma_jmp_def (m := 7) (by decide) (fun j hj => by
            have hj2 : j = 0 ∨ j = 1 ∨ j = 2 ∨ j = 3 ∨ j = 4 ∨ j = 5 ∨ j = 6 := by omega
            rcases hj2 with rfl | rfl | rfl | rfl | rfl | rfl | rfl
            · exact hc0
            · exact hc1
            · exact hc2
            · exact hc3
            · exact hc4
            · exact hc5
            · exact hc6
            ) rfl) ?_
        refine zw_push hm_161 dX11_about_116 (v := .inr (.inr (some c3))) rfl ?_
        obtain ⟨hg, h⟩ := h
        refine zw_gf hm_161 dX11_about_118 (v := .inl (mI S1 c3 8)) (zT_tis hS1 hg) (zT_tt hS1 hg) rfl f_11_199_9 rfl ?_
        refine zw_if0 hm_161 dX11_about_121 (t := 128) rfl zc0_eq ?_ ?_
        · intro hc
          rw [if_pos hc] at h
          refine zw_push hm_161 dX11_about_128 (v := .inl (0 : Int32)) rfl ?_
          exact zw_iret hm_161 dX11_about_129 h
        · intro hc
          rw [if_neg hc] at h
          refine zw_push hm_161 dX11_about_124 (v := .inl (1 : Int32)) rfl ?_
          refine zw_goto hm_161 dX11_about_125 (t := 129) rfl ?_
          exact zw_iret hm_161 dX11_about_129 h
      · intro x S9 hx
        exact ⟨by decide, hx⟩
    · intro hc
      rw [if_neg hc] at h
      exact zw_thr hm_161 dX11_about_10 dX11_about_13 dX11_about_14 dX11_about_17 x_11_79_81 n_11_79 (by omega) (by show 0 + 81 ≤ w; omega) h
theorem sp_161_64_s_p87 {X : Nat × (Nat → Int32)} {d w : Nat} {f : Nat → Nat → Int32} {r : Nat → Nat → Option Nat} {C Z N : Nat} {Q : Option ma_V ⊕ Nat → ma_S → Prop} {ab : Nat→Nat→Int32} {S : ma_S} (o : Int32) (wh : Int32) (hd : 7 ≤ d) (hw : 111 ≤ w) (hI : zB f r C Z N S) (hr : r 64 11 = some 87) (hpre0 : xB S (mR S 70)) (hpre1 : aS 88 S = ab) (K : ∀ v S₉, zB f r C Z N S₉ → (True) → (xB S₉ (mR S₉ 70)) → (aS 88 S₉ = ab) → Q (.inl (some (.inl v))) S₉) (KX : ∀ x S₉, (x = 2 ∨ x = 4) → zB f r C Z N S₉ → (xB S₉ (mR S₉ 70)) → (aS 88 S₉ = ab) → Q (.inr x) (ma_bump S₉)) : ma_wp X d w 161 0 [(0, .inr (.inr (some 64))), (1, .inl o), (2, .inl wh)] [] S Q := by
  refine g_161_64_s_p87_0 o wh (by omega) (by omega) (zG_T hI) ?_
  have b1 := i_bd wh
  have li2 : (0 : Int32).toInt = 0 := rfl
  refine zd (fun h3 => ?_) (fun h3 => ?_)
  · skip
    have g4 := i_lt h3
    exact KX 2 _ (by decide) hI (show xB S (mR S 70) from by first | (exact xB_x (xC_o (W := 75) hpre0).2)) (show aS 88 S = ab from by first | (exact (xC_o (W := 88) hpre0).1.trans hpre1))
  · skip
    have g5 := i_nlt h3
    have li6 : (7 : Int32).toInt = 7 := rfl
    refine zd (fun h7 => ?_) (fun h7 => ?_)
    · skip
      have g8 := i_le h7
      refine ⟨((zG_r hI (by decide)).trans hr), ?_⟩
      refine ⟨((zG_r hI (by decide)).trans hr), ?_⟩
      have b9 := i_bd o
      refine sp_149_64_s (R := (mR S 70)) (a7 := (aS 75 S)) (a8 := (aS 88 S)) (o) (by omega) (by omega) (zB_dn_zI hI) (show xB S (mR S 70) from by first | (exact (xC_o (W := 75) hpre0).2)) (show aS 75 S = (aS 75 S) from by first | (exact rfl)) (show aS 88 S = (aS 88 S) from by first | (exact rfl)) (fun v2 S1 hL_S1 hq_v2 rp0_S1 rp1_S1 rp2_S1 rp3_S1 => zo_n ⟨zG_T hL_S1, ?_⟩) (fun x S9 hx h9 rx0 rx1 rx2 => by have h9u := (zB_up_zI hI h9); exact zo_x (KX x S9 (by omega) h9u (show xB S9 (mR S9 70) from by first | (exact xB_x (xC_o (W := 75) rx0).2)) (show aS 88 S9 = ab from by first | (exact rx1.trans hpre1))))
      have hI_S1 := zB_up_zI hI hL_S1
      have rp0_S1 : xB S1 (mR S 70) := by
        have z := rp0_S1
        (try rw [show mI S 65 = f 65 from funext (fun k => zG_z hI rfl)] at z)
        (try rw [show mI S 64 1 = f 64 1 from zG_z hI rfl] at z)
        exact z
      have rp1_S1 : aS 88 S1 = (aS 88 S) := by
        have z := rp1_S1
        (try rw [show mI S 65 = f 65 from funext (fun k => zG_z hI rfl)] at z)
        (try rw [show mI S 64 1 = f 64 1 from zG_z hI rfl] at z)
        exact z
      have rp2_S1 : v2 = zTa (mR S 70) o := by
        have z := rp2_S1
        (try rw [show mI S 65 = f 65 from funext (fun k => zG_z hI rfl)] at z)
        (try rw [show mI S 64 1 = f 64 1 from zG_z hI rfl] at z)
        exact z
      have rp3_S1 : zRq (aS 75 S) o := by
        have z := rp3_S1
        (try rw [show mI S 65 = f 65 from funext (fun k => zG_z hI rfl)] at z)
        (try rw [show mI S 64 1 = f 64 1 from zG_z hI rfl] at z)
        exact z
      obtain ⟨c3, hc, th_c3⟩ := hq_v2
      have rg_c3 : zTa (mR S 70) o = some c3 := rp2_S1.symm.trans hc
      refine ⟨c3, hc, ?_⟩
      refine zd (fun h10 => ?_) (fun h10 => ?_)
      · skip
        have g11 := i_eq h10
        refine ⟨zG_n hI_S1 th_c3, ?_⟩
        have f12 := zG_th hI_S1 th_c3
        exact K ((mI S1 c3 4)) _ hI_S1 trivial (show xB S1 (mR S1 70) from by first | (exact xB_x (xC_o (W := 75) rp0_S1).2)) (show aS 88 S1 = ab from by first | (exact (xC_o (W := 88) rp0_S1).1.trans (rp1_S1.trans hpre1)))
      · skip
        have g13 := i_ne h10
        have li14 : (1 : Int32).toInt = 1 := rfl
        refine zd (fun h15 => ?_) (fun h15 => ?_)
        · skip
          have g16 := i_eq h15
          refine ⟨zG_n hI_S1 th_c3, ?_⟩
          have f17 := zG_th hI_S1 th_c3
          exact K ((mI S1 c3 2)) _ hI_S1 trivial (show xB S1 (mR S1 70) from by first | (exact xB_x (xC_o (W := 75) rp0_S1).2)) (show aS 88 S1 = ab from by first | (exact (xC_o (W := 88) rp0_S1).1.trans (rp1_S1.trans hpre1)))
        · skip
          have g18 := i_ne h15
          have li19 : (2 : Int32).toInt = 2 := rfl
          refine zd (fun h20 => ?_) (fun h20 => ?_)
          · skip
            have g21 := i_eq h20
            refine ⟨zG_n hI_S1 th_c3, ?_⟩
            have b22 := i_bd (mI S1 c3 1)
            exact K ((mI S1 c3 1)) _ hI_S1 trivial (show xB S1 (mR S1 70) from by first | (exact xB_x (xC_o (W := 75) rp0_S1).2)) (show aS 88 S1 = ab from by first | (exact (xC_o (W := 88) rp0_S1).1.trans (rp1_S1.trans hpre1)))
          · skip
            have g23 := i_ne h20
            have li24 : (3 : Int32).toInt = 3 := rfl
            refine zd (fun h25 => ?_) (fun h25 => ?_)
            · skip
              have g26 := i_eq h25
              refine ⟨zG_n hI_S1 th_c3, ?_⟩
              have b27 := i_bd (mI S1 c3 5)
              exact K ((mI S1 c3 5)) _ hI_S1 trivial (show xB S1 (mR S1 70) from by first | (exact xB_x (xC_o (W := 75) rp0_S1).2)) (show aS 88 S1 = ab from by first | (exact (xC_o (W := 88) rp0_S1).1.trans (rp1_S1.trans hpre1)))
            · skip
              have g28 := i_ne h25
              have li29 : (4 : Int32).toInt = 4 := rfl
              refine zd (fun h30 => ?_) (fun h30 => ?_)
              · skip
                have g31 := i_eq h30
                exact K ((0 : Int32)) _ hI_S1 trivial (show xB S1 (mR S1 70) from by first | (exact xB_x (xC_o (W := 75) rp0_S1).2)) (show aS 88 S1 = ab from by first | (exact (xC_o (W := 88) rp0_S1).1.trans (rp1_S1.trans hpre1)))
              · skip
                have g32 := i_ne h30
                have li33 : (5 : Int32).toInt = 5 := rfl
                refine zd (fun h34 => ?_) (fun h34 => ?_)
                · skip
                  have g35 := i_eq h34
                  refine sp_76_87_s c3 (by omega) (by omega) (zB_dn_zJ87 hI_S1) th_c3 (fun v5 S4 eS_S4 hp_v5 => zi_n ⟨(by rw [eS_S4]; exact zG_T hI_S1), ?_⟩)
                  replace eS_S4 := eS_S4.symm; subst eS_S4
                  have b36 := i_bd v5
                  exact K (v5) _ hI_S1 trivial (show xB S1 (mR S1 70) from by first | (exact xB_x (xC_o (W := 75) rp0_S1).2)) (show aS 88 S1 = ab from by first | (exact (xC_o (W := 88) rp0_S1).1.trans (rp1_S1.trans hpre1)))
                · skip
                  have g37 := i_ne h34
                  have li38 : (6 : Int32).toInt = 6 := rfl
                  refine zd (fun h39 => ?_) (fun h39 => ?_)
                  · skip
                    have g40 := i_eq h39
                    refine ⟨zG_n hI_S1 th_c3, ?_⟩
                    have b41 := i_bd (mI S1 c3 7)
                    exact K ((mI S1 c3 7)) _ hI_S1 trivial (show xB S1 (mR S1 70) from by first | (exact xB_x (xC_o (W := 75) rp0_S1).2)) (show aS 88 S1 = ab from by first | (exact (xC_o (W := 88) rp0_S1).1.trans (rp1_S1.trans hpre1)))
                  · skip
                    have g42 := i_ne h39
                    refine ⟨zG_n hI_S1 th_c3, ?_⟩
                    have b43 := i_bd (mI S1 c3 8)
                    refine zd (fun h44 => ?_) (fun h44 => ?_)
                    · skip
                      have g45 := i_eq h44
                      exact K ((0 : Int32)) _ hI_S1 trivial (show xB S1 (mR S1 70) from by first | (exact xB_x (xC_o (W := 75) rp0_S1).2)) (show aS 88 S1 = ab from by first | (exact (xC_o (W := 88) rp0_S1).1.trans (rp1_S1.trans hpre1)))
                    · skip
                      have g46 := i_ne h44
                      exact K ((1 : Int32)) _ hI_S1 trivial (show xB S1 (mR S1 70) from by first | (exact xB_x (xC_o (W := 75) rp0_S1).2)) (show aS 88 S1 = ab from by first | (exact (xC_o (W := 88) rp0_S1).1.trans (rp1_S1.trans hpre1)))
    · skip
      have g47 := i_nle h7
      exact KX 2 _ (by decide) hI (show xB S (mR S 70) from by first | (exact xB_x (xC_o (W := 75) hpre0).2)) (show aS 88 S = ab from by first | (exact (xC_o (W := 88) hpre0).1.trans hpre1))

/-! from 95.g42 -/
/-! the heap by numbers, the class (written by wip/tools/gen18.py) -/
theorem g_163_64_s_p87_0 {X : Nat × (Nat → Int32)} {d w : Nat} {S : ma_S} {Q : Option ma_V ⊕ Nat → ma_S → Prop} (wh : Int32) (hd : 7 ≤ d) (hw : 109 ≤ w) (hS : zT S) (h : if wh < 0 then (Q (.inr 2) (ma_bump S)) else (if wh ≤ (13 : Int32) then (if wh = 0 then (Q (.inl (some (.inl (mI S 64 1)))) S) else (if wh = (1 : Int32) then (Q (.inl (some (.inl (mI S 64 7)))) S) else (mR S 64 11 = some 87 ∧ (mR S 64 11 = some 87 ∧ (if wh = (2 : Int32) then (Q (.inl (some (.inl (mI S 69 7)))) S) else (if wh = (3 : Int32) then (Q (.inl (some (.inl (mI S 69 8)))) S) else (if wh = (4 : Int32) then (Q (.inl (some (.inl (mI S 69 6)))) S) else (if wh = (5 : Int32) then (Q (.inl (some (.inl (mI S 69 9)))) S) else (if wh = (6 : Int32) then (Q (.inl (some (.inl (mI S 69 10)))) S) else (if wh = (7 : Int32) then (Q (.inl (some (.inl (mI S 69 11)))) S) else (if wh = (8 : Int32) then (Q (.inl (some (.inl (mI S 69 12)))) S) else (if wh = (9 : Int32) then (Q (.inl (some (.inl (mI S 69 5)))) S) else (if wh = (10 : Int32) then (ma_wp X (d - 1) (w - 20) 77 0 [(0, .inr (.inr (some 87)))] [] S (zi (fun v2 S1 => zT S1 ∧ (Q (.inl (some (.inl v2))) S1)) (fun _ _ => False))) else (if wh = (11 : Int32) then (Q (.inl (some (.inl (0 : Int32)))) S) else (if wh = (12 : Int32) then (ma_wp X (d - 1) (w - 20) 78 0 [(0, .inr (.inr (some 87)))] [] S (zi (fun v4 S3 => zT S3 ∧ (if v4 = 0 then (Q (.inl (some (.inl (0 : Int32)))) S3) else (Q (.inl (some (.inl (1 : Int32)))) S3))) (fun _ _ => False))) else (Q (.inl (some (.inl (0 : Int32)))) S)))))))))))))))) else (Q (.inr 2) (ma_bump S)))) : ma_wp X d w 163 0 [(0, .inr (.inr (some 64))), (1, .inl wh)] [] S Q := by
  refine zw_push hm_163 dX11_count_0 (v := .inl wh) rfl ?_
  refine zw_if0 hm_163 dX11_count_1 (t := 10) rfl zc0_lt ?_ ?_
  · intro hc
    rw [if_pos hc] at h
    exact zw_thr hm_163 dX11_count_10 dX11_count_13 dX11_count_14 dX11_count_17 x_11_79_81 n_11_79 (by omega) (by show 0 + 81 ≤ w; omega) h
  · intro hc
    rw [if_neg hc] at h
    refine zw_push hm_163 dX11_count_4 (v := .inl wh) rfl ?_
    refine zw_push hm_163 dX11_count_5 (v := .inl (13 : Int32)) rfl ?_
    refine zw_if2 hm_163 dX11_count_7 (t := 18) rfl zc2_le ?_ ?_
    · intro hc
      rw [if_pos hc] at h
      refine zw_push hm_163 dX11_count_18 (v := .inl wh) rfl ?_
      refine zw_if0 hm_163 dX11_count_19 (t := 27) rfl zc0_ne ?_ ?_
      · intro hc
        rw [if_neg hc] at h
        refine zw_push hm_163 dX11_count_27 (v := .inl wh) rfl ?_
        refine zw_push hm_163 dX11_count_28 (v := .inl (1 : Int32)) rfl ?_
        refine zw_if2 hm_163 dX11_count_29 (t := 37) rfl zc2_ne ?_ ?_
        · intro hc
          rw [if_neg hc] at h
          refine zw_push hm_163 dX11_count_37 (v := .inr (.inr (some 64))) rfl ?_
          refine zw_cv hm_163 dX11_count_38 v_11_119_11 hm_144 [] [] rfl (zT_rt hS s_64 rfl) ⟨by omega, by omega⟩ rfl ?_
          show ma_wp X (d - 1) (w - 20) 144 0 [(0, .inr (.inr (some 64)))] [] S _
          refine zw_push hm_144 dX11_needCollector_0 (v := .inr (.inr (some 64))) rfl ?_
          obtain ⟨hg, h⟩ := h
          refine zw_gf hm_144 dX11_needCollector_1 (v := .inr (.inr (some 87))) (zT_is hS s_64) (zT_t hS s_64) rfl f_11_98_11 (congrArg (fun z => Sum.inr (Sum.inr z)) hg) ?_
          refine zw_ifnonnull hm_144 dX11_needCollector_4 (t := 15) rfl (fun z => by cases z) (fun _ _ => ?_)
          refine zw_push hm_144 dX11_needCollector_15 (v := .inr (.inr (some 64))) rfl ?_
          obtain ⟨hg, h⟩ := h
          refine zw_gf hm_144 dX11_needCollector_16 (v := .inr (.inr (some 87))) (zT_is hS s_64) (zT_t hS s_64) rfl f_11_98_11 (congrArg (fun z => Sum.inr (Sum.inr z)) hg) ?_
          refine zw_aret hm_144 dX11_needCollector_19 ?_
          show ma_wp X d w 163 41 [(0, .inr (.inr (some 64))), (1, .inl wh)] [.inr (.inr (some 87))] S _
          refine zw_sto hm_163 dX11_count_41 [(2, .inr (.inr (some 87))), (0, .inr (.inr (some 64))), (1, .inl wh)] rfl rfl rfl ?_
          refine zw_push hm_163 dX11_count_42 (v := .inl wh) rfl ?_
          by_cases hc0 : wh = (2 : Int32)
          · rw [if_pos hc0] at h
            refine zw_jmp hm_163 dX11_count_43 (t := 100) (st₉ := []) rfl rfl rfl (ma_jmp_tab (by rw [hc0]; decide +kernel)) ?_
            refine zw_push hm_163 dX11_count_100 (v := .inr (.inr (some 64))) rfl ?_
            refine zw_gf hm_163 dX11_count_101 (v := .inr (.inr (some 69))) (zT_is hS s_64) (zT_t hS s_64) rfl f_11_26_11 (zT_f hS r_64_8) ?_
            refine zw_gf hm_163 dX11_count_104 (v := .inl (mI S 69 7)) (zT_is hS s_69) (zT_t hS s_69) rfl f_11_238_7 rfl ?_
            exact zw_iret hm_163 dX11_count_107 h
          rw [if_neg hc0] at h
          by_cases hc1 : wh = (3 : Int32)
          · rw [if_pos hc1] at h
            refine zw_jmp hm_163 dX11_count_43 (t := 108) (st₉ := []) rfl rfl rfl (ma_jmp_tab (by rw [hc1]; decide +kernel)) ?_
            refine zw_push hm_163 dX11_count_108 (v := .inr (.inr (some 64))) rfl ?_
            refine zw_gf hm_163 dX11_count_109 (v := .inr (.inr (some 69))) (zT_is hS s_64) (zT_t hS s_64) rfl f_11_26_11 (zT_f hS r_64_8) ?_
            refine zw_gf hm_163 dX11_count_112 (v := .inl (mI S 69 8)) (zT_is hS s_69) (zT_t hS s_69) rfl f_11_241_7 rfl ?_
            exact zw_iret hm_163 dX11_count_115 h
          rw [if_neg hc1] at h
          by_cases hc2 : wh = (4 : Int32)
          · rw [if_pos hc2] at h
            refine zw_jmp hm_163 dX11_count_43 (t := 116) (st₉ := []) rfl rfl rfl (ma_jmp_tab (by rw [hc2]; decide +kernel)) ?_
            refine zw_push hm_163 dX11_count_116 (v := .inr (.inr (some 64))) rfl ?_
            refine zw_gf hm_163 dX11_count_117 (v := .inr (.inr (some 69))) (zT_is hS s_64) (zT_t hS s_64) rfl f_11_26_11 (zT_f hS r_64_8) ?_
            refine zw_gf hm_163 dX11_count_120 (v := .inl (mI S 69 6)) (zT_is hS s_69) (zT_t hS s_69) rfl f_11_244_7 rfl ?_
            exact zw_iret hm_163 dX11_count_123 h
          rw [if_neg hc2] at h
          by_cases hc3 : wh = (5 : Int32)
          · rw [if_pos hc3] at h
            refine zw_jmp hm_163 dX11_count_43 (t := 124) (st₉ := []) rfl rfl rfl (ma_jmp_tab (by rw [hc3]; decide +kernel)) ?_
            refine zw_push hm_163 dX11_count_124 (v := .inr (.inr (some 64))) rfl ?_
            refine zw_gf hm_163 dX11_count_125 (v := .inr (.inr (some 69))) (zT_is hS s_64) (zT_t hS s_64) rfl f_11_26_11 (zT_f hS r_64_8) ?_
            refine zw_gf hm_163 dX11_count_128 (v := .inl (mI S 69 9)) (zT_is hS s_69) (zT_t hS s_69) rfl f_11_247_7 rfl ?_
            exact zw_iret hm_163 dX11_count_131 h
          rw [if_neg hc3] at h
          by_cases hc4 : wh = (6 : Int32)
          · rw [if_pos hc4] at h
            refine zw_jmp hm_163 dX11_count_43 (t := 132) (st₉ := []) rfl rfl rfl (ma_jmp_tab (by rw [hc4]; decide +kernel)) ?_
            refine zw_push hm_163 dX11_count_132 (v := .inr (.inr (some 64))) rfl ?_
            refine zw_gf hm_163 dX11_count_133 (v := .inr (.inr (some 69))) (zT_is hS s_64) (zT_t hS s_64) rfl f_11_26_11 (zT_f hS r_64_8) ?_
            refine zw_gf hm_163 dX11_count_136 (v := .inl (mI S 69 10)) (zT_is hS s_69) (zT_t hS s_69) rfl f_11_250_7 rfl ?_
            exact zw_iret hm_163 dX11_count_139 h
          rw [if_neg hc4] at h
          by_cases hc5 : wh = (7 : Int32)
          · rw [if_pos hc5] at h
            refine zw_jmp hm_163 dX11_count_43 (t := 140) (st₉ := []) rfl rfl rfl (ma_jmp_tab (by rw [hc5]; decide +kernel)) ?_
            refine zw_push hm_163 dX11_count_140 (v := .inr (.inr (some 64))) rfl ?_
            refine zw_gf hm_163 dX11_count_141 (v := .inr (.inr (some 69))) (zT_is hS s_64) (zT_t hS s_64) rfl f_11_26_11 (zT_f hS r_64_8) ?_
            refine zw_gf hm_163 dX11_count_144 (v := .inl (mI S 69 11)) (zT_is hS s_69) (zT_t hS s_69) rfl f_11_253_7 rfl ?_
            exact zw_iret hm_163 dX11_count_147 h
          rw [if_neg hc5] at h
          by_cases hc6 : wh = (8 : Int32)
          · rw [if_pos hc6] at h
            refine zw_jmp hm_163 dX11_count_43 (t := 148) (st₉ := []) rfl rfl rfl (ma_jmp_tab (by rw [hc6]; decide +kernel)) ?_
            refine zw_push hm_163 dX11_count_148 (v := .inr (.inr (some 64))) rfl ?_
            refine zw_gf hm_163 dX11_count_149 (v := .inr (.inr (some 69))) (zT_is hS s_64) (zT_t hS s_64) rfl f_11_26_11 (zT_f hS r_64_8) ?_
            refine zw_gf hm_163 dX11_count_152 (v := .inl (mI S 69 12)) (zT_is hS s_69) (zT_t hS s_69) rfl f_11_256_7 rfl ?_
            exact zw_iret hm_163 dX11_count_155 h
          rw [if_neg hc6] at h
          by_cases hc7 : wh = (9 : Int32)
          · rw [if_pos hc7] at h
            refine zw_jmp hm_163 dX11_count_43 (t := 156) (st₉ := []) rfl rfl rfl (ma_jmp_tab (by rw [hc7]; decide +kernel)) ?_
            refine zw_push hm_163 dX11_count_156 (v := .inr (.inr (some 64))) rfl ?_
            refine zw_gf hm_163 dX11_count_157 (v := .inr (.inr (some 69))) (zT_is hS s_64) (zT_t hS s_64) rfl f_11_26_11 (zT_f hS r_64_8) ?_
            refine zw_gf hm_163 dX11_count_160 (v := .inl (mI S 69 5)) (zT_is hS s_69) (zT_t hS s_69) rfl f_11_259_7 rfl ?_
            exact zw_iret hm_163 dX11_count_163 h
          rw [if_neg hc7] at h
          by_cases hc8 : wh = (10 : Int32)
          · rw [if_pos hc8] at h
            refine zw_jmp hm_163 dX11_count_43 (t := 164) (st₉ := []) rfl rfl rfl (ma_jmp_tab (by rw [hc8]; decide +kernel)) ?_
            refine zw_push hm_163 dX11_count_164 (v := .inr (.inr (some 87))) rfl ?_
            refine zw_cv hm_163 dX11_count_165 v_11_262_6 hm_77 [] [] rfl (zT_rt hS s_87 rfl) ⟨by omega, by omega⟩ rfl (zw_mono h (zi_go ?_ ?_))
            · intro v2 S1 hv
              obtain ⟨hS1, h⟩ := hv
              exact zw_iret hm_163 dX11_count_168 h
            · intro x S9 hx
              exact hx.elim
          rw [if_neg hc8] at h
          by_cases hc9 : wh = (11 : Int32)
          · rw [if_pos hc9] at h
            refine zw_jmp hm_163 dX11_count_43 (t := 169) (st₉ := []) rfl rfl rfl (ma_jmp_tab (by rw [hc9]; decide +kernel)) ?_
            refine zw_push hm_163 dX11_count_169 (v := .inr (.inr (some 87))) rfl ?_
            refine zw_cv hm_163 dX11_count_170 v_11_265_6 hm_273 [] [] rfl (zT_rt hS s_87 rfl) ⟨by omega, by omega⟩ rfl ?_
            show ma_wp X (d - 1) (w - 20) 273 0 [(0, .inr (.inr (some 87)))] [] S _
            refine zw_push hm_273 dX1_topPlace_0 (v := .inl (0 : Int32)) rfl ?_
            refine zw_iret hm_273 dX1_topPlace_1 ?_
            show ma_wp X d w 163 173 [(2, .inr (.inr (some 87))), (0, .inr (.inr (some 64))), (1, .inl wh)] [.inl (0 : Int32)] S _
            exact zw_iret hm_163 dX11_count_173 h
          rw [if_neg hc9] at h
          by_cases hc10 : wh = (12 : Int32)
          · rw [if_pos hc10] at h
            refine zw_jmp hm_163 dX11_count_43 (t := 174) (st₉ := []) rfl rfl rfl (ma_jmp_tab (by rw [hc10]; decide +kernel)) ?_
            refine zw_push hm_163 dX11_count_174 (v := .inr (.inr (some 87))) rfl ?_
            refine zw_cv hm_163 dX11_count_175 v_11_268_6 hm_78 [] [] rfl (zT_rt hS s_87 rfl) ⟨by omega, by omega⟩ rfl (zw_mono h (zi_go ?_ ?_))
            · intro v4 S3 hv
              obtain ⟨hS3, h⟩ := hv
              refine zw_if0 hm_163 dX11_count_178 (t := 185) rfl zc0_eq ?_ ?_
              · intro hc
                rw [if_pos hc] at h
                refine zw_push hm_163 dX11_count_185 (v := .inl (0 : Int32)) rfl ?_
                exact zw_iret hm_163 dX11_count_186 h
              · intro hc
                rw [if_neg hc] at h
                refine zw_push hm_163 dX11_count_181 (v := .inl (1 : Int32)) rfl ?_
                refine zw_goto hm_163 dX11_count_182 (t := 186) rfl ?_
                exact zw_iret hm_163 dX11_count_186 h
            · intro x S9 hx
              exact hx.elim
          rw [if_neg hc10] at h
          refine zw_jmp hm_163 dX11_count_43 (t := 187) (st₉ := []) rfl rfl rfl (ma_jmp_def (m := 11) (by decide) (fun j hj => by
              have hj2 : j = 0 ∨ j = 1 ∨ j = 2 ∨ j = 3 ∨ j = 4 ∨ j = 5 ∨ j = 6 ∨ j = 7 ∨ j = 8 ∨ j = 9 ∨ j = 10 := by omega
              rcases hj2 with rfl | rfl | rfl | rfl | rfl | rfl | rfl | rfl | rfl | rfl | rfl
              · exact hc0
              · exact hc1
              · exact hc2
              · exact hc3
              · exact hc4
              · exact hc5
              · exact hc6
              · exact hc7
              · exact hc8
              · exact hc9
              · exact hc10
              ) rfl) ?_
          refine zw_push hm_163 dX11_count_187 (v := .inr (.inr (some 87))) rfl ?_
          refine zw_cv hm_163 dX11_count_188 v_11_272_6 hm_275 [] [] rfl (zT_rt hS s_87 rfl) ⟨by omega, by omega⟩ rfl ?_
          show ma_wp X (d - 1) (w - 20) 275 0 [(0, .inr (.inr (some 87)))] [] S _
          refine zw_push hm_275 dX1_oldTopOrRegion_0 (v := .inl (0 : Int32)) rfl ?_
          refine zw_iret hm_275 dX1_oldTopOrRegion_1 ?_
          show ma_wp X d w 163 191 [(2, .inr (.inr (some 87))), (0, .inr (.inr (some 64))), (1, .inl wh)] [.inl (0 : Int32)] S _
          exact zw_iret hm_163 dX11_count_191 h
        · intro hc
          rw [if_pos (Classical.not_not.mp hc)] at h
          refine zw_push hm_163 dX11_count_32 (v := .inr (.inr (some 64))) rfl ?_
          refine zw_gf hm_163 dX11_count_33 (v := .inl (mI S 64 7)) (zT_is hS s_64) (zT_t hS s_64) rfl f_11_82_11 rfl ?_
          exact zw_iret hm_163 dX11_count_36 h
      · intro hc
        rw [if_pos (Classical.not_not.mp hc)] at h
        refine zw_push hm_163 dX11_count_22 (v := .inr (.inr (some 64))) rfl ?_
        refine zw_gf hm_163 dX11_count_23 (v := .inl (mI S 64 1)) (zT_is hS s_64) (zT_t hS s_64) rfl f_11_68_11 rfl ?_
        exact zw_iret hm_163 dX11_count_26 h
    · intro hc
      rw [if_neg hc] at h
      exact zw_thr hm_163 dX11_count_10 dX11_count_13 dX11_count_14 dX11_count_17 x_11_79_81 n_11_79 (by omega) (by show 0 + 81 ≤ w; omega) h
theorem sp_163_64_s_p87 {X : Nat × (Nat → Int32)} {d w : Nat} {f : Nat → Nat → Int32} {r : Nat → Nat → Option Nat} {C Z N : Nat} {Q : Option ma_V ⊕ Nat → ma_S → Prop} {ab : Nat→Nat→Int32} {S : ma_S} (wh : Int32) (hd : 7 ≤ d) (hw : 109 ≤ w) (hI : zB f r C Z N S) (hr : r 64 11 = some 87) (hpre0 : xB S (mR S 70)) (hpre1 : aS 88 S = ab) (K : ∀ v S₉, zB f r C Z N S₉ → (True) → (xB S₉ (mR S₉ 70)) → (aS 88 S₉ = ab) → Q (.inl (some (.inl v))) S₉) (KX : ∀ x S₉, (x = 2) → zB f r C Z N S₉ → (xB S₉ (mR S₉ 70)) → (aS 88 S₉ = ab) → Q (.inr x) (ma_bump S₉)) : ma_wp X d w 163 0 [(0, .inr (.inr (some 64))), (1, .inl wh)] [] S Q := by
  refine g_163_64_s_p87_0 wh (by omega) (by omega) (zG_T hI) ?_
  have b1 := i_bd wh
  have li2 : (0 : Int32).toInt = 0 := rfl
  refine zd (fun h3 => ?_) (fun h3 => ?_)
  · skip
    have g4 := i_lt h3
    exact KX 2 _ (by decide) hI (show xB S (mR S 70) from by first | (exact xB_x (xC_o (W := 75) hpre0).2)) (show aS 88 S = ab from by first | (exact (xC_o (W := 88) hpre0).1.trans hpre1))
  · skip
    have g5 := i_nlt h3
    have li6 : (13 : Int32).toInt = 13 := rfl
    refine zd (fun h7 => ?_) (fun h7 => ?_)
    · skip
      have g8 := i_le h7
      refine zd (fun h9 => ?_) (fun h9 => ?_)
      · skip
        have g10 := i_eq h9
        have f11 := zG_s hI (0) (100) (c := 64) (k := 1) (by decide)
        exact K ((mI S 64 1)) _ hI trivial (show xB S (mR S 70) from by first | (exact xB_x (xC_o (W := 75) hpre0).2)) (show aS 88 S = ab from by first | (exact (xC_o (W := 88) hpre0).1.trans hpre1))
      · skip
        have g12 := i_ne h9
        have li13 : (1 : Int32).toInt = 1 := rfl
        refine zd (fun h14 => ?_) (fun h14 => ?_)
        · skip
          have g15 := i_eq h14
          have f16 := zG_s hI (0) (16) (c := 64) (k := 7) (by decide)
          exact K ((mI S 64 7)) _ hI trivial (show xB S (mR S 70) from by first | (exact xB_x (xC_o (W := 75) hpre0).2)) (show aS 88 S = ab from by first | (exact (xC_o (W := 88) hpre0).1.trans hpre1))
        · skip
          have g17 := i_ne h14
          refine ⟨((zG_r hI (by decide)).trans hr), ?_⟩
          refine ⟨((zG_r hI (by decide)).trans hr), ?_⟩
          have li18 : (2 : Int32).toInt = 2 := rfl
          refine zd (fun h19 => ?_) (fun h19 => ?_)
          · skip
            have g20 := i_eq h19
            have b21 := i_bd (mI S 69 7)
            exact K ((mI S 69 7)) _ hI trivial (show xB S (mR S 70) from by first | (exact xB_x (xC_o (W := 75) hpre0).2)) (show aS 88 S = ab from by first | (exact (xC_o (W := 88) hpre0).1.trans hpre1))
          · skip
            have g22 := i_ne h19
            have li23 : (3 : Int32).toInt = 3 := rfl
            refine zd (fun h24 => ?_) (fun h24 => ?_)
            · skip
              have g25 := i_eq h24
              have b26 := i_bd (mI S 69 8)
              exact K ((mI S 69 8)) _ hI trivial (show xB S (mR S 70) from by first | (exact xB_x (xC_o (W := 75) hpre0).2)) (show aS 88 S = ab from by first | (exact (xC_o (W := 88) hpre0).1.trans hpre1))
            · skip
              have g27 := i_ne h24
              have li28 : (4 : Int32).toInt = 4 := rfl
              refine zd (fun h29 => ?_) (fun h29 => ?_)
              · skip
                have g30 := i_eq h29
                have f31 := zG_s hI (0) (512) (c := 69) (k := 6) (by decide)
                exact K ((mI S 69 6)) _ hI trivial (show xB S (mR S 70) from by first | (exact xB_x (xC_o (W := 75) hpre0).2)) (show aS 88 S = ab from by first | (exact (xC_o (W := 88) hpre0).1.trans hpre1))
              · skip
                have g32 := i_ne h29
                have li33 : (5 : Int32).toInt = 5 := rfl
                refine zd (fun h34 => ?_) (fun h34 => ?_)
                · skip
                  have g35 := i_eq h34
                  have b36 := i_bd (mI S 69 9)
                  exact K ((mI S 69 9)) _ hI trivial (show xB S (mR S 70) from by first | (exact xB_x (xC_o (W := 75) hpre0).2)) (show aS 88 S = ab from by first | (exact (xC_o (W := 88) hpre0).1.trans hpre1))
                · skip
                  have g37 := i_ne h34
                  have li38 : (6 : Int32).toInt = 6 := rfl
                  refine zd (fun h39 => ?_) (fun h39 => ?_)
                  · skip
                    have g40 := i_eq h39
                    have b41 := i_bd (mI S 69 10)
                    exact K ((mI S 69 10)) _ hI trivial (show xB S (mR S 70) from by first | (exact xB_x (xC_o (W := 75) hpre0).2)) (show aS 88 S = ab from by first | (exact (xC_o (W := 88) hpre0).1.trans hpre1))
                  · skip
                    have g42 := i_ne h39
                    have li43 : (7 : Int32).toInt = 7 := rfl
                    refine zd (fun h44 => ?_) (fun h44 => ?_)
                    · skip
                      have g45 := i_eq h44
                      have b46 := i_bd (mI S 69 11)
                      exact K ((mI S 69 11)) _ hI trivial (show xB S (mR S 70) from by first | (exact xB_x (xC_o (W := 75) hpre0).2)) (show aS 88 S = ab from by first | (exact (xC_o (W := 88) hpre0).1.trans hpre1))
                    · skip
                      have g47 := i_ne h44
                      have li48 : (8 : Int32).toInt = 8 := rfl
                      refine zd (fun h49 => ?_) (fun h49 => ?_)
                      · skip
                        have g50 := i_eq h49
                        have b51 := i_bd (mI S 69 12)
                        exact K ((mI S 69 12)) _ hI trivial (show xB S (mR S 70) from by first | (exact xB_x (xC_o (W := 75) hpre0).2)) (show aS 88 S = ab from by first | (exact (xC_o (W := 88) hpre0).1.trans hpre1))
                      · skip
                        have g52 := i_ne h49
                        have li53 : (9 : Int32).toInt = 9 := rfl
                        refine zd (fun h54 => ?_) (fun h54 => ?_)
                        · skip
                          have g55 := i_eq h54
                          have f56 := zG_s hI (0) (512) (c := 69) (k := 5) (by decide)
                          exact K ((mI S 69 5)) _ hI trivial (show xB S (mR S 70) from by first | (exact xB_x (xC_o (W := 75) hpre0).2)) (show aS 88 S = ab from by first | (exact (xC_o (W := 88) hpre0).1.trans hpre1))
                        · skip
                          have g57 := i_ne h54
                          have li58 : (10 : Int32).toInt = 10 := rfl
                          refine zd (fun h59 => ?_) (fun h59 => ?_)
                          · skip
                            have g60 := i_eq h59
                            refine sp_77_87_s  (by omega) (by omega) (zB_dn_zJ87 hI)  (fun v2 S1 eS_S1 hp_v2 => zi_n ⟨(by rw [eS_S1]; exact zG_T hI), ?_⟩)
                            replace eS_S1 := eS_S1.symm; subst eS_S1
                            have b61 := i_bd v2
                            exact K (v2) _ hI trivial (show xB S (mR S 70) from by first | (exact xB_x (xC_o (W := 75) hpre0).2)) (show aS 88 S = ab from by first | (exact (xC_o (W := 88) hpre0).1.trans hpre1))
                          · skip
                            have g62 := i_ne h59
                            have li63 : (11 : Int32).toInt = 11 := rfl
                            refine zd (fun h64 => ?_) (fun h64 => ?_)
                            · skip
                              have g65 := i_eq h64
                              exact K ((0 : Int32)) _ hI trivial (show xB S (mR S 70) from by first | (exact xB_x (xC_o (W := 75) hpre0).2)) (show aS 88 S = ab from by first | (exact (xC_o (W := 88) hpre0).1.trans hpre1))
                            · skip
                              have g66 := i_ne h64
                              have li67 : (12 : Int32).toInt = 12 := rfl
                              refine zd (fun h68 => ?_) (fun h68 => ?_)
                              · skip
                                have g69 := i_eq h68
                                refine sp_78_87_s  (by omega) (by omega) (zB_dn_zJ87 hI)  (fun v4 S3 eS_S3 hp_v4 => zi_n ⟨(by rw [eS_S3]; exact zG_T hI), ?_⟩)
                                replace eS_S3 := eS_S3.symm; subst eS_S3
                                have b70 := i_bd v4
                                refine zd (fun h71 => ?_) (fun h71 => ?_)
                                · skip
                                  have g72 := i_eq h71
                                  exact K ((0 : Int32)) _ hI trivial (show xB S (mR S 70) from by first | (exact xB_x (xC_o (W := 75) hpre0).2)) (show aS 88 S = ab from by first | (exact (xC_o (W := 88) hpre0).1.trans hpre1))
                                · skip
                                  have g73 := i_ne h71
                                  exact K ((1 : Int32)) _ hI trivial (show xB S (mR S 70) from by first | (exact xB_x (xC_o (W := 75) hpre0).2)) (show aS 88 S = ab from by first | (exact (xC_o (W := 88) hpre0).1.trans hpre1))
                              · skip
                                have g74 := i_ne h68
                                exact K ((0 : Int32)) _ hI trivial (show xB S (mR S 70) from by first | (exact xB_x (xC_o (W := 75) hpre0).2)) (show aS 88 S = ab from by first | (exact (xC_o (W := 88) hpre0).1.trans hpre1))
    · skip
      have g75 := i_nle h7
      exact KX 2 _ (by decide) hI (show xB S (mR S 70) from by first | (exact xB_x (xC_o (W := 75) hpre0).2)) (show aS 88 S = ab from by first | (exact (xC_o (W := 88) hpre0).1.trans hpre1))

/-! from 95.g43 -/
/-! the heap by numbers, the class (written by wip/tools/gen18.py) -/
theorem g_162_64_s_p87_0 {X : Nat × (Nat → Int32)} {d w : Nat} {S : ma_S} {Q : Option ma_V ⊕ Nat → ma_S → Prop} (i : Int32) (pa : Int32) (hd : 7 ≤ d) (hw : 109 ≤ w) (hS : zT S) (h : if pa < 0 then (Q (.inr 2) (ma_bump S)) else (if pa ≤ (1 : Int32) then (mR S 64 11 = some 87 ∧ (mR S 64 11 = some 87 ∧ (ma_wp X (d - 1) (w - 23) 111 0 [(0, .inr (.inr (some 87))), (1, .inl i)] [] S (zi (fun v2 S1 => zT S1 ∧ (if v2 = (-1 : Int32) then (Q (.inr 1) (ma_bump S1)) else (if pa = 0 then (Q (.inl (some (.inl v2))) S1) else (ma_wp X (d - 1) (w - 22) 106 0 [(0, .inr (.inr (some 87))), (1, .inl v2)] [] S1 (zi (fun v4 S3 => zT S3 ∧ (Q (.inl (some (.inl (v4 - v2)))) S3)) (fun x S9 => Q (.inr x) S9)))))) (fun x S9 => Q (.inr x) S9))))) else (Q (.inr 2) (ma_bump S)))) : ma_wp X d w 162 0 [(0, .inr (.inr (some 64))), (1, .inl i), (2, .inl pa)] [] S Q := by
  refine zw_push hm_162 dX11_block_0 (v := .inl pa) rfl ?_
  refine zw_if0 hm_162 dX11_block_1 (t := 9) rfl zc0_lt ?_ ?_
  · intro hc
    rw [if_pos hc] at h
    exact zw_thr hm_162 dX11_block_9 dX11_block_12 dX11_block_13 dX11_block_16 x_11_79_81 n_11_79 (by omega) (by show 0 + 81 ≤ w; omega) h
  · intro hc
    rw [if_neg hc] at h
    refine zw_push hm_162 dX11_block_4 (v := .inl pa) rfl ?_
    refine zw_push hm_162 dX11_block_5 (v := .inl (1 : Int32)) rfl ?_
    refine zw_if2 hm_162 dX11_block_6 (t := 17) rfl zc2_le ?_ ?_
    · intro hc
      rw [if_pos hc] at h
      refine zw_push hm_162 dX11_block_17 (v := .inr (.inr (some 64))) rfl ?_
      refine zw_cv hm_162 dX11_block_18 v_11_119_11 hm_144 [] [] rfl (zT_rt hS s_64 rfl) ⟨by omega, by omega⟩ rfl ?_
      show ma_wp X (d - 1) (w - 20) 144 0 [(0, .inr (.inr (some 64)))] [] S _
      refine zw_push hm_144 dX11_needCollector_0 (v := .inr (.inr (some 64))) rfl ?_
      obtain ⟨hg, h⟩ := h
      refine zw_gf hm_144 dX11_needCollector_1 (v := .inr (.inr (some 87))) (zT_is hS s_64) (zT_t hS s_64) rfl f_11_98_11 (congrArg (fun z => Sum.inr (Sum.inr z)) hg) ?_
      refine zw_ifnonnull hm_144 dX11_needCollector_4 (t := 15) rfl (fun z => by cases z) (fun _ _ => ?_)
      refine zw_push hm_144 dX11_needCollector_15 (v := .inr (.inr (some 64))) rfl ?_
      obtain ⟨hg, h⟩ := h
      refine zw_gf hm_144 dX11_needCollector_16 (v := .inr (.inr (some 87))) (zT_is hS s_64) (zT_t hS s_64) rfl f_11_98_11 (congrArg (fun z => Sum.inr (Sum.inr z)) hg) ?_
      refine zw_aret hm_144 dX11_needCollector_19 ?_
      show ma_wp X d w 162 21 [(0, .inr (.inr (some 64))), (1, .inl i), (2, .inl pa)] [.inr (.inr (some 87))] S _
      refine zw_sto hm_162 dX11_block_21 [(4, .inr (.inr (some 87))), (0, .inr (.inr (some 64))), (1, .inl i), (2, .inl pa)] rfl rfl rfl ?_
      refine zw_push hm_162 dX11_block_23 (v := .inr (.inr (some 87))) rfl ?_
      refine zw_iof hm_162 dX11_block_25 (zT_is hS s_87) (zT_t hS s_87) rfl ct_11_41_6 (v := (1 : Int32)) rfl ?_
      refine zw_if0 hm_162 dX11_block_28 (t := 77) rfl zc0_eq (fun hc => absurd hc (by decide)) (fun _ => ?_)
      refine zw_push hm_162 dX11_block_31 (v := .inr (.inr (some 87))) rfl ?_
      refine zw_cast hm_162 dX11_block_33 (zT_is hS s_87) (zT_t hS s_87) rfl ct_11_41_6 ?_
      refine zw_sto hm_162 dX11_block_36 [(3, .inr (.inr (some 87))), (4, .inr (.inr (some 87))), (0, .inr (.inr (some 64))), (1, .inl i), (2, .inl pa)] rfl rfl rfl ?_
      refine zw_push hm_162 dX11_block_37 (v := .inr (.inr (some 87))) rfl ?_
      refine zw_push hm_162 dX11_block_38 (v := .inl i) rfl ?_
      refine zw_cv hm_162 dX11_block_39 v_11_232_6 hm_111 [.inl i] [] rfl (zT_rt hS s_87 rfl) ⟨by omega, by omega⟩ rfl (zw_mono h (zi_go ?_ ?_))
      · intro v2 S1 hv
        obtain ⟨hS1, h⟩ := hv
        refine zw_sto hm_162 dX11_block_42 [(4, .inl v2), (3, .inr (.inr (some 87))), (0, .inr (.inr (some 64))), (1, .inl i), (2, .inl pa)] rfl rfl rfl ?_
        refine zw_push hm_162 dX11_block_44 (v := .inl v2) rfl ?_
        refine zw_push hm_162 dX11_block_46 (v := .inl (-1 : Int32)) rfl ?_
        refine zw_if2 hm_162 dX11_block_47 (t := 58) rfl zc2_ne ?_ ?_
        · intro hc
          rw [if_neg hc] at h
          refine zw_push hm_162 dX11_block_58 (v := .inl pa) rfl ?_
          refine zw_if0 hm_162 dX11_block_59 (t := 67) rfl zc0_ne ?_ ?_
          · intro hc
            rw [if_neg hc] at h
            refine zw_push hm_162 dX11_block_67 (v := .inr (.inr (some 87))) rfl ?_
            refine zw_push hm_162 dX11_block_68 (v := .inl v2) rfl ?_
            refine zw_cv hm_162 dX11_block_70 v_11_235_6 hm_106 [.inl v2] [] rfl (zT_rt hS1 s_87 rfl) ⟨by omega, by omega⟩ rfl (zw_mono h (zi_go ?_ ?_))
            · intro v4 S3 hv
              obtain ⟨hS3, h⟩ := hv
              refine zw_push hm_162 dX11_block_73 (v := .inl v2) rfl ?_
              refine zw_stk hm_162 dX11_block_75 (st₉ := [.inl (v4 - v2)]) rfl rfl ?_
              exact zw_iret hm_162 dX11_block_76 h
            · intro x S9 hx
              exact ⟨by decide, hx⟩
          · intro hc
            rw [if_pos (Classical.not_not.mp hc)] at h
            refine zw_push hm_162 dX11_block_62 (v := .inl v2) rfl ?_
            refine zw_goto hm_162 dX11_block_64 (t := 76) rfl ?_
            exact zw_iret hm_162 dX11_block_76 h
        · intro hc
          rw [if_pos (Classical.not_not.mp hc)] at h
          exact zw_thr hm_162 dX11_block_50 dX11_block_53 dX11_block_54 dX11_block_57 x_11_72_74 n_11_72 (by omega) (by show 0 + 81 ≤ w; omega) h
      · intro x S9 hx
        exact ⟨by decide, hx⟩
    · intro hc
      rw [if_neg hc] at h
      exact zw_thr hm_162 dX11_block_9 dX11_block_12 dX11_block_13 dX11_block_16 x_11_79_81 n_11_79 (by omega) (by show 0 + 81 ≤ w; omega) h
theorem sp_162_64_s_p87 {X : Nat × (Nat → Int32)} {d w : Nat} {f : Nat → Nat → Int32} {r : Nat → Nat → Option Nat} {C Z N : Nat} {Q : Option ma_V ⊕ Nat → ma_S → Prop} {ab : Nat→Nat→Int32} {S : ma_S} (i : Int32) (pa : Int32) (hd : 7 ≤ d) (hw : 109 ≤ w) (hI : zB f r C Z N S) (hr : r 64 11 = some 87) (hpre0 : xB S (mR S 70)) (hpre1 : aS 88 S = ab) (K : ∀ v S₉, zB f r C Z N S₉ → (True) → (xB S₉ (mR S₉ 70)) → (aS 88 S₉ = ab) → ((0 ≤ pa.toInt ∧ pa.toInt ≤ 1) ∧ (if i.toInt < 0 then -1 else aBk ab i.toInt.toNat (aN ab 0)) ≠ -1 ∧ ((pa.toInt = 0 ∧ v.toInt = (if i.toInt < 0 then -1 else aBk ab i.toInt.toNat (aN ab 0))) ∨ (pa.toInt = 1 ∧ v.toInt = aE ab (if i.toInt < 0 then -1 else aBk ab i.toInt.toNat (aN ab 0)) - (if i.toInt < 0 then -1 else aBk ab i.toInt.toNat (aN ab 0))))) → Q (.inl (some (.inl v))) S₉) (KX : ∀ x S₉, (x = 1 ∨ x = 2) → zB f r C Z N S₉ → (xB S₉ (mR S₉ 70)) → (aS 88 S₉ = ab) → ((x = 2 ∧ ¬ (0 ≤ pa.toInt ∧ pa.toInt ≤ 1)) ∨ (x = 1 ∧ (0 ≤ pa.toInt ∧ pa.toInt ≤ 1) ∧ (if i.toInt < 0 then -1 else aBk ab i.toInt.toNat (aN ab 0)) = -1)) → Q (.inr x) (ma_bump S₉)) : ma_wp X d w 162 0 [(0, .inr (.inr (some 64))), (1, .inl i), (2, .inl pa)] [] S Q := by
  refine g_162_64_s_p87_0 i pa (by omega) (by omega) (zG_T hI) ?_
  have li1 : (0 : Int32).toInt = 0 := rfl
  refine zd (fun h2 => ?_) (fun h2 => ?_)
  · skip
    have g3 := i_lt h2
    exact KX 2 _ (by decide) hI (show xB S (mR S 70) from by first | (exact xB_x (xC_o (W := 75) hpre0).2)) (show aS 88 S = ab from by first | (exact (xC_o (W := 88) hpre0).1.trans hpre1)) (show (2 = 2 ∧ ¬ (0 ≤ pa.toInt ∧ pa.toInt ≤ 1)) ∨ (2 = 1 ∧ (0 ≤ pa.toInt ∧ pa.toInt ≤ 1) ∧ (if i.toInt < 0 then -1 else aBk ab i.toInt.toNat (aN ab 0)) = -1) from by first | (exact Or.inl ⟨rfl, by omega⟩))
  · skip
    have g4 := i_nlt h2
    have li5 : (1 : Int32).toInt = 1 := rfl
    refine zd (fun h6 => ?_) (fun h6 => ?_)
    · skip
      have g7 := i_le h6
      refine ⟨((zG_r hI (by decide)).trans hr), ?_⟩
      refine ⟨((zG_r hI (by decide)).trans hr), ?_⟩
      refine sp_111_87_s (ab := (aS 88 S)) (i) (by omega) (by omega) (zB_dn_zJ87 hI) (show xB S (mR S 70) from by first | (exact xB_x (xC_o (W := 75) hpre0).2)) (show aS 88 S = (aS 88 S) from by first | (exact rfl) | (exact hpre1)) (fun v2 S1 eS_S1 hp_v2 rp0_S1 => zi_n ⟨(by rw [eS_S1]; exact zG_T hI), ?_⟩)
      replace eS_S1 := eS_S1.symm; subst eS_S1
      have rp0_S1 : v2.toInt = (if i.toInt < 0 then -1 else aBk (aS 88 S) i.toInt.toNat (aN (aS 88 S) 0)) := rp0_S1
      have li8 : (-1 : Int32).toInt = -1 := rfl
      refine zd (fun h9 => ?_) (fun h9 => ?_)
      · skip
        have g10 := i_eq h9
        exact KX 1 _ (by decide) hI (show xB S (mR S 70) from by first | (exact xB_x (xC_o (W := 75) hpre0).2)) (show aS 88 S = ab from by first | (exact (xC_o (W := 88) hpre0).1.trans hpre1)) (show (1 = 2 ∧ ¬ (0 ≤ pa.toInt ∧ pa.toInt ≤ 1)) ∨ (1 = 1 ∧ (0 ≤ pa.toInt ∧ pa.toInt ≤ 1) ∧ (if i.toInt < 0 then -1 else aBk ab i.toInt.toNat (aN ab 0)) = -1) from by first | (have bp := rp0_S1; rw [hpre1] at bp; rw [← bp]; exact Or.inr ⟨rfl, ⟨by omega, by omega⟩, by omega⟩))
      · skip
        have g11 := i_ne h9
        refine zd (fun h12 => ?_) (fun h12 => ?_)
        · skip
          have g13 := i_eq h12
          exact K (v2) _ hI trivial (show xB S (mR S 70) from by first | (exact xB_x (xC_o (W := 75) hpre0).2)) (show aS 88 S = ab from by first | (exact (xC_o (W := 88) hpre0).1.trans hpre1)) (show (0 ≤ pa.toInt ∧ pa.toInt ≤ 1) ∧ (if i.toInt < 0 then -1 else aBk ab i.toInt.toNat (aN ab 0)) ≠ -1 ∧ ((pa.toInt = 0 ∧ v2.toInt = (if i.toInt < 0 then -1 else aBk ab i.toInt.toNat (aN ab 0))) ∨ (pa.toInt = 1 ∧ v2.toInt = aE ab (if i.toInt < 0 then -1 else aBk ab i.toInt.toNat (aN ab 0)) - (if i.toInt < 0 then -1 else aBk ab i.toInt.toNat (aN ab 0)))) from by first | (have bp := rp0_S1; rw [hpre1] at bp; rw [← bp]; exact ⟨⟨by omega, by omega⟩, by omega, Or.inl ⟨by omega, rfl⟩⟩))
        · skip
          have g14 := i_ne h12
          refine sp_106_87_s (ab := (aS 88 S)) (v2) (by omega) (by omega) (zB_dn_zJ87 hI) (show xB S (mR S 70) from by first | (exact xB_x (xC_o (W := 75) hpre0).2)) (show aS 88 S = (aS 88 S) from by first | (exact rfl) | (exact hpre1)) (by omega) (by omega) (fun v4 S3 eS_S3 hp_v4 rp0_S3 => zi_n ⟨(by rw [eS_S3]; exact zG_T hI), ?_⟩)
          replace eS_S3 := eS_S3.symm; subst eS_S3
          have rp0_S3 : v4.toInt = aE (aS 88 S) v2.toInt := rp0_S3
          first | have e15 : (v4 - v2).toInt = v4.toInt - v2.toInt := i_sub (by omega) (by omega) | have b16 := i_bd (v4 - v2)
          exact K ((v4 - v2)) _ hI trivial (show xB S (mR S 70) from by first | (exact xB_x (xC_o (W := 75) hpre0).2)) (show aS 88 S = ab from by first | (exact (xC_o (W := 88) hpre0).1.trans hpre1)) (show (0 ≤ pa.toInt ∧ pa.toInt ≤ 1) ∧ (if i.toInt < 0 then -1 else aBk ab i.toInt.toNat (aN ab 0)) ≠ -1 ∧ ((pa.toInt = 0 ∧ (v4 - v2).toInt = (if i.toInt < 0 then -1 else aBk ab i.toInt.toNat (aN ab 0))) ∨ (pa.toInt = 1 ∧ (v4 - v2).toInt = aE ab (if i.toInt < 0 then -1 else aBk ab i.toInt.toNat (aN ab 0)) - (if i.toInt < 0 then -1 else aBk ab i.toInt.toNat (aN ab 0)))) from by first | (have bp := rp0_S1; rw [hpre1] at bp; rw [← bp]; have ef := rp0_S3; rw [hpre1] at ef; exact ⟨⟨by omega, by omega⟩, by omega, Or.inr ⟨by omega, by omega⟩⟩))
    · skip
      have g17 := i_nle h6
      exact KX 2 _ (by decide) hI (show xB S (mR S 70) from by first | (exact xB_x (xC_o (W := 75) hpre0).2)) (show aS 88 S = ab from by first | (exact (xC_o (W := 88) hpre0).1.trans hpre1)) (show (2 = 2 ∧ ¬ (0 ≤ pa.toInt ∧ pa.toInt ≤ 1)) ∨ (2 = 1 ∧ (0 ≤ pa.toInt ∧ pa.toInt ≤ 1) ∧ (if i.toInt < 0 then -1 else aBk ab i.toInt.toNat (aN ab 0)) = -1) from by first | (exact Or.inl ⟨rfl, by omega⟩))

/-! from 95.g45 -/
/-! the heap by numbers, the class (written by wip/tools/gen18.py) -/
def zUp (r : Nat → Int32) (k : Nat) (x : Int32) : Nat → Int32 := fun j => if j = k then x else r j
theorem up_67 {S : ma_S} {k k₉ : Nat} {x y v : Int32} : mI (ma_put (ma_put (ma_put S 67 k (.inl x)) 68 k₉ (.inl y)) 64 7 (.inl v)) 67 = zUp (mI S 67) k x := by
  funext j
  show (if 67 = 64 ∧ j = 7 then v else if 67 = 68 ∧ j = k₉ then y else if 67 = 67 ∧ j = k then x else mI S 67 j) = if j = k then x else mI S 67 j
  rw [if_neg (by omega), if_neg (by omega)]
  by_cases h : j = k
  · rw [if_pos ⟨rfl, h⟩, if_pos h]
  · rw [if_neg (fun z => h z.2), if_neg h]
theorem up_68 {S : ma_S} {k k₉ : Nat} {x y v : Int32} : mI (ma_put (ma_put (ma_put S 67 k (.inl x)) 68 k₉ (.inl y)) 64 7 (.inl v)) 68 = zUp (mI S 68) k₉ y := by
  funext j
  show (if 68 = 64 ∧ j = 7 then v else if 68 = 68 ∧ j = k₉ then y else if 68 = 67 ∧ j = k then x else mI S 68 j) = if j = k₉ then y else mI S 68 j
  rw [if_neg (by omega)]
  by_cases h : j = k₉
  · rw [if_pos ⟨rfl, h⟩, if_pos h]
  · rw [if_neg (fun z => h z.2), if_neg (by omega), if_neg h]

/-! from 95.g46 -/
/-! the heap by numbers, the class (written by wip/tools/gen18.py) -/
/-! tokens, by their number -/
def zte (t : Nat → Int32) (n : Int) : Nat → Int
  | 0 => tk false t n (tk true t n 0)
  | k + 1 => tk false t n (tk true t n (zte t n k))
def zts (t : Nat → Int32) (n : Int) : Nat → Int
  | 0 => tk true t n 0
  | k + 1 => tk true t n (zte t n k)
def zVal (t : Nat → Int32) (n : Int) (c k : Nat) : Int := zPart c t (zts t n k) (zte t n k) 0
theorem zt_s {t : Nat → Int32} {n s p p₉ : Int} {k : Nat} (hs : s = tk true t n p₉) (hp : p₉ = p) (hk : p = zte t n k) : s = zts t n (k + 1) := by
  rw [hs, hp, hk]
  rfl
theorem zt_e {t : Nat → Int32} {n s e : Int} {k : Nat} (he : e = tk false t n s) (hs : s = zts t n k) : e = zte t n k := by
  rw [he, hs]
  cases k <;> rfl

/-! from 95.g63 -/
/-! the heap by numbers, the class (written by wip/tools/gen18.py) -/
theorem zt_p {t : Nat → Int32} {n e v : Int} {s : Int32} (hs : s.toInt = tk true t n 0) (he : e = tk false t n s.toInt) (h : v = zPol t s (e - s.toInt)) : v = zPol t (Int32.ofInt (zts t n 0)) (zte t n 0 - zts t n 0) := by
  have a : zts t n 0 = s.toInt := hs.symm
  have b : zte t n 0 = e := by
    rw [he, hs]
    rfl
  rw [a, b, Int32.ofInt_toInt]
  exact h

/-! from 95.g65 -/
/-! the heap by numbers, the class (written by wip/tools/gen18.py) -/
/-! nobody below n -/
def zDe (a : Nat → Nat → Int32) (n : Int) : Nat → Nat → Int32 := fun c k => if (126 ≤ c ∧ c < 1000 ∧ (k : Int) < n) ∨ (1000 ≤ c ∧ (c : Int) - 1000 < n) then 0 else a c k
theorem zDe_0 {a : Nat → Nat → Int32} : zDe a 0 = a := by
  funext c k
  exact if_neg (by omega)
theorem zDe_s {a : Nat → Nat → Int32} {j : Int32} (h0 : 0 ≤ j.toInt) (h1 : j.toInt < 2147483647) : zNo (zDe a j.toInt) j.toNatClampNeg = zDe a (j + 1).toInt := by
  have e := i_p1 h1
  have e2 := tn_cast h0
  funext c k
  show (if (126 ≤ c ∧ c < 1000 ∧ k = j.toNatClampNeg) ∨ c = 1000 + j.toNatClampNeg then 0 else if (126 ≤ c ∧ c < 1000 ∧ (k : Int) < j.toInt) ∨ (1000 ≤ c ∧ (c : Int) - 1000 < j.toInt) then 0 else a c k) = if (126 ≤ c ∧ c < 1000 ∧ (k : Int) < (j + 1).toInt) ∨ (1000 ≤ c ∧ (c : Int) - 1000 < (j + 1).toInt) then 0 else a c k
  by_cases h : (126 ≤ c ∧ c < 1000 ∧ (k : Int) < (j + 1).toInt) ∨ (1000 ≤ c ∧ (c : Int) - 1000 < (j + 1).toInt)
  · rw [if_pos h]
    by_cases h2 : (126 ≤ c ∧ c < 1000 ∧ k = j.toNatClampNeg) ∨ c = 1000 + j.toNatClampNeg
    · rw [if_pos h2]
    · rw [if_neg h2, if_pos (by omega)]
  · rw [if_neg h, if_neg (by omega), if_neg (by omega)]
def aFg (a : Nat → Nat → Int32) : Nat → Nat → Int32 := ma_u (ma_u (ma_u (ma_u (zFl (zFl (zFl (zDe a 512) 71 (-1) 4500) 72 (-1) 16) 73 (-1) 16) 69 5 0) 69 6 0) 69 8 0) 69 11 0
theorem g_276_71_s_0 {X : Nat × (Nat → Int32)} {d w : Nat} {S : ma_S} {Q : Option ma_V ⊕ Nat → ma_S → Prop} (x : Int32) (hd : 0 ≤ d) (hw : 0 ≤ w) (hS : zT S) (h : ma_wp X d w 276 5 [(0, .inr (.inr (some 71))), (1, .inl x), (2, .inl (0 : Int32)), (3, .inl (4500 : Int32))] [] S Q) : ma_wp X d w 276 0 [(0, .inr (.inr (some 71))), (1, .inl x)] [] S Q := by
  refine zw_push hm_276 dJ7_fill_53178_0 (v := .inl (0 : Int32)) rfl ?_
  refine zw_sto hm_276 dJ7_fill_53178_1 [(2, .inl (0 : Int32)), (0, .inr (.inr (some 71))), (1, .inl x)] rfl rfl rfl ?_
  refine zw_push hm_276 dJ7_fill_53178_2 (v := .inr (.inr (some 71))) rfl ?_
  refine zw_len hm_276 dJ7_fill_53178_3 (zT_is hS s_71) (zT_h hS s_71) rfl rfl ?_
  refine zw_sto hm_276 dJ7_fill_53178_4 [(3, .inl (4500 : Int32)), (2, .inl (0 : Int32)), (0, .inr (.inr (some 71))), (1, .inl x)] rfl rfl rfl ?_
  exact zw_sub (ma_nd_of (ks := [0, 1, 2, 3]) rfl (by decide)) (ma_nd_of (ks := [3, 2, 0, 1]) rfl (by decide)) (ma_le_cons rfl (ma_le_cons rfl (ma_le_cons rfl (ma_le_cons rfl (ma_le_nil _))))) h
theorem g_276_71_s_5 {X : Nat × (Nat → Int32)} {d w : Nat} {S : ma_S} {Q : Option ma_V ⊕ Nat → ma_S → Prop} (l1 : Int32) (l2 : Int32) (l3 : Int32) (hd : 0 ≤ d) (hw : 0 ≤ w) (hS : zT S) (h : if l3 ≤ l2 then (Q (.inl none) S) else ((0 ≤ l2 ∧ l2.toNatClampNeg < 4500) ∧ (ma_wp X d w 276 5 [(0, .inr (.inr (some 71))), (1, .inl l1), (2, .inl (l2 + (1 : Int32))), (3, .inl l3)] [] (ma_put S 71 l2.toNatClampNeg (.inl l1)) Q))) : ma_wp X d w 276 5 [(0, .inr (.inr (some 71))), (1, .inl l1), (2, .inl l2), (3, .inl l3)] [] S Q := by
  refine zw_push hm_276 dJ7_fill_53178_5 (v := .inl l2) rfl ?_
  refine zw_push hm_276 dJ7_fill_53178_6 (v := .inl l3) rfl ?_
  refine zw_if2 hm_276 dJ7_fill_53178_7 (t := 20) rfl zc2_ge ?_ ?_
  · intro hc
    rw [if_pos hc] at h
    exact zw_vret hm_276 dJ7_fill_53178_20 h
  · intro hc
    rw [if_neg hc] at h
    refine zw_push hm_276 dJ7_fill_53178_10 (v := .inr (.inr (some 71))) rfl ?_
    refine zw_push hm_276 dJ7_fill_53178_11 (v := .inl l2) rfl ?_
    refine zw_push hm_276 dJ7_fill_53178_12 (v := .inl l1) rfl ?_
    obtain ⟨hg, h⟩ := h
    refine zw_ias hm_276 dJ7_fill_53178_13 (zT_is hS s_71) (zT_h hS s_71) rfl hg ?_
    refine zw_sto hm_276 dJ7_fill_53178_14 [(2, .inl (l2 + (1 : Int32))), (0, .inr (.inr (some 71))), (1, .inl l1), (3, .inl l3)] rfl rfl rfl ?_
    refine zw_goto hm_276 dJ7_fill_53178_17 (t := 5) rfl ?_
    exact zw_sub (ma_nd_of (ks := [0, 1, 2, 3]) rfl (by decide)) (ma_nd_of (ks := [2, 0, 1, 3]) rfl (by decide)) (ma_le_cons rfl (ma_le_cons rfl (ma_le_cons rfl (ma_le_cons rfl (ma_le_nil _))))) h
theorem lp_276_71_s_5 {X : Nat × (Nat → Int32)} {d w : Nat} {f : Nat → Nat → Int32} {r : Nat → Nat → Option Nat} {C Z N : Nat} {Q : Option ma_V ⊕ Nat → ma_S → Prop} {ab : Nat→Nat→Int32} {x : Int32} (hd : 0 ≤ d) (hw : 0 ≤ w) (K : ∀ S₉, zI f r C Z N S₉ → (xB S₉ (mR S₉ 70)) → (aS 88 S₉ = zFl ab 71 x 4500) → Q (.inl none) S₉) : ∀ (n : Nat) (S : ma_S) (l1 : Int32) (l2 : Int32) (l3 : Int32), (l3.toInt - l2.toInt).toNat = n → zI f r C Z N S → (0 ≤ l2.toInt) → (l3.toInt = 4500) → (l2.toInt ≤ 4500) → (xB S (mR S 70)) → (aS 88 S = zFl ab 71 l1 l2.toInt) → (l1 = x) → ma_wp X d w 276 5 [(0, .inr (.inr (some 71))), (1, .inl l1), (2, .inl l2), (3, .inl l3)] [] S Q := by
  intro n
  induction n using Nat.strongRecOn with
  | _ n IH =>
    intro S l1 l2 l3 hmu hI  hi0 hi1 hi2 hi3 hi4 hi5
    refine g_276_71_s_5 l1 l2 l3 (by omega) (by omega) (zG_T hI) ?_
    have b1 := i_bd l3
    have b2 := i_bd l2
    refine zd (fun h3 => ?_) (fun h3 => ?_)
    · skip
      have g4 := i_le h3
      exact K _ hI (show xB S (mR S 70) from by first | (exact xB_x (xC_o (W := 75) hi3).2)) (show aS 88 S = zFl ab 71 x 4500 from by first | (rw [hi4, show l2.toInt = 4500 from by omega, hi5]))
    · skip
      have g5 := i_nle h3
      refine ⟨i_ix (by omega) (by omega), ?_⟩
      have hI6 : zI f r C Z N (ma_put S 71 l2.toNatClampNeg (.inl l1)) := zG_fa hI rfl (by decide) (by decide) (by decide) trivial
      have b7 := i_bd l1
      first | have e8 : (l2 + (1 : Int32)).toInt = l2.toInt + (1) := i_addk rfl (by omega) (by omega) | have b9 := i_bd (l2 + (1 : Int32))
      exact IH _ (by omega) _ (l1) ((l2 + (1 : Int32))) (l3) rfl hI6 (by omega) (by omega) (by omega) (show xB (ma_put S 71 l2.toNatClampNeg (.inl l1)) (mR (ma_put S 71 l2.toNatClampNeg (.inl l1)) 70) from by first | (exact xB_x (xC_p (c := 71) (k := l2.toNatClampNeg) (x := l1) (xC_o (W := 75) hi3) 71 xW75 rfl rfl).2)) (show aS 88 (ma_put S 71 l2.toNatClampNeg (.inl l1)) = zFl ab 71 (l1) ((l2 + (1 : Int32))).toInt from by first | (refine (xC_p (c := 71) (k := l2.toNatClampNeg) (x := l1) (xC_o (W := 88) hi3) 71 xW88 rfl rfl).1.trans ?_; skip; rw [hi4]; exact zFl_s (by omega) (by omega))) (show (l1) = x from by first | (exact rfl) | (exact hi5))
theorem sp_276_71_s {X : Nat × (Nat → Int32)} {d w : Nat} {f : Nat → Nat → Int32} {r : Nat → Nat → Option Nat} {C Z N : Nat} {Q : Option ma_V ⊕ Nat → ma_S → Prop} {ab : Nat→Nat→Int32} {S : ma_S} (x : Int32) (hd : 0 ≤ d) (hw : 0 ≤ w) (hI : zI f r C Z N S) (hpre0 : xB S (mR S 70)) (hpre1 : aS 88 S = ab) (K : ∀ S₉, zI f r C Z N S₉ → (xB S₉ (mR S₉ 70)) → (aS 88 S₉ = zFl ab 71 x 4500) → Q (.inl none) S₉) : ma_wp X d w 276 0 [(0, .inr (.inr (some 71))), (1, .inl x)] [] S Q := by
  refine g_276_71_s_0 x (by omega) (by omega) (zG_T hI) ?_
  have b1 := i_bd x
  have li2 : (0 : Int32).toInt = 0 := rfl
  have li3 : (4500 : Int32).toInt = 4500 := rfl
  exact lp_276_71_s_5 (by omega) (by omega) K _ _ (x) ((0 : Int32)) ((4500 : Int32)) rfl hI (by omega) (by omega) (by omega) (show xB S (mR S 70) from by first | (exact xB_x (xC_o (W := 75) hpre0).2)) (show aS 88 S = zFl ab 71 (x) ((0 : Int32)).toInt from by first | (rw [hpre1]; exact zFl_0.symm)) (show (x) = x from by first | (exact rfl))
theorem g_276_72_s_0 {X : Nat × (Nat → Int32)} {d w : Nat} {S : ma_S} {Q : Option ma_V ⊕ Nat → ma_S → Prop} (x : Int32) (hd : 0 ≤ d) (hw : 0 ≤ w) (hS : zT S) (h : ma_wp X d w 276 5 [(0, .inr (.inr (some 72))), (1, .inl x), (2, .inl (0 : Int32)), (3, .inl (16 : Int32))] [] S Q) : ma_wp X d w 276 0 [(0, .inr (.inr (some 72))), (1, .inl x)] [] S Q := by
  refine zw_push hm_276 dJ7_fill_53178_0 (v := .inl (0 : Int32)) rfl ?_
  refine zw_sto hm_276 dJ7_fill_53178_1 [(2, .inl (0 : Int32)), (0, .inr (.inr (some 72))), (1, .inl x)] rfl rfl rfl ?_
  refine zw_push hm_276 dJ7_fill_53178_2 (v := .inr (.inr (some 72))) rfl ?_
  refine zw_len hm_276 dJ7_fill_53178_3 (zT_is hS s_72) (zT_h hS s_72) rfl rfl ?_
  refine zw_sto hm_276 dJ7_fill_53178_4 [(3, .inl (16 : Int32)), (2, .inl (0 : Int32)), (0, .inr (.inr (some 72))), (1, .inl x)] rfl rfl rfl ?_
  exact zw_sub (ma_nd_of (ks := [0, 1, 2, 3]) rfl (by decide)) (ma_nd_of (ks := [3, 2, 0, 1]) rfl (by decide)) (ma_le_cons rfl (ma_le_cons rfl (ma_le_cons rfl (ma_le_cons rfl (ma_le_nil _))))) h
theorem g_276_72_s_5 {X : Nat × (Nat → Int32)} {d w : Nat} {S : ma_S} {Q : Option ma_V ⊕ Nat → ma_S → Prop} (l1 : Int32) (l2 : Int32) (l3 : Int32) (hd : 0 ≤ d) (hw : 0 ≤ w) (hS : zT S) (h : if l3 ≤ l2 then (Q (.inl none) S) else ((0 ≤ l2 ∧ l2.toNatClampNeg < 16) ∧ (ma_wp X d w 276 5 [(0, .inr (.inr (some 72))), (1, .inl l1), (2, .inl (l2 + (1 : Int32))), (3, .inl l3)] [] (ma_put S 72 l2.toNatClampNeg (.inl l1)) Q))) : ma_wp X d w 276 5 [(0, .inr (.inr (some 72))), (1, .inl l1), (2, .inl l2), (3, .inl l3)] [] S Q := by
  refine zw_push hm_276 dJ7_fill_53178_5 (v := .inl l2) rfl ?_
  refine zw_push hm_276 dJ7_fill_53178_6 (v := .inl l3) rfl ?_
  refine zw_if2 hm_276 dJ7_fill_53178_7 (t := 20) rfl zc2_ge ?_ ?_
  · intro hc
    rw [if_pos hc] at h
    exact zw_vret hm_276 dJ7_fill_53178_20 h
  · intro hc
    rw [if_neg hc] at h
    refine zw_push hm_276 dJ7_fill_53178_10 (v := .inr (.inr (some 72))) rfl ?_
    refine zw_push hm_276 dJ7_fill_53178_11 (v := .inl l2) rfl ?_
    refine zw_push hm_276 dJ7_fill_53178_12 (v := .inl l1) rfl ?_
    obtain ⟨hg, h⟩ := h
    refine zw_ias hm_276 dJ7_fill_53178_13 (zT_is hS s_72) (zT_h hS s_72) rfl hg ?_
    refine zw_sto hm_276 dJ7_fill_53178_14 [(2, .inl (l2 + (1 : Int32))), (0, .inr (.inr (some 72))), (1, .inl l1), (3, .inl l3)] rfl rfl rfl ?_
    refine zw_goto hm_276 dJ7_fill_53178_17 (t := 5) rfl ?_
    exact zw_sub (ma_nd_of (ks := [0, 1, 2, 3]) rfl (by decide)) (ma_nd_of (ks := [2, 0, 1, 3]) rfl (by decide)) (ma_le_cons rfl (ma_le_cons rfl (ma_le_cons rfl (ma_le_cons rfl (ma_le_nil _))))) h
theorem lp_276_72_s_5 {X : Nat × (Nat → Int32)} {d w : Nat} {f : Nat → Nat → Int32} {r : Nat → Nat → Option Nat} {C Z N : Nat} {Q : Option ma_V ⊕ Nat → ma_S → Prop} {ab : Nat→Nat→Int32} {x : Int32} (hd : 0 ≤ d) (hw : 0 ≤ w) (K : ∀ S₉, zI f r C Z N S₉ → (xB S₉ (mR S₉ 70)) → (aS 88 S₉ = zFl ab 72 x 16) → Q (.inl none) S₉) : ∀ (n : Nat) (S : ma_S) (l1 : Int32) (l2 : Int32) (l3 : Int32), (l3.toInt - l2.toInt).toNat = n → zI f r C Z N S → (0 ≤ l2.toInt) → (l3.toInt = 16) → (l2.toInt ≤ 16) → (xB S (mR S 70)) → (aS 88 S = zFl ab 72 l1 l2.toInt) → (l1 = x) → ma_wp X d w 276 5 [(0, .inr (.inr (some 72))), (1, .inl l1), (2, .inl l2), (3, .inl l3)] [] S Q := by
  intro n
  induction n using Nat.strongRecOn with
  | _ n IH =>
    intro S l1 l2 l3 hmu hI  hi0 hi1 hi2 hi3 hi4 hi5
    refine g_276_72_s_5 l1 l2 l3 (by omega) (by omega) (zG_T hI) ?_
    have b1 := i_bd l3
    have b2 := i_bd l2
    refine zd (fun h3 => ?_) (fun h3 => ?_)
    · skip
      have g4 := i_le h3
      exact K _ hI (show xB S (mR S 70) from by first | (exact xB_x (xC_o (W := 75) hi3).2)) (show aS 88 S = zFl ab 72 x 16 from by first | (rw [hi4, show l2.toInt = 16 from by omega, hi5]))
    · skip
      have g5 := i_nle h3
      refine ⟨i_ix (by omega) (by omega), ?_⟩
      have hI6 : zI f r C Z N (ma_put S 72 l2.toNatClampNeg (.inl l1)) := zG_fa hI rfl (by decide) (by decide) (by decide) trivial
      have b7 := i_bd l1
      first | have e8 : (l2 + (1 : Int32)).toInt = l2.toInt + (1) := i_addk rfl (by omega) (by omega) | have b9 := i_bd (l2 + (1 : Int32))
      exact IH _ (by omega) _ (l1) ((l2 + (1 : Int32))) (l3) rfl hI6 (by omega) (by omega) (by omega) (show xB (ma_put S 72 l2.toNatClampNeg (.inl l1)) (mR (ma_put S 72 l2.toNatClampNeg (.inl l1)) 70) from by first | (exact xB_x (xC_p (c := 72) (k := l2.toNatClampNeg) (x := l1) (xC_o (W := 75) hi3) 72 xW75 rfl rfl).2)) (show aS 88 (ma_put S 72 l2.toNatClampNeg (.inl l1)) = zFl ab 72 (l1) ((l2 + (1 : Int32))).toInt from by first | (refine (xC_p (c := 72) (k := l2.toNatClampNeg) (x := l1) (xC_o (W := 88) hi3) 72 xW88 rfl rfl).1.trans ?_; skip; rw [hi4]; exact zFl_s (by omega) (by omega))) (show (l1) = x from by first | (exact rfl) | (exact hi5))
theorem sp_276_72_s {X : Nat × (Nat → Int32)} {d w : Nat} {f : Nat → Nat → Int32} {r : Nat → Nat → Option Nat} {C Z N : Nat} {Q : Option ma_V ⊕ Nat → ma_S → Prop} {ab : Nat→Nat→Int32} {S : ma_S} (x : Int32) (hd : 0 ≤ d) (hw : 0 ≤ w) (hI : zI f r C Z N S) (hpre0 : xB S (mR S 70)) (hpre1 : aS 88 S = ab) (K : ∀ S₉, zI f r C Z N S₉ → (xB S₉ (mR S₉ 70)) → (aS 88 S₉ = zFl ab 72 x 16) → Q (.inl none) S₉) : ma_wp X d w 276 0 [(0, .inr (.inr (some 72))), (1, .inl x)] [] S Q := by
  refine g_276_72_s_0 x (by omega) (by omega) (zG_T hI) ?_
  have b1 := i_bd x
  have li2 : (0 : Int32).toInt = 0 := rfl
  have li3 : (16 : Int32).toInt = 16 := rfl
  exact lp_276_72_s_5 (by omega) (by omega) K _ _ (x) ((0 : Int32)) ((16 : Int32)) rfl hI (by omega) (by omega) (by omega) (show xB S (mR S 70) from by first | (exact xB_x (xC_o (W := 75) hpre0).2)) (show aS 88 S = zFl ab 72 (x) ((0 : Int32)).toInt from by first | (rw [hpre1]; exact zFl_0.symm)) (show (x) = x from by first | (exact rfl))
theorem g_276_73_s_0 {X : Nat × (Nat → Int32)} {d w : Nat} {S : ma_S} {Q : Option ma_V ⊕ Nat → ma_S → Prop} (x : Int32) (hd : 0 ≤ d) (hw : 0 ≤ w) (hS : zT S) (h : ma_wp X d w 276 5 [(0, .inr (.inr (some 73))), (1, .inl x), (2, .inl (0 : Int32)), (3, .inl (16 : Int32))] [] S Q) : ma_wp X d w 276 0 [(0, .inr (.inr (some 73))), (1, .inl x)] [] S Q := by
  refine zw_push hm_276 dJ7_fill_53178_0 (v := .inl (0 : Int32)) rfl ?_
  refine zw_sto hm_276 dJ7_fill_53178_1 [(2, .inl (0 : Int32)), (0, .inr (.inr (some 73))), (1, .inl x)] rfl rfl rfl ?_
  refine zw_push hm_276 dJ7_fill_53178_2 (v := .inr (.inr (some 73))) rfl ?_
  refine zw_len hm_276 dJ7_fill_53178_3 (zT_is hS s_73) (zT_h hS s_73) rfl rfl ?_
  refine zw_sto hm_276 dJ7_fill_53178_4 [(3, .inl (16 : Int32)), (2, .inl (0 : Int32)), (0, .inr (.inr (some 73))), (1, .inl x)] rfl rfl rfl ?_
  exact zw_sub (ma_nd_of (ks := [0, 1, 2, 3]) rfl (by decide)) (ma_nd_of (ks := [3, 2, 0, 1]) rfl (by decide)) (ma_le_cons rfl (ma_le_cons rfl (ma_le_cons rfl (ma_le_cons rfl (ma_le_nil _))))) h
theorem g_276_73_s_5 {X : Nat × (Nat → Int32)} {d w : Nat} {S : ma_S} {Q : Option ma_V ⊕ Nat → ma_S → Prop} (l1 : Int32) (l2 : Int32) (l3 : Int32) (hd : 0 ≤ d) (hw : 0 ≤ w) (hS : zT S) (h : if l3 ≤ l2 then (Q (.inl none) S) else ((0 ≤ l2 ∧ l2.toNatClampNeg < 16) ∧ (ma_wp X d w 276 5 [(0, .inr (.inr (some 73))), (1, .inl l1), (2, .inl (l2 + (1 : Int32))), (3, .inl l3)] [] (ma_put S 73 l2.toNatClampNeg (.inl l1)) Q))) : ma_wp X d w 276 5 [(0, .inr (.inr (some 73))), (1, .inl l1), (2, .inl l2), (3, .inl l3)] [] S Q := by
  refine zw_push hm_276 dJ7_fill_53178_5 (v := .inl l2) rfl ?_
  refine zw_push hm_276 dJ7_fill_53178_6 (v := .inl l3) rfl ?_
  refine zw_if2 hm_276 dJ7_fill_53178_7 (t := 20) rfl zc2_ge ?_ ?_
  · intro hc
    rw [if_pos hc] at h
    exact zw_vret hm_276 dJ7_fill_53178_20 h
  · intro hc
    rw [if_neg hc] at h
    refine zw_push hm_276 dJ7_fill_53178_10 (v := .inr (.inr (some 73))) rfl ?_
    refine zw_push hm_276 dJ7_fill_53178_11 (v := .inl l2) rfl ?_
    refine zw_push hm_276 dJ7_fill_53178_12 (v := .inl l1) rfl ?_
    obtain ⟨hg, h⟩ := h
    refine zw_ias hm_276 dJ7_fill_53178_13 (zT_is hS s_73) (zT_h hS s_73) rfl hg ?_
    refine zw_sto hm_276 dJ7_fill_53178_14 [(2, .inl (l2 + (1 : Int32))), (0, .inr (.inr (some 73))), (1, .inl l1), (3, .inl l3)] rfl rfl rfl ?_
    refine zw_goto hm_276 dJ7_fill_53178_17 (t := 5) rfl ?_
    exact zw_sub (ma_nd_of (ks := [0, 1, 2, 3]) rfl (by decide)) (ma_nd_of (ks := [2, 0, 1, 3]) rfl (by decide)) (ma_le_cons rfl (ma_le_cons rfl (ma_le_cons rfl (ma_le_cons rfl (ma_le_nil _))))) h
theorem lp_276_73_s_5 {X : Nat × (Nat → Int32)} {d w : Nat} {f : Nat → Nat → Int32} {r : Nat → Nat → Option Nat} {C Z N : Nat} {Q : Option ma_V ⊕ Nat → ma_S → Prop} {ab : Nat→Nat→Int32} {x : Int32} (hd : 0 ≤ d) (hw : 0 ≤ w) (K : ∀ S₉, zI f r C Z N S₉ → (xB S₉ (mR S₉ 70)) → (aS 88 S₉ = zFl ab 73 x 16) → Q (.inl none) S₉) : ∀ (n : Nat) (S : ma_S) (l1 : Int32) (l2 : Int32) (l3 : Int32), (l3.toInt - l2.toInt).toNat = n → zI f r C Z N S → (0 ≤ l2.toInt) → (l3.toInt = 16) → (l2.toInt ≤ 16) → (xB S (mR S 70)) → (aS 88 S = zFl ab 73 l1 l2.toInt) → (l1 = x) → ma_wp X d w 276 5 [(0, .inr (.inr (some 73))), (1, .inl l1), (2, .inl l2), (3, .inl l3)] [] S Q := by
  intro n
  induction n using Nat.strongRecOn with
  | _ n IH =>
    intro S l1 l2 l3 hmu hI  hi0 hi1 hi2 hi3 hi4 hi5
    refine g_276_73_s_5 l1 l2 l3 (by omega) (by omega) (zG_T hI) ?_
    have b1 := i_bd l3
    have b2 := i_bd l2
    refine zd (fun h3 => ?_) (fun h3 => ?_)
    · skip
      have g4 := i_le h3
      exact K _ hI (show xB S (mR S 70) from by first | (exact xB_x (xC_o (W := 75) hi3).2)) (show aS 88 S = zFl ab 73 x 16 from by first | (rw [hi4, show l2.toInt = 16 from by omega, hi5]))
    · skip
      have g5 := i_nle h3
      refine ⟨i_ix (by omega) (by omega), ?_⟩
      have hI6 : zI f r C Z N (ma_put S 73 l2.toNatClampNeg (.inl l1)) := zG_fa hI rfl (by decide) (by decide) (by decide) trivial
      have b7 := i_bd l1
      first | have e8 : (l2 + (1 : Int32)).toInt = l2.toInt + (1) := i_addk rfl (by omega) (by omega) | have b9 := i_bd (l2 + (1 : Int32))
      exact IH _ (by omega) _ (l1) ((l2 + (1 : Int32))) (l3) rfl hI6 (by omega) (by omega) (by omega) (show xB (ma_put S 73 l2.toNatClampNeg (.inl l1)) (mR (ma_put S 73 l2.toNatClampNeg (.inl l1)) 70) from by first | (exact xB_x (xC_p (c := 73) (k := l2.toNatClampNeg) (x := l1) (xC_o (W := 75) hi3) 73 xW75 rfl rfl).2)) (show aS 88 (ma_put S 73 l2.toNatClampNeg (.inl l1)) = zFl ab 73 (l1) ((l2 + (1 : Int32))).toInt from by first | (refine (xC_p (c := 73) (k := l2.toNatClampNeg) (x := l1) (xC_o (W := 88) hi3) 73 xW88 rfl rfl).1.trans ?_; skip; rw [hi4]; exact zFl_s (by omega) (by omega))) (show (l1) = x from by first | (exact rfl) | (exact hi5))
theorem sp_276_73_s {X : Nat × (Nat → Int32)} {d w : Nat} {f : Nat → Nat → Int32} {r : Nat → Nat → Option Nat} {C Z N : Nat} {Q : Option ma_V ⊕ Nat → ma_S → Prop} {ab : Nat→Nat→Int32} {S : ma_S} (x : Int32) (hd : 0 ≤ d) (hw : 0 ≤ w) (hI : zI f r C Z N S) (hpre0 : xB S (mR S 70)) (hpre1 : aS 88 S = ab) (K : ∀ S₉, zI f r C Z N S₉ → (xB S₉ (mR S₉ 70)) → (aS 88 S₉ = zFl ab 73 x 16) → Q (.inl none) S₉) : ma_wp X d w 276 0 [(0, .inr (.inr (some 73))), (1, .inl x)] [] S Q := by
  refine g_276_73_s_0 x (by omega) (by omega) (zG_T hI) ?_
  have b1 := i_bd x
  have li2 : (0 : Int32).toInt = 0 := rfl
  have li3 : (16 : Int32).toInt = 16 := rfl
  exact lp_276_73_s_5 (by omega) (by omega) K _ _ (x) ((0 : Int32)) ((16 : Int32)) rfl hI (by omega) (by omega) (by omega) (show xB S (mR S 70) from by first | (exact xB_x (xC_o (W := 75) hpre0).2)) (show aS 88 S = zFl ab 73 (x) ((0 : Int32)).toInt from by first | (rw [hpre1]; exact zFl_0.symm)) (show (x) = x from by first | (exact rfl))

/-! from 95.g66 -/
/-! the heap by numbers, the class (written by wip/tools/gen18.py) -/
def aO1 (a : Nat → Nat → Int32) (t : Nat → Int32) : Nat → Nat → Int32 := ma_u (ma_u (ma_u a 87 0 (t 0)) 87 1 (t 1)) 87 2 0
def aO2 (a : Nat → Nat → Int32) (t : Nat → Int32) : Nat → Nat → Int32 := ma_u (ma_u (ma_u (aO1 a t) 87 6 (t 2)) 87 7 (t 3)) 87 8 0
theorem g_100_87_66_s_0 {X : Nat × (Nat → Int32)} {d w : Nat} {S : ma_S} {Q : Option ma_V ⊕ Nat → ma_S → Prop}  (hd : 0 ≤ d) (hw : 0 ≤ w) (hS : zT S) (h : Q (.inl none) (ma_put (ma_put (ma_put S 87 0 (.inl (mI S 66 0))) 87 1 (.inl (mI S 66 1))) 87 2 (.inl (0 : Int32)))) : ma_wp X d w 100 0 [(0, .inr (.inr (some 87))), (1, .inr (.inr (some 66)))] [] S Q := by
  refine zw_push hm_100 dX8_open_0 (v := .inr (.inr (some 87))) rfl ?_
  refine zw_push hm_100 dX8_open_1 (v := .inr (.inr (some 66))) rfl ?_
  refine zw_push hm_100 dX8_open_2 (v := .inl (0 : Int32)) rfl ?_
  refine zw_ia hm_100 dX8_open_3 (zT_is hS s_66) (zT_h hS s_66) rfl ⟨by decide, by decide⟩ ?_
  show ma_wp X d w 100 4 [(0, .inr (.inr (some 87))), (1, .inr (.inr (some 66)))] [.inl (mI S 66 0), .inr (.inr (some 87))] S _
  refine zw_pf hm_100 dX8_open_4 (zT_is hS s_87) (zT_t hS s_87) p_8_9_6 zk_int ?_
  refine zw_push hm_100 dX8_open_7 (v := .inr (.inr (some 87))) rfl ?_
  refine zw_push hm_100 dX8_open_8 (v := .inr (.inr (some 66))) rfl ?_
  refine zw_push hm_100 dX8_open_9 (v := .inl (1 : Int32)) rfl ?_
  refine zw_ia hm_100 dX8_open_10 (zT_is (zT_pi hS) s_66) (zT_h (zT_pi hS) s_66) rfl ⟨by decide, by decide⟩ ?_
  show ma_wp X d w 100 11 [(0, .inr (.inr (some 87))), (1, .inr (.inr (some 66)))] [.inl (mI S 66 1), .inr (.inr (some 87))] (ma_put S 87 0 (.inl (mI S 66 0))) _
  refine zw_pf hm_100 dX8_open_11 (zT_is (zT_pi hS) s_87) (zT_t (zT_pi hS) s_87) p_8_15_6 zk_int ?_
  refine zw_push hm_100 dX8_open_14 (v := .inr (.inr (some 87))) rfl ?_
  refine zw_push hm_100 dX8_open_15 (v := .inl (0 : Int32)) rfl ?_
  refine zw_pf hm_100 dX8_open_16 (zT_is (zT_pi (zT_pi hS)) s_87) (zT_t (zT_pi (zT_pi hS)) s_87) p_8_18_6 zk_int ?_
  exact zw_vret hm_100 dX8_open_19 h
theorem sp_100_87_66_s {X : Nat × (Nat → Int32)} {d w : Nat} {f : Nat → Nat → Int32} {r : Nat → Nat → Option Nat} {C Z N : Nat} {Q : Option ma_V ⊕ Nat → ma_S → Prop} {ab : Nat→Nat→Int32} {S : ma_S}  (hd : 0 ≤ d) (hw : 0 ≤ w) (hI : zJ87 f r C Z N S) (hpre0 : 0 ≤ (mI S 66 0).toInt ∧ (mI S 66 0).toInt ≤ 1500) (hpre1 : xB S (mR S 70)) (hpre2 : aS 88 S = ab) (K : ∀ S₉, zJ87 f r C Z N S₉ → (xB S₉ (mR S₉ 70)) → (aS 88 S₉ = aO1 ab (f 66)) → Q (.inl none) S₉) : ma_wp X d w 100 0 [(0, .inr (.inr (some 87))), (1, .inr (.inr (some 66)))] [] S Q := by
  refine g_100_87_66_s_0  (by omega) (by omega) (zG_T hI) ?_
  have q1 : (mI S 66 0).toInt = (f 66 0).toInt := zG_zi hI rfl
  have b2 := i_bd (mI S 66 0)
  have hI3 : zJ87 f r C Z N (ma_put S 87 0 (.inl (mI S 66 0))) := zG_sp hI (0) (1500) rfl (by decide) (by decide) (by decide) trivial (by omega) (by omega)
  have hI4 : zJ87 f r C Z N (ma_put (ma_put S 87 0 (.inl (mI S 66 0))) 87 1 (.inl (mI S 66 1))) := zG_fr hI3 rfl (by decide) (by decide) (by decide) trivial
  have li6 : (0 : Int32).toInt = 0 := rfl
  have hI5 : zJ87 f r C Z N (ma_put (ma_put (ma_put S 87 0 (.inl (mI S 66 0))) 87 1 (.inl (mI S 66 1))) 87 2 (.inl (0 : Int32))) := zG_sp hI4 (0) (400000) rfl (by decide) (by decide) (by decide) trivial (by omega) (by omega)
  exact K _ hI5 (show xB (ma_put (ma_put (ma_put S 87 0 (.inl (mI S 66 0))) 87 1 (.inl (mI S 66 1))) 87 2 (.inl (0 : Int32))) (mR (ma_put (ma_put (ma_put S 87 0 (.inl (mI S 66 0))) 87 1 (.inl (mI S 66 1))) 87 2 (.inl (0 : Int32))) 70) from by first | (exact xB_x (xC_p (c := 87) (k := 2) (x := (0 : Int32)) (xC_p (c := 87) (k := 1) (x := (mI S 66 1)) (xC_p (c := 87) (k := 0) (x := (mI S 66 0)) (xC_o (W := 75) hpre1) 87 xW75 rfl rfl) 87 xW75 rfl rfl) 87 xW75 rfl rfl).2)) (show aS 88 (ma_put (ma_put (ma_put S 87 0 (.inl (mI S 66 0))) 87 1 (.inl (mI S 66 1))) 87 2 (.inl (0 : Int32))) = aO1 ab (f 66) from by first | (refine (xC_p (c := 87) (k := 2) (x := (0 : Int32)) (xC_p (c := 87) (k := 1) (x := (mI S 66 1)) (xC_p (c := 87) (k := 0) (x := (mI S 66 0)) (xC_o (W := 88) hpre1) 87 xW88 rfl rfl) 87 xW88 rfl rfl) 87 xW88 rfl rfl).1.trans ?_; rw [hpre2, show mI S 66 0 = f 66 0 from zG_z hI rfl, show mI S 66 1 = f 66 1 from zG_z hI rfl]; rfl))
theorem g_66_87_66_s_0 {X : Nat × (Nat → Int32)} {d w : Nat} {S : ma_S} {Q : Option ma_V ⊕ Nat → ma_S → Prop}  (hd : 1 ≤ d) (hw : 21 ≤ w) (hS : zT S) (h : ma_wp X (d - 1) (w - 21) 100 0 [(0, .inr (.inr (some 87))), (1, .inr (.inr (some 66)))] [] S (zv (fun S1 => zT S1 ∧ (Q (.inl none) (ma_put (ma_put (ma_put S1 87 6 (.inl (mI S1 66 2))) 87 7 (.inl (mI S1 66 3))) 87 8 (.inl (0 : Int32))))) (fun _ _ => False))) : ma_wp X d w 66 0 [(0, .inr (.inr (some 87))), (1, .inr (.inr (some 66)))] [] S Q := by
  refine zw_push hm_66 dX6_open_0 (v := .inr (.inr (some 87))) rfl ?_
  refine zw_push hm_66 dX6_open_1 (v := .inr (.inr (some 66))) rfl ?_
  refine zw_csp hm_66 dX6_open_2 ip_6_20 il_6_20 hm_100 [.inr (.inr (some 66))] [] rfl (zT_is hS s_87) (by rw [(zT_t hS s_87)]; decide) ⟨by omega, by omega⟩ rfl (zw_mono h (zv_go ?_ ?_))
  · intro S1 hv
    obtain ⟨hS1, h⟩ := hv
    refine zw_push hm_66 dX6_open_5 (v := .inr (.inr (some 87))) rfl ?_
    refine zw_push hm_66 dX6_open_6 (v := .inr (.inr (some 66))) rfl ?_
    refine zw_push hm_66 dX6_open_7 (v := .inl (2 : Int32)) rfl ?_
    refine zw_ia hm_66 dX6_open_8 (zT_is hS1 s_66) (zT_h hS1 s_66) rfl ⟨by decide, by decide⟩ ?_
    show ma_wp X d w 66 9 [(0, .inr (.inr (some 87))), (1, .inr (.inr (some 66)))] [.inl (mI S1 66 2), .inr (.inr (some 87))] S1 _
    refine zw_pf hm_66 dX6_open_9 (zT_is hS1 s_87) (zT_t hS1 s_87) p_6_24_6 zk_int ?_
    refine zw_push hm_66 dX6_open_12 (v := .inr (.inr (some 87))) rfl ?_
    refine zw_push hm_66 dX6_open_13 (v := .inr (.inr (some 66))) rfl ?_
    refine zw_push hm_66 dX6_open_14 (v := .inl (3 : Int32)) rfl ?_
    refine zw_ia hm_66 dX6_open_15 (zT_is (zT_pi hS1) s_66) (zT_h (zT_pi hS1) s_66) rfl ⟨by decide, by decide⟩ ?_
    show ma_wp X d w 66 16 [(0, .inr (.inr (some 87))), (1, .inr (.inr (some 66)))] [.inl (mI S1 66 3), .inr (.inr (some 87))] (ma_put S1 87 6 (.inl (mI S1 66 2))) _
    refine zw_pf hm_66 dX6_open_16 (zT_is (zT_pi hS1) s_87) (zT_t (zT_pi hS1) s_87) p_6_28_6 zk_int ?_
    refine zw_push hm_66 dX6_open_19 (v := .inr (.inr (some 87))) rfl ?_
    refine zw_push hm_66 dX6_open_20 (v := .inl (0 : Int32)) rfl ?_
    refine zw_pf hm_66 dX6_open_21 (zT_is (zT_pi (zT_pi hS1)) s_87) (zT_t (zT_pi (zT_pi hS1)) s_87) p_6_31_6 (zk_bool (by decide)) ?_
    exact zw_vret hm_66 dX6_open_24 h
  · intro x S9 hx
    exact hx.elim
theorem sp_66_87_66_s {X : Nat × (Nat → Int32)} {d w : Nat} {f : Nat → Nat → Int32} {r : Nat → Nat → Option Nat} {C Z N : Nat} {Q : Option ma_V ⊕ Nat → ma_S → Prop} {ab : Nat→Nat→Int32} {S : ma_S}  (hd : 1 ≤ d) (hw : 21 ≤ w) (hI : zJ87 f r C Z N S) (hpre0 : 0 ≤ (mI S 66 0).toInt ∧ (mI S 66 0).toInt ≤ 1500 ∧ -1 ≤ (mI S 66 2).toInt ∧ (mI S 66 2).toInt ≤ 1500) (hpre1 : xB S (mR S 70)) (hpre2 : aS 88 S = ab) (K : ∀ S₉, zJ87 f r C Z N S₉ → (xB S₉ (mR S₉ 70)) → (aS 88 S₉ = aO2 ab (f 66)) → Q (.inl none) S₉) : ma_wp X d w 66 0 [(0, .inr (.inr (some 87))), (1, .inr (.inr (some 66)))] [] S Q := by
  refine g_66_87_66_s_0  (by omega) (by omega) (zG_T hI) ?_
  have q1 : (mI S 66 0).toInt = (f 66 0).toInt := zG_zi hI rfl
  have b2 := i_bd (mI S 66 0)
  have q3 : (mI S 66 2).toInt = (f 66 2).toInt := zG_zi hI rfl
  have b4 := i_bd (mI S 66 2)
  refine sp_100_87_66_s (ab := (aS 88 S)) (by omega) (by omega) hI (show 0 ≤ (mI S 66 0).toInt ∧ (mI S 66 0).toInt ≤ 1500 from by omega) (show xB S (mR S 70) from by first | (exact xB_x (xC_o (W := 75) hpre1).2)) (show aS 88 S = (aS 88 S) from by first | (exact rfl)) (fun S1 hI_S1 rp0_S1 rp1_S1 => zv_n ⟨zG_T hI_S1, ?_⟩)
  have rp0_S1 : xB S1 (mR S1 70) := rp0_S1
  have rp1_S1 : aS 88 S1 = aO1 (aS 88 S) (f 66) := rp1_S1
  have q6 : (mI S1 66 2).toInt = (f 66 2).toInt := zG_zi hI_S1 rfl
  have b7 := i_bd (mI S1 66 2)
  have hI5 : zJ87 f r C Z N (ma_put S1 87 6 (.inl (mI S1 66 2))) := zG_sp hI_S1 (-1) (1500) rfl (by decide) (by decide) (by decide) trivial (by omega) (by omega)
  have hI8 : zJ87 f r C Z N (ma_put (ma_put S1 87 6 (.inl (mI S1 66 2))) 87 7 (.inl (mI S1 66 3))) := zG_fr hI5 rfl (by decide) (by decide) (by decide) trivial
  have li10 : (0 : Int32).toInt = 0 := rfl
  have hI9 : zJ87 f r C Z N (ma_put (ma_put (ma_put S1 87 6 (.inl (mI S1 66 2))) 87 7 (.inl (mI S1 66 3))) 87 8 (.inl (0 : Int32))) := zG_sp hI8 (0) (1) rfl (by decide) (by decide) (by decide) trivial (by omega) (by omega)
  exact K _ hI9 (show xB (ma_put (ma_put (ma_put S1 87 6 (.inl (mI S1 66 2))) 87 7 (.inl (mI S1 66 3))) 87 8 (.inl (0 : Int32))) (mR (ma_put (ma_put (ma_put S1 87 6 (.inl (mI S1 66 2))) 87 7 (.inl (mI S1 66 3))) 87 8 (.inl (0 : Int32))) 70) from by first | (exact xB_x (xC_p (c := 87) (k := 8) (x := (0 : Int32)) (xC_p (c := 87) (k := 7) (x := (mI S1 66 3)) (xC_p (c := 87) (k := 6) (x := (mI S1 66 2)) (xC_o (W := 75) rp0_S1) 87 xW75 rfl rfl) 87 xW75 rfl rfl) 87 xW75 rfl rfl).2)) (show aS 88 (ma_put (ma_put (ma_put S1 87 6 (.inl (mI S1 66 2))) 87 7 (.inl (mI S1 66 3))) 87 8 (.inl (0 : Int32))) = aO2 ab (f 66) from by first | (refine (xC_p (c := 87) (k := 8) (x := (0 : Int32)) (xC_p (c := 87) (k := 7) (x := (mI S1 66 3)) (xC_p (c := 87) (k := 6) (x := (mI S1 66 2)) (xC_o (W := 88) rp0_S1) 87 xW88 rfl rfl) 87 xW88 rfl rfl) 87 xW88 rfl rfl).1.trans ?_; rw [rp1_S1, hpre2, show mI S1 66 2 = f 66 2 from zG_z hI_S1 rfl, show mI S1 66 3 = f 66 3 from zG_z hI_S1 rfl]; rfl))

/-! from 95.g67 -/
/-! the heap by numbers, the class (written by wip/tools/gen18.py) -/
/-! PICTURE: two walks in another order, alike in what they will have come to -/
section PP
variable {a b : Nat → Nat → Int32} {y : Int32} {N D : Nat → Prop} {E : Nat → Nat → Prop} {x k z : Nat}
/-- one more comes: told by what would come anyhow -/
theorem zM_gy {T : Nat → Prop} (hd : ∀ u, D u → N u) : zM (fun u => N u ∨ T u) D E x ↔ zM (fun u => zM N D E u ∨ T u) (zM N D E) E x := by
  constructor
  · intro h
    refine h _ (fun g w => zM_in (w.elim (fun q => Or.inl (zM_in q)) Or.inr)) (fun u y hu hn e => ?_)
    by_cases w : zM N D E u
    · exact zM_in (Or.inl (zM_cl w hn e))
    · exact zM_cl hu w e
  · intro h
    refine h _ (fun g w => ?_) (fun u y hu hn e => zM_cl hu (fun q => hn (zM_in (hd u q))) e)
    rcases w with w | w
    · exact w _ (fun u q => zM_in (Or.inl q)) (fun u y hu hn e => zM_cl hu hn e)
    · exact zM_in (Or.inr w)
theorem Dn_Nn {u : Nat} (h : zDn a u) : zNn a u := ⟨h.1, by rw [h.2]; decide⟩
theorem Mk_cm (h : zWQ a) : zMk (aCm a y) x ↔ zM (fun u => zMk a u ∨ (xAl a u ∧ y = Int32.ofNat u)) (zMk a) (zEd a) x := by
  have g := gr_cm (y := y) h
  exact (zM_cg g.2.2.2.1 g.2.2.1 (fun u y => Of_ed g.2.1)).trans (zM_gy (fun u w => Dn_Nn w))
def cD (a : Nat → Nat → Int32) : Nat := cnt (fun x => if a 77 x = 2 then 1 else 0) 512
theorem cD_0 {j : Nat} : (if a 77 j = 2 then (1 : Int32) else 0) = 0 ↔ ¬ a 77 j = 2 := by
  by_cases h : a 77 j = 2
  · rw [if_pos h]
    exact ⟨fun w => absurd w (by decide), fun w => absurd h w⟩
  · rw [if_neg h]
    exact ⟨fun _ => h, fun _ => rfl⟩
theorem cD_cg (h : ∀ u, zDn a u ↔ zDn b u) : cD a = cD b := by
  refine cnt_congr (fun j hj => ?_)
  rw [cD_0, cD_0]
  have q := h j
  unfold zDn at q
  constructor
  · intro w w2
    exact w (q.mpr ⟨hj, w2⟩).2
  · intro w w2
    exact w (q.mp ⟨hj, w2⟩).2
theorem cD_up (hz : z < 512) (hn : ¬ zDn a z) (h : ∀ u, zDn b u ↔ zDn a u ∨ u = z) : cD b = cD a + 1 := by
  have q := cnt_up (m := fun _ x => if a 77 x = 2 then (1 : Int32) else 0) (c := 0) (k := z) (x := 1) (n := 512) hz (cD_0.mpr (fun w => hn ⟨hz, w⟩)) (by decide)
  have q2 : cD b = cnt (ma_u (fun _ x => if a 77 x = 2 then (1 : Int32) else 0) 0 z 1 0) 512 := by
    refine cnt_congr (fun j hj => ?_)
    rw [cD_0]
    by_cases w : j = z
    · rw [w, xu_s]
      exact ⟨fun w2 => absurd ((h z).mpr (Or.inr rfl)).2 w2, fun w2 => absurd w2 (by decide)⟩
    · rw [xu_o (fun w2 => w w2.2), cD_0]
      have p := h j
      constructor
      · intro w2 w3
        exact w2 (p.mpr (Or.inl ⟨hj, w3⟩)).2
      · intro w2 w3
        rcases p.mp ⟨hj, w3⟩ with w4 | w4
        · exact w2 w4.2
        · exact w w4
  rw [q2, q]
  rfl
theorem cD_lt (h : ∀ u, zDn b u → zDn a u) (h1 : zDn a z) (h2 : ¬ zDn b z) : cD b < cD a := by
  have q := cnt_up (m := fun _ x => if b 77 x = 2 then (1 : Int32) else 0) (c := 0) (k := z) (x := 1) (n := 512) h1.1 (cD_0.mpr (fun w => h2 ⟨h1.1, w⟩)) (by decide)
  have q2 : cnt (ma_u (fun _ x => if b 77 x = 2 then (1 : Int32) else 0) 0 z 1 0) 512 ≤ cD a := by
    refine cnt_mono (fun j hj w => ?_)
    intro w3
    rw [cD_0] at w3
    by_cases w2 : j = z
    · rw [w2] at w3
      exact w3 h1.2
    · rw [xu_o (fun w4 => w2 w4.2)] at w
      apply w
      rw [cD_0]
      exact fun w5 => w3 (h j ⟨hj, w5⟩).2
  have e : cnt (fun x => if b 77 x = 2 then (1 : Int32) else 0) 512 = cD b := rfl
  have q3 : cnt (ma_u (fun _ x => if b 77 x = 2 then (1 : Int32) else 0) 0 z 1 0) 512 = cD b + 1 := q
  omega
def zPP (a b : Nat → Nat → Int32) : Prop := zOf a b ∧ zWQ a ∧ zWQ b ∧ a 75 3 = b 75 3 ∧ (∀ x, zMk a x ↔ zMk b x) ∧ cD a = cD b
theorem Of_sy (h : zOf a b) : zOf b a := fun c k w1 w2 w3 => (h c k w1 w2 w3).symm
theorem PP_sy (h : zPP a b) : zPP b a := ⟨Of_sy h.1, h.2.2.1, h.2.1, h.2.2.2.1.symm, fun x => (h.2.2.2.2.1 x).symm, h.2.2.2.2.2.symm⟩
theorem PP_cm (h : zPP a b) : zPP (aCm a y) (aCm b y) := by
  refine ⟨Of_tr (Of_sy cm_of) (Of_tr h.1 cm_of), WQ_cm h.2.1, WQ_cm h.2.2.1, ?_, fun x => ?_, ?_⟩
  · rw [cm_3, cm_3]
    exact h.2.2.2.1
  · rw [Mk_cm h.2.1, Mk_cm h.2.2.1]
    refine zM_cg (fun u => ?_) h.2.2.2.2.1 (fun u y => (Of_ed h.1).symm)
    rw [h.2.2.2.2.1 u, Of_al h.1]
  · rw [cD_cg (fun u => Dn_cm (a := a) (y := y) (u := u)), cD_cg (fun u => Dn_cm (a := b) (y := y) (u := u))]
    exact h.2.2.2.2.2
theorem PP_em1 (h : zPP a b) (he : ¬ (a 75 3).toInt < (a 75 4).toInt) : ¬ (b 75 3).toInt < (b 75 4).toInt := by
  intro hl
  have wb := h.2.2.1
  have ch := tn_cast wb.1.1
  have p := wb.2.1 (b 75 3).toNatClampNeg (by omega) (by omega)
  have cq := tn_cast p.1
  generalize b 76 (b 75 3).toNatClampNeg = q at *
  have hz : q.toNatClampNeg < 512 := by
    have := p.2.1
    omega
  have nb : zNn b q.toNatClampNeg := ⟨hz, by rw [p.2.2.2]; decide⟩
  have ma : ∀ u, zNn b u → zDn a u := fun u w => by
    have w1 := (h.2.2.2.2.1 u).mpr (zM_in w)
    have w2 := (Nn_end h.2.1 he).mp w1
    refine ⟨w2.1, ?_⟩
    rcases h.2.1.2.2.2.2.1 u w2.1 with w3 | w3 | w3
    · exact absurd w3 w2.2
    · obtain ⟨j, j1, j2, _⟩ := h.2.1.2.2.2.1 u w2.1 w3
      omega
    · exact w3
  have := cD_lt (a := a) (b := b) (z := q.toNatClampNeg) (fun u w => ma u (Dn_Nn w)) (ma _ nb) (fun w => by
    have := w.2
    rw [p.2.2.2] at this
    exact absurd this (by decide))
  have := h.2.2.2.2.2
  omega
theorem PP_em (h : zPP a b) : (a 75 3).toInt < (a 75 4).toInt ↔ (b 75 3).toInt < (b 75 4).toInt := by
  constructor
  · intro w
    exact Classical.byContradiction (fun q => PP_em1 (PP_sy h) q w)
  · intro w
    exact Classical.byContradiction (fun q => PP_em1 h q w)
theorem PP_pop (h : zPP a b) (hl : (a 75 3).toInt < (a 75 4).toInt) : zPP (aPop a) (aPop b) := by
  have pa := pop_all h.2.1 hl
  have pb := pop_all h.2.2.1 ((PP_em h).mp hl)
  obtain ⟨z1, z2, z3, z4⟩ := pa.2.2.2.2
  obtain ⟨y1, y2, y3, y4⟩ := pb.2.2.2.2
  refine ⟨Of_tr (Of_sy pa.2.1) (Of_tr h.1 pb.2.1), pa.1, pb.1, ?_, fun x => ?_, ?_⟩
  · apply Int32.toInt_inj.mp
    rw [pa.2.2.2.1, pb.2.2.2.1, h.2.2.2.1]
  · rw [pa.2.2.1 x, pb.2.2.1 x]
    exact h.2.2.2.2.1 x
  · rw [cD_up z2 z3 z4, cD_up y2 y3 y4, h.2.2.2.2.2]
theorem PP_sp : ∀ (k : Nat) (a b : Nat → Nat → Int32), zPP a b → zPP (aSp k a) (aSp k b) ∧ aSn k a = aSn k b := by
  intro k
  induction k with
  | zero => intro a b h; exact ⟨h, rfl⟩
  | succ k ih =>
    intro a b h
    by_cases hl : (a 75 3).toInt < (a 75 4).toInt
    · have hb := (PP_em h).mp hl
      rw [aSp_go hl, aSp_go hb, aSn_go hl, aSn_go hb]
      have q := ih _ _ (PP_pop h hl)
      exact ⟨q.1, by rw [q.2]⟩
    · have hb : ¬ (b 75 3).toInt < (b 75 4).toInt := fun w => hl ((PP_em h).mpr w)
      rw [aSp_st (Or.inr hl), aSp_st (Or.inr hb), aSn_st (Or.inr hl), aSn_st (Or.inr hb)]
      exact ⟨h, rfl⟩
end PP

/-! from 95.h00 -/
/-! the reference by numbers (written by wip/tools/gen18r.py) -/
theorem i_nz2 {x : Int32} (h : x.toInt ≠ 0) : x ≠ 0 := fun w => h (by rw [w]; rfl)
theorem i_one {x : Int32} (h : x.toInt = 1) : (1 : Int32) = x := Int32.toInt_inj.mp (by rw [h]; rfl)
theorem i_zer {x : Int32} (h : x.toInt = 0) : x = 0 := Int32.toInt_inj.mp (by rw [h]; rfl)

/-! from 95.h01 -/
/-! the reference by numbers (written by wip/tools/gen18r.py) -/
/-! THE REFERENCE'S HEAP HELD AGAINST A HEAP BY NUMBERS: us in use, nr numbers, kr kinds₉ references, kd kinds, ws words, at₉ places, ho holds, wd words₉ contents, wi wishes, ow owners, rt wk ROOT and WEAK, wl WISHES (wm of them) -/
def qU (us : Nat → Int32) (x : Int32) : Prop := x.toInt < 0 ∨ (x.toInt < 3100 ∧ us x.toNatClampNeg ≠ 0)
def qNo (nr : Nat → Int32) (x : Int32) : Int32 := if x.toInt < 0 then -1 else nr x.toNatClampNeg
def qIr (kr kd : Nat → Int32) (s i : Nat) : Prop := kd s = 16 ∨ (kd s < 16 ∧ ((kr (kd s).toNatClampNeg >>> (Int32.ofNat i &&& 31)) &&& 1) = 1)
def qR1 (us nr ws at₉ ho : Nat → Int32) (a : Nat → Nat → Int32) : Prop :=
  (∀ s, s < 3100 → us s ≠ 0 → (0 ≤ (nr s).toInt ∧ (nr s).toInt < 512) ∧ a 126 (nr s).toNatClampNeg ≠ 0 ∧ a 128 (nr s).toNatClampNeg = ws s + 1 ∧ a 130 (nr s).toNatClampNeg = at₉ s ∧ a 133 (nr s).toNatClampNeg = ho s ∧ (0 ≤ (ws s).toInt ∧ (ws s).toInt ≤ 60) ∧ 0 ≤ (at₉ s).toInt) ∧
  (∀ s t, s < 3100 → t < 3100 → us s ≠ 0 → us t ≠ 0 → nr s = nr t → s = t) ∧
  ∀ n, n < 512 → a 126 n ≠ 0 → ∃ s, s < 3100 ∧ us s ≠ 0 ∧ nr s = Int32.ofNat n
def qR2 (us nr kr kd ws wd : Nat → Int32) (a : Nat → Nat → Int32) : Prop := ∀ s, s < 3100 → us s ≠ 0 → ∀ i : Nat, (i : Int) < (ws s).toInt → qU us (zrf kr kd wd s i) ∧ aRef a (nr s).toNatClampNeg (Int32.ofNat i) = qNo nr (zrf kr kd wd s i) ∧ (a (1000 + (nr s).toNatClampNeg) i ≠ 0 ↔ qIr kr kd s i)
def qR3 (us nr rt : Nat → Int32) (a : Nat → Nat → Int32) (c : Nat) : Prop := ∀ k, k < 16 → qU us (rt k) ∧ a c k = qNo nr (rt k)
def qR5 (us nr wl : Nat → Int32) (wm : Int32) (a : Nat → Nat → Int32) : Prop := a 69 5 = wm ∧ ∀ k : Nat, (k : Int) < wm.toInt → (0 ≤ (wl k).toInt ∧ (wl k).toInt < 3100 ∧ us (wl k).toNatClampNeg ≠ 0) ∧ a 74 k = nr (wl k).toNatClampNeg
def qR6 (us nr wi : Nat → Int32) (a : Nat → Nat → Int32) : Prop := ∀ s, s < 3100 → us s ≠ 0 → a 134 (nr s).toNatClampNeg = wi s
def qR7 (us at₉ ow : Nat → Int32) : Prop := ∀ s, s < 3100 → us s ≠ 0 → ow (at₉ s).toNatClampNeg = Int32.ofNat s
def qR8 (nu ro fo le ra pi : Int32) (a : Nat → Nat → Int32) : Prop := a 69 6 = nu ∧ a 87 0 = ro ∧ a 87 1 = fo ∧ a 87 2 = le ∧ a 87 6 = ra ∧ a 87 7 = (if pi = 0 then 1 else 0)
def qRB (us nr kr kd ws at₉ ho wd wi ow rt wk wl : Nat → Int32) (wm nu ro fo le ra pi : Int32) (a : Nat → Nat → Int32) : Prop :=
  qR1 us nr ws at₉ ho a ∧ qR2 us nr kr kd ws wd a ∧ qR3 us nr rt a 72 ∧ qR3 us nr wk a 73 ∧ qR5 us nr wl wm a ∧ qR6 us nr wi a ∧ qR7 us at₉ ow ∧ qR8 nu ro fo le ra pi a
/-- no inner word -/
def qGd (a : Nat → Nat → Int32) (p : Int) : Prop := ∀ n, xAl a n → ¬ ((a 130 n).toInt < p ∧ p < (a 130 n).toInt + (a 128 n).toInt)
def qSu (a : Nat → Nat → Int32) : Nat → Int
  | 0 => 0
  | n + 1 => qSu a n + (if a 126 n ≠ 0 then (a 128 n).toInt else 0)
/-- what holds of a heap by numbers -/
def qI1 (a : Nat → Nat → Int32) : Prop := ∀ n, xAl a n → ((n : Int) < (a 69 6).toInt ∧ 0 ≤ (a 130 n).toInt) ∧ (1 ≤ (a 128 n).toInt ∧ (a 128 n).toInt ≤ 61) ∧ (a 130 n).toInt + (a 128 n).toInt ≤ (a 87 0).toInt ∧ a 71 (a 130 n).toNatClampNeg = Int32.ofNat n
def qI2 (a : Nat → Nat → Int32) : Prop := ∀ n n₉, xAl a n → xAl a n₉ → n ≠ n₉ → (a 130 n).toInt + (a 128 n).toInt ≤ (a 130 n₉).toInt ∨ (a 130 n₉).toInt + (a 128 n₉).toInt ≤ (a 130 n).toInt
def qI3 (a : Nat → Nat → Int32) : Prop := ∀ p : Nat, p < 4500 → (∀ n, xAl a n → ¬ ((a 130 n).toInt ≤ (p : Int) ∧ (p : Int) < (a 130 n).toInt + (a 128 n).toInt)) → a 71 p = -1
def qI4 (a : Nat → Nat → Int32) : Prop := (0 ≤ (a 69 6).toInt ∧ (a 69 6).toInt ≤ 512) ∧ (0 ≤ (a 69 5).toInt ∧ (a 69 5).toInt ≤ 512) ∧ (0 ≤ (a 87 0).toInt ∧ (a 87 0).toInt ≤ 4500) ∧ (0 ≤ (a 87 2).toInt ∧ (a 87 2).toInt ≤ (a 87 0).toInt) ∧ qGd a (a 87 2).toInt ∧ 0 ≤ (a 87 6).toInt
def qI6 (a : Nat → Nat → Int32) : Prop := ∀ n, ¬ xAl a n → ∀ k, a (1000 + n) k = 0
def qI (a : Nat → Nat → Int32) : Prop := qI1 a ∧ qI2 a ∧ qI3 a ∧ qI4 a ∧ a 69 8 = Int32.ofInt (qSu a 512) ∧ qI6 a
/-- the colours and the row of GREY ones -/
def qMQ (co gr : Nat → Int32) (ga gm : Int32) (us nr : Nat → Int32) (a : Nat → Nat → Int32) : Prop :=
  a 75 3 = ga ∧ a 75 4 = gm ∧ (∀ s, s < 3100 → us s ≠ 0 → co s = a 77 (nr s).toNatClampNeg) ∧
  (∀ j : Nat, ga.toInt ≤ (j : Int) → (j : Int) < gm.toInt → (0 ≤ (gr j).toInt ∧ (gr j).toInt < 3100 ∧ us (gr j).toNatClampNeg ≠ 0) ∧ a 76 j = nr (gr j).toNatClampNeg) ∧ zWQ a
section QA
variable {a b : Nat → Nat → Int32} {us nr kr kd ws at₉ ho wd wi ow rt wk wl co gr : Nat → Int32} {wm nu ro fo le ra pi ga gm x y : Int32} {c k n s t i : Nat} {m m2 : Nat → Nat → Int32} {p : Int}
theorem Of_r (h : zOf a b) (h1 : c ≠ 75) (h2 : c ≠ 76) (h3 : c ≠ 77) : a c = b c := funext (fun k => h c k h1 h2 h3)
theorem R1_of (h : qR1 us nr ws at₉ ho a) (o : zOf a b) : qR1 us nr ws at₉ ho b := by
  unfold qR1 at h ⊢
  rw [← Of_r (c := 126) o (by decide) (by decide) (by decide), ← Of_r (c := 128) o (by decide) (by decide) (by decide), ← Of_r (c := 130) o (by decide) (by decide) (by decide), ← Of_r (c := 133) o (by decide) (by decide) (by decide)]
  exact h
theorem R2_of (h : qR2 us nr kr kd ws wd a) (o : zOf a b) : qR2 us nr kr kd ws wd b := by
  intro s hs hu i hi
  have q := h s hs hu i hi
  rw [← Of_ref o, ← o (1000 + (nr s).toNatClampNeg) i (by omega) (by omega) (by omega)]
  exact q
theorem R3_of (h : qR3 us nr rt a c) (o : zOf a b) (h1 : c ≠ 75) (h2 : c ≠ 76) (h3 : c ≠ 77) : qR3 us nr rt b c := by
  unfold qR3 at h ⊢
  rw [← Of_r o h1 h2 h3]
  exact h
theorem R5_of (h : qR5 us nr wl wm a) (o : zOf a b) : qR5 us nr wl wm b := by
  unfold qR5 at h ⊢
  rw [← Of_r (c := 69) o (by decide) (by decide) (by decide), ← Of_r (c := 74) o (by decide) (by decide) (by decide)]
  exact h
theorem R6_of (h : qR6 us nr wi a) (o : zOf a b) : qR6 us nr wi b := by
  unfold qR6 at h ⊢
  rw [← Of_r (c := 134) o (by decide) (by decide) (by decide)]
  exact h
theorem R8_of (h : qR8 nu ro fo le ra pi a) (o : zOf a b) : qR8 nu ro fo le ra pi b := by
  unfold qR8 at h ⊢
  rw [← Of_r (c := 69) o (by decide) (by decide) (by decide), ← Of_r (c := 87) o (by decide) (by decide) (by decide)]
  exact h
theorem RB_of (h : qRB us nr kr kd ws at₉ ho wd wi ow rt wk wl wm nu ro fo le ra pi a) (o : zOf a b) : qRB us nr kr kd ws at₉ ho wd wi ow rt wk wl wm nu ro fo le ra pi b :=
  ⟨R1_of h.1 o, R2_of h.2.1 o, R3_of h.2.2.1 o (by decide) (by decide) (by decide), R3_of h.2.2.2.1 o (by decide) (by decide) (by decide), R5_of h.2.2.2.2.1 o, R6_of h.2.2.2.2.2.1 o, h.2.2.2.2.2.2.1, R8_of h.2.2.2.2.2.2.2 o⟩
theorem Al_of (o : zOf a b) : xAl a = xAl b := by
  funext n
  unfold xAl
  rw [Of_r (c := 126) o (by decide) (by decide) (by decide)]
theorem Su_of (o : zOf a b) : ∀ n, qSu a n = qSu b n := by
  intro n
  induction n with
  | zero => rfl
  | succ n ih =>
    unfold qSu
    rw [ih, Of_r (c := 126) o (by decide) (by decide) (by decide), Of_r (c := 128) o (by decide) (by decide) (by decide)]
theorem qI_of (h : qI a) (o : zOf a b) : qI b := by
  have e1 := Al_of o
  have e2 := Of_r (c := 69) o (by decide) (by decide) (by decide)
  have e3 := Of_r (c := 128) o (by decide) (by decide) (by decide)
  have e4 := Of_r (c := 130) o (by decide) (by decide) (by decide)
  have e5 := Of_r (c := 87) o (by decide) (by decide) (by decide)
  have e6 := Of_r (c := 71) o (by decide) (by decide) (by decide)
  have e7 := Su_of o 512
  have e8 : qI6 b := fun n hn k => by
    rw [← o (1000 + n) k (by omega) (by omega) (by omega)]
    exact h.2.2.2.2.2 n (by rw [e1]; exact hn) k
  unfold qI qI1 qI2 qI3 qI4 qGd at h ⊢
  rw [← e1, ← e2, ← e3, ← e4, ← e5, ← e6, ← e7]
  exact ⟨h.1, h.2.1, h.2.2.1, h.2.2.2.1, h.2.2.2.2.1, e8⟩
theorem ofN_s (h : s < 3100) : (Int32.ofNat s).toInt = (s : Int) := Int32.toInt_ofNat_of_lt (by omega)
/-- one of that slot is there -/
theorem R1_al (h : qR1 us nr ws at₉ ho a) (hs : s < 3100) (hu : us s ≠ 0) : xAl a (nr s).toNatClampNeg := by
  have q := h.1 s hs hu
  have e := tn_cast q.1.1
  exact ⟨by omega, q.2.1⟩
theorem R1_in (h : qR1 us nr ws at₉ ho a) (hs : s < 3100) (ht : t < 3100) (hu : us s ≠ 0) (hv : us t ≠ 0) (e : (nr s).toNatClampNeg = (nr t).toNatClampNeg) : s = t := by
  refine h.2.1 s t hs ht hu hv ?_
  have e1 := tn_cast (h.1 s hs hu).1.1
  have e2 := tn_cast (h.1 t ht hv).1.1
  exact Int32.toInt_inj.mp (by omega)
theorem R1_ex (h : qR1 us nr ws at₉ ho a) (hn : xAl a n) : ∃ s, s < 3100 ∧ us s ≠ 0 ∧ (nr s).toNatClampNeg = n := by
  obtain ⟨s, h1, h2, h3⟩ := h.2.2 n hn.1 hn.2
  exact ⟨s, h1, h2, by rw [h3]; exact tn_of hn.1⟩
theorem R1_of_nr (h : qR1 us nr ws at₉ ho a) (hs : s < 3100) (hu : us s ≠ 0) : Int32.ofNat (nr s).toNatClampNeg = nr s := ofN_tn (h.1 s hs hu).1.1
theorem No_y (h : 0 ≤ x.toInt) : qNo nr x = nr x.toNatClampNeg := if_neg (by omega)
theorem No_n (h : x.toInt < 0) : qNo nr x = -1 := if_pos h
theorem tn_lt (h : 0 ≤ x.toInt) (h2 : x.toInt < 3100) : x.toNatClampNeg < 3100 := by
  have := tn_cast h
  omega
theorem U_y (h : qU us x) (h0 : 0 ≤ x.toInt) : x.toInt < 3100 ∧ us x.toNatClampNeg ≠ 0 := h.elim (fun z => absurd z (by omega)) id
/-- one WHITE one comes -/
theorem MQ_push (h : qMQ (m 106) (m2 115) ga gm us nr a) (h1 : qR1 us nr ws at₉ ho a) (h0 : 0 ≤ x.toInt) (hx : x.toInt < 3100) (hu : us x.toNatClampNeg ≠ 0) (hw : m 106 x.toNatClampNeg = 0) (e : y = gm + 1) : qMQ (ma_u m 106 x.toNatClampNeg 1 106) (ma_u m2 115 gm.toNatClampNeg x 115) ga y us nr (aCm a (qNo nr x)) := by
  obtain ⟨q1, q2, q3, q4, q5⟩ := h
  have hs := tn_lt h0 hx
  have b := h1.1 _ hs hu
  have e2 : a 77 (nr x.toNatClampNeg).toNatClampNeg = 0 := (q3 _ hs hu).symm.trans hw
  have cc := cc_of q5 b.1.1 b.1.2 b.2.1 e2
  have w := WQ_cm (y := nr x.toNatClampNeg) q5
  rw [No_y h0]
  rw [aCm_y cc] at w ⊢
  have tb := cc.2.2.2.2.1
  have g0 : 0 ≤ (a 75 4).toInt := by
    have := q5.1.1
    have := q5.1.2.1
    omega
  have g1 := i_p1 (i := a 75 4) (by omega)
  have g2 := tn_cast g0
  rw [q2] at tb g0 g1 g2
  refine ⟨?_, ?_, fun s hs2 hu2 => ?_, fun j j1 j2 => ?_, w⟩
  · rw [xu_o (by omega), xu_o (by omega), xu_o (by omega)]
    exact q1
  · rw [xu_s, q2, e]
  · rw [xu_o (c := 77) (c₉ := 75) (by omega), xu_o (c := 77) (c₉ := 76) (by omega)]
    by_cases z : s = x.toNatClampNeg
    · rw [z, mu_self, xu_s]
    · rw [mu_ne z, xu_o (c := 77) (c₉ := 77) (fun y => z (R1_in h1 hs2 hs hu2 hu y.2))]
      exact q3 s hs2 hu2
  · rw [e, g1] at j2
    rw [xu_o (c := 76) (c₉ := 75) (by omega)]
    by_cases z : j = gm.toNatClampNeg
    · rw [z, mu_self, q2, xu_s]
      exact ⟨⟨h0, hx, hu⟩, rfl⟩
    · rw [mu_ne z, xu_o (c := 76) (c₉ := 76) (fun y => z (by rw [← q2]; exact y.2)), xu_o (c := 76) (c₉ := 77) (by omega)]
      exact q4 j j1 (by omega)
/-- one that is none, or not WHITE, comes: nothing changes -/
theorem MQ_skip (h : qMQ co gr ga gm us nr a) (hn : x.toInt < 0 ∨ (x.toInt < 3100 ∧ us x.toNatClampNeg ≠ 0 ∧ co x.toNatClampNeg ≠ 0)) : aCm a (qNo nr x) = a := by
  refine aCm_n (fun cc => ?_)
  by_cases z : x.toInt < 0
  · have := cc.1
    rw [No_n z] at this
    exact absurd this (by decide)
  · have w := hn.elim (fun y => absurd y z) id
    rw [No_y (by omega)] at cc
    have q := h.2.2.1 _ (tn_lt (by omega) w.1) w.2.1
    exact w.2.2 (q.trans cc.2.2.2.2.2)
/-- a place that is no inner word: who begins there -/
theorem OB_n (hI : qI a) (h1 : qR1 us nr ws at₉ ho a) (h7 : qR7 us at₉ ow) (g : qGd a p) (h0 : 0 ≤ p) (h5 : p < 4500) (hn : (ow p.toNat).toInt < 0) : (zOb a p).toInt < 0 := by
  have e : a 71 p.toNat = -1 := by
    refine hI.2.2.1 p.toNat (by omega) (fun n hn2 hc => ?_)
    obtain ⟨s, hs, hu, hsn⟩ := R1_ex h1 hn2
    have q := h1.1 s hs hu
    rw [hsn] at q
    have gg := g n hn2
    have : (at₉ s).toInt = p := by
      rw [← q.2.2.2.1]
      omega
    have z := h7 s hs hu
    rw [show (at₉ s).toNatClampNeg = p.toNat from by show (at₉ s).toInt.toNat = p.toNat; rw [this]] at z
    rw [z] at hn
    have := ofN_s hs
    omega
  unfold zOb
  rw [e, if_neg (fun z => absurd z.2.2.1 (by decide))]
  decide
theorem OB_y (hI : qI a) (h1 : qR1 us nr ws at₉ ho a) (hO : zOw us at₉ ow) (h0 : 0 ≤ p) (h5 : p < 4500) (hn : 0 ≤ (ow p.toNat).toInt) (hx : (ow p.toNat).toInt < 3100) : zOb a p = nr (ow p.toNat).toNatClampNeg ∧ a 128 (zOb a p).toNatClampNeg = ws (ow p.toNat).toNatClampNeg + 1 ∧ 0 ≤ (zOb a p).toInt := by
  have o := hO p.toNat (by omega) hn
  have hs := tn_lt hn hx
  have q := h1.1 _ hs o.1
  have al := R1_al h1 hs o.1
  have i := hI.1 _ al
  have e : a 71 p.toNat = nr (ow p.toNat).toNatClampNeg := by
    have z := i.2.2.2
    rw [q.2.2.2.1, R1_of_nr h1 hs o.1] at z
    rw [show (at₉ (ow p.toNat).toNatClampNeg).toNatClampNeg = p.toNat from by show (at₉ (ow p.toNat).toNatClampNeg).toInt.toNat = p.toNat; rw [o.2]; omega] at z
    exact z
  have z : zOb a p = nr (ow p.toNat).toNatClampNeg := by
    unfold zOb
    rw [e, if_pos ⟨h0, h5, q.1.1, q.1.2, q.2.1⟩]
  refine ⟨z, ?_, ?_⟩
  · rw [z]
    exact q.2.2.1
  · rw [z]
    exact q.1.1
theorem tn_i (h : 0 ≤ (a 130 n).toInt) (e : (a 130 n).toInt = p) : (a 130 n).toNatClampNeg = p.toNat := by
  show (a 130 n).toInt.toNat = p.toNat
  rw [e]
/-- who begins at a place that is no inner word -/
theorem OB_al (hI : qI a) (g : qGd a p) (h : 0 ≤ (zOb a p).toInt) : ∃ n, xAl a n ∧ zOb a p = Int32.ofNat n ∧ (a 130 n).toInt = p ∧ (zOb a p).toNatClampNeg = n := by
  have hc : 0 ≤ p ∧ p < 4500 ∧ 0 ≤ (a 71 p.toNat).toInt ∧ (a 71 p.toNat).toInt < 512 ∧ a 126 (a 71 p.toNat).toNatClampNeg ≠ 0 := by
    unfold zOb at h
    split at h
    · next z => exact z
    · exact absurd h (by decide)
  have e : zOb a p = a 71 p.toNat := if_pos hc
  by_cases c : ∃ n, xAl a n ∧ (a 130 n).toInt ≤ p ∧ p < (a 130 n).toInt + (a 128 n).toInt
  · obtain ⟨n, h1, h2, h3⟩ := c
    have gg := g n h1
    have i := hI.1 n h1
    have ep : (a 130 n).toInt = p := by omega
    have z := i.2.2.2
    rw [tn_i i.1.2 ep] at z
    exact ⟨n, h1, e.trans z, ep, by rw [e, z]; exact tn_of h1.1⟩
  · have z := hI.2.2.1 p.toNat (by omega) (fun n hn w => c ⟨n, hn, by omega, by omega⟩)
    rw [z] at hc
    exact absurd hc.2.2.1 (by decide)
/-- behind one that begins at a place: no inner word -/
theorem Gd_nx (hI : qI a) (g : qGd a p) (h : 0 ≤ (zOb a p).toInt) : qGd a (p + (a 128 (zOb a p).toNatClampNeg).toInt) ∧ 1 ≤ (a 128 (zOb a p).toNatClampNeg).toInt ∧ p + (a 128 (zOb a p).toNatClampNeg).toInt ≤ (a 87 0).toInt := by
  obtain ⟨n, h1, h2, h3, h4⟩ := OB_al hI g h
  rw [h4]
  have i := hI.1 n h1
  refine ⟨fun n2 hn2 w => ?_, i.2.1.1, by rw [← h3]; exact i.2.2.1⟩
  by_cases z : n = n2
  · rw [← z] at w
    omega
  · have d := hI.2.1 n n2 h1 hn2 z
    omega
theorem Gd_s (hI : qI a) (g : qGd a p) (h : (zOb a p).toInt < 0) (h0 : 0 ≤ p) (h5 : p < 4500) : qGd a (p + 1) := by
  intro n hn w
  have gg := g n hn
  have i := hI.1 n hn
  have ep : (a 130 n).toInt = p := by omega
  have z := i.2.2.2
  rw [tn_i i.1.2 ep] at z
  have e := ofN_i hn.1
  have : zOb a p = Int32.ofNat n := by
    unfold zOb
    rw [z, if_pos ⟨h0, h5, by omega, by have := hn.1; omega, by rw [tn_of hn.1]; exact hn.2⟩]
  rw [this] at h
  omega
theorem Gd_0 (hI : qI a) : qGd a 0 := by
  intro n hn w
  have i := hI.1 n hn
  omega
end QA

/-! from 95.h02 -/
/-! the reference by numbers (written by wip/tools/gen18r.py) -/
def qPl (us nr : Nat → Int32) (x v : Int32) : Prop := (v = -1 ∧ ∀ t, t < 3100 → us t ≠ 0 → nr t ≠ x) ∨ (0 ≤ v.toInt ∧ v.toInt ≤ 3099 ∧ us v.toNatClampNeg ≠ 0 ∧ nr v.toNatClampNeg = x)
theorem pl_s {us nr : Nat → Int32} {x i j : Int32} (h : ∀ t : Nat, (t : Int) < i.toInt → us t ≠ 0 → nr t ≠ x) (e : j.toInt = i.toInt + 1) (h0 : 0 ≤ i.toInt) (hc : us i.toNatClampNeg = 0 ∨ nr i.toNatClampNeg ≠ x) : ∀ t : Nat, (t : Int) < j.toInt → us t ≠ 0 → nr t ≠ x := by
  intro t ht hu
  have c := tn_cast h0
  by_cases z : t = i.toNatClampNeg
  · rw [z] at hu ⊢
    exact hc.elim (fun w => absurd w hu) id
  · exact h t (by omega) hu
theorem lp_246r_2 {X : Nat × (Nat → Int32)} {P : Option ma_V → (Nat → Nat → Int32) → Prop} {nu : Int32} {m0 : Nat → Nat → Int32} (h0 : zV m0) (K : ∀ v m₉, zF wr_246 m0 m₉ → zV m₉ → (-1 ≤ v.toInt ∧ v.toInt ≤ 3099) → (qPl (m₉ 99) (m₉ 100) nu v) → P (some (.inl v)) m₉) : ∀ (n : Nat) (m : Nat → Nat → Int32) (l1 : Int32) (l2 : Int32), (3100 - l2.toInt).toNat = n → zF wr_246 m0 m → zV m → (0 ≤ l2.toInt) → (l1 = nu) → (∀ t : Nat, (t : Int) < l2.toInt → (m 99) t ≠ 0 → (m 100) t ≠ nu) → zm X 0 0 246 2 [(0, .inr (.inr (some 94))), (1, .inl l1), (2, .inl l2)] m P := by
  intro n
  induction n using Nat.strongRecOn with
  | _ n IH =>
    intro m l1 l2 hmu hF hV hi0 r_LN r_PLl
    refine g_246_2 l1 l2 ?_
    have li1 : (3100 : Int32).toInt = 3100 := rfl
    have b2 := i_bd l2
    refine zd (fun (h3 : (3100 : Int32) ≤ l2) => ?_) (fun (h3 : ¬ (3100 : Int32) ≤ l2) => ?_)
    · skip
      have g4 := i_le h3
      have li5 : (-1 : Int32).toInt = -1 := rfl
      exact K ((-1 : Int32)) _ hF hV (show -1 ≤ (-1 : Int32).toInt ∧ (-1 : Int32).toInt ≤ 3099 from by omega) (show qPl (m 99) (m 100) nu (-1 : Int32) from by first | (exact Or.inr ⟨by omega, by omega, by assumption, by rw [← r_LN]; assumption⟩) | (exact Or.inl ⟨rfl, fun t ht => r_PLl t (by omega)⟩) | (exfalso; omega; done) | (exfalso; contradiction; done))
    · skip
      have g6 := i_nle h3
      have hg7 : (0 ≤ l2 ∧ l2.toNatClampNeg < 3100) := i_ix (by omega) (by omega)
      refine ⟨hg7, ?_⟩
      first | have f8 : 0 ≤ (m 99 l2.toNatClampNeg).toInt ∧ (m 99 l2.toNatClampNeg).toInt ≤ 1 := ra_99 (m := m) hV (k := l2.toNatClampNeg) (i_ix (n := 3100) (by omega) (by omega)).2 | have b9 := i_bd (m 99 l2.toNatClampNeg)
      have li10 : (0 : Int32).toInt = 0 := rfl
      refine zd (fun (h11 : (m 99 l2.toNatClampNeg) = (0 : Int32)) => ?_) (fun (h11 : ¬ (m 99 l2.toNatClampNeg) = (0 : Int32)) => ?_)
      · skip
        have g12 := i_eq h11
        have b13 := i_bd l1
        first | have e14 : (l2 + (1 : Int32)).toInt = l2.toInt + (1) := i_addk rfl (by omega) (by omega) | have b15 := i_bd (l2 + (1 : Int32))
        exact IH (3100 - (l2 + (1 : Int32)).toInt).toNat (by omega) _ (l1) ((l2 + (1 : Int32))) rfl hF hV (by omega) r_LN (show ∀ t : Nat, (t : Int) < (l2 + (1 : Int32)).toInt → (m 99) t ≠ 0 → (m 100) t ≠ nu from by first | (intro t ht; omega; done) | (exact pl_s r_PLl (by omega) (by omega) (Or.inl (by assumption))) | (exact pl_s r_PLl (by omega) (by omega) (Or.inr (by rw [← r_LN]; assumption))) | (exfalso; omega; done) | (exfalso; contradiction; done))
      · skip
        have g16 := i_ne h11
        have hg17 : (0 ≤ l2 ∧ l2.toNatClampNeg < 3100) := i_ix (by omega) (by omega)
        refine ⟨hg17, ?_⟩
        first | have f18 : 0 ≤ (m 100 l2.toNatClampNeg).toInt ∧ (m 100 l2.toNatClampNeg).toInt ≤ 100000 := ra_100 (m := m) hV (k := l2.toNatClampNeg) (i_ix (n := 3100) (by omega) (by omega)).2 | have b19 := i_bd (m 100 l2.toNatClampNeg)
        have b20 := i_bd l1
        refine zd (fun (h21 : (m 100 l2.toNatClampNeg) = l1) => ?_) (fun (h21 : ¬ (m 100 l2.toNatClampNeg) = l1) => ?_)
        · skip
          have g22 := i_eq h21
          exact K (l2) _ hF hV (show -1 ≤ l2.toInt ∧ l2.toInt ≤ 3099 from by omega) (show qPl (m 99) (m 100) nu l2 from by first | (exact Or.inr ⟨by omega, by omega, by assumption, by rw [← r_LN]; assumption⟩) | (exact Or.inl ⟨rfl, fun t ht => r_PLl t (by omega)⟩) | (exfalso; omega; done) | (exfalso; contradiction; done))
        · skip
          have g23 := i_ne h21
          first | have e24 : (l2 + (1 : Int32)).toInt = l2.toInt + (1) := i_addk rfl (by omega) (by omega) | have b25 := i_bd (l2 + (1 : Int32))
          exact IH (3100 - (l2 + (1 : Int32)).toInt).toNat (by omega) _ (l1) ((l2 + (1 : Int32))) rfl hF hV (by omega) r_LN (show ∀ t : Nat, (t : Int) < (l2 + (1 : Int32)).toInt → (m 99) t ≠ 0 → (m 100) t ≠ nu from by first | (intro t ht; omega; done) | (exact pl_s r_PLl (by omega) (by omega) (Or.inl (by assumption))) | (exact pl_s r_PLl (by omega) (by omega) (Or.inr (by rw [← r_LN]; assumption))) | (exfalso; omega; done) | (exfalso; contradiction; done))
theorem sp_246r {X : Nat × (Nat → Int32)} {P : Option ma_V → (Nat → Nat → Int32) → Prop} {m : Nat → Nat → Int32} (nu : Int32) (hV : zV m)  (KZ : ∀ v m₉, zV (zov wr_246 m m₉) → (-1 ≤ v.toInt ∧ v.toInt ≤ 3099) → (qPl (m 99) (m 100) nu v) → P (some (.inl v)) (zov wr_246 m m₉)) : zm X 0 0 246 0 [(0, .inr (.inr (some 94))), (1, .inl nu)] m P := by
  have K : ∀ v m₉, zF wr_246 m m₉ → zV m₉ → (-1 ≤ v.toInt ∧ v.toInt ≤ 3099) → (qPl (m₉ 99) (m₉ 100) nu v) → P (some (.inl v)) m₉ := by
    intro v m₉ hf z q0 q1
    have e := zov_eq hf
    rw [e] at z ⊢
    try rw [e] at q0
    try rw [e] at q1
    exact KZ v m₉ z q0 q1
  refine g_246_0 nu ?_
  have b1 := i_bd nu
  have li2 : (0 : Int32).toInt = 0 := rfl
  exact lp_246r_2 (nu := nu) hV K _ _ (nu) ((0 : Int32)) rfl zF_rfl hV (by omega) (show nu = nu from by first | (exact rfl) | (exfalso; omega; done) | (exfalso; contradiction; done)) (show ∀ t : Nat, (t : Int) < (0 : Int32).toInt → (m 99) t ≠ 0 → (m 100) t ≠ nu from by first | (intro t ht; omega; done) | (exfalso; omega; done) | (exfalso; contradiction; done))

/-! from 95.h03 -/
/-! the reference by numbers (written by wip/tools/gen18r.py) -/
/-! FREE BLOCKS, the reference -/
/-- an equation that omega shall not look into -/
def qEq (x y : Int) : Prop := x = y
theorem qE {x y : Int} (h : qEq x y) : x = y := h
section QB
variable {a : Nat → Nat → Int32} {us nr kr kd ws at₉ ho wd wi ow rt wk wl : Nat → Int32} {wm nu ro fo le ra pi x y bs l q2 : Int32} {p q z b T e : Int} {k : Nat} {s : Int32}
theorem RB_ro (h : qRB us nr kr kd ws at₉ ho wd wi ow rt wk wl wm nu ro fo le ra pi a) : a 87 0 = ro := h.2.2.2.2.2.2.2.2.1
theorem RB_fo (h : qRB us nr kr kd ws at₉ ho wd wi ow rt wk wl wm nu ro fo le ra pi a) : a 87 1 = fo := h.2.2.2.2.2.2.2.2.2.1
theorem RB_le (h : qRB us nr kr kd ws at₉ ho wd wi ow rt wk wl wm nu ro fo le ra pi a) : a 87 2 = le := h.2.2.2.2.2.2.2.2.2.2.1
theorem Sz_I (h : qI a) : zSz a := by
  intro p hp
  have hc : 0 ≤ p ∧ p < 4500 ∧ 0 ≤ (a 71 p.toNat).toInt ∧ (a 71 p.toNat).toInt < 512 ∧ a 126 (a 71 p.toNat).toNatClampNeg ≠ 0 := by
    unfold zOb at hp
    split at hp
    · next z => exact z
    · exact absurd hp (by decide)
  have e : zOb a p = a 71 p.toNat := if_pos hc
  have e1 := tn_cast hc.2.2.1
  rw [e]
  exact (h.1 _ ⟨by omega, hc.2.2.2.2⟩).2.1.1
theorem Gd_c (h : qGd a p) (e : p = q) : qGd a q := e ▸ h
/-- over one that is there -/
theorem BF_ob (hI : qI a) (h : qRB us nr kr kd ws at₉ ho wd wi ow rt wk wl wm nu ro fo le ra pi a) (hO : zOw us at₉ ow) (g : qGd a x.toInt) (h0 : 0 ≤ x.toInt) (h1 : x.toInt < ro.toInt) (h5 : ro.toInt ≤ 1500) (hn : 0 ≤ (ow x.toNatClampNeg).toInt) (hx : (ow x.toNatClampNeg).toInt ≤ 3099) (e : y.toInt = x.toInt + ((ws (ow x.toNatClampNeg).toNatClampNeg).toInt + 1)) : aN a y.toInt = aN a x.toInt ∧ qGd a y.toInt ∧ y.toInt ≤ ro.toInt := by
  have ob := OB_y (p := x.toInt) hI h.1 hO h0 (by omega) hn (by show (ow x.toNatClampNeg).toInt < 3100; omega)
  have nx := Gd_nx hI g ob.2.2
  have r := RB_ro h
  have hs := tn_lt hn (by omega)
  have o := hO x.toNatClampNeg (by have := tn_cast h0; omega) hn
  have w := (h.1.1 _ hs o.1).2.2.2.2.2.1
  have e1 : (a 128 (zOb a x.toInt).toNatClampNeg).toInt = (ws (ow x.toNatClampNeg).toNatClampNeg).toInt + 1 := by
    rw [ob.2.1]
    exact i_p1 (by have := w.2; exact Int.lt_of_le_of_lt this (by decide))
  rw [e1, r] at nx
  have st := aN_ob (p := x.toInt) (Sz_I hI) (by rw [r]; exact h1) ob.2.2
  rw [e1] at st
  rw [e]
  refine ⟨st.symm, ?_, ?_⟩
  · exact Gd_c nx.1 (by omega)
  · omega
theorem sz_add (h : qRB us nr kr kd ws at₉ ho wd wi ow rt wk wl wm nu ro fo le ra pi a) (hO : zOw us at₉ ow) (h0 : 0 ≤ x.toInt) (h1 : x.toInt < 4600) (hn : 0 ≤ (ow x.toNatClampNeg).toInt) (hx : (ow x.toNatClampNeg).toInt ≤ 3099) : (x + (ws (ow x.toNatClampNeg).toNatClampNeg + 1)).toInt = x.toInt + ((ws (ow x.toNatClampNeg).toNatClampNeg).toInt + 1) := by
  have hs := tn_lt hn (by omega)
  have o := hO x.toNatClampNeg (by have := tn_cast h0; omega) hn
  have w := (h.1.1 _ hs o.1).2.2.2.2.2.1
  have e1 := i_p1 (i := ws (ow x.toNatClampNeg).toNatClampNeg) (by omega)
  rw [i_add (by omega) (by omega), e1]
theorem BF_o2 (hI : qI a) (h : qRB us nr kr kd ws at₉ ho wd wi ow rt wk wl wm nu ro fo le ra pi a) (hO : zOw us at₉ ow) (g : qGd a x.toInt) (h0 : 0 ≤ x.toInt) (h1 : x.toInt < ro.toInt) (h5 : ro.toInt ≤ 1500) (hn : 0 ≤ (ow x.toNatClampNeg).toInt) (hx : (ow x.toNatClampNeg).toInt ≤ 3099) : (x + (ws (ow x.toNatClampNeg).toNatClampNeg + 1)).toInt ≤ ro.toInt := (BF_ob hI h hO g h0 h1 h5 hn hx (sz_add h hO h0 (by omega) hn hx)).2.2
theorem BF_fr (hI : qI a) (h : qRB us nr kr kd ws at₉ ho wd wi ow rt wk wl wm nu ro fo le ra pi a) (g : qGd a x.toInt) (h0 : 0 ≤ x.toInt) (h5 : x.toInt < 1500) (hn : (ow x.toNatClampNeg).toInt < 0) : (zOb a x.toInt).toInt < 0 := OB_n hI h.1 h.2.2.2.2.2.2.1 g h0 (by omega) hn
theorem BF_st (h : qRB us nr kr kd ws at₉ ho wd wi ow rt wk wl wm nu ro fo le ra pi a) (e : ro.toInt ≤ p) : aN a p = ro.toInt := by
  rw [← RB_ro h] at e ⊢
  exact aN_ro e
theorem BF_n (hI : qI a) (h : qRB us nr kr kd ws at₉ ho wd wi ow rt wk wl wm nu ro fo le ra pi a) (g : qGd a x.toInt) (h0 : 0 ≤ x.toInt) (h1 : x.toInt < ro.toInt) (h5 : ro.toInt ≤ 1500) (hn : (ow x.toNatClampNeg).toInt < 0) : aN a x.toInt = x.toInt := aN_fr (by rw [RB_ro h]; exact h1) (BF_fr hI h g h0 (by omega) hn)
theorem BF_e (hI : qI a) (h : qRB us nr kr kd ws at₉ ho wd wi ow rt wk wl wm nu ro fo le ra pi a) (g : qGd a x.toInt) (h0 : 0 ≤ x.toInt) (h1 : x.toInt < ro.toInt) (h5 : ro.toInt ≤ 1500) (hn : (ow x.toNatClampNeg).toInt < 0) (e : y.toInt = x.toInt + 1) : aE a y.toInt = aE a x.toInt ∧ qGd a y.toInt := by
  have f := BF_fr hI h g h0 (by omega) hn
  rw [e]
  exact ⟨(aE_go (by rw [RB_ro h]; exact h1) f).symm, Gd_s hI g f h0 (by omega)⟩
theorem BF_e1 (h : qRB us nr kr kd ws at₉ ho wd wi ow rt wk wl wm nu ro fo le ra pi a) (h1 : ro.toInt ≤ x.toInt) : aE a x.toInt = x.toInt := aE_st (by rw [RB_ro h]; omega)
theorem BF_e2 (hI : qI a) (h : qRB us nr kr kd ws at₉ ho wd wi ow rt wk wl wm nu ro fo le ra pi a) (hO : zOw us at₉ ow) (h0 : 0 ≤ x.toInt) (h5 : x.toInt < 4500) (hn : 0 ≤ (ow x.toNatClampNeg).toInt) (hx : (ow x.toNatClampNeg).toInt ≤ 3099) : aE a x.toInt = x.toInt := by
  have ob := OB_y (p := x.toInt) hI h.1 hO h0 h5 hn (by show (ow x.toNatClampNeg).toInt < 3100; omega)
  exact aE_st (fun z => by have := z.2; have := ob.2.2; omega)
/-- what a search for a free block answers -/
def qBF (a : Nat → Nat → Int32) (f ro : Int) (v bs : Int) : Prop := (v = -1 ∧ aN a f = ro) ∨ (v = aN a f ∧ v + bs = aE a v ∧ qGd a (v + bs) ∧ v < ro ∧ 0 ≤ v ∧ v + bs ≤ ro)
theorem aN_ge (h : zSz a) : ∀ (n : Nat) (p : Int), ((a 87 0).toInt - p).toNat = n → p ≤ (a 87 0).toInt → p ≤ aN a p ∧ aN a p ≤ (a 87 0).toInt ∧ (aN a p < (a 87 0).toInt → (zOb a (aN a p)).toInt < 0) := by
  intro n
  induction n using Nat.strongRecOn with
  | _ n IH =>
    intro p hn hp
    by_cases c : p < (a 87 0).toInt
    · by_cases d : (zOb a p).toInt < 0
      · rw [aN_fr c d]
        exact ⟨by omega, by omega, fun _ => d⟩
      · have s0 := h p (by omega)
        rw [aN_ob h c (by omega)]
        by_cases e : p + (a 128 (zOb a p).toNatClampNeg).toInt ≤ (a 87 0).toInt
        · have q := IH _ (by omega) (p + (a 128 (zOb a p).toNatClampNeg).toInt) rfl e
          exact ⟨by omega, q.2.1, q.2.2⟩
        · rw [aN_ro (by omega)]
          exact ⟨by omega, by omega, fun w => by omega⟩
    · rw [aN_ro (by omega)]
      exact ⟨by omega, by omega, fun w => by omega⟩
theorem aE_ge : ∀ (n : Nat) (p : Int), ((a 87 0).toInt - p).toNat = n → p ≤ aE a p ∧ (p < (a 87 0).toInt → (zOb a p).toInt < 0 → p + 1 ≤ aE a p) ∧ (p ≤ (a 87 0).toInt → aE a p ≤ (a 87 0).toInt) := by
  intro n
  induction n using Nat.strongRecOn with
  | _ n IH =>
    intro p hn
    by_cases c : p < (a 87 0).toInt ∧ (zOb a p).toInt < 0
    · rw [aE_go c.1 c.2]
      have q := IH _ (by omega) (p + 1) rfl
      exact ⟨by omega, fun _ _ => q.1, fun _ => q.2.2 (by omega)⟩
    · rw [aE_st c]
      exact ⟨by omega, fun w1 w2 => absurd ⟨w1, w2⟩ c, fun w => w⟩
theorem aNE (h : zSz a) (h1 : p < (a 87 0).toInt) (h2 : (zOb a p).toInt < 0) : p + 1 ≤ aN a (aE a p) ∧ aN a (aE a p) ≤ (a 87 0).toInt ∧ (aN a (aE a p) < (a 87 0).toInt → (zOb a (aN a (aE a p))).toInt < 0) := by
  have q := aE_ge (a := a) _ p rfl
  have q1 := q.2.1 h1 h2
  have r := aN_ge h _ (aE a p) rfl (q.2.2 (by omega))
  exact ⟨by omega, r.2.1, r.2.2⟩
/-- enough fuel is enough -/
theorem aFf_fu (h : zSz a) (hb : b ≤ (a 87 0).toInt) : ∀ (k k₉ : Nat) (p : Int), (p < (a 87 0).toInt → (zOb a p).toInt < 0) → ((a 87 0).toInt - p).toNat ≤ k → ((a 87 0).toInt - p).toNat ≤ k₉ → aFf a z b k p = aFf a z b k₉ p := by
  intro k
  induction k with
  | zero =>
    intro k₉ p hf h1 h2
    rw [aFf_st (Or.inl rfl), aFf_st (Or.inr (by omega))]
  | succ k ih =>
    intro k₉ p hf h1 h2
    by_cases c : p < b
    · have f := hf (by omega)
      cases k₉ with
      | zero => omega
      | succ k₉ =>
        by_cases d : z ≤ aE a p - p
        · rw [aFf_y c d, aFf_y c d]
        · rw [aFf_n c d, aFf_n c d]
          have q := aNE h (by omega) f
          exact ih k₉ _ q.2.2 (by omega) (by omega)
    · rw [aFf_st (Or.inr c), aFf_st (Or.inr c)]
theorem aFl_fu (h : zSz a) : ∀ (k k₉ : Nat) (p q l : Int), (p < (a 87 0).toInt → (zOb a p).toInt < 0) → ((a 87 0).toInt - p).toNat ≤ k → ((a 87 0).toInt - p).toNat ≤ k₉ → aFl a z s k p q l = aFl a z s k₉ p q l := by
  intro k
  induction k with
  | zero =>
    intro k₉ p q l hf h1 h2
    rw [aFl_st (Or.inl rfl), aFl_st (Or.inr (by omega))]
  | succ k ih =>
    intro k₉ p q l hf h1 h2
    by_cases c : p < (a 87 0).toInt
    · have f := hf c
      cases k₉ with
      | zero => omega
      | succ k₉ =>
        have w := aNE h c f
        show (if p < (a 87 0).toInt then (if z ≤ aE a p - p ∧ (q = -1 ∨ (if s = 0 then l < aE a p - p else aE a p - p < l)) then aFl a z s k (aN a (aE a p)) p (aE a p - p) else aFl a z s k (aN a (aE a p)) q l) else q) = (if p < (a 87 0).toInt then (if z ≤ aE a p - p ∧ (q = -1 ∨ (if s = 0 then l < aE a p - p else aE a p - p < l)) then aFl a z s k₉ (aN a (aE a p)) p (aE a p - p) else aFl a z s k₉ (aN a (aE a p)) q l) else q)
        rw [ih k₉ _ p (aE a p - p) w.2.2 (by omega) (by omega), ih k₉ _ q l w.2.2 (by omega) (by omega)]
    · rw [aFl_st (Or.inr c), aFl_st (Or.inr c)]
/-- the rest of a search, from the block at p on -/
def qFF (a : Nat → Nat → Int32) (z b ro p bs T : Int) : Prop := (p = -1 ∧ T = -1) ∨ (0 ≤ p ∧ p < ro ∧ p + bs = aE a p ∧ p + bs ≤ ro ∧ qGd a (p + bs) ∧ (zOb a p).toInt < 0 ∧ aFf a z b 4500 p = T)
theorem FF_of (hI : qI a) (h : qRB us nr kr kd ws at₉ ho wd wi ow rt wk wl wm nu ro fo le ra pi a) (hf : 0 ≤ q ∧ q ≤ ro.toInt) (hb : b ≤ ro.toInt) (h1 : qBF a q ro.toInt p e) (hT : aFf a z b 4500 (aN a q) = T) : qFF a z b ro.toInt p e T := by
  have r := RB_ro h
  have g := aN_ge (Sz_I hI) _ q rfl (by rw [r]; exact hf.2)
  rw [r] at g
  rcases h1 with w | w
  · rw [w.2, aFf_st (Or.inr (by omega))] at hT
    exact Or.inl ⟨w.1, hT.symm⟩
  · refine Or.inr ⟨w.2.2.2.2.1, w.2.2.2.1, w.2.1, w.2.2.2.2.2, w.2.2.1, ?_, ?_⟩
    · rw [w.1]
      exact g.2.2 (by rw [← w.1]; exact w.2.2.2.1)
    · rw [w.1]
      exact hT
theorem FF_go (hI : qI a) (h : qRB us nr kr kd ws at₉ ho wd wi ow rt wk wl wm nu ro fo le ra pi a) (h5 : ro.toInt ≤ 1500) (hb : b ≤ ro.toInt) (h0 : 0 ≤ p) (h1 : qFF a z b ro.toInt p e T) (hp : p < b) (hl : e < z) {p₉ e₉ : Int} (q2 : q = p + e) (h2 : qBF a q ro.toInt p₉ e₉) : qFF a z b ro.toInt p₉ e₉ T := by
  rcases h1 with w | w
  · omega
  · have r := RB_ro h
    have ge := (aE_ge (a := a) _ p rfl).1
    refine FF_of hI h (q := q) (by omega) hb h2 ?_
    rw [← w.2.2.2.2.2.2, q2, w.2.2.1]
    have s := Sz_I hI
    have ne := aNE s (by rw [r]; exact w.2.1) w.2.2.2.2.2.1
    rw [aFf_fu (k := 4500) (k₉ := 4499 + 1) (p := p) s (by rw [r]; exact hb) (fun _ => w.2.2.2.2.2.1) (by rw [r]; omega) (by rw [r]; omega), aFf_n hp (by omega)]
    exact aFf_fu s (by rw [r]; exact hb) _ _ _ ne.2.2 (by rw [r]; omega) (by rw [r]; omega)
theorem FF_gd (h1 : qFF a z b e p q T) (h0 : 0 ≤ p) : qGd a (p + q) ∧ p + q ≤ e ∧ p < e := by
  rcases h1 with w | w
  · omega
  · exact ⟨w.2.2.2.2.1, w.2.2.2.1, w.2.1⟩
theorem FF_y (h1 : qFF a z b e p q T) (h0 : 0 ≤ p) (hp : p < b) (hl : z ≤ q) : p = T := by
  rcases h1 with w | w
  · omega
  · rw [← w.2.2.2.2.2.2]
    exact (aFf_y hp (by omega)).symm
theorem FF_n (h1 : qFF a z b e p q T) (hp : p < 0 ∨ b ≤ p) : (-1 : Int) = T := by
  rcases h1 with w | w
  · exact w.2.symm
  · rw [← w.2.2.2.2.2.2]
    exact (aFf_st (Or.inr (by omega))).symm
/-- where a place that is no inner word begins -/
theorem SO_st (hI : qI a) (h : qRB us nr kr kd ws at₉ ho wd wi ow rt wk wl wm nu ro fo le ra pi a) (hO : zOw us at₉ ow) (g : qGd a x.toInt) (h0 : 0 ≤ x.toInt) (h1 : x.toInt < z) (hz : z ≤ ro.toInt) (gz : qGd a z) (h5 : ro.toInt ≤ 1500) (hn : 0 ≤ (ow x.toNatClampNeg).toInt) (hx : (ow x.toNatClampNeg).toInt ≤ 3099) (e : y.toInt = x.toInt + ((ws (ow x.toNatClampNeg).toNatClampNeg).toInt + 1)) : y.toInt ≤ z ∧ qGd a y.toInt := by
  have bf := BF_ob hI h hO g h0 (by omega) h5 hn hx e
  refine ⟨?_, bf.2.1⟩
  have ob := OB_y (p := x.toInt) hI h.1 hO h0 (by omega) hn (by show (ow x.toNatClampNeg).toInt < 3100; omega)
  obtain ⟨n, n1, n2, n3, n4⟩ := OB_al hI g ob.2.2
  have gn := gz n n1
  have hs := tn_lt hn (by omega)
  have o := hO x.toNatClampNeg (by have := tn_cast h0; omega) hn
  have w := (h.1.1 _ hs o.1).2.2.2.2.2.1
  have e1 : (a 128 (zOb a x.toInt).toNatClampNeg).toInt = (ws (ow x.toNatClampNeg).toNatClampNeg).toInt + 1 := by
    rw [ob.2.1]
    exact i_p1 (by have := w.2; exact Int.lt_of_le_of_lt this (by decide))
  rw [n4] at e1
  omega
theorem SO_s2 (hI : qI a) (h : qRB us nr kr kd ws at₉ ho wd wi ow rt wk wl wm nu ro fo le ra pi a) (hO : zOw us at₉ ow) (g : qGd a x.toInt) (h0 : 0 ≤ x.toInt) (h1 : x.toInt < z) (hz : z ≤ ro.toInt) (gz : qGd a z) (h5 : ro.toInt ≤ 1500) (hn : 0 ≤ (ow x.toNatClampNeg).toInt) (hx : (ow x.toNatClampNeg).toInt ≤ 3099) : (x + (ws (ow x.toNatClampNeg).toNatClampNeg + 1)).toInt ≤ z := (SO_st hI h hO g h0 h1 hz gz h5 hn hx (sz_add h hO h0 (by omega) hn hx)).1
/-- the best so far -/
def qS (fo : Int32) : Int32 := if fo = 2 then 1 else 0
def qFL (a : Nat → Nat → Int32) (z : Int) (fo : Int32) (ro p bs q l T : Int) : Prop := (p = -1 ∧ T = q) ∨ (0 ≤ p ∧ p < ro ∧ p + bs = aE a p ∧ p + bs ≤ ro ∧ qGd a (p + bs) ∧ (zOb a p).toInt < 0 ∧ aFl a z (qS fo) 4500 p q l = T)
theorem FL_of (hI : qI a) (h : qRB us nr kr kd ws at₉ ho wd wi ow rt wk wl wm nu ro fo le ra pi a) {f l : Int} (hf : 0 ≤ f ∧ f ≤ ro.toInt) (h1 : qBF a f ro.toInt p e) (hT : aFl a z (qS fo) 4500 (aN a f) q l = T) : qFL a z fo ro.toInt p e q l T := by
  have r := RB_ro h
  have g := aN_ge (Sz_I hI) _ f rfl (by rw [r]; exact hf.2)
  rw [r] at g
  rcases h1 with w | w
  · rw [w.2, aFl_st (Or.inr (by rw [r]; omega))] at hT
    exact Or.inl ⟨w.1, hT.symm⟩
  · refine Or.inr ⟨w.2.2.2.2.1, w.2.2.2.1, w.2.1, w.2.2.2.2.2, w.2.2.1, ?_, ?_⟩
    · rw [w.1]
      exact g.2.2 (by rw [← w.1]; exact w.2.2.2.1)
    · rw [w.1]
      exact hT
theorem FL_nx (hI : qI a) (h : qRB us nr kr kd ws at₉ ho wd wi ow rt wk wl wm nu ro fo le ra pi a) (h5 : ro.toInt ≤ 1500) {l q₉ l₉ : Int} (h0 : 0 ≤ p) (hp : p < ro.toInt) (hf : (zOb a p).toInt < 0) (he : p + e = aE a p) (hr : p + e ≤ ro.toInt) (ht : aFl a z (qS fo) 4500 p q l = aFl a z (qS fo) 4499 (aN a (aE a p)) q₉ l₉) (hT : aFl a z (qS fo) 4500 p q l = T) {f p₉ e₉ : Int} (q2 : f = p + e) (h2 : qBF a f ro.toInt p₉ e₉) : qFL a z fo ro.toInt p₉ e₉ q₉ l₉ T := by
  have r := RB_ro h
  have s := Sz_I hI
  have ge := (aE_ge (a := a) _ p rfl).1
  refine FL_of hI h (f := f) (by omega) h2 ?_
  rw [← hT, ht, q2, he]
  have ne := aNE s (by rw [r]; exact hp) hf
  exact aFl_fu s _ _ _ _ _ ne.2.2 (by rw [r]; omega) (by rw [r]; omega)
theorem FL_y (hI : qI a) (h : qRB us nr kr kd ws at₉ ho wd wi ow rt wk wl wm nu ro fo le ra pi a) (h5 : ro.toInt ≤ 1500) {l : Int} (h0 : 0 ≤ p) (h1 : qFL a z fo ro.toInt p e q l T) (hl : z ≤ e) (hc : q < 0 ∨ (fo = 2 ∧ e < l) ∨ (¬ fo = 2 ∧ l < e)) (hq : -1 ≤ q) {f p₉ e₉ : Int} (q2 : f = p + e) (h2 : qBF a f ro.toInt p₉ e₉) : qFL a z fo ro.toInt p₉ e₉ p e T := by
  rcases h1 with w | w
  · omega
  · refine FL_nx hI h h5 h0 w.2.1 w.2.2.2.2.2.1 w.2.2.1 w.2.2.2.1 ?_ w.2.2.2.2.2.2 q2 h2
    have r := RB_ro h
    have q1 := aFl_y (a := a) (p := p) (z := z) (q := q) (l := l) (s := qS fo) (k := 4499) (by rw [r]; exact w.2.1) (by omega) (by
      rcases hc with c | c | c
      · exact Or.inl (by omega)
      · exact Or.inr (Or.inr ⟨by unfold qS; rw [if_pos c.1]; decide, by omega⟩)
      · exact Or.inr (Or.inl ⟨by unfold qS; rw [if_neg c.1], by omega⟩))
    rw [show aE a p - p = e by omega] at q1
    exact q1
theorem FL_n (hI : qI a) (h : qRB us nr kr kd ws at₉ ho wd wi ow rt wk wl wm nu ro fo le ra pi a) (h5 : ro.toInt ≤ 1500) {l : Int} (h0 : 0 ≤ p) (h1 : qFL a z fo ro.toInt p e q l T) (hc : e < z ∨ (0 ≤ q ∧ ((fo = 2 ∧ l ≤ e) ∨ (¬ fo = 2 ∧ e ≤ l)))) {f p₉ e₉ : Int} (q2 : f = p + e) (h2 : qBF a f ro.toInt p₉ e₉) : qFL a z fo ro.toInt p₉ e₉ q l T := by
  rcases h1 with w | w
  · omega
  · refine FL_nx hI h h5 h0 w.2.1 w.2.2.2.2.2.1 w.2.2.1 w.2.2.2.1 ?_ w.2.2.2.2.2.2 q2 h2
    have r := RB_ro h
    exact aFl_n (k := 4499) (by rw [r]; exact w.2.1) (by
      rcases hc with c | ⟨c0, c | c⟩
      · exact Or.inl (by omega)
      · exact Or.inr ⟨by omega, Or.inr ⟨by unfold qS; rw [if_pos c.1]; decide, by omega⟩⟩
      · exact Or.inr ⟨by omega, Or.inl ⟨by unfold qS; rw [if_neg c.1], by omega⟩⟩)
theorem FL_gd {l ro : Int} (h1 : qFL a z fo ro p e q l T) (h0 : 0 ≤ p) : qGd a (p + e) ∧ p + e ≤ ro ∧ p < ro := by
  rcases h1 with w | w
  · omega
  · exact ⟨w.2.2.2.2.1, w.2.2.2.1, w.2.1⟩
theorem FL_e {l ro : Int} (h1 : qFL a z fo ro p e q l T) (h0 : p < 0) : q = T := by
  rcases h1 with w | w
  · exact w.2.symm
  · omega
theorem Ft_0 (h : a 87 1 = 0) (hz : b = (a 87 0).toInt) : aFt a z = aFf a z b 4500 (aN a 0) := by
  unfold aFt
  rw [if_pos h, hz]
theorem Ft_1 (h : a 87 1 = 1) : aFt a z = aFx a z := by
  unfold aFt
  rw [if_neg (by rw [h]; decide), if_pos h]
theorem Ft_2 (h0 : ¬ a 87 1 = 0) (h1 : ¬ a 87 1 = 1) : aFt a z = aFl a z (qS (a 87 1)) 4500 (aN a 0) (-1) 0 := by
  unfold aFt qS
  rw [if_neg h0, if_neg h1]
  by_cases c : a 87 1 = 2
  · rw [if_pos c, if_pos c]
  · rw [if_neg c, if_neg c]
theorem Fx_y (h : qRB us nr kr kd ws at₉ ho wd wi ow rt wk wl wm nu ro fo le ra pi a) {f v : Int} (el : f = le.toInt) (h1 : v = aFf a z ro.toInt 4500 (aN a f)) (hv : 0 ≤ v) : v = aFx a z := by
  rw [el, ← RB_ro h, ← RB_le h] at h1
  unfold aFx
  rw [← h1, if_neg (by omega)]
theorem Fx_n (h : qRB us nr kr kd ws at₉ ho wd wi ow rt wk wl wm nu ro fo le ra pi a) {f v v2 : Int} (el : f = le.toInt) (h1 : v = aFf a z ro.toInt 4500 (aN a f)) (h2 : v2 = aFf a z e 4500 (aN a 0)) (ee : e = le.toInt) (hv : v = -1) : v2 = aFx a z := by
  rw [el, ← RB_ro h, ← RB_le h] at h1
  rw [ee, ← RB_le h] at h2
  unfold aFx
  rw [← h1, if_pos hv]
  exact h2
end QB
theorem lp_226r_42 {X : Nat × (Nat → Int32)} {P : Option ma_V → (Nat → Nat → Int32) → Prop} {aa : Nat→Nat→Int32} {f : Int32} {e : Int32} {m0 : Nat → Nat → Int32} (h0 : zV m0) (K : ∀ v m₉, zF wr_226 m0 m₉ → zV m₉ → (v.toInt = -1 ∨ (f.toInt ≤ v.toInt ∧ v.toInt < e.toInt ∧ 1 ≤ (m₉ 94 84).toInt ∧ v.toInt + (m₉ 94 84).toInt ≤ e.toInt)) → (qBF aa f.toInt (m₉ 94 11).toInt v.toInt (m₉ 94 84).toInt) → P (some (.inl v)) m₉) : ∀ (n : Nat) (m : Nat → Nat → Int32) (l2 : Int32) (l3 : Int32) (l4 : Int32), (l2.toInt - l4.toInt).toNat = n → zF wr_226 m0 m → zV m → (0 ≤ l3.toInt) → (l3.toInt < l2.toInt) → (l3.toInt ≤ l4.toInt) → (l4.toInt ≤ l2.toInt) → (l2.toInt = e.toInt) → (l2.toInt = (m 94 11).toInt) → (f.toInt ≤ l3.toInt) → (l3.toInt < l4.toInt ∨ (l4 = l3 ∧ ((m 111) l3.toNatClampNeg).toInt < 0)) → (qGd aa l4.toInt) → (aN aa f.toInt = l3.toInt) → (aE aa l4.toInt = aE aa l3.toInt) → (qRB (m 99) (m 100) (m 98) (m 101) (m 102) (m 103) (m 107) (m 108) (m 109) (m 111) (m 112) (m 113) (m 114) (m 94 55) (m 94 46) (m 94 11) (m 94 12) (m 94 62) (m 94 17) (m 94 9) aa) → (qI aa) → (zOw (m 99) (m 103) (m 111)) → zm X 1 21 226 42 [(0, .inr (.inr (some 94))), (2, .inl l2), (3, .inl l3), (4, .inl l4)] m P := by
  intro n
  induction n using Nat.strongRecOn with
  | _ n IH =>
    intro m l2 l3 l4 hmu hF hV hi0 hi1 hi2 hi3 hi4 hi5 hi6 r_BQ r_GD r_NV r_EE r_RB r_QI r_OW
    refine g_226_42 l2 l3 l4 ?_
    have f1 : 0 ≤ (m 94 11).toInt ∧ (m 94 11).toInt ≤ 1500 := rs_94_11 (m := m) hV
    have b2 := i_bd l2
    have b3 := i_bd l4
    refine zd (fun (h4 : l2 ≤ l4) => ?_) (fun (h4 : ¬ l2 ≤ l4) => ?_)
    · skip
      have g5 := i_le h4
      try have gq : l3.toInt < l4.toInt := r_BQ.elim id (fun z => absurd z.2 (by rw [← z.1]; omega))
      try have bo := BF_o2 r_QI r_RB r_OW r_GD (by omega) (by omega) (by omega) (by omega) (by omega)
      have b7 := i_bd l3
      first | have e8 : (l4 - l3).toInt = l4.toInt - l3.toInt := i_sub (by omega) (by omega) | have b9 := i_bd (l4 - l3)
      have hV6 : zV (ma_u m 94 84 (l4 - l3)) := us_94_84 hV (by omega) (by omega)
      exact K (l3) _ (zF_u hF rfl) hV6 (show l3.toInt = -1 ∨ (f.toInt ≤ l3.toInt ∧ l3.toInt < e.toInt ∧ 1 ≤ (l4 - l3).toInt ∧ l3.toInt + (l4 - l3).toInt ≤ e.toInt) from by omega) (show qBF aa f.toInt (m 94 11).toInt l3.toInt (l4 - l3).toInt from by first | (have ee : l4.toInt = aE aa l3.toInt := ((BF_e1 r_RB (by omega)).symm.trans r_EE); exact Or.inr ⟨r_NV.symm, by omega, Gd_c r_GD (by omega), by omega, by omega, by omega⟩; done) | (have ee : l4.toInt = aE aa l3.toInt := ((BF_e2 r_QI r_RB r_OW (by omega) (by omega) (by omega) (by omega)).symm.trans r_EE); exact Or.inr ⟨r_NV.symm, by omega, Gd_c r_GD (by omega), by omega, by omega, by omega⟩; done) | (exfalso; omega; done) | (exfalso; contradiction; done))
    · skip
      have g10 := i_nle h4
      have hg11 : (0 ≤ l4 ∧ l4.toNatClampNeg < 4600) := i_ix (by omega) (by omega)
      refine ⟨hg11, ?_⟩
      have li12 : (0 : Int32).toInt = 0 := rfl
      first | have f13 : -1 ≤ (m 111 l4.toNatClampNeg).toInt ∧ (m 111 l4.toNatClampNeg).toInt ≤ 3099 := ra_111 (m := m) hV (k := l4.toNatClampNeg) (i_ix (n := 4600) (by omega) (by omega)).2 | have b14 := i_bd (m 111 l4.toNatClampNeg)
      refine zd (fun (h15 : (0 : Int32) ≤ (m 111 l4.toNatClampNeg)) => ?_) (fun (h15 : ¬ (0 : Int32) ≤ (m 111 l4.toNatClampNeg)) => ?_)
      · skip
        have g16 := i_le h15
        try have gq : l3.toInt < l4.toInt := r_BQ.elim id (fun z => absurd z.2 (by rw [← z.1]; omega))
        try have bo := BF_o2 r_QI r_RB r_OW r_GD (by omega) (by omega) (by omega) (by omega) (by omega)
        have b18 := i_bd l3
        first | have e19 : (l4 - l3).toInt = l4.toInt - l3.toInt := i_sub (by omega) (by omega) | have b20 := i_bd (l4 - l3)
        have hV17 : zV (ma_u m 94 84 (l4 - l3)) := us_94_84 hV (by omega) (by omega)
        exact K (l3) _ (zF_u hF rfl) hV17 (show l3.toInt = -1 ∨ (f.toInt ≤ l3.toInt ∧ l3.toInt < e.toInt ∧ 1 ≤ (l4 - l3).toInt ∧ l3.toInt + (l4 - l3).toInt ≤ e.toInt) from by omega) (show qBF aa f.toInt (m 94 11).toInt l3.toInt (l4 - l3).toInt from by first | (have ee : l4.toInt = aE aa l3.toInt := ((BF_e1 r_RB (by omega)).symm.trans r_EE); exact Or.inr ⟨r_NV.symm, by omega, Gd_c r_GD (by omega), by omega, by omega, by omega⟩; done) | (have ee : l4.toInt = aE aa l3.toInt := ((BF_e2 r_QI r_RB r_OW (by omega) (by omega) (by omega) (by omega)).symm.trans r_EE); exact Or.inr ⟨r_NV.symm, by omega, Gd_c r_GD (by omega), by omega, by omega, by omega⟩; done) | (exfalso; omega; done) | (exfalso; contradiction; done))
      · skip
        have g21 := i_nle h15
        try have gq : l3.toInt < l4.toInt := r_BQ.elim id (fun z => absurd z.2 (by rw [← z.1]; omega))
        try have bo := BF_o2 r_QI r_RB r_OW r_GD (by omega) (by omega) (by omega) (by omega) (by omega)
        have b22 := i_bd l3
        first | have e23 : (l4 + (1 : Int32)).toInt = l4.toInt + (1) := i_addk rfl (by omega) (by omega) | have b24 := i_bd (l4 + (1 : Int32))
        exact IH (l2.toInt - (l4 + (1 : Int32)).toInt).toNat (by omega) _ (l2) (l3) ((l4 + (1 : Int32))) rfl hF hV (by omega) (by omega) (by omega) (by omega) (by omega) (show l2.toInt = (m 94 11).toInt from by omega) (by omega) (show l3.toInt < (l4 + (1 : Int32)).toInt ∨ ((l4 + (1 : Int32)) = l3 ∧ ((m 111) l3.toNatClampNeg).toInt < 0) from by first | (exact Or.inl (by omega)) | (exact Or.inr ⟨rfl, by omega⟩) | (exfalso; omega; done) | (exfalso; contradiction; done)) (show qGd aa (l4 + (1 : Int32)).toInt from by first | (exact r_GD) | (exact (BF_ob r_QI r_RB r_OW r_GD (by omega) (by omega) (by omega) (by omega) (by omega) (by omega)).2.1) | (exact (BF_e r_QI r_RB r_GD (by omega) (by omega) (by omega) (by omega) (by omega)).2) | (exfalso; omega; done) | (exfalso; contradiction; done)) r_NV (show aE aa (l4 + (1 : Int32)).toInt = aE aa l3.toInt from by first | (exact rfl) | (exact (BF_e r_QI r_RB r_GD (by omega) (by omega) (by omega) (by omega) (by omega)).1.trans r_EE) | (exfalso; omega; done) | (exfalso; contradiction; done)) r_RB r_QI r_OW
theorem lp_226r_2 {X : Nat × (Nat → Int32)} {P : Option ma_V → (Nat → Nat → Int32) → Prop} {aa : Nat→Nat→Int32} {f : Int32} {e : Int32} {m0 : Nat → Nat → Int32} (h0 : zV m0) (K : ∀ v m₉, zF wr_226 m0 m₉ → zV m₉ → (v.toInt = -1 ∨ (f.toInt ≤ v.toInt ∧ v.toInt < e.toInt ∧ 1 ≤ (m₉ 94 84).toInt ∧ v.toInt + (m₉ 94 84).toInt ≤ e.toInt)) → (qBF aa f.toInt (m₉ 94 11).toInt v.toInt (m₉ 94 84).toInt) → P (some (.inl v)) m₉) : ∀ (n : Nat) (m : Nat → Nat → Int32) (l2 : Int32) (l3 : Int32), (l2.toInt - l3.toInt).toNat = n → zF wr_226 m0 m → zV m → (0 ≤ l3.toInt) → (l2.toInt = e.toInt) → (l2.toInt = (m 94 11).toInt) → (l3.toInt ≤ l2.toInt) → (f.toInt ≤ l3.toInt) → (qGd aa l3.toInt) → (aN aa l3.toInt = aN aa f.toInt) → (qRB (m 99) (m 100) (m 98) (m 101) (m 102) (m 103) (m 107) (m 108) (m 109) (m 111) (m 112) (m 113) (m 114) (m 94 55) (m 94 46) (m 94 11) (m 94 12) (m 94 62) (m 94 17) (m 94 9) aa) → (qI aa) → (zOw (m 99) (m 103) (m 111)) → zm X 1 21 226 2 [(0, .inr (.inr (some 94))), (2, .inl l2), (3, .inl l3)] m P := by
  intro n
  induction n using Nat.strongRecOn with
  | _ n IH =>
    intro m l2 l3 hmu hF hV hi0 hi1 hi2 hi3 hi4 r_GD r_NN r_RB r_QI r_OW
    refine g_226_2 l2 l3 ?_
    have f1 : 0 ≤ (m 94 11).toInt ∧ (m 94 11).toInt ≤ 1500 := rs_94_11 (m := m) hV
    have b2 := i_bd l2
    have b3 := i_bd l3
    refine zd (fun (h4 : l2 ≤ l3) => ?_) (fun (h4 : ¬ l2 ≤ l3) => ?_)
    · skip
      have g5 := i_le h4
      refine zd (fun (h6 : l3 < l2) => ?_) (fun (h6 : ¬ l3 < l2) => ?_)
      · skip
        have g7 := i_lt h6
        try have bo := BF_o2 r_QI r_RB r_OW r_GD (by omega) (by omega) (by omega) (by omega) (by omega)
        exact lp_226r_42 (f := f) (e := e) h0 K _ _ (l2) (l3) (l3) rfl hF hV (by omega) (by omega) (by omega) (by omega) (by omega) (show l2.toInt = (m 94 11).toInt from by omega) (by omega) (show l3.toInt < l3.toInt ∨ (l3 = l3 ∧ ((m 111) l3.toNatClampNeg).toInt < 0) from by first | (exact Or.inl (by omega)) | (exact Or.inr ⟨rfl, by omega⟩) | (exfalso; omega; done) | (exfalso; contradiction; done)) r_GD (show aN aa f.toInt = l3.toInt from by first | (exact r_NN.symm.trans (BF_n r_QI r_RB r_GD (by omega) (by omega) (by omega) (by omega))) | (exfalso; omega; done) | (exfalso; contradiction; done)) (show aE aa l3.toInt = aE aa l3.toInt from by first | (exact rfl) | (exfalso; omega; done) | (exfalso; contradiction; done)) r_RB r_QI r_OW
      · skip
        have g8 := i_nlt h6
        try have bo := BF_o2 r_QI r_RB r_OW r_GD (by omega) (by omega) (by omega) (by omega) (by omega)
        have li9 : (-1 : Int32).toInt = -1 := rfl
        have f10 : 0 ≤ (m 94 84).toInt ∧ (m 94 84).toInt ≤ 4600 := rs_94_84 (m := m) hV
        exact K ((-1 : Int32)) _ hF hV (show (-1 : Int32).toInt = -1 ∨ (f.toInt ≤ (-1 : Int32).toInt ∧ (-1 : Int32).toInt < e.toInt ∧ 1 ≤ (m 94 84).toInt ∧ (-1 : Int32).toInt + (m 94 84).toInt ≤ e.toInt) from by omega) (show qBF aa f.toInt (m 94 11).toInt (-1 : Int32).toInt (m 94 84).toInt from by first | (exact Or.inl ⟨by decide, r_NN.symm.trans (BF_st r_RB (by omega))⟩) | (exfalso; omega; done) | (exfalso; contradiction; done))
    · skip
      have g11 := i_nle h4
      have hg12 : (0 ≤ l3 ∧ l3.toNatClampNeg < 4600) := i_ix (by omega) (by omega)
      refine ⟨hg12, ?_⟩
      first | have f13 : -1 ≤ (m 111 l3.toNatClampNeg).toInt ∧ (m 111 l3.toNatClampNeg).toInt ≤ 3099 := ra_111 (m := m) hV (k := l3.toNatClampNeg) (i_ix (n := 4600) (by omega) (by omega)).2 | have b14 := i_bd (m 111 l3.toNatClampNeg)
      have li15 : (0 : Int32).toInt = 0 := rfl
      refine zd (fun (h16 : (m 111 l3.toNatClampNeg) < (0 : Int32)) => ?_) (fun (h16 : ¬ (m 111 l3.toNatClampNeg) < (0 : Int32)) => ?_)
      · skip
        have g17 := i_lt h16
        refine zd (fun (h18 : l3 < l2) => ?_) (fun (h18 : ¬ l3 < l2) => ?_)
        · skip
          have g19 := i_lt h18
          try have bo := BF_o2 r_QI r_RB r_OW r_GD (by omega) (by omega) (by omega) (by omega) (by omega)
          exact lp_226r_42 (f := f) (e := e) h0 K _ _ (l2) (l3) (l3) rfl hF hV (by omega) (by omega) (by omega) (by omega) (by omega) (show l2.toInt = (m 94 11).toInt from by omega) (by omega) (show l3.toInt < l3.toInt ∨ (l3 = l3 ∧ ((m 111) l3.toNatClampNeg).toInt < 0) from by first | (exact Or.inl (by omega)) | (exact Or.inr ⟨rfl, by omega⟩) | (exfalso; omega; done) | (exfalso; contradiction; done)) r_GD (show aN aa f.toInt = l3.toInt from by first | (exact r_NN.symm.trans (BF_n r_QI r_RB r_GD (by omega) (by omega) (by omega) (by omega))) | (exfalso; omega; done) | (exfalso; contradiction; done)) (show aE aa l3.toInt = aE aa l3.toInt from by first | (exact rfl) | (exfalso; omega; done) | (exfalso; contradiction; done)) r_RB r_QI r_OW
        · skip
          have g20 := i_nlt h18
          try have bo := BF_o2 r_QI r_RB r_OW r_GD (by omega) (by omega) (by omega) (by omega) (by omega)
          have li21 : (-1 : Int32).toInt = -1 := rfl
          have f22 : 0 ≤ (m 94 84).toInt ∧ (m 94 84).toInt ≤ 4600 := rs_94_84 (m := m) hV
          exact K ((-1 : Int32)) _ hF hV (show (-1 : Int32).toInt = -1 ∨ (f.toInt ≤ (-1 : Int32).toInt ∧ (-1 : Int32).toInt < e.toInt ∧ 1 ≤ (m 94 84).toInt ∧ (-1 : Int32).toInt + (m 94 84).toInt ≤ e.toInt) from by omega) (show qBF aa f.toInt (m 94 11).toInt (-1 : Int32).toInt (m 94 84).toInt from by first | (exact Or.inl ⟨by decide, r_NN.symm.trans (BF_st r_RB (by omega))⟩) | (exfalso; omega; done) | (exfalso; contradiction; done))
      · skip
        have g23 := i_nlt h16
        have hg24 : (0 ≤ l3 ∧ l3.toNatClampNeg < 4600) := i_ix (by omega) (by omega)
        refine ⟨hg24, ?_⟩
        have hg25 : (0 ≤ (m 111 l3.toNatClampNeg) ∧ (m 111 l3.toNatClampNeg).toNatClampNeg < 3100) := i_ix (by omega) (by omega)
        refine ⟨hg25, ?_⟩
        try have bo := BF_o2 r_QI r_RB r_OW r_GD (by omega) (by omega) (by omega) (by omega) (by omega)
        first | have f26 : 0 ≤ (m 102 (m 111 l3.toNatClampNeg).toNatClampNeg).toInt ∧ (m 102 (m 111 l3.toNatClampNeg).toNatClampNeg).toInt ≤ 60 := ra_102 (m := m) hV (k := (m 111 l3.toNatClampNeg).toNatClampNeg) (i_ix (n := 3100) (by omega) (by omega)).2 | have b27 := i_bd (m 102 (m 111 l3.toNatClampNeg).toNatClampNeg)
        first | have e28 : ((m 102 (m 111 l3.toNatClampNeg).toNatClampNeg) + (1 : Int32)).toInt = (m 102 (m 111 l3.toNatClampNeg).toNatClampNeg).toInt + (1) := i_addk rfl (by omega) (by omega) | have b29 := i_bd ((m 102 (m 111 l3.toNatClampNeg).toNatClampNeg) + (1 : Int32))
        first | have e30 : (l3 + ((m 102 (m 111 l3.toNatClampNeg).toNatClampNeg) + (1 : Int32))).toInt = l3.toInt + ((m 102 (m 111 l3.toNatClampNeg).toNatClampNeg) + (1 : Int32)).toInt := i_add (by omega) (by omega) | have b31 := i_bd (l3 + ((m 102 (m 111 l3.toNatClampNeg).toNatClampNeg) + (1 : Int32)))
        exact IH (l2.toInt - (l3 + ((m 102 (m 111 l3.toNatClampNeg).toNatClampNeg) + (1 : Int32))).toInt).toNat (by omega) _ (l2) ((l3 + ((m 102 (m 111 l3.toNatClampNeg).toNatClampNeg) + (1 : Int32)))) rfl hF hV (by omega) (by omega) (show l2.toInt = (m 94 11).toInt from by omega) (by omega) (by omega) (show qGd aa (l3 + ((m 102 (m 111 l3.toNatClampNeg).toNatClampNeg) + (1 : Int32))).toInt from by first | (exact r_GD) | (exact (BF_ob r_QI r_RB r_OW r_GD (by omega) (by omega) (by omega) (by omega) (by omega) (by omega)).2.1) | (exact (BF_e r_QI r_RB r_GD (by omega) (by omega) (by omega) (by omega) (by omega)).2) | (exfalso; omega; done) | (exfalso; contradiction; done)) (show aN aa (l3 + ((m 102 (m 111 l3.toNatClampNeg).toNatClampNeg) + (1 : Int32))).toInt = aN aa f.toInt from by first | (exact rfl) | (exact (BF_ob r_QI r_RB r_OW r_GD (by omega) (by omega) (by omega) (by omega) (by omega) (by omega)).1.trans r_NN) | (exfalso; omega; done) | (exfalso; contradiction; done)) r_RB r_QI r_OW
theorem sp_226r {X : Nat × (Nat → Int32)} {P : Option ma_V → (Nat → Nat → Int32) → Prop} {aa : Nat→Nat→Int32} {m : Nat → Nat → Int32} (f : Int32) (e : Int32) (hV : zV m) (hpre0 : 0 ≤ f.toInt ∧ f.toInt ≤ (m 94 11).toInt) (hpre1 : e.toInt = (m 94 11).toInt) (r_GD : qGd aa f.toInt) (r_RB : qRB (m 99) (m 100) (m 98) (m 101) (m 102) (m 103) (m 107) (m 108) (m 109) (m 111) (m 112) (m 113) (m 114) (m 94 55) (m 94 46) (m 94 11) (m 94 12) (m 94 62) (m 94 17) (m 94 9) aa) (r_QI : qI aa) (r_OW : zOw (m 99) (m 103) (m 111)) (KZ : ∀ v m₉, zV (zov wr_226 m m₉) → (v.toInt = -1 ∨ (f.toInt ≤ v.toInt ∧ v.toInt < e.toInt ∧ 1 ≤ (m₉ 94 84).toInt ∧ v.toInt + (m₉ 94 84).toInt ≤ e.toInt)) → (qBF aa f.toInt (m 94 11).toInt v.toInt (m₉ 94 84).toInt) → P (some (.inl v)) (zov wr_226 m m₉)) : zm X 1 21 226 0 [(0, .inr (.inr (some 94))), (1, .inl f), (2, .inl e)] m P := by
  have K : ∀ v m₉, zF wr_226 m m₉ → zV m₉ → (v.toInt = -1 ∨ (f.toInt ≤ v.toInt ∧ v.toInt < e.toInt ∧ 1 ≤ (m₉ 94 84).toInt ∧ v.toInt + (m₉ 94 84).toInt ≤ e.toInt)) → (qBF aa f.toInt (m₉ 94 11).toInt v.toInt (m₉ 94 84).toInt) → P (some (.inl v)) m₉ := by
    intro v m₉ hf z q0 q1
    have e := zov_eq hf
    rw [e] at z ⊢
    try rw [e] at q0
    try rw [e] at q1
    exact KZ v m₉ z q0 q1
  refine g_226_0 f e ?_
  have f1 : 0 ≤ (m 94 11).toInt ∧ (m 94 11).toInt ≤ 1500 := rs_94_11 (m := m) hV
  try have bo := BF_o2 r_QI r_RB r_OW r_GD (by omega) (by omega) (by omega) (by omega) (by omega)
  have b2 := i_bd e
  have b3 := i_bd f
  exact lp_226r_2 (f := f) (e := e) hV K _ _ (e) (f) rfl zF_rfl hV (by omega) (by omega) (show e.toInt = (m 94 11).toInt from by omega) (by omega) (by omega) r_GD (show aN aa f.toInt = aN aa f.toInt from by first | (exact rfl) | (exfalso; omega; done) | (exfalso; contradiction; done)) r_RB r_QI r_OW

/-! from 95.h04 -/
/-! the reference by numbers (written by wip/tools/gen18r.py) -/
theorem lp_225r_8 {X : Nat × (Nat → Int32)} {P : Option ma_V → (Nat → Nat → Int32) → Prop} {aa : Nat→Nat→Int32} {nz : Int32} {f : Int32} {e : Int32} {m0 : Nat → Nat → Int32} (h0 : zV m0) (K : ∀ v m₉, zF wr_225 m0 m₉ → zV m₉ → (-1 ≤ v.toInt ∧ v.toInt ≤ 1500) → (v.toInt = aFf aa nz.toInt (m₉ 94 11).toInt 4500 (aN aa f.toInt)) → P (some (.inl v)) m₉) : ∀ (n : Nat) (m : Nat → Nat → Int32) (l1 : Int32) (l3 : Int32) (l4 : Int32), (4700 - l4.toInt % 4701).toNat = n → zF wr_225 m0 m → zV m → (l3.toInt = (m 94 11).toInt) → (l1.toInt = nz.toInt) → (l4.toInt = -1 ∨ (0 ≤ l4.toInt ∧ l4.toInt < l3.toInt ∧ 1 ≤ (m 94 84).toInt ∧ l4.toInt + (m 94 84).toInt ≤ l3.toInt)) → (qFF aa nz.toInt (m 94 11).toInt (m 94 11).toInt l4.toInt (m 94 84).toInt (aFf aa nz.toInt (m 94 11).toInt 4500 (aN aa f.toInt))) → (qRB (m 99) (m 100) (m 98) (m 101) (m 102) (m 103) (m 107) (m 108) (m 109) (m 111) (m 112) (m 113) (m 114) (m 94 55) (m 94 46) (m 94 11) (m 94 12) (m 94 62) (m 94 17) (m 94 9) aa) → (qI aa) → (zOw (m 99) (m 103) (m 111)) → zm X 2 45 225 8 [(0, .inr (.inr (some 94))), (1, .inl l1), (3, .inl l3), (4, .inl l4)] m P := by
  intro n
  induction n using Nat.strongRecOn with
  | _ n IH =>
    intro m l1 l3 l4 hmu hF hV hi0 hi1 hi2 r_FF r_RB r_QI r_OW
    refine g_225_8 l1 l3 l4 ?_
    have f1 : 0 ≤ (m 94 11).toInt ∧ (m 94 11).toInt ≤ 1500 := rs_94_11 (m := m) hV
    have f2 : 0 ≤ (m 94 84).toInt ∧ (m 94 84).toInt ≤ 4600 := rs_94_84 (m := m) hV
    have b3 := i_bd l4
    have li4 : (0 : Int32).toInt = 0 := rfl
    refine zd (fun (h5 : l4 < (0 : Int32)) => ?_) (fun (h5 : ¬ l4 < (0 : Int32)) => ?_)
    · skip
      have g6 := i_lt h5
      try have fg := (FF_gd r_FF (by omega))
      have li7 : (-1 : Int32).toInt = -1 := rfl
      exact K ((-1 : Int32)) _ hF hV (show -1 ≤ (-1 : Int32).toInt ∧ (-1 : Int32).toInt ≤ 1500 from by omega) (show (-1 : Int32).toInt = aFf aa nz.toInt (m 94 11).toInt 4500 (aN aa f.toInt) from by first | (exact FF_y r_FF (by omega) (by omega) (by omega)) | (exact FF_n r_FF (Or.inl (by omega))) | (exfalso; omega; done) | (exfalso; contradiction; done))
    · skip
      have g8 := i_nlt h5
      have b9 := i_bd l1
      refine zd (fun (h10 : (m 94 84) < l1) => ?_) (fun (h10 : ¬ (m 94 84) < l1) => ?_)
      · skip
        have g11 := i_lt h10
        first | have e12 : (l4 + (m 94 84)).toInt = l4.toInt + (m 94 84).toInt := i_add (by omega) (by omega) | have b13 := i_bd (l4 + (m 94 84))
        have b14 := i_bd l3
        have hV15 : zV (ma_u m 94 50 ((m 94 50) + (1 : Int32))) := uf_94_50 hV
        try have fg := (FF_gd r_FF (by omega))
        refine sp_226r (aa := aa) ((l4 + (m 94 84))) (l3) hV15 (show 0 ≤ (l4 + (m 94 84)).toInt ∧ (l4 + (m 94 84)).toInt ≤ (m 94 11).toInt from by omega) (show l3.toInt = (m 94 11).toInt from by omega) (show qGd aa (l4 + (m 94 84)).toInt from by first | (exact Gd_c (FF_gd r_FF (by omega)).1 (by omega)) | (exfalso; omega; done) | (exfalso; contradiction; done)) r_RB r_QI r_OW (fun v2 m1 hV_m1 p0_m1 p1_m1 => zmi_n ?_)
        have p0_m1 : v2.toInt = -1 ∨ ((l4 + (m 94 84)).toInt ≤ v2.toInt ∧ v2.toInt < l3.toInt ∧ 1 ≤ (m1 94 84).toInt ∧ v2.toInt + (m1 94 84).toInt ≤ l3.toInt) := p0_m1
        have p1_m1 : qBF aa (l4 + (m 94 84)).toInt (m 94 11).toInt v2.toInt (m1 94 84).toInt := p1_m1
        have f16 : 0 ≤ (m1 94 84).toInt ∧ (m1 94 84).toInt ≤ 4600 := rs_94_84 (m := (zov wr_226 (ma_u m 94 50 ((m 94 50) + (1 : Int32))) m1)) hV_m1
        try have fg := (FF_gd r_FF (by omega))
        have b17 := i_bd v2
        exact IH (4700 - v2.toInt % 4701).toNat (by omega) _ (l1) (l3) (v2) rfl (zF_zov (zF_u hF rfl) ws_226_225) hV_m1 (show l3.toInt = (m 94 11).toInt from by omega) (by omega) (show v2.toInt = -1 ∨ (0 ≤ v2.toInt ∧ v2.toInt < l3.toInt ∧ 1 ≤ (m1 94 84).toInt ∧ v2.toInt + (m1 94 84).toInt ≤ l3.toInt) from by omega) (show qFF aa nz.toInt (m 94 11).toInt (m 94 11).toInt v2.toInt (m1 94 84).toInt (aFf aa nz.toInt (m 94 11).toInt 4500 (aN aa f.toInt)) from by first | (exact FF_of r_QI r_RB (by omega) (by omega) p1_m1 rfl) | (exact FF_go r_QI r_RB (by omega) (by omega) (by omega) r_FF (by omega) (by omega) (by omega) p1_m1) | (exfalso; omega; done) | (exfalso; contradiction; done)) r_RB r_QI r_OW
      · skip
        have g18 := i_nlt h10
        try have fg := (FF_gd r_FF (by omega))
        have hV19 : zV (ma_u m 94 50 ((m 94 50) + (1 : Int32))) := uf_94_50 hV
        exact K (l4) _ (zF_u hF rfl) hV19 (show -1 ≤ l4.toInt ∧ l4.toInt ≤ 1500 from by omega) (show l4.toInt = aFf aa nz.toInt (m 94 11).toInt 4500 (aN aa f.toInt) from by first | (exact FF_y r_FF (by omega) (by omega) (by omega)) | (exact FF_n r_FF (Or.inl (by omega))) | (exfalso; omega; done) | (exfalso; contradiction; done))
theorem sp_225r {X : Nat × (Nat → Int32)} {P : Option ma_V → (Nat → Nat → Int32) → Prop} {aa : Nat→Nat→Int32} {m : Nat → Nat → Int32} (nz : Int32) (f : Int32) (e : Int32) (hV : zV m) (hpre0 : 0 ≤ f.toInt ∧ f.toInt ≤ (m 94 11).toInt) (hpre1 : e.toInt = (m 94 11).toInt) (r_GD : qGd aa f.toInt) (r_RB : qRB (m 99) (m 100) (m 98) (m 101) (m 102) (m 103) (m 107) (m 108) (m 109) (m 111) (m 112) (m 113) (m 114) (m 94 55) (m 94 46) (m 94 11) (m 94 12) (m 94 62) (m 94 17) (m 94 9) aa) (r_QI : qI aa) (r_OW : zOw (m 99) (m 103) (m 111)) (KZ : ∀ v m₉, zV (zov wr_225 m m₉) → (-1 ≤ v.toInt ∧ v.toInt ≤ 1500) → (v.toInt = aFf aa nz.toInt (m 94 11).toInt 4500 (aN aa f.toInt)) → P (some (.inl v)) (zov wr_225 m m₉)) : zm X 2 45 225 0 [(0, .inr (.inr (some 94))), (1, .inl nz), (2, .inl f), (3, .inl e)] m P := by
  have K : ∀ v m₉, zF wr_225 m m₉ → zV m₉ → (-1 ≤ v.toInt ∧ v.toInt ≤ 1500) → (v.toInt = aFf aa nz.toInt (m₉ 94 11).toInt 4500 (aN aa f.toInt)) → P (some (.inl v)) m₉ := by
    intro v m₉ hf z q0 q1
    have e := zov_eq hf
    rw [e] at z ⊢
    try rw [e] at q0
    try rw [e] at q1
    exact KZ v m₉ z q0 q1
  refine g_225_0 nz f e ?_
  have f1 : 0 ≤ (m 94 11).toInt ∧ (m 94 11).toInt ≤ 1500 := rs_94_11 (m := m) hV
  have b2 := i_bd f
  have b3 := i_bd e
  refine sp_226r (aa := aa) (f) (e) hV (show 0 ≤ f.toInt ∧ f.toInt ≤ (m 94 11).toInt from by omega) (show e.toInt = (m 94 11).toInt from by omega) r_GD r_RB r_QI r_OW (fun v2 m1 hV_m1 p0_m1 p1_m1 => zmi_n ?_)
  have p0_m1 : v2.toInt = -1 ∨ (f.toInt ≤ v2.toInt ∧ v2.toInt < e.toInt ∧ 1 ≤ (m1 94 84).toInt ∧ v2.toInt + (m1 94 84).toInt ≤ e.toInt) := p0_m1
  have p1_m1 : qBF aa f.toInt (m 94 11).toInt v2.toInt (m1 94 84).toInt := p1_m1
  have f4 : 0 ≤ (m1 94 84).toInt ∧ (m1 94 84).toInt ≤ 4600 := rs_94_84 (m := (zov wr_226 m m1)) hV_m1
  have b5 := i_bd nz
  have b6 := i_bd v2
  exact lp_225r_8 (nz := nz) (f := f) (e := e) hV K _ _ (nz) (e) (v2) rfl (zF_zov zF_rfl ws_226_225) hV_m1 (show e.toInt = (m 94 11).toInt from by omega) (by omega) (show v2.toInt = -1 ∨ (0 ≤ v2.toInt ∧ v2.toInt < e.toInt ∧ 1 ≤ (m1 94 84).toInt ∧ v2.toInt + (m1 94 84).toInt ≤ e.toInt) from by omega) (show qFF aa nz.toInt (m 94 11).toInt (m 94 11).toInt v2.toInt (m1 94 84).toInt (aFf aa nz.toInt (m 94 11).toInt 4500 (aN aa f.toInt)) from by first | (exact FF_of r_QI r_RB (by omega) (by omega) p1_m1 rfl) | (exfalso; omega; done) | (exfalso; contradiction; done)) r_RB r_QI r_OW
theorem lp_228r_10 {X : Nat × (Nat → Int32)} {P : Option ma_V → (Nat → Nat → Int32) → Prop} {aa : Nat→Nat→Int32} {nz : Int32} {e : Int32} {m0 : Nat → Nat → Int32} (h0 : zV m0) (K : ∀ v m₉, zF wr_228 m0 m₉ → zV m₉ → (-1 ≤ v.toInt ∧ v.toInt ≤ 1500) → (v.toInt = aFf aa nz.toInt e.toInt 4500 (aN aa 0)) → P (some (.inl v)) m₉) : ∀ (n : Nat) (m : Nat → Nat → Int32) (l1 : Int32) (l2 : Int32) (l3 : Int32), (4700 - l3.toInt % 4701).toNat = n → zF wr_228 m0 m → zV m → (l1.toInt = nz.toInt) → (l2.toInt = e.toInt) → (l2.toInt ≤ (m 94 11).toInt) → (l3.toInt = -1 ∨ (0 ≤ l3.toInt ∧ l3.toInt < (m 94 11).toInt ∧ 1 ≤ (m 94 84).toInt ∧ l3.toInt + (m 94 84).toInt ≤ (m 94 11).toInt)) → (qFF aa nz.toInt e.toInt (m 94 11).toInt l3.toInt (m 94 84).toInt (aFf aa nz.toInt e.toInt 4500 (aN aa 0))) → (qRB (m 99) (m 100) (m 98) (m 101) (m 102) (m 103) (m 107) (m 108) (m 109) (m 111) (m 112) (m 113) (m 114) (m 94 55) (m 94 46) (m 94 11) (m 94 12) (m 94 62) (m 94 17) (m 94 9) aa) → (qI aa) → (zOw (m 99) (m 103) (m 111)) → zm X 2 45 228 10 [(0, .inr (.inr (some 94))), (1, .inl l1), (2, .inl l2), (3, .inl l3)] m P := by
  intro n
  induction n using Nat.strongRecOn with
  | _ n IH =>
    intro m l1 l2 l3 hmu hF hV hi0 hi1 hi2 hi3 r_FF r_RB r_QI r_OW
    refine g_228_10 l1 l2 l3 ?_
    have f1 : 0 ≤ (m 94 11).toInt ∧ (m 94 11).toInt ≤ 1500 := rs_94_11 (m := m) hV
    have f2 : 0 ≤ (m 94 84).toInt ∧ (m 94 84).toInt ≤ 4600 := rs_94_84 (m := m) hV
    have b3 := i_bd l3
    have li4 : (0 : Int32).toInt = 0 := rfl
    refine zd (fun (h5 : l3 < (0 : Int32)) => ?_) (fun (h5 : ¬ l3 < (0 : Int32)) => ?_)
    · skip
      have g6 := i_lt h5
      try have fg := (FF_gd r_FF (by omega))
      have li7 : (-1 : Int32).toInt = -1 := rfl
      exact K ((-1 : Int32)) _ hF hV (show -1 ≤ (-1 : Int32).toInt ∧ (-1 : Int32).toInt ≤ 1500 from by omega) (show (-1 : Int32).toInt = aFf aa nz.toInt e.toInt 4500 (aN aa 0) from by first | (exact FF_y r_FF (by omega) (by omega) (by omega)) | (exact FF_n r_FF (Or.inl (by omega))) | (exact FF_n r_FF (Or.inr (by omega))) | (exfalso; omega; done) | (exfalso; contradiction; done))
    · skip
      have g8 := i_nlt h5
      have b9 := i_bd l2
      refine zd (fun (h10 : l2 ≤ l3) => ?_) (fun (h10 : ¬ l2 ≤ l3) => ?_)
      · skip
        have g11 := i_le h10
        try have fg := (FF_gd r_FF (by omega))
        have li12 : (-1 : Int32).toInt = -1 := rfl
        exact K ((-1 : Int32)) _ hF hV (show -1 ≤ (-1 : Int32).toInt ∧ (-1 : Int32).toInt ≤ 1500 from by omega) (show (-1 : Int32).toInt = aFf aa nz.toInt e.toInt 4500 (aN aa 0) from by first | (exact FF_y r_FF (by omega) (by omega) (by omega)) | (exact FF_n r_FF (Or.inl (by omega))) | (exact FF_n r_FF (Or.inr (by omega))) | (exfalso; omega; done) | (exfalso; contradiction; done))
      · skip
        have g13 := i_nle h10
        have b14 := i_bd l1
        refine zd (fun (h15 : (m 94 84) < l1) => ?_) (fun (h15 : ¬ (m 94 84) < l1) => ?_)
        · skip
          have g16 := i_lt h15
          first | have e17 : (l3 + (m 94 84)).toInt = l3.toInt + (m 94 84).toInt := i_add (by omega) (by omega) | have b18 := i_bd (l3 + (m 94 84))
          have hV19 : zV (ma_u m 94 50 ((m 94 50) + (1 : Int32))) := uf_94_50 hV
          try have fg := (FF_gd r_FF (by omega))
          refine sp_226r (aa := aa) ((l3 + (m 94 84))) ((m 94 11)) hV19 (show 0 ≤ (l3 + (m 94 84)).toInt ∧ (l3 + (m 94 84)).toInt ≤ (m 94 11).toInt from by omega) (show (m 94 11).toInt = (m 94 11).toInt from by omega) (show qGd aa (l3 + (m 94 84)).toInt from by first | (exact Gd_0 r_QI) | (exact Gd_c (FF_gd r_FF (by omega)).1 (by omega)) | (exfalso; omega; done) | (exfalso; contradiction; done)) r_RB r_QI r_OW (fun v2 m1 hV_m1 p0_m1 p1_m1 => zmi_n ?_)
          have p0_m1 : v2.toInt = -1 ∨ ((l3 + (m 94 84)).toInt ≤ v2.toInt ∧ v2.toInt < (m 94 11).toInt ∧ 1 ≤ (m1 94 84).toInt ∧ v2.toInt + (m1 94 84).toInt ≤ (m 94 11).toInt) := p0_m1
          have p1_m1 : qBF aa (l3 + (m 94 84)).toInt (m 94 11).toInt v2.toInt (m1 94 84).toInt := p1_m1
          have f20 : 0 ≤ (m1 94 84).toInt ∧ (m1 94 84).toInt ≤ 4600 := rs_94_84 (m := (zov wr_226 (ma_u m 94 50 ((m 94 50) + (1 : Int32))) m1)) hV_m1
          try have fg := (FF_gd r_FF (by omega))
          have b21 := i_bd v2
          exact IH (4700 - v2.toInt % 4701).toNat (by omega) _ (l1) (l2) (v2) rfl (zF_zov (zF_u hF rfl) ws_226_228) hV_m1 (by omega) (by omega) (show l2.toInt ≤ (m 94 11).toInt from by omega) (show v2.toInt = -1 ∨ (0 ≤ v2.toInt ∧ v2.toInt < (m 94 11).toInt ∧ 1 ≤ (m1 94 84).toInt ∧ v2.toInt + (m1 94 84).toInt ≤ (m 94 11).toInt) from by omega) (show qFF aa nz.toInt e.toInt (m 94 11).toInt v2.toInt (m1 94 84).toInt (aFf aa nz.toInt e.toInt 4500 (aN aa 0)) from by first | (exact FF_of r_QI r_RB (by omega) (by omega) p1_m1 rfl) | (exact FF_go r_QI r_RB (by omega) (by omega) (by omega) r_FF (by omega) (by omega) (by omega) p1_m1) | (exfalso; omega; done) | (exfalso; contradiction; done)) r_RB r_QI r_OW
        · skip
          have g22 := i_nlt h15
          try have fg := (FF_gd r_FF (by omega))
          have hV23 : zV (ma_u m 94 50 ((m 94 50) + (1 : Int32))) := uf_94_50 hV
          exact K (l3) _ (zF_u hF rfl) hV23 (show -1 ≤ l3.toInt ∧ l3.toInt ≤ 1500 from by omega) (show l3.toInt = aFf aa nz.toInt e.toInt 4500 (aN aa 0) from by first | (exact FF_y r_FF (by omega) (by omega) (by omega)) | (exact FF_n r_FF (Or.inl (by omega))) | (exact FF_n r_FF (Or.inr (by omega))) | (exfalso; omega; done) | (exfalso; contradiction; done))
theorem sp_228r {X : Nat × (Nat → Int32)} {P : Option ma_V → (Nat → Nat → Int32) → Prop} {aa : Nat→Nat→Int32} {m : Nat → Nat → Int32} (nz : Int32) (e : Int32) (hV : zV m) (hpre0 : e.toInt ≤ (m 94 11).toInt) (r_RB : qRB (m 99) (m 100) (m 98) (m 101) (m 102) (m 103) (m 107) (m 108) (m 109) (m 111) (m 112) (m 113) (m 114) (m 94 55) (m 94 46) (m 94 11) (m 94 12) (m 94 62) (m 94 17) (m 94 9) aa) (r_QI : qI aa) (r_OW : zOw (m 99) (m 103) (m 111)) (KZ : ∀ v m₉, zV (zov wr_228 m m₉) → (-1 ≤ v.toInt ∧ v.toInt ≤ 1500) → (v.toInt = aFf aa nz.toInt e.toInt 4500 (aN aa 0)) → P (some (.inl v)) (zov wr_228 m m₉)) : zm X 2 45 228 0 [(0, .inr (.inr (some 94))), (1, .inl nz), (2, .inl e)] m P := by
  have K : ∀ v m₉, zF wr_228 m m₉ → zV m₉ → (-1 ≤ v.toInt ∧ v.toInt ≤ 1500) → (v.toInt = aFf aa nz.toInt e.toInt 4500 (aN aa 0)) → P (some (.inl v)) m₉ := by
    intro v m₉ hf z q0 q1
    have e := zov_eq hf
    rw [e] at z ⊢
    try rw [e] at q0
    try rw [e] at q1
    exact KZ v m₉ z q0 q1
  refine g_228_0 nz e ?_
  have f1 : 0 ≤ (m 94 11).toInt ∧ (m 94 11).toInt ≤ 1500 := rs_94_11 (m := m) hV
  have li2 : (0 : Int32).toInt = 0 := rfl
  refine sp_226r (aa := aa) ((0 : Int32)) ((m 94 11)) hV (show 0 ≤ (0 : Int32).toInt ∧ (0 : Int32).toInt ≤ (m 94 11).toInt from by omega) (show (m 94 11).toInt = (m 94 11).toInt from by omega) (show qGd aa (0 : Int32).toInt from by first | (exact Gd_0 r_QI) | (exfalso; omega; done) | (exfalso; contradiction; done)) r_RB r_QI r_OW (fun v2 m1 hV_m1 p0_m1 p1_m1 => zmi_n ?_)
  have p0_m1 : v2.toInt = -1 ∨ ((0 : Int32).toInt ≤ v2.toInt ∧ v2.toInt < (m 94 11).toInt ∧ 1 ≤ (m1 94 84).toInt ∧ v2.toInt + (m1 94 84).toInt ≤ (m 94 11).toInt) := p0_m1
  have p1_m1 : qBF aa (0 : Int32).toInt (m 94 11).toInt v2.toInt (m1 94 84).toInt := p1_m1
  have f3 : 0 ≤ (m1 94 84).toInt ∧ (m1 94 84).toInt ≤ 4600 := rs_94_84 (m := (zov wr_226 m m1)) hV_m1
  have b4 := i_bd nz
  have b5 := i_bd e
  have b6 := i_bd v2
  exact lp_228r_10 (nz := nz) (e := e) hV K _ _ (nz) (e) (v2) rfl (zF_zov zF_rfl ws_226_228) hV_m1 (by omega) (by omega) (show e.toInt ≤ (m 94 11).toInt from by omega) (show v2.toInt = -1 ∨ (0 ≤ v2.toInt ∧ v2.toInt < (m 94 11).toInt ∧ 1 ≤ (m1 94 84).toInt ∧ v2.toInt + (m1 94 84).toInt ≤ (m 94 11).toInt) from by omega) (show qFF aa nz.toInt e.toInt (m 94 11).toInt v2.toInt (m1 94 84).toInt (aFf aa nz.toInt e.toInt 4500 (aN aa 0)) from by first | (exact FF_of r_QI r_RB (by omega) (by omega) p1_m1 rfl) | (exfalso; omega; done) | (exfalso; contradiction; done)) r_RB r_QI r_OW
theorem lp_227r_2 {X : Nat × (Nat → Int32)} {P : Option ma_V → (Nat → Nat → Int32) → Prop} {aa : Nat→Nat→Int32} {p : Int32} {m0 : Nat → Nat → Int32} (h0 : zV m0) (K : ∀ v m₉, zF wr_227 m0 m₉ → zV m₉ → (v.toInt = p.toInt) → P (some (.inl v)) m₉) : ∀ (n : Nat) (m : Nat → Nat → Int32) (l1 : Int32) (l2 : Int32), (1600 - l2.toInt).toNat = n → zF wr_227 m0 m → zV m → (0 ≤ l2.toInt) → (l1.toInt = p.toInt) → (l2.toInt ≤ l1.toInt) → (l1.toInt ≤ (m 94 11).toInt) → (qGd aa l1.toInt) → (qGd aa l2.toInt) → (qRB (m 99) (m 100) (m 98) (m 101) (m 102) (m 103) (m 107) (m 108) (m 109) (m 111) (m 112) (m 113) (m 114) (m 94 55) (m 94 46) (m 94 11) (m 94 12) (m 94 62) (m 94 17) (m 94 9) aa) → (qI aa) → (zOw (m 99) (m 103) (m 111)) → zm X 1 21 227 2 [(0, .inr (.inr (some 94))), (1, .inl l1), (2, .inl l2)] m P := by
  intro n
  induction n using Nat.strongRecOn with
  | _ n IH =>
    intro m l1 l2 hmu hF hV hi0 hi1 hi2 hi3 r_GZ r_GD r_RB r_QI r_OW
    refine g_227_2 l1 l2 ?_
    have f1 : 0 ≤ (m 94 11).toInt ∧ (m 94 11).toInt ≤ 1500 := rs_94_11 (m := m) hV
    have b2 := i_bd l1
    have b3 := i_bd l2
    refine zd (fun (h4 : l1 ≤ l2) => ?_) (fun (h4 : ¬ l1 ≤ l2) => ?_)
    · skip
      have g5 := i_le h4
      try have so := SO_s2 r_QI r_RB r_OW r_GD (by omega) (by omega) (by omega) r_GZ (by omega) (by omega) (by omega)
      exact K (l2) _ hF hV (show l2.toInt = p.toInt from by omega)
    · skip
      have g6 := i_nle h4
      have hg7 : (0 ≤ l2 ∧ l2.toNatClampNeg < 4600) := i_ix (by omega) (by omega)
      refine ⟨hg7, ?_⟩
      first | have f8 : -1 ≤ (m 111 l2.toNatClampNeg).toInt ∧ (m 111 l2.toNatClampNeg).toInt ≤ 3099 := ra_111 (m := m) hV (k := l2.toNatClampNeg) (i_ix (n := 4600) (by omega) (by omega)).2 | have b9 := i_bd (m 111 l2.toNatClampNeg)
      have li10 : (0 : Int32).toInt = 0 := rfl
      refine zd (fun (h11 : (m 111 l2.toNatClampNeg) < (0 : Int32)) => ?_) (fun (h11 : ¬ (m 111 l2.toNatClampNeg) < (0 : Int32)) => ?_)
      · skip
        have g12 := i_lt h11
        try have so := SO_s2 r_QI r_RB r_OW r_GD (by omega) (by omega) (by omega) r_GZ (by omega) (by omega) (by omega)
        first | have e13 : (l2 + (1 : Int32)).toInt = l2.toInt + (1) := i_addk rfl (by omega) (by omega) | have b14 := i_bd (l2 + (1 : Int32))
        exact IH (1600 - (l2 + (1 : Int32)).toInt).toNat (by omega) _ (l1) ((l2 + (1 : Int32))) rfl hF hV (by omega) (by omega) (by omega) (show l1.toInt ≤ (m 94 11).toInt from by omega) r_GZ (show qGd aa (l2 + (1 : Int32)).toInt from by first | (exact Gd_0 r_QI) | (exact (SO_st r_QI r_RB r_OW r_GD (by omega) (by omega) (by omega) r_GZ (by omega) (by omega) (by omega) (by omega)).2) | (exact Gd_c (Gd_s r_QI r_GD (BF_fr r_QI r_RB r_GD (by omega) (by omega) (by omega)) (by omega) (by omega)) (by omega)) | (exfalso; omega; done) | (exfalso; contradiction; done)) r_RB r_QI r_OW
      · skip
        have g15 := i_nlt h11
        have hg16 : (0 ≤ l2 ∧ l2.toNatClampNeg < 4600) := i_ix (by omega) (by omega)
        refine ⟨hg16, ?_⟩
        have hg17 : (0 ≤ (m 111 l2.toNatClampNeg) ∧ (m 111 l2.toNatClampNeg).toNatClampNeg < 3100) := i_ix (by omega) (by omega)
        refine ⟨hg17, ?_⟩
        try have so := SO_s2 r_QI r_RB r_OW r_GD (by omega) (by omega) (by omega) r_GZ (by omega) (by omega) (by omega)
        first | have f18 : 0 ≤ (m 102 (m 111 l2.toNatClampNeg).toNatClampNeg).toInt ∧ (m 102 (m 111 l2.toNatClampNeg).toNatClampNeg).toInt ≤ 60 := ra_102 (m := m) hV (k := (m 111 l2.toNatClampNeg).toNatClampNeg) (i_ix (n := 3100) (by omega) (by omega)).2 | have b19 := i_bd (m 102 (m 111 l2.toNatClampNeg).toNatClampNeg)
        first | have e20 : ((m 102 (m 111 l2.toNatClampNeg).toNatClampNeg) + (1 : Int32)).toInt = (m 102 (m 111 l2.toNatClampNeg).toNatClampNeg).toInt + (1) := i_addk rfl (by omega) (by omega) | have b21 := i_bd ((m 102 (m 111 l2.toNatClampNeg).toNatClampNeg) + (1 : Int32))
        first | have e22 : (l2 + ((m 102 (m 111 l2.toNatClampNeg).toNatClampNeg) + (1 : Int32))).toInt = l2.toInt + ((m 102 (m 111 l2.toNatClampNeg).toNatClampNeg) + (1 : Int32)).toInt := i_add (by omega) (by omega) | have b23 := i_bd (l2 + ((m 102 (m 111 l2.toNatClampNeg).toNatClampNeg) + (1 : Int32)))
        exact IH (1600 - (l2 + ((m 102 (m 111 l2.toNatClampNeg).toNatClampNeg) + (1 : Int32))).toInt).toNat (by omega) _ (l1) ((l2 + ((m 102 (m 111 l2.toNatClampNeg).toNatClampNeg) + (1 : Int32)))) rfl hF hV (by omega) (by omega) (by omega) (show l1.toInt ≤ (m 94 11).toInt from by omega) r_GZ (show qGd aa (l2 + ((m 102 (m 111 l2.toNatClampNeg).toNatClampNeg) + (1 : Int32))).toInt from by first | (exact Gd_0 r_QI) | (exact (SO_st r_QI r_RB r_OW r_GD (by omega) (by omega) (by omega) r_GZ (by omega) (by omega) (by omega) (by omega)).2) | (exact Gd_c (Gd_s r_QI r_GD (BF_fr r_QI r_RB r_GD (by omega) (by omega) (by omega)) (by omega) (by omega)) (by omega)) | (exfalso; omega; done) | (exfalso; contradiction; done)) r_RB r_QI r_OW
theorem sp_227r {X : Nat × (Nat → Int32)} {P : Option ma_V → (Nat → Nat → Int32) → Prop} {aa : Nat→Nat→Int32} {m : Nat → Nat → Int32} (p : Int32) (hV : zV m) (hpre0 : 0 ≤ p.toInt) (hpre1 : p.toInt ≤ (m 94 11).toInt) (r_GZ : qGd aa p.toInt) (r_RB : qRB (m 99) (m 100) (m 98) (m 101) (m 102) (m 103) (m 107) (m 108) (m 109) (m 111) (m 112) (m 113) (m 114) (m 94 55) (m 94 46) (m 94 11) (m 94 12) (m 94 62) (m 94 17) (m 94 9) aa) (r_QI : qI aa) (r_OW : zOw (m 99) (m 103) (m 111)) (KZ : ∀ v m₉, zV (zov wr_227 m m₉) → (v.toInt = p.toInt) → P (some (.inl v)) (zov wr_227 m m₉)) : zm X 1 21 227 0 [(0, .inr (.inr (some 94))), (1, .inl p)] m P := by
  have K : ∀ v m₉, zF wr_227 m m₉ → zV m₉ → (v.toInt = p.toInt) → P (some (.inl v)) m₉ := by
    intro v m₉ hf z q0
    have e := zov_eq hf
    rw [e] at z ⊢
    try rw [e] at q0
    exact KZ v m₉ z q0
  refine g_227_0 p ?_
  have f1 : 0 ≤ (m 94 11).toInt ∧ (m 94 11).toInt ≤ 1500 := rs_94_11 (m := m) hV
  have b2 := i_bd p
  have li3 : (0 : Int32).toInt = 0 := rfl
  exact lp_227r_2 (p := p) hV K _ _ (p) ((0 : Int32)) rfl zF_rfl hV (by omega) (by omega) (by omega) (show p.toInt ≤ (m 94 11).toInt from by omega) r_GZ (show qGd aa (0 : Int32).toInt from by first | (exact Gd_0 r_QI) | (exfalso; omega; done) | (exfalso; contradiction; done)) r_RB r_QI r_OW

/-! from 95.h05 -/
/-! the reference by numbers (written by wip/tools/gen18r.py) -/
theorem lp_224r_76 {X : Nat × (Nat → Int32)} {P : Option ma_V → (Nat → Nat → Int32) → Prop} {aa : Nat→Nat→Int32} {nz : Int32} {m0 : Nat → Nat → Int32} (h0 : zV m0) (K : ∀ v m₉, zF wr_224 m0 m₉ → zV m₉ → (-1 ≤ v.toInt ∧ v.toInt ≤ 1500) → (qEq v.toInt (aFt aa nz.toInt)) → P (some (.inl v)) m₉) : ∀ (n : Nat) (m : Nat → Nat → Int32) (l1 : Int32) (l2 : Int32) (l3 : Int32) (l4 : Int32), (4700 - l4.toInt % 4701).toNat = n → zF wr_224 m0 m → zV m → (l1.toInt = nz.toInt) → (-1 ≤ l2.toInt) → (l2.toInt ≤ 1500) → (l4.toInt = -1 ∨ (0 ≤ l4.toInt ∧ l4.toInt < (m 94 11).toInt ∧ 1 ≤ (m 94 84).toInt ∧ l4.toInt + (m 94 84).toInt ≤ (m 94 11).toInt)) → (qFL aa nz.toInt (m 94 12) (m 94 11).toInt l4.toInt (m 94 84).toInt l2.toInt l3.toInt (aFt aa nz.toInt)) → (qRB (m 99) (m 100) (m 98) (m 101) (m 102) (m 103) (m 107) (m 108) (m 109) (m 111) (m 112) (m 113) (m 114) (m 94 55) (m 94 46) (m 94 11) (m 94 12) (m 94 62) (m 94 17) (m 94 9) aa) → (qI aa) → (zOw (m 99) (m 103) (m 111)) → zm X 3 69 224 76 [(0, .inr (.inr (some 94))), (1, .inl l1), (2, .inl l2), (3, .inl l3), (4, .inl l4)] m P := by
  intro n
  induction n using Nat.strongRecOn with
  | _ n IH =>
    intro m l1 l2 l3 l4 hmu hF hV hi0 hi1 hi2 hi3 r_FL r_RB r_QI r_OW
    refine g_224_76 l1 l2 l3 l4 ?_
    have f1 : 0 ≤ (m 94 11).toInt ∧ (m 94 11).toInt ≤ 1500 := rs_94_11 (m := m) hV
    have f2 : 0 ≤ (m 94 84).toInt ∧ (m 94 84).toInt ≤ 4600 := rs_94_84 (m := m) hV
    have b3 := i_bd l4
    have li4 : (0 : Int32).toInt = 0 := rfl
    refine zd (fun (h5 : l4 < (0 : Int32)) => ?_) (fun (h5 : ¬ l4 < (0 : Int32)) => ?_)
    · skip
      have g6 := i_lt h5
      try have fg := (FL_gd r_FL (by omega))
      try have r2 := congrArg Int32.toInt (RB_le r_RB)
      try have r0 := congrArg Int32.toInt (RB_ro r_RB)
      try have i4 := r_QI.2.2.2.1.2.2.2.1
      have b7 := i_bd l2
      exact K (l2) _ hF hV (show -1 ≤ l2.toInt ∧ l2.toInt ≤ 1500 from by omega) (show qEq l2.toInt (aFt aa nz.toInt) from by first | (exact FL_e r_FL (by omega)) | (exfalso; omega; done) | (exfalso; contradiction; done))
    · skip
      have g8 := i_nlt h5
      have b9 := i_bd l1
      refine zd (fun (h10 : (m 94 84) < l1) => ?_) (fun (h10 : ¬ (m 94 84) < l1) => ?_)
      · skip
        have g11 := i_lt h10
        first | have e12 : (l4 + (m 94 84)).toInt = l4.toInt + (m 94 84).toInt := i_add (by omega) (by omega) | have b13 := i_bd (l4 + (m 94 84))
        have hV14 : zV (ma_u m 94 50 ((m 94 50) + (1 : Int32))) := uf_94_50 hV
        try have fg := (FL_gd r_FL (by omega))
        try have r2 := congrArg Int32.toInt (RB_le r_RB)
        try have r0 := congrArg Int32.toInt (RB_ro r_RB)
        try have i4 := r_QI.2.2.2.1.2.2.2.1
        refine sp_226r (aa := aa) ((l4 + (m 94 84))) ((m 94 11)) hV14 (show 0 ≤ (l4 + (m 94 84)).toInt ∧ (l4 + (m 94 84)).toInt ≤ (m 94 11).toInt from by omega) (show (m 94 11).toInt = (m 94 11).toInt from by omega) (show qGd aa (l4 + (m 94 84)).toInt from by first | (exact Gd_0 r_QI) | (exact Gd_c r_QI.2.2.2.1.2.2.2.2.1 (by omega)) | (exact Gd_c (FL_gd r_FL (by omega)).1 (by omega)) | (exfalso; omega; done) | (exfalso; contradiction; done)) r_RB r_QI r_OW (fun v2 m1 hV_m1 p0_m1 p1_m1 => zmi_n ?_)
        have p0_m1 : v2.toInt = -1 ∨ ((l4 + (m 94 84)).toInt ≤ v2.toInt ∧ v2.toInt < (m 94 11).toInt ∧ 1 ≤ (m1 94 84).toInt ∧ v2.toInt + (m1 94 84).toInt ≤ (m 94 11).toInt) := p0_m1
        have p1_m1 : qBF aa (l4 + (m 94 84)).toInt (m 94 11).toInt v2.toInt (m1 94 84).toInt := p1_m1
        have f15 : 0 ≤ (m1 94 84).toInt ∧ (m1 94 84).toInt ≤ 4600 := rs_94_84 (m := (zov wr_226 (ma_u m 94 50 ((m 94 50) + (1 : Int32))) m1)) hV_m1
        try have fg := (FL_gd r_FL (by omega))
        try have r2 := congrArg Int32.toInt (RB_le r_RB)
        try have r0 := congrArg Int32.toInt (RB_ro r_RB)
        try have i4 := r_QI.2.2.2.1.2.2.2.1
        have b16 := i_bd l2
        have b17 := i_bd l3
        have b18 := i_bd v2
        exact IH (4700 - v2.toInt % 4701).toNat (by omega) _ (l1) (l2) (l3) (v2) rfl (zF_zov (zF_u hF rfl) ws_226_224) hV_m1 (by omega) (by omega) (by omega) (show v2.toInt = -1 ∨ (0 ≤ v2.toInt ∧ v2.toInt < (m 94 11).toInt ∧ 1 ≤ (m1 94 84).toInt ∧ v2.toInt + (m1 94 84).toInt ≤ (m 94 11).toInt) from by omega) (show qFL aa nz.toInt (m 94 12) (m 94 11).toInt v2.toInt (m1 94 84).toInt l2.toInt l3.toInt (aFt aa nz.toInt) from by first | (exact FL_of r_QI r_RB (by omega) p1_m1 (by rw [Ft_2 (by rw [RB_fo r_RB]; assumption) (by rw [RB_fo r_RB]; assumption), RB_fo r_RB]; rfl)) | (exact FL_y r_QI r_RB (by omega) (by omega) r_FL (by omega) (Or.inl (by omega)) (by omega) (by omega) p1_m1) | (exact FL_y r_QI r_RB (by omega) (by omega) r_FL (by omega) (Or.inr (Or.inl ⟨by assumption, by omega⟩)) (by omega) (by omega) p1_m1) | (exact FL_y r_QI r_RB (by omega) (by omega) r_FL (by omega) (Or.inr (Or.inr ⟨by assumption, by omega⟩)) (by omega) (by omega) p1_m1) | (exact FL_n r_QI r_RB (by omega) (by omega) r_FL (Or.inl (by omega)) (by omega) p1_m1) | (exact FL_n r_QI r_RB (by omega) (by omega) r_FL (Or.inr ⟨by omega, Or.inl ⟨by assumption, by omega⟩⟩) (by omega) p1_m1) | (exact FL_n r_QI r_RB (by omega) (by omega) r_FL (Or.inr ⟨by omega, Or.inr ⟨by assumption, by omega⟩⟩) (by omega) p1_m1) | (exfalso; omega; done) | (exfalso; contradiction; done)) r_RB r_QI r_OW
      · skip
        have g19 := i_nlt h10
        have b20 := i_bd l2
        refine zd (fun (h21 : l2 < (0 : Int32)) => ?_) (fun (h21 : ¬ l2 < (0 : Int32)) => ?_)
        · skip
          have g22 := i_lt h21
          first | have e23 : (l4 + (m 94 84)).toInt = l4.toInt + (m 94 84).toInt := i_add (by omega) (by omega) | have b24 := i_bd (l4 + (m 94 84))
          have hV25 : zV (ma_u m 94 50 ((m 94 50) + (1 : Int32))) := uf_94_50 hV
          try have fg := (FL_gd r_FL (by omega))
          try have r2 := congrArg Int32.toInt (RB_le r_RB)
          try have r0 := congrArg Int32.toInt (RB_ro r_RB)
          try have i4 := r_QI.2.2.2.1.2.2.2.1
          refine sp_226r (aa := aa) ((l4 + (m 94 84))) ((m 94 11)) hV25 (show 0 ≤ (l4 + (m 94 84)).toInt ∧ (l4 + (m 94 84)).toInt ≤ (m 94 11).toInt from by omega) (show (m 94 11).toInt = (m 94 11).toInt from by omega) (show qGd aa (l4 + (m 94 84)).toInt from by first | (exact Gd_0 r_QI) | (exact Gd_c r_QI.2.2.2.1.2.2.2.2.1 (by omega)) | (exact Gd_c (FL_gd r_FL (by omega)).1 (by omega)) | (exfalso; omega; done) | (exfalso; contradiction; done)) r_RB r_QI r_OW (fun v4 m3 hV_m3 p0_m3 p1_m3 => zmi_n ?_)
          have p0_m3 : v4.toInt = -1 ∨ ((l4 + (m 94 84)).toInt ≤ v4.toInt ∧ v4.toInt < (m 94 11).toInt ∧ 1 ≤ (m3 94 84).toInt ∧ v4.toInt + (m3 94 84).toInt ≤ (m 94 11).toInt) := p0_m3
          have p1_m3 : qBF aa (l4 + (m 94 84)).toInt (m 94 11).toInt v4.toInt (m3 94 84).toInt := p1_m3
          have f26 : 0 ≤ (m3 94 84).toInt ∧ (m3 94 84).toInt ≤ 4600 := rs_94_84 (m := (zov wr_226 (ma_u m 94 50 ((m 94 50) + (1 : Int32))) m3)) hV_m3
          try have fg := (FL_gd r_FL (by omega))
          try have r2 := congrArg Int32.toInt (RB_le r_RB)
          try have r0 := congrArg Int32.toInt (RB_ro r_RB)
          try have i4 := r_QI.2.2.2.1.2.2.2.1
          have b27 := i_bd v4
          exact IH (4700 - v4.toInt % 4701).toNat (by omega) _ (l1) (l4) ((m 94 84)) (v4) rfl (zF_zov (zF_u hF rfl) ws_226_224) hV_m3 (by omega) (by omega) (by omega) (show v4.toInt = -1 ∨ (0 ≤ v4.toInt ∧ v4.toInt < (m 94 11).toInt ∧ 1 ≤ (m3 94 84).toInt ∧ v4.toInt + (m3 94 84).toInt ≤ (m 94 11).toInt) from by omega) (show qFL aa nz.toInt (m 94 12) (m 94 11).toInt v4.toInt (m3 94 84).toInt l4.toInt (m 94 84).toInt (aFt aa nz.toInt) from by first | (exact FL_of r_QI r_RB (by omega) p1_m3 (by rw [Ft_2 (by rw [RB_fo r_RB]; assumption) (by rw [RB_fo r_RB]; assumption), RB_fo r_RB]; rfl)) | (exact FL_y r_QI r_RB (by omega) (by omega) r_FL (by omega) (Or.inl (by omega)) (by omega) (by omega) p1_m3) | (exact FL_y r_QI r_RB (by omega) (by omega) r_FL (by omega) (Or.inr (Or.inl ⟨by assumption, by omega⟩)) (by omega) (by omega) p1_m3) | (exact FL_y r_QI r_RB (by omega) (by omega) r_FL (by omega) (Or.inr (Or.inr ⟨by assumption, by omega⟩)) (by omega) (by omega) p1_m3) | (exact FL_n r_QI r_RB (by omega) (by omega) r_FL (Or.inl (by omega)) (by omega) p1_m3) | (exact FL_n r_QI r_RB (by omega) (by omega) r_FL (Or.inr ⟨by omega, Or.inl ⟨by assumption, by omega⟩⟩) (by omega) p1_m3) | (exact FL_n r_QI r_RB (by omega) (by omega) r_FL (Or.inr ⟨by omega, Or.inr ⟨by assumption, by omega⟩⟩) (by omega) p1_m3) | (exfalso; omega; done) | (exfalso; contradiction; done)) r_RB r_QI r_OW
        · skip
          have g28 := i_nlt h21
          have b29 := i_bd (m 94 12)
          have li30 : (2 : Int32).toInt = 2 := rfl
          refine zd (fun (h31 : (m 94 12) = (2 : Int32)) => ?_) (fun (h31 : ¬ (m 94 12) = (2 : Int32)) => ?_)
          · skip
            have g32 := i_eq h31
            have b33 := i_bd l3
            refine zd (fun (h34 : (m 94 84) < l3) => ?_) (fun (h34 : ¬ (m 94 84) < l3) => ?_)
            · skip
              have g35 := i_lt h34
              first | have e36 : (l4 + (m 94 84)).toInt = l4.toInt + (m 94 84).toInt := i_add (by omega) (by omega) | have b37 := i_bd (l4 + (m 94 84))
              have hV38 : zV (ma_u m 94 50 ((m 94 50) + (1 : Int32))) := uf_94_50 hV
              try have fg := (FL_gd r_FL (by omega))
              try have r2 := congrArg Int32.toInt (RB_le r_RB)
              try have r0 := congrArg Int32.toInt (RB_ro r_RB)
              try have i4 := r_QI.2.2.2.1.2.2.2.1
              refine sp_226r (aa := aa) ((l4 + (m 94 84))) ((m 94 11)) hV38 (show 0 ≤ (l4 + (m 94 84)).toInt ∧ (l4 + (m 94 84)).toInt ≤ (m 94 11).toInt from by omega) (show (m 94 11).toInt = (m 94 11).toInt from by omega) (show qGd aa (l4 + (m 94 84)).toInt from by first | (exact Gd_0 r_QI) | (exact Gd_c r_QI.2.2.2.1.2.2.2.2.1 (by omega)) | (exact Gd_c (FL_gd r_FL (by omega)).1 (by omega)) | (exfalso; omega; done) | (exfalso; contradiction; done)) r_RB r_QI r_OW (fun v10 m9 hV_m9 p0_m9 p1_m9 => zmi_n ?_)
              have p0_m9 : v10.toInt = -1 ∨ ((l4 + (m 94 84)).toInt ≤ v10.toInt ∧ v10.toInt < (m 94 11).toInt ∧ 1 ≤ (m9 94 84).toInt ∧ v10.toInt + (m9 94 84).toInt ≤ (m 94 11).toInt) := p0_m9
              have p1_m9 : qBF aa (l4 + (m 94 84)).toInt (m 94 11).toInt v10.toInt (m9 94 84).toInt := p1_m9
              have f39 : 0 ≤ (m9 94 84).toInt ∧ (m9 94 84).toInt ≤ 4600 := rs_94_84 (m := (zov wr_226 (ma_u m 94 50 ((m 94 50) + (1 : Int32))) m9)) hV_m9
              try have fg := (FL_gd r_FL (by omega))
              try have r2 := congrArg Int32.toInt (RB_le r_RB)
              try have r0 := congrArg Int32.toInt (RB_ro r_RB)
              try have i4 := r_QI.2.2.2.1.2.2.2.1
              have b40 := i_bd v10
              exact IH (4700 - v10.toInt % 4701).toNat (by omega) _ (l1) (l4) ((m 94 84)) (v10) rfl (zF_zov (zF_u hF rfl) ws_226_224) hV_m9 (by omega) (by omega) (by omega) (show v10.toInt = -1 ∨ (0 ≤ v10.toInt ∧ v10.toInt < (m 94 11).toInt ∧ 1 ≤ (m9 94 84).toInt ∧ v10.toInt + (m9 94 84).toInt ≤ (m 94 11).toInt) from by omega) (show qFL aa nz.toInt (m 94 12) (m 94 11).toInt v10.toInt (m9 94 84).toInt l4.toInt (m 94 84).toInt (aFt aa nz.toInt) from by first | (exact FL_of r_QI r_RB (by omega) p1_m9 (by rw [Ft_2 (by rw [RB_fo r_RB]; assumption) (by rw [RB_fo r_RB]; assumption), RB_fo r_RB]; rfl)) | (exact FL_y r_QI r_RB (by omega) (by omega) r_FL (by omega) (Or.inl (by omega)) (by omega) (by omega) p1_m9) | (exact FL_y r_QI r_RB (by omega) (by omega) r_FL (by omega) (Or.inr (Or.inl ⟨by assumption, by omega⟩)) (by omega) (by omega) p1_m9) | (exact FL_y r_QI r_RB (by omega) (by omega) r_FL (by omega) (Or.inr (Or.inr ⟨by assumption, by omega⟩)) (by omega) (by omega) p1_m9) | (exact FL_n r_QI r_RB (by omega) (by omega) r_FL (Or.inl (by omega)) (by omega) p1_m9) | (exact FL_n r_QI r_RB (by omega) (by omega) r_FL (Or.inr ⟨by omega, Or.inl ⟨by assumption, by omega⟩⟩) (by omega) p1_m9) | (exact FL_n r_QI r_RB (by omega) (by omega) r_FL (Or.inr ⟨by omega, Or.inr ⟨by assumption, by omega⟩⟩) (by omega) p1_m9) | (exfalso; omega; done) | (exfalso; contradiction; done)) r_RB r_QI r_OW
            · skip
              have g41 := i_nlt h34
              first | have e42 : (l4 + (m 94 84)).toInt = l4.toInt + (m 94 84).toInt := i_add (by omega) (by omega) | have b43 := i_bd (l4 + (m 94 84))
              have hV44 : zV (ma_u m 94 50 ((m 94 50) + (1 : Int32))) := uf_94_50 hV
              try have fg := (FL_gd r_FL (by omega))
              try have r2 := congrArg Int32.toInt (RB_le r_RB)
              try have r0 := congrArg Int32.toInt (RB_ro r_RB)
              try have i4 := r_QI.2.2.2.1.2.2.2.1
              refine sp_226r (aa := aa) ((l4 + (m 94 84))) ((m 94 11)) hV44 (show 0 ≤ (l4 + (m 94 84)).toInt ∧ (l4 + (m 94 84)).toInt ≤ (m 94 11).toInt from by omega) (show (m 94 11).toInt = (m 94 11).toInt from by omega) (show qGd aa (l4 + (m 94 84)).toInt from by first | (exact Gd_0 r_QI) | (exact Gd_c r_QI.2.2.2.1.2.2.2.2.1 (by omega)) | (exact Gd_c (FL_gd r_FL (by omega)).1 (by omega)) | (exfalso; omega; done) | (exfalso; contradiction; done)) r_RB r_QI r_OW (fun v12 m11 hV_m11 p0_m11 p1_m11 => zmi_n ?_)
              have p0_m11 : v12.toInt = -1 ∨ ((l4 + (m 94 84)).toInt ≤ v12.toInt ∧ v12.toInt < (m 94 11).toInt ∧ 1 ≤ (m11 94 84).toInt ∧ v12.toInt + (m11 94 84).toInt ≤ (m 94 11).toInt) := p0_m11
              have p1_m11 : qBF aa (l4 + (m 94 84)).toInt (m 94 11).toInt v12.toInt (m11 94 84).toInt := p1_m11
              have f45 : 0 ≤ (m11 94 84).toInt ∧ (m11 94 84).toInt ≤ 4600 := rs_94_84 (m := (zov wr_226 (ma_u m 94 50 ((m 94 50) + (1 : Int32))) m11)) hV_m11
              try have fg := (FL_gd r_FL (by omega))
              try have r2 := congrArg Int32.toInt (RB_le r_RB)
              try have r0 := congrArg Int32.toInt (RB_ro r_RB)
              try have i4 := r_QI.2.2.2.1.2.2.2.1
              have b46 := i_bd v12
              exact IH (4700 - v12.toInt % 4701).toNat (by omega) _ (l1) (l2) (l3) (v12) rfl (zF_zov (zF_u hF rfl) ws_226_224) hV_m11 (by omega) (by omega) (by omega) (show v12.toInt = -1 ∨ (0 ≤ v12.toInt ∧ v12.toInt < (m 94 11).toInt ∧ 1 ≤ (m11 94 84).toInt ∧ v12.toInt + (m11 94 84).toInt ≤ (m 94 11).toInt) from by omega) (show qFL aa nz.toInt (m 94 12) (m 94 11).toInt v12.toInt (m11 94 84).toInt l2.toInt l3.toInt (aFt aa nz.toInt) from by first | (exact FL_of r_QI r_RB (by omega) p1_m11 (by rw [Ft_2 (by rw [RB_fo r_RB]; assumption) (by rw [RB_fo r_RB]; assumption), RB_fo r_RB]; rfl)) | (exact FL_y r_QI r_RB (by omega) (by omega) r_FL (by omega) (Or.inl (by omega)) (by omega) (by omega) p1_m11) | (exact FL_y r_QI r_RB (by omega) (by omega) r_FL (by omega) (Or.inr (Or.inl ⟨by assumption, by omega⟩)) (by omega) (by omega) p1_m11) | (exact FL_y r_QI r_RB (by omega) (by omega) r_FL (by omega) (Or.inr (Or.inr ⟨by assumption, by omega⟩)) (by omega) (by omega) p1_m11) | (exact FL_n r_QI r_RB (by omega) (by omega) r_FL (Or.inl (by omega)) (by omega) p1_m11) | (exact FL_n r_QI r_RB (by omega) (by omega) r_FL (Or.inr ⟨by omega, Or.inl ⟨by assumption, by omega⟩⟩) (by omega) p1_m11) | (exact FL_n r_QI r_RB (by omega) (by omega) r_FL (Or.inr ⟨by omega, Or.inr ⟨by assumption, by omega⟩⟩) (by omega) p1_m11) | (exfalso; omega; done) | (exfalso; contradiction; done)) r_RB r_QI r_OW
          · skip
            have g47 := i_ne h31
            have b48 := i_bd l3
            refine zd (fun (h49 : l3 < (m 94 84)) => ?_) (fun (h49 : ¬ l3 < (m 94 84)) => ?_)
            · skip
              have g50 := i_lt h49
              first | have e51 : (l4 + (m 94 84)).toInt = l4.toInt + (m 94 84).toInt := i_add (by omega) (by omega) | have b52 := i_bd (l4 + (m 94 84))
              have hV53 : zV (ma_u m 94 50 ((m 94 50) + (1 : Int32))) := uf_94_50 hV
              try have fg := (FL_gd r_FL (by omega))
              try have r2 := congrArg Int32.toInt (RB_le r_RB)
              try have r0 := congrArg Int32.toInt (RB_ro r_RB)
              try have i4 := r_QI.2.2.2.1.2.2.2.1
              refine sp_226r (aa := aa) ((l4 + (m 94 84))) ((m 94 11)) hV53 (show 0 ≤ (l4 + (m 94 84)).toInt ∧ (l4 + (m 94 84)).toInt ≤ (m 94 11).toInt from by omega) (show (m 94 11).toInt = (m 94 11).toInt from by omega) (show qGd aa (l4 + (m 94 84)).toInt from by first | (exact Gd_0 r_QI) | (exact Gd_c r_QI.2.2.2.1.2.2.2.2.1 (by omega)) | (exact Gd_c (FL_gd r_FL (by omega)).1 (by omega)) | (exfalso; omega; done) | (exfalso; contradiction; done)) r_RB r_QI r_OW (fun v6 m5 hV_m5 p0_m5 p1_m5 => zmi_n ?_)
              have p0_m5 : v6.toInt = -1 ∨ ((l4 + (m 94 84)).toInt ≤ v6.toInt ∧ v6.toInt < (m 94 11).toInt ∧ 1 ≤ (m5 94 84).toInt ∧ v6.toInt + (m5 94 84).toInt ≤ (m 94 11).toInt) := p0_m5
              have p1_m5 : qBF aa (l4 + (m 94 84)).toInt (m 94 11).toInt v6.toInt (m5 94 84).toInt := p1_m5
              have f54 : 0 ≤ (m5 94 84).toInt ∧ (m5 94 84).toInt ≤ 4600 := rs_94_84 (m := (zov wr_226 (ma_u m 94 50 ((m 94 50) + (1 : Int32))) m5)) hV_m5
              try have fg := (FL_gd r_FL (by omega))
              try have r2 := congrArg Int32.toInt (RB_le r_RB)
              try have r0 := congrArg Int32.toInt (RB_ro r_RB)
              try have i4 := r_QI.2.2.2.1.2.2.2.1
              have b55 := i_bd v6
              exact IH (4700 - v6.toInt % 4701).toNat (by omega) _ (l1) (l4) ((m 94 84)) (v6) rfl (zF_zov (zF_u hF rfl) ws_226_224) hV_m5 (by omega) (by omega) (by omega) (show v6.toInt = -1 ∨ (0 ≤ v6.toInt ∧ v6.toInt < (m 94 11).toInt ∧ 1 ≤ (m5 94 84).toInt ∧ v6.toInt + (m5 94 84).toInt ≤ (m 94 11).toInt) from by omega) (show qFL aa nz.toInt (m 94 12) (m 94 11).toInt v6.toInt (m5 94 84).toInt l4.toInt (m 94 84).toInt (aFt aa nz.toInt) from by first | (exact FL_of r_QI r_RB (by omega) p1_m5 (by rw [Ft_2 (by rw [RB_fo r_RB]; assumption) (by rw [RB_fo r_RB]; assumption), RB_fo r_RB]; rfl)) | (exact FL_y r_QI r_RB (by omega) (by omega) r_FL (by omega) (Or.inl (by omega)) (by omega) (by omega) p1_m5) | (exact FL_y r_QI r_RB (by omega) (by omega) r_FL (by omega) (Or.inr (Or.inl ⟨by assumption, by omega⟩)) (by omega) (by omega) p1_m5) | (exact FL_y r_QI r_RB (by omega) (by omega) r_FL (by omega) (Or.inr (Or.inr ⟨by assumption, by omega⟩)) (by omega) (by omega) p1_m5) | (exact FL_n r_QI r_RB (by omega) (by omega) r_FL (Or.inl (by omega)) (by omega) p1_m5) | (exact FL_n r_QI r_RB (by omega) (by omega) r_FL (Or.inr ⟨by omega, Or.inl ⟨by assumption, by omega⟩⟩) (by omega) p1_m5) | (exact FL_n r_QI r_RB (by omega) (by omega) r_FL (Or.inr ⟨by omega, Or.inr ⟨by assumption, by omega⟩⟩) (by omega) p1_m5) | (exfalso; omega; done) | (exfalso; contradiction; done)) r_RB r_QI r_OW
            · skip
              have g56 := i_nlt h49
              first | have e57 : (l4 + (m 94 84)).toInt = l4.toInt + (m 94 84).toInt := i_add (by omega) (by omega) | have b58 := i_bd (l4 + (m 94 84))
              have hV59 : zV (ma_u m 94 50 ((m 94 50) + (1 : Int32))) := uf_94_50 hV
              try have fg := (FL_gd r_FL (by omega))
              try have r2 := congrArg Int32.toInt (RB_le r_RB)
              try have r0 := congrArg Int32.toInt (RB_ro r_RB)
              try have i4 := r_QI.2.2.2.1.2.2.2.1
              refine sp_226r (aa := aa) ((l4 + (m 94 84))) ((m 94 11)) hV59 (show 0 ≤ (l4 + (m 94 84)).toInt ∧ (l4 + (m 94 84)).toInt ≤ (m 94 11).toInt from by omega) (show (m 94 11).toInt = (m 94 11).toInt from by omega) (show qGd aa (l4 + (m 94 84)).toInt from by first | (exact Gd_0 r_QI) | (exact Gd_c r_QI.2.2.2.1.2.2.2.2.1 (by omega)) | (exact Gd_c (FL_gd r_FL (by omega)).1 (by omega)) | (exfalso; omega; done) | (exfalso; contradiction; done)) r_RB r_QI r_OW (fun v8 m7 hV_m7 p0_m7 p1_m7 => zmi_n ?_)
              have p0_m7 : v8.toInt = -1 ∨ ((l4 + (m 94 84)).toInt ≤ v8.toInt ∧ v8.toInt < (m 94 11).toInt ∧ 1 ≤ (m7 94 84).toInt ∧ v8.toInt + (m7 94 84).toInt ≤ (m 94 11).toInt) := p0_m7
              have p1_m7 : qBF aa (l4 + (m 94 84)).toInt (m 94 11).toInt v8.toInt (m7 94 84).toInt := p1_m7
              have f60 : 0 ≤ (m7 94 84).toInt ∧ (m7 94 84).toInt ≤ 4600 := rs_94_84 (m := (zov wr_226 (ma_u m 94 50 ((m 94 50) + (1 : Int32))) m7)) hV_m7
              try have fg := (FL_gd r_FL (by omega))
              try have r2 := congrArg Int32.toInt (RB_le r_RB)
              try have r0 := congrArg Int32.toInt (RB_ro r_RB)
              try have i4 := r_QI.2.2.2.1.2.2.2.1
              have b61 := i_bd v8
              exact IH (4700 - v8.toInt % 4701).toNat (by omega) _ (l1) (l2) (l3) (v8) rfl (zF_zov (zF_u hF rfl) ws_226_224) hV_m7 (by omega) (by omega) (by omega) (show v8.toInt = -1 ∨ (0 ≤ v8.toInt ∧ v8.toInt < (m 94 11).toInt ∧ 1 ≤ (m7 94 84).toInt ∧ v8.toInt + (m7 94 84).toInt ≤ (m 94 11).toInt) from by omega) (show qFL aa nz.toInt (m 94 12) (m 94 11).toInt v8.toInt (m7 94 84).toInt l2.toInt l3.toInt (aFt aa nz.toInt) from by first | (exact FL_of r_QI r_RB (by omega) p1_m7 (by rw [Ft_2 (by rw [RB_fo r_RB]; assumption) (by rw [RB_fo r_RB]; assumption), RB_fo r_RB]; rfl)) | (exact FL_y r_QI r_RB (by omega) (by omega) r_FL (by omega) (Or.inl (by omega)) (by omega) (by omega) p1_m7) | (exact FL_y r_QI r_RB (by omega) (by omega) r_FL (by omega) (Or.inr (Or.inl ⟨by assumption, by omega⟩)) (by omega) (by omega) p1_m7) | (exact FL_y r_QI r_RB (by omega) (by omega) r_FL (by omega) (Or.inr (Or.inr ⟨by assumption, by omega⟩)) (by omega) (by omega) p1_m7) | (exact FL_n r_QI r_RB (by omega) (by omega) r_FL (Or.inl (by omega)) (by omega) p1_m7) | (exact FL_n r_QI r_RB (by omega) (by omega) r_FL (Or.inr ⟨by omega, Or.inl ⟨by assumption, by omega⟩⟩) (by omega) p1_m7) | (exact FL_n r_QI r_RB (by omega) (by omega) r_FL (Or.inr ⟨by omega, Or.inr ⟨by assumption, by omega⟩⟩) (by omega) p1_m7) | (exfalso; omega; done) | (exfalso; contradiction; done)) r_RB r_QI r_OW
theorem sp_224r {X : Nat × (Nat → Int32)} {P : Option ma_V → (Nat → Nat → Int32) → Prop} {aa : Nat→Nat→Int32} {m : Nat → Nat → Int32} (nz : Int32) (hV : zV m) (r_RB : qRB (m 99) (m 100) (m 98) (m 101) (m 102) (m 103) (m 107) (m 108) (m 109) (m 111) (m 112) (m 113) (m 114) (m 94 55) (m 94 46) (m 94 11) (m 94 12) (m 94 62) (m 94 17) (m 94 9) aa) (r_QI : qI aa) (r_OW : zOw (m 99) (m 103) (m 111)) (KZ : ∀ v m₉, zV (zov wr_224 m m₉) → (-1 ≤ v.toInt ∧ v.toInt ≤ 1500) → (qEq v.toInt (aFt aa nz.toInt)) → P (some (.inl v)) (zov wr_224 m m₉)) : zm X 3 69 224 0 [(0, .inr (.inr (some 94))), (1, .inl nz)] m P := by
  have K : ∀ v m₉, zF wr_224 m m₉ → zV m₉ → (-1 ≤ v.toInt ∧ v.toInt ≤ 1500) → (qEq v.toInt (aFt aa nz.toInt)) → P (some (.inl v)) m₉ := by
    intro v m₉ hf z q0 q1
    have e := zov_eq hf
    rw [e] at z ⊢
    try rw [e] at q0
    try rw [e] at q1
    exact KZ v m₉ z q0 q1
  refine g_224_0 nz ?_
  have b1 := i_bd (m 94 12)
  have li2 : (0 : Int32).toInt = 0 := rfl
  refine zd (fun (h3 : (m 94 12) = (0 : Int32)) => ?_) (fun (h3 : ¬ (m 94 12) = (0 : Int32)) => ?_)
  · skip
    have g4 := i_eq h3
    have b5 := i_bd nz
    have f6 : 0 ≤ (m 94 11).toInt ∧ (m 94 11).toInt ≤ 1500 := rs_94_11 (m := m) hV
    try have r2 := congrArg Int32.toInt (RB_le r_RB)
    try have r0 := congrArg Int32.toInt (RB_ro r_RB)
    try have i4 := r_QI.2.2.2.1.2.2.2.1
    refine sp_225r (aa := aa) (nz) ((0 : Int32)) ((m 94 11)) hV (show 0 ≤ (0 : Int32).toInt ∧ (0 : Int32).toInt ≤ (m 94 11).toInt from by omega) (show (m 94 11).toInt = (m 94 11).toInt from by omega) (show qGd aa (0 : Int32).toInt from by first | (exact Gd_0 r_QI) | (exact Gd_c r_QI.2.2.2.1.2.2.2.2.1 (by omega)) | (exfalso; omega; done) | (exfalso; contradiction; done)) r_RB r_QI r_OW (fun v10 m9 hV_m9 p0_m9 p1_m9 => zmi_n ?_)
    have p0_m9 : -1 ≤ v10.toInt ∧ v10.toInt ≤ 1500 := p0_m9
    have p1_m9 : v10.toInt = aFf aa nz.toInt (m 94 11).toInt 4500 (aN aa (0 : Int32).toInt) := p1_m9
    try have r2 := congrArg Int32.toInt (RB_le r_RB)
    try have r0 := congrArg Int32.toInt (RB_ro r_RB)
    try have i4 := r_QI.2.2.2.1.2.2.2.1
    have b7 := i_bd v10
    exact K (v10) _ (zF_zov zF_rfl ws_225_224) hV_m9 (show -1 ≤ v10.toInt ∧ v10.toInt ≤ 1500 from by omega) (show qEq v10.toInt (aFt aa nz.toInt) from by first | (rw [Ft_0 (by rw [RB_fo r_RB]; assumption) (congrArg Int32.toInt (RB_ro r_RB)).symm]; exact p1_m9; done) | (rw [Ft_1 (by rw [RB_fo r_RB]; assumption)]; exact Fx_y r_RB (by omega) p1_m9 (by omega); done) | (exfalso; omega; done) | (exfalso; contradiction; done))
  · skip
    have g8 := i_ne h3
    have li9 : (1 : Int32).toInt = 1 := rfl
    refine zd (fun (h10 : (m 94 12) = (1 : Int32)) => ?_) (fun (h10 : ¬ (m 94 12) = (1 : Int32)) => ?_)
    · skip
      have g11 := i_eq h10
      have f12 : 0 ≤ (m 94 62).toInt ∧ (m 94 62).toInt ≤ 4600 := rs_94_62 (m := m) hV
      try have r2 := congrArg Int32.toInt (RB_le r_RB)
      try have r0 := congrArg Int32.toInt (RB_ro r_RB)
      try have i4 := r_QI.2.2.2.1.2.2.2.1
      have f13 : 0 ≤ (m 94 11).toInt ∧ (m 94 11).toInt ≤ 1500 := rs_94_11 (m := m) hV
      refine sp_227r (aa := aa) ((m 94 62)) hV (by omega) (show (m 94 62).toInt ≤ (m 94 11).toInt from by omega) (show qGd aa (m 94 62).toInt from by first | (exact Gd_c r_QI.2.2.2.1.2.2.2.2.1 (by omega)) | (exfalso; omega; done) | (exfalso; contradiction; done)) r_RB r_QI r_OW (fun v4 m3 hV_m3 p0_m3 => zmi_n ?_)
      have p0_m3 : v4.toInt = (m 94 62).toInt := p0_m3
      have b14 := i_bd nz
      have b15 := i_bd v4
      try have r2 := congrArg Int32.toInt (RB_le r_RB)
      try have r0 := congrArg Int32.toInt (RB_ro r_RB)
      try have i4 := r_QI.2.2.2.1.2.2.2.1
      refine sp_225r (aa := aa) (nz) (v4) ((m 94 11)) hV_m3 (show 0 ≤ v4.toInt ∧ v4.toInt ≤ (m 94 11).toInt from by omega) (show (m 94 11).toInt = (m 94 11).toInt from by omega) (show qGd aa v4.toInt from by first | (exact Gd_0 r_QI) | (exact Gd_c r_QI.2.2.2.1.2.2.2.2.1 (by omega)) | (exfalso; omega; done) | (exfalso; contradiction; done)) r_RB r_QI r_OW (fun v6 m5 hV_m5 p0_m5 p1_m5 => zmi_n ?_)
      have p0_m5 : -1 ≤ v6.toInt ∧ v6.toInt ≤ 1500 := p0_m5
      have p1_m5 : v6.toInt = aFf aa nz.toInt (m 94 11).toInt 4500 (aN aa v4.toInt) := p1_m5
      have b16 := i_bd v6
      refine zd (fun (h17 : v6 < (0 : Int32)) => ?_) (fun (h17 : ¬ v6 < (0 : Int32)) => ?_)
      · skip
        have g18 := i_lt h17
        try have r2 := congrArg Int32.toInt (RB_le r_RB)
        try have r0 := congrArg Int32.toInt (RB_ro r_RB)
        try have i4 := r_QI.2.2.2.1.2.2.2.1
        refine sp_228r (aa := aa) (nz) (v4) hV_m5 (show v4.toInt ≤ (m 94 11).toInt from by omega) r_RB r_QI r_OW (fun v8 m7 hV_m7 p0_m7 p1_m7 => zmi_n ?_)
        have p0_m7 : -1 ≤ v8.toInt ∧ v8.toInt ≤ 1500 := p0_m7
        have p1_m7 : v8.toInt = aFf aa nz.toInt v4.toInt 4500 (aN aa 0) := p1_m7
        try have r2 := congrArg Int32.toInt (RB_le r_RB)
        try have r0 := congrArg Int32.toInt (RB_ro r_RB)
        try have i4 := r_QI.2.2.2.1.2.2.2.1
        have b19 := i_bd v8
        exact K (v8) _ (zF_zov (zF_zov (zF_zov zF_rfl ws_227_224) ws_225_224) ws_228_224) hV_m7 (show -1 ≤ v8.toInt ∧ v8.toInt ≤ 1500 from by omega) (show qEq v8.toInt (aFt aa nz.toInt) from by first | (rw [Ft_0 (by rw [RB_fo r_RB]; assumption) (congrArg Int32.toInt (RB_ro r_RB)).symm]; exact p1_m5; done) | (rw [Ft_1 (by rw [RB_fo r_RB]; assumption)]; exact Fx_y r_RB (by omega) p1_m5 (by omega); done) | (rw [Ft_1 (by rw [RB_fo r_RB]; assumption)]; exact Fx_n r_RB (by omega) p1_m5 p1_m7 (by omega) (by omega); done) | (exfalso; omega; done) | (exfalso; contradiction; done))
      · skip
        have g20 := i_nlt h17
        try have r2 := congrArg Int32.toInt (RB_le r_RB)
        try have r0 := congrArg Int32.toInt (RB_ro r_RB)
        try have i4 := r_QI.2.2.2.1.2.2.2.1
        exact K (v6) _ (zF_zov (zF_zov zF_rfl ws_227_224) ws_225_224) hV_m5 (show -1 ≤ v6.toInt ∧ v6.toInt ≤ 1500 from by omega) (show qEq v6.toInt (aFt aa nz.toInt) from by first | (rw [Ft_0 (by rw [RB_fo r_RB]; assumption) (congrArg Int32.toInt (RB_ro r_RB)).symm]; exact p1_m5; done) | (rw [Ft_1 (by rw [RB_fo r_RB]; assumption)]; exact Fx_y r_RB (by omega) p1_m5 (by omega); done) | (exfalso; omega; done) | (exfalso; contradiction; done))
    · skip
      have g21 := i_ne h10
      have f22 : 0 ≤ (m 94 11).toInt ∧ (m 94 11).toInt ≤ 1500 := rs_94_11 (m := m) hV
      try have r2 := congrArg Int32.toInt (RB_le r_RB)
      try have r0 := congrArg Int32.toInt (RB_ro r_RB)
      try have i4 := r_QI.2.2.2.1.2.2.2.1
      refine sp_226r (aa := aa) ((0 : Int32)) ((m 94 11)) hV (show 0 ≤ (0 : Int32).toInt ∧ (0 : Int32).toInt ≤ (m 94 11).toInt from by omega) (show (m 94 11).toInt = (m 94 11).toInt from by omega) (show qGd aa (0 : Int32).toInt from by first | (exact Gd_0 r_QI) | (exact Gd_c r_QI.2.2.2.1.2.2.2.2.1 (by omega)) | (exfalso; omega; done) | (exfalso; contradiction; done)) r_RB r_QI r_OW (fun v2 m1 hV_m1 p0_m1 p1_m1 => zmi_n ?_)
      have p0_m1 : v2.toInt = -1 ∨ ((0 : Int32).toInt ≤ v2.toInt ∧ v2.toInt < (m 94 11).toInt ∧ 1 ≤ (m1 94 84).toInt ∧ v2.toInt + (m1 94 84).toInt ≤ (m 94 11).toInt) := p0_m1
      have p1_m1 : qBF aa (0 : Int32).toInt (m 94 11).toInt v2.toInt (m1 94 84).toInt := p1_m1
      have f23 : 0 ≤ (m1 94 84).toInt ∧ (m1 94 84).toInt ≤ 4600 := rs_94_84 (m := (zov wr_226 m m1)) hV_m1
      try have r2 := congrArg Int32.toInt (RB_le r_RB)
      try have r0 := congrArg Int32.toInt (RB_ro r_RB)
      try have i4 := r_QI.2.2.2.1.2.2.2.1
      have b24 := i_bd nz
      have li25 : (-1 : Int32).toInt = -1 := rfl
      have b26 := i_bd v2
      exact lp_224r_76 (nz := nz) hV K _ _ (nz) ((-1 : Int32)) ((0 : Int32)) (v2) rfl (zF_zov zF_rfl ws_226_224) hV_m1 (by omega) (by omega) (by omega) (show v2.toInt = -1 ∨ (0 ≤ v2.toInt ∧ v2.toInt < (m 94 11).toInt ∧ 1 ≤ (m1 94 84).toInt ∧ v2.toInt + (m1 94 84).toInt ≤ (m 94 11).toInt) from by omega) (show qFL aa nz.toInt (m 94 12) (m 94 11).toInt v2.toInt (m1 94 84).toInt (-1 : Int32).toInt (0 : Int32).toInt (aFt aa nz.toInt) from by first | (exact FL_of r_QI r_RB (by omega) p1_m1 (by rw [Ft_2 (by rw [RB_fo r_RB]; assumption) (by rw [RB_fo r_RB]; assumption), RB_fo r_RB]; rfl)) | (exfalso; omega; done) | (exfalso; contradiction; done)) r_RB r_QI r_OW

